theorem d_M_init_0 : decode b_M_init 0 = .ok (.aload_n 0, 1) := by decide +kernel
theorem d_M_init_1 : decode b_M_init 1 = .ok (.invokespecial 1, 3) := by decide +kernel
theorem d_M_init_4 : decode b_M_init 4 = .ok (.aload_n 0, 1) := by decide +kernel
theorem d_M_init_5 : decode b_M_init 5 = .ok (.iconst 4, 1) := by decide +kernel
theorem d_M_init_6 : decode b_M_init 6 = .ok (.newarray .boolean, 2) := by decide +kernel
theorem d_M_init_8 : decode b_M_init 8 = .ok (.putfield 7, 3) := by decide +kernel
theorem d_M_init_11 : decode b_M_init 11 = .ok (.aload_n 0, 1) := by decide +kernel
theorem d_M_init_12 : decode b_M_init 12 = .ok (.bipush 41, 2) := by decide +kernel
theorem d_M_init_14 : decode b_M_init 14 = .ok (.newarray .int, 2) := by decide +kernel
theorem d_M_init_16 : decode b_M_init 16 = .ok (.putfield 13, 3) := by decide +kernel
theorem d_M_init_19 : decode b_M_init 19 = .ok (.aload_n 0, 1) := by decide +kernel
theorem d_M_init_20 : decode b_M_init 20 = .ok (.bipush 41, 2) := by decide +kernel
theorem d_M_init_22 : decode b_M_init 22 = .ok (.newarray .int, 2) := by decide +kernel
theorem d_M_init_24 : decode b_M_init 24 = .ok (.putfield 17, 3) := by decide +kernel
theorem d_M_init_27 : decode b_M_init 27 = .ok (.aload_n 0, 1) := by decide +kernel
theorem d_M_init_28 : decode b_M_init 28 = .ok (.bipush 41, 2) := by decide +kernel
theorem d_M_init_30 : decode b_M_init 30 = .ok (.newarray .int, 2) := by decide +kernel
theorem d_M_init_32 : decode b_M_init 32 = .ok (.putfield 20, 3) := by decide +kernel
theorem d_M_init_35 : decode b_M_init 35 = .ok (.aload_n 0, 1) := by decide +kernel
theorem d_M_init_36 : decode b_M_init 36 = .ok (.bipush 41, 2) := by decide +kernel
theorem d_M_init_38 : decode b_M_init 38 = .ok (.newarray .int, 2) := by decide +kernel
theorem d_M_init_40 : decode b_M_init 40 = .ok (.putfield 23, 3) := by decide +kernel
theorem d_M_init_43 : decode b_M_init 43 = .ok (.aload_n 0, 1) := by decide +kernel
theorem d_M_init_44 : decode b_M_init 44 = .ok (.sipush 1312, 3) := by decide +kernel
theorem d_M_init_47 : decode b_M_init 47 = .ok (.newarray .int, 2) := by decide +kernel
theorem d_M_init_49 : decode b_M_init 49 = .ok (.putfield 26, 3) := by decide +kernel
theorem d_M_init_52 : decode b_M_init 52 = .ok (.aload_n 0, 1) := by decide +kernel
theorem d_M_init_53 : decode b_M_init 53 = .ok (.sipush 201, 3) := by decide +kernel
theorem d_M_init_56 : decode b_M_init 56 = .ok (.newarray .int, 2) := by decide +kernel
theorem d_M_init_58 : decode b_M_init 58 = .ok (.putfield 29, 3) := by decide +kernel
theorem d_M_init_61 : decode b_M_init 61 = .ok (.aload_n 0, 1) := by decide +kernel
theorem d_M_init_62 : decode b_M_init 62 = .ok (.sipush 201, 3) := by decide +kernel
theorem d_M_init_65 : decode b_M_init 65 = .ok (.newarray .int, 2) := by decide +kernel
theorem d_M_init_67 : decode b_M_init 67 = .ok (.putfield 32, 3) := by decide +kernel
theorem d_M_init_70 : decode b_M_init 70 = .ok (.aload_n 0, 1) := by decide +kernel
theorem d_M_init_71 : decode b_M_init 71 = .ok (.sipush 201, 3) := by decide +kernel
theorem d_M_init_74 : decode b_M_init 74 = .ok (.newarray .int, 2) := by decide +kernel
theorem d_M_init_76 : decode b_M_init 76 = .ok (.putfield 35, 3) := by decide +kernel
theorem d_M_init_79 : decode b_M_init 79 = .ok (.aload_n 0, 1) := by decide +kernel
theorem d_M_init_80 : decode b_M_init 80 = .ok (.sipush 201, 3) := by decide +kernel
theorem d_M_init_83 : decode b_M_init 83 = .ok (.newarray .long, 2) := by decide +kernel
theorem d_M_init_85 : decode b_M_init 85 = .ok (.putfield 38, 3) := by decide +kernel
theorem d_M_init_88 : decode b_M_init 88 = .ok (.aload_n 0, 1) := by decide +kernel
theorem d_M_init_89 : decode b_M_init 89 = .ok (.sipush 201, 3) := by decide +kernel
theorem d_M_init_92 : decode b_M_init 92 = .ok (.newarray .long, 2) := by decide +kernel
theorem d_M_init_94 : decode b_M_init 94 = .ok (.putfield 42, 3) := by decide +kernel
theorem d_M_init_97 : decode b_M_init 97 = .ok (.aload_n 0, 1) := by decide +kernel
theorem d_M_init_98 : decode b_M_init 98 = .ok (.sipush 201, 3) := by decide +kernel
theorem d_M_init_101 : decode b_M_init 101 = .ok (.newarray .int, 2) := by decide +kernel
theorem d_M_init_103 : decode b_M_init 103 = .ok (.putfield 45, 3) := by decide +kernel
theorem d_M_init_106 : decode b_M_init 106 = .ok (.aload_n 0, 1) := by decide +kernel
theorem d_M_init_107 : decode b_M_init 107 = .ok (.sipush 201, 3) := by decide +kernel
theorem d_M_init_110 : decode b_M_init 110 = .ok (.newarray .boolean, 2) := by decide +kernel
theorem d_M_init_112 : decode b_M_init 112 = .ok (.putfield 48, 3) := by decide +kernel
theorem d_M_init_115 : decode b_M_init 115 = .ok (.aload_n 0, 1) := by decide +kernel
theorem d_M_init_116 : decode b_M_init 116 = .ok (.sipush 201, 3) := by decide +kernel
theorem d_M_init_119 : decode b_M_init 119 = .ok (.newarray .boolean, 2) := by decide +kernel
theorem d_M_init_121 : decode b_M_init 121 = .ok (.putfield 51, 3) := by decide +kernel
theorem d_M_init_124 : decode b_M_init 124 = .ok (.aload_n 0, 1) := by decide +kernel
theorem d_M_init_125 : decode b_M_init 125 = .ok (.bipush 60, 2) := by decide +kernel
theorem d_M_init_127 : decode b_M_init 127 = .ok (.newarray .int, 2) := by decide +kernel
theorem d_M_init_129 : decode b_M_init 129 = .ok (.putfield 54, 3) := by decide +kernel
theorem d_M_init_132 : decode b_M_init 132 = .ok (.aload_n 0, 1) := by decide +kernel
theorem d_M_init_133 : decode b_M_init 133 = .ok (.bipush 60, 2) := by decide +kernel
theorem d_M_init_135 : decode b_M_init 135 = .ok (.newarray .int, 2) := by decide +kernel
theorem d_M_init_137 : decode b_M_init 137 = .ok (.putfield 57, 3) := by decide +kernel
theorem d_M_init_140 : decode b_M_init 140 = .ok (.aload_n 0, 1) := by decide +kernel
theorem d_M_init_141 : decode b_M_init 141 = .ok (.bipush 60, 2) := by decide +kernel
theorem d_M_init_143 : decode b_M_init 143 = .ok (.newarray .boolean, 2) := by decide +kernel
theorem d_M_init_145 : decode b_M_init 145 = .ok (.putfield 60, 3) := by decide +kernel
theorem d_M_init_148 : decode b_M_init 148 = .ok (.aload_n 0, 1) := by decide +kernel
theorem d_M_init_149 : decode b_M_init 149 = .ok (.bipush 60, 2) := by decide +kernel
theorem d_M_init_151 : decode b_M_init 151 = .ok (.newarray .int, 2) := by decide +kernel
theorem d_M_init_153 : decode b_M_init 153 = .ok (.putfield 63, 3) := by decide +kernel
theorem d_M_init_156 : decode b_M_init 156 = .ok (.aload_n 0, 1) := by decide +kernel
theorem d_M_init_157 : decode b_M_init 157 = .ok (.sipush 200, 3) := by decide +kernel
theorem d_M_init_160 : decode b_M_init 160 = .ok (.newarray .int, 2) := by decide +kernel
theorem d_M_init_162 : decode b_M_init 162 = .ok (.putfield 66, 3) := by decide +kernel
theorem d_M_init_165 : decode b_M_init 165 = .ok (.aload_n 0, 1) := by decide +kernel
theorem d_M_init_166 : decode b_M_init 166 = .ok (.sipush 200, 3) := by decide +kernel
theorem d_M_init_169 : decode b_M_init 169 = .ok (.newarray .int, 2) := by decide +kernel
theorem d_M_init_171 : decode b_M_init 171 = .ok (.putfield 69, 3) := by decide +kernel
theorem d_M_init_174 : decode b_M_init 174 = .ok (.aload_n 0, 1) := by decide +kernel
theorem d_M_init_175 : decode b_M_init 175 = .ok (.sipush 200, 3) := by decide +kernel
theorem d_M_init_178 : decode b_M_init 178 = .ok (.newarray .int, 2) := by decide +kernel
theorem d_M_init_180 : decode b_M_init 180 = .ok (.putfield 72, 3) := by decide +kernel
theorem d_M_init_183 : decode b_M_init 183 = .ok (.aload_n 0, 1) := by decide +kernel
theorem d_M_init_184 : decode b_M_init 184 = .ok (.sipush 200, 3) := by decide +kernel
theorem d_M_init_187 : decode b_M_init 187 = .ok (.newarray .long, 2) := by decide +kernel
theorem d_M_init_189 : decode b_M_init 189 = .ok (.putfield 75, 3) := by decide +kernel
theorem d_M_init_192 : decode b_M_init 192 = .ok (.aload_n 0, 1) := by decide +kernel
theorem d_M_init_193 : decode b_M_init 193 = .ok (.sipush 200, 3) := by decide +kernel
theorem d_M_init_196 : decode b_M_init 196 = .ok (.newarray .int, 2) := by decide +kernel
theorem d_M_init_198 : decode b_M_init 198 = .ok (.putfield 78, 3) := by decide +kernel
theorem d_M_init_201 : decode b_M_init 201 = .ok (.aload_n 0, 1) := by decide +kernel
theorem d_M_init_202 : decode b_M_init 202 = .ok (.bipush 41, 2) := by decide +kernel
theorem d_M_init_204 : decode b_M_init 204 = .ok (.newarray .long, 2) := by decide +kernel
theorem d_M_init_206 : decode b_M_init 206 = .ok (.putfield 81, 3) := by decide +kernel
theorem d_M_init_209 : decode b_M_init 209 = .ok (.aload_n 0, 1) := by decide +kernel
theorem d_M_init_210 : decode b_M_init 210 = .ok (.bipush 41, 2) := by decide +kernel
theorem d_M_init_212 : decode b_M_init 212 = .ok (.newarray .int, 2) := by decide +kernel
theorem d_M_init_214 : decode b_M_init 214 = .ok (.putfield 84, 3) := by decide +kernel
theorem d_M_init_217 : decode b_M_init 217 = .ok (.aload_n 0, 1) := by decide +kernel
theorem d_M_init_218 : decode b_M_init 218 = .ok (.iconst 0, 1) := by decide +kernel
theorem d_M_init_219 : decode b_M_init 219 = .ok (.putfield 87, 3) := by decide +kernel
theorem d_M_init_222 : decode b_M_init 222 = .ok (.return_, 1) := by decide +kernel
theorem d_M_customer_0 : decode b_M_customer 0 = .ok (.iload_n 1, 1) := by decide +kernel
theorem d_M_customer_1 : decode b_M_customer 1 = .ok (.i2l, 1) := by decide +kernel
theorem d_M_customer_2 : decode b_M_customer 2 = .ok (.lconst 0, 1) := by decide +kernel
theorem d_M_customer_3 : decode b_M_customer 3 = .ok (.ldc2_w 101, 3) := by decide +kernel
theorem d_M_customer_6 : decode b_M_customer 6 = .ok (.invokestatic 91, 3) := by decide +kernel
theorem d_M_customer_9 : decode b_M_customer 9 = .ok (.ifCond .eq 17, 3) := by decide +kernel
theorem d_M_customer_12 : decode b_M_customer 12 = .ok (.iload_n 2, 1) := by decide +kernel
theorem d_M_customer_13 : decode b_M_customer 13 = .ok (.i2l, 1) := by decide +kernel
theorem d_M_customer_14 : decode b_M_customer 14 = .ok (.ldc2_w 103, 3) := by decide +kernel
theorem d_M_customer_17 : decode b_M_customer 17 = .ok (.ldc2_w 105, 3) := by decide +kernel
theorem d_M_customer_20 : decode b_M_customer 20 = .ok (.invokestatic 91, 3) := by decide +kernel
theorem d_M_customer_23 : decode b_M_customer 23 = .ok (.ifCond .ne 6, 3) := by decide +kernel
theorem d_M_customer_26 : decode b_M_customer 26 = .ok (.bipush (-12), 2) := by decide +kernel
theorem d_M_customer_28 : decode b_M_customer 28 = .ok (.ireturn, 1) := by decide +kernel
theorem d_M_customer_29 : decode b_M_customer 29 = .ok (.aload_n 0, 1) := by decide +kernel
theorem d_M_customer_30 : decode b_M_customer 30 = .ok (.getfield 87, 3) := by decide +kernel
theorem d_M_customer_33 : decode b_M_customer 33 = .ok (.bipush 40, 2) := by decide +kernel
theorem d_M_customer_35 : decode b_M_customer 35 = .ok (.if_icmp .ne 6, 3) := by decide +kernel
theorem d_M_customer_38 : decode b_M_customer 38 = .ok (.bipush (-14), 2) := by decide +kernel
theorem d_M_customer_40 : decode b_M_customer 40 = .ok (.ireturn, 1) := by decide +kernel
theorem d_M_customer_41 : decode b_M_customer 41 = .ok (.aload_n 0, 1) := by decide +kernel
theorem d_M_customer_42 : decode b_M_customer 42 = .ok (.dup, 1) := by decide +kernel
theorem d_M_customer_43 : decode b_M_customer 43 = .ok (.getfield 87, 3) := by decide +kernel
theorem d_M_customer_46 : decode b_M_customer 46 = .ok (.iconst 1, 1) := by decide +kernel
theorem d_M_customer_47 : decode b_M_customer 47 = .ok (.iadd, 1) := by decide +kernel
theorem d_M_customer_48 : decode b_M_customer 48 = .ok (.putfield 87, 3) := by decide +kernel
theorem d_M_customer_51 : decode b_M_customer 51 = .ok (.aload_n 0, 1) := by decide +kernel
theorem d_M_customer_52 : decode b_M_customer 52 = .ok (.getfield 13, 3) := by decide +kernel
theorem d_M_customer_55 : decode b_M_customer 55 = .ok (.aload_n 0, 1) := by decide +kernel
theorem d_M_customer_56 : decode b_M_customer 56 = .ok (.getfield 87, 3) := by decide +kernel
theorem d_M_customer_59 : decode b_M_customer 59 = .ok (.iload_n 1, 1) := by decide +kernel
theorem d_M_customer_60 : decode b_M_customer 60 = .ok (.iastore, 1) := by decide +kernel
theorem d_M_customer_61 : decode b_M_customer 61 = .ok (.aload_n 0, 1) := by decide +kernel
theorem d_M_customer_62 : decode b_M_customer 62 = .ok (.getfield 17, 3) := by decide +kernel
theorem d_M_customer_65 : decode b_M_customer 65 = .ok (.aload_n 0, 1) := by decide +kernel
theorem d_M_customer_66 : decode b_M_customer 66 = .ok (.getfield 87, 3) := by decide +kernel
theorem d_M_customer_69 : decode b_M_customer 69 = .ok (.iload_n 2, 1) := by decide +kernel
theorem d_M_customer_70 : decode b_M_customer 70 = .ok (.iastore, 1) := by decide +kernel
theorem d_M_customer_71 : decode b_M_customer 71 = .ok (.aload_n 0, 1) := by decide +kernel
theorem d_M_customer_72 : decode b_M_customer 72 = .ok (.getfield 87, 3) := by decide +kernel
theorem d_M_customer_75 : decode b_M_customer 75 = .ok (.ireturn, 1) := by decide +kernel
theorem d_M_isIn_0 : decode b_M_isIn 0 = .ok (.lload_n 0, 1) := by decide +kernel
theorem d_M_isIn_1 : decode b_M_isIn 1 = .ok (.lload_n 2, 1) := by decide +kernel
theorem d_M_isIn_2 : decode b_M_isIn 2 = .ok (.lcmp, 1) := by decide +kernel
theorem d_M_isIn_3 : decode b_M_isIn 3 = .ok (.ifCond .lt 14, 3) := by decide +kernel
theorem d_M_isIn_6 : decode b_M_isIn 6 = .ok (.lload_n 0, 1) := by decide +kernel
theorem d_M_isIn_7 : decode b_M_isIn 7 = .ok (.lload 4, 2) := by decide +kernel
theorem d_M_isIn_9 : decode b_M_isIn 9 = .ok (.lcmp, 1) := by decide +kernel
theorem d_M_isIn_10 : decode b_M_isIn 10 = .ok (.ifCond .gt 7, 3) := by decide +kernel
theorem d_M_isIn_13 : decode b_M_isIn 13 = .ok (.iconst 1, 1) := by decide +kernel
theorem d_M_isIn_14 : decode b_M_isIn 14 = .ok (.goto 4, 3) := by decide +kernel
theorem d_M_isIn_17 : decode b_M_isIn 17 = .ok (.iconst 0, 1) := by decide +kernel
theorem d_M_isIn_18 : decode b_M_isIn 18 = .ok (.ireturn, 1) := by decide +kernel
theorem d_M_wish_0 : decode b_M_wish 0 = .ok (.aload_n 0, 1) := by decide +kernel
theorem d_M_wish_1 : decode b_M_wish 1 = .ok (.iload_n 1, 1) := by decide +kernel
theorem d_M_wish_2 : decode b_M_wish 2 = .ok (.invokevirtual 107, 3) := by decide +kernel
theorem d_M_wish_5 : decode b_M_wish 5 = .ok (.ifCond .ne 6, 3) := by decide +kernel
theorem d_M_wish_8 : decode b_M_wish 8 = .ok (.bipush (-11), 2) := by decide +kernel
theorem d_M_wish_10 : decode b_M_wish 10 = .ok (.ireturn, 1) := by decide +kernel
theorem d_M_wish_11 : decode b_M_wish 11 = .ok (.iload_n 2, 1) := by decide +kernel
theorem d_M_wish_12 : decode b_M_wish 12 = .ok (.i2l, 1) := by decide +kernel
theorem d_M_wish_13 : decode b_M_wish 13 = .ok (.lconst 0, 1) := by decide +kernel
theorem d_M_wish_14 : decode b_M_wish 14 = .ok (.ldc2_w 111, 3) := by decide +kernel
theorem d_M_wish_17 : decode b_M_wish 17 = .ok (.invokestatic 91, 3) := by decide +kernel
theorem d_M_wish_20 : decode b_M_wish 20 = .ok (.ifCond .eq 28, 3) := by decide +kernel
theorem d_M_wish_23 : decode b_M_wish 23 = .ok (.iload_n 3, 1) := by decide +kernel
theorem d_M_wish_24 : decode b_M_wish 24 = .ok (.i2l, 1) := by decide +kernel
theorem d_M_wish_25 : decode b_M_wish 25 = .ok (.lconst 0, 1) := by decide +kernel
theorem d_M_wish_26 : decode b_M_wish 26 = .ok (.ldc2_w 113, 3) := by decide +kernel
theorem d_M_wish_29 : decode b_M_wish 29 = .ok (.invokestatic 91, 3) := by decide +kernel
theorem d_M_wish_32 : decode b_M_wish 32 = .ok (.ifCond .eq 16, 3) := by decide +kernel
theorem d_M_wish_35 : decode b_M_wish 35 = .ok (.iload 4, 2) := by decide +kernel
theorem d_M_wish_37 : decode b_M_wish 37 = .ok (.i2l, 1) := by decide +kernel
theorem d_M_wish_38 : decode b_M_wish 38 = .ok (.lconst 0, 1) := by decide +kernel
theorem d_M_wish_39 : decode b_M_wish 39 = .ok (.ldc2_w 101, 3) := by decide +kernel
theorem d_M_wish_42 : decode b_M_wish 42 = .ok (.invokestatic 91, 3) := by decide +kernel
theorem d_M_wish_45 : decode b_M_wish 45 = .ok (.ifCond .ne 6, 3) := by decide +kernel
theorem d_M_wish_48 : decode b_M_wish 48 = .ok (.bipush (-12), 2) := by decide +kernel
theorem d_M_wish_50 : decode b_M_wish 50 = .ok (.ireturn, 1) := by decide +kernel
theorem d_M_wish_51 : decode b_M_wish 51 = .ok (.aload_n 0, 1) := by decide +kernel
theorem d_M_wish_52 : decode b_M_wish 52 = .ok (.getfield 26, 3) := by decide +kernel
theorem d_M_wish_55 : decode b_M_wish 55 = .ok (.bipush 32, 2) := by decide +kernel
theorem d_M_wish_57 : decode b_M_wish 57 = .ok (.iload_n 1, 1) := by decide +kernel
theorem d_M_wish_58 : decode b_M_wish 58 = .ok (.imul, 1) := by decide +kernel
theorem d_M_wish_59 : decode b_M_wish 59 = .ok (.iconst 4, 1) := by decide +kernel
theorem d_M_wish_60 : decode b_M_wish 60 = .ok (.iload_n 2, 1) := by decide +kernel
theorem d_M_wish_61 : decode b_M_wish 61 = .ok (.imul, 1) := by decide +kernel
theorem d_M_wish_62 : decode b_M_wish 62 = .ok (.iadd, 1) := by decide +kernel
theorem d_M_wish_63 : decode b_M_wish 63 = .ok (.iload_n 3, 1) := by decide +kernel
theorem d_M_wish_64 : decode b_M_wish 64 = .ok (.iadd, 1) := by decide +kernel
theorem d_M_wish_65 : decode b_M_wish 65 = .ok (.iload 4, 2) := by decide +kernel
theorem d_M_wish_67 : decode b_M_wish 67 = .ok (.iconst 1, 1) := by decide +kernel
theorem d_M_wish_68 : decode b_M_wish 68 = .ok (.iadd, 1) := by decide +kernel
theorem d_M_wish_69 : decode b_M_wish 69 = .ok (.iastore, 1) := by decide +kernel
theorem d_M_wish_70 : decode b_M_wish 70 = .ok (.aload_n 0, 1) := by decide +kernel
theorem d_M_wish_71 : decode b_M_wish 71 = .ok (.iload_n 1, 1) := by decide +kernel
theorem d_M_wish_72 : decode b_M_wish 72 = .ok (.iload_n 2, 1) := by decide +kernel
theorem d_M_wish_73 : decode b_M_wish 73 = .ok (.invokevirtual 115, 3) := by decide +kernel
theorem d_M_wish_76 : decode b_M_wish 76 = .ok (.ireturn, 1) := by decide +kernel
theorem d_M_isCustomer_0 : decode b_M_isCustomer 0 = .ok (.iload_n 1, 1) := by decide +kernel
theorem d_M_isCustomer_1 : decode b_M_isCustomer 1 = .ok (.i2l, 1) := by decide +kernel
theorem d_M_isCustomer_2 : decode b_M_isCustomer 2 = .ok (.lconst 1, 1) := by decide +kernel
theorem d_M_isCustomer_3 : decode b_M_isCustomer 3 = .ok (.aload_n 0, 1) := by decide +kernel
theorem d_M_isCustomer_4 : decode b_M_isCustomer 4 = .ok (.getfield 87, 3) := by decide +kernel
theorem d_M_isCustomer_7 : decode b_M_isCustomer 7 = .ok (.i2l, 1) := by decide +kernel
theorem d_M_isCustomer_8 : decode b_M_isCustomer 8 = .ok (.invokestatic 91, 3) := by decide +kernel
theorem d_M_isCustomer_11 : decode b_M_isCustomer 11 = .ok (.ireturn, 1) := by decide +kernel
theorem d_M_wished_0 : decode b_M_wished 0 = .ok (.iconst 0, 1) := by decide +kernel
theorem d_M_wished_1 : decode b_M_wished 1 = .ok (.istore_n 3, 1) := by decide +kernel
theorem d_M_wished_2 : decode b_M_wished 2 = .ok (.iconst 0, 1) := by decide +kernel
theorem d_M_wished_3 : decode b_M_wished 3 = .ok (.istore 4, 2) := by decide +kernel
theorem d_M_wished_5 : decode b_M_wished 5 = .ok (.iload 4, 2) := by decide +kernel
theorem d_M_wished_7 : decode b_M_wished 7 = .ok (.iconst 4, 1) := by decide +kernel
theorem d_M_wished_8 : decode b_M_wished 8 = .ok (.if_icmp .ge 36, 3) := by decide +kernel
theorem d_M_wished_11 : decode b_M_wished 11 = .ok (.aload_n 0, 1) := by decide +kernel
theorem d_M_wished_12 : decode b_M_wished 12 = .ok (.getfield 26, 3) := by decide +kernel
theorem d_M_wished_15 : decode b_M_wished 15 = .ok (.bipush 32, 2) := by decide +kernel
theorem d_M_wished_17 : decode b_M_wished 17 = .ok (.iload_n 1, 1) := by decide +kernel
theorem d_M_wished_18 : decode b_M_wished 18 = .ok (.imul, 1) := by decide +kernel
theorem d_M_wished_19 : decode b_M_wished 19 = .ok (.iconst 4, 1) := by decide +kernel
theorem d_M_wished_20 : decode b_M_wished 20 = .ok (.iload_n 2, 1) := by decide +kernel
theorem d_M_wished_21 : decode b_M_wished 21 = .ok (.imul, 1) := by decide +kernel
theorem d_M_wished_22 : decode b_M_wished 22 = .ok (.iadd, 1) := by decide +kernel
theorem d_M_wished_23 : decode b_M_wished 23 = .ok (.iload 4, 2) := by decide +kernel
theorem d_M_wished_25 : decode b_M_wished 25 = .ok (.iadd, 1) := by decide +kernel
theorem d_M_wished_26 : decode b_M_wished 26 = .ok (.iaload, 1) := by decide +kernel
theorem d_M_wished_27 : decode b_M_wished 27 = .ok (.ifCond .le 9, 3) := by decide +kernel
theorem d_M_wished_30 : decode b_M_wished 30 = .ok (.iload_n 3, 1) := by decide +kernel
theorem d_M_wished_31 : decode b_M_wished 31 = .ok (.iconst 1, 1) := by decide +kernel
theorem d_M_wished_32 : decode b_M_wished 32 = .ok (.iadd, 1) := by decide +kernel
theorem d_M_wished_33 : decode b_M_wished 33 = .ok (.goto 4, 3) := by decide +kernel
theorem d_M_wished_36 : decode b_M_wished 36 = .ok (.iload_n 3, 1) := by decide +kernel
theorem d_M_wished_37 : decode b_M_wished 37 = .ok (.istore_n 3, 1) := by decide +kernel
theorem d_M_wished_38 : decode b_M_wished 38 = .ok (.iinc 4 1, 3) := by decide +kernel
theorem d_M_wished_41 : decode b_M_wished 41 = .ok (.goto (-36), 3) := by decide +kernel
theorem d_M_wished_44 : decode b_M_wished 44 = .ok (.iload_n 3, 1) := by decide +kernel
theorem d_M_wished_45 : decode b_M_wished 45 = .ok (.ireturn, 1) := by decide +kernel
theorem d_M_quiet_0 : decode b_M_quiet 0 = .ok (.aload_n 0, 1) := by decide +kernel
theorem d_M_quiet_1 : decode b_M_quiet 1 = .ok (.iload_n 1, 1) := by decide +kernel
theorem d_M_quiet_2 : decode b_M_quiet 2 = .ok (.invokevirtual 107, 3) := by decide +kernel
theorem d_M_quiet_5 : decode b_M_quiet 5 = .ok (.ifCond .ne 6, 3) := by decide +kernel
theorem d_M_quiet_8 : decode b_M_quiet 8 = .ok (.bipush (-11), 2) := by decide +kernel
theorem d_M_quiet_10 : decode b_M_quiet 10 = .ok (.ireturn, 1) := by decide +kernel
theorem d_M_quiet_11 : decode b_M_quiet 11 = .ok (.iload_n 2, 1) := by decide +kernel
theorem d_M_quiet_12 : decode b_M_quiet 12 = .ok (.i2l, 1) := by decide +kernel
theorem d_M_quiet_13 : decode b_M_quiet 13 = .ok (.lconst 0, 1) := by decide +kernel
theorem d_M_quiet_14 : decode b_M_quiet 14 = .ok (.ldc2_w 119, 3) := by decide +kernel
theorem d_M_quiet_17 : decode b_M_quiet 17 = .ok (.invokestatic 91, 3) := by decide +kernel
theorem d_M_quiet_20 : decode b_M_quiet 20 = .ok (.ifCond .eq 15, 3) := by decide +kernel
theorem d_M_quiet_23 : decode b_M_quiet 23 = .ok (.iload_n 3, 1) := by decide +kernel
theorem d_M_quiet_24 : decode b_M_quiet 24 = .ok (.i2l, 1) := by decide +kernel
theorem d_M_quiet_25 : decode b_M_quiet 25 = .ok (.lconst 0, 1) := by decide +kernel
theorem d_M_quiet_26 : decode b_M_quiet 26 = .ok (.ldc2_w 119, 3) := by decide +kernel
theorem d_M_quiet_29 : decode b_M_quiet 29 = .ok (.invokestatic 91, 3) := by decide +kernel
theorem d_M_quiet_32 : decode b_M_quiet 32 = .ok (.ifCond .ne 6, 3) := by decide +kernel
theorem d_M_quiet_35 : decode b_M_quiet 35 = .ok (.bipush (-12), 2) := by decide +kernel
theorem d_M_quiet_37 : decode b_M_quiet 37 = .ok (.ireturn, 1) := by decide +kernel
theorem d_M_quiet_38 : decode b_M_quiet 38 = .ok (.aload_n 0, 1) := by decide +kernel
theorem d_M_quiet_39 : decode b_M_quiet 39 = .ok (.getfield 20, 3) := by decide +kernel
theorem d_M_quiet_42 : decode b_M_quiet 42 = .ok (.iload_n 1, 1) := by decide +kernel
theorem d_M_quiet_43 : decode b_M_quiet 43 = .ok (.iload_n 2, 1) := by decide +kernel
theorem d_M_quiet_44 : decode b_M_quiet 44 = .ok (.iastore, 1) := by decide +kernel
theorem d_M_quiet_45 : decode b_M_quiet 45 = .ok (.aload_n 0, 1) := by decide +kernel
theorem d_M_quiet_46 : decode b_M_quiet 46 = .ok (.getfield 23, 3) := by decide +kernel
theorem d_M_quiet_49 : decode b_M_quiet 49 = .ok (.iload_n 1, 1) := by decide +kernel
theorem d_M_quiet_50 : decode b_M_quiet 50 = .ok (.iload_n 3, 1) := by decide +kernel
theorem d_M_quiet_51 : decode b_M_quiet 51 = .ok (.iastore, 1) := by decide +kernel
theorem d_M_quiet_52 : decode b_M_quiet 52 = .ok (.iload_n 3, 1) := by decide +kernel
theorem d_M_quiet_53 : decode b_M_quiet 53 = .ok (.iload_n 2, 1) := by decide +kernel
theorem d_M_quiet_54 : decode b_M_quiet 54 = .ok (.isub, 1) := by decide +kernel
theorem d_M_quiet_55 : decode b_M_quiet 55 = .ok (.sipush 1440, 3) := by decide +kernel
theorem d_M_quiet_58 : decode b_M_quiet 58 = .ok (.iadd, 1) := by decide +kernel
theorem d_M_quiet_59 : decode b_M_quiet 59 = .ok (.sipush 1440, 3) := by decide +kernel
theorem d_M_quiet_62 : decode b_M_quiet 62 = .ok (.irem, 1) := by decide +kernel
theorem d_M_quiet_63 : decode b_M_quiet 63 = .ok (.ireturn, 1) := by decide +kernel
theorem d_M_event_0 : decode b_M_event 0 = .ok (.aload_n 0, 1) := by decide +kernel
theorem d_M_event_1 : decode b_M_event 1 = .ok (.iload_n 1, 1) := by decide +kernel
theorem d_M_event_2 : decode b_M_event 2 = .ok (.invokevirtual 107, 3) := by decide +kernel
theorem d_M_event_5 : decode b_M_event 5 = .ok (.ifCond .ne 6, 3) := by decide +kernel
theorem d_M_event_8 : decode b_M_event 8 = .ok (.bipush (-11), 2) := by decide +kernel
theorem d_M_event_10 : decode b_M_event 10 = .ok (.ireturn, 1) := by decide +kernel
theorem d_M_event_11 : decode b_M_event 11 = .ok (.iload_n 2, 1) := by decide +kernel
theorem d_M_event_12 : decode b_M_event 12 = .ok (.i2l, 1) := by decide +kernel
theorem d_M_event_13 : decode b_M_event 13 = .ok (.lconst 1, 1) := by decide +kernel
theorem d_M_event_14 : decode b_M_event 14 = .ok (.ldc2_w 132, 3) := by decide +kernel
theorem d_M_event_17 : decode b_M_event 17 = .ok (.invokestatic 91, 3) := by decide +kernel
theorem d_M_event_20 : decode b_M_event 20 = .ok (.ifCond .eq 24, 3) := by decide +kernel
theorem d_M_event_23 : decode b_M_event 23 = .ok (.iload_n 3, 1) := by decide +kernel
theorem d_M_event_24 : decode b_M_event 24 = .ok (.i2l, 1) := by decide +kernel
theorem d_M_event_25 : decode b_M_event 25 = .ok (.lconst 0, 1) := by decide +kernel
theorem d_M_event_26 : decode b_M_event 26 = .ok (.ldc2_w 111, 3) := by decide +kernel
theorem d_M_event_29 : decode b_M_event 29 = .ok (.invokestatic 91, 3) := by decide +kernel
theorem d_M_event_32 : decode b_M_event 32 = .ok (.ifCond .eq 12, 3) := by decide +kernel
theorem d_M_event_35 : decode b_M_event 35 = .ok (.aload_n 0, 1) := by decide +kernel
theorem d_M_event_36 : decode b_M_event 36 = .ok (.lload 4, 2) := by decide +kernel
theorem d_M_event_38 : decode b_M_event 38 = .ok (.invokevirtual 134, 3) := by decide +kernel
theorem d_M_event_41 : decode b_M_event 41 = .ok (.ifCond .ne 6, 3) := by decide +kernel
theorem d_M_event_44 : decode b_M_event 44 = .ok (.bipush (-12), 2) := by decide +kernel
theorem d_M_event_46 : decode b_M_event 46 = .ok (.ireturn, 1) := by decide +kernel
theorem d_M_event_47 : decode b_M_event 47 = .ok (.aload_n 0, 1) := by decide +kernel
theorem d_M_event_48 : decode b_M_event 48 = .ok (.iload_n 1, 1) := by decide +kernel
theorem d_M_event_49 : decode b_M_event 49 = .ok (.iload_n 2, 1) := by decide +kernel
theorem d_M_event_50 : decode b_M_event 50 = .ok (.invokevirtual 126, 3) := by decide +kernel
theorem d_M_event_53 : decode b_M_event 53 = .ok (.istore 6, 2) := by decide +kernel
theorem d_M_event_55 : decode b_M_event 55 = .ok (.iload 6, 2) := by decide +kernel
theorem d_M_event_57 : decode b_M_event 57 = .ok (.ifCond .lt 15, 3) := by decide +kernel
theorem d_M_event_60 : decode b_M_event 60 = .ok (.aload_n 0, 1) := by decide +kernel
theorem d_M_event_61 : decode b_M_event 61 = .ok (.getfield 60, 3) := by decide +kernel
theorem d_M_event_64 : decode b_M_event 64 = .ok (.iload 6, 2) := by decide +kernel
theorem d_M_event_66 : decode b_M_event 66 = .ok (.baload, 1) := by decide +kernel
theorem d_M_event_67 : decode b_M_event 67 = .ok (.ifCond .eq 5, 3) := by decide +kernel
theorem d_M_event_70 : decode b_M_event 70 = .ok (.iconst 0, 1) := by decide +kernel
theorem d_M_event_71 : decode b_M_event 71 = .ok (.ireturn, 1) := by decide +kernel
theorem d_M_event_72 : decode b_M_event 72 = .ok (.iload_n 3, 1) := by decide +kernel
theorem d_M_event_73 : decode b_M_event 73 = .ok (.iconst 5, 1) := by decide +kernel
theorem d_M_event_74 : decode b_M_event 74 = .ok (.if_icmp .eq 9, 3) := by decide +kernel
theorem d_M_event_77 : decode b_M_event 77 = .ok (.iload_n 3, 1) := by decide +kernel
theorem d_M_event_78 : decode b_M_event 78 = .ok (.bipush 6, 2) := by decide +kernel
theorem d_M_event_80 : decode b_M_event 80 = .ok (.if_icmp .ne 7, 3) := by decide +kernel
theorem d_M_event_83 : decode b_M_event 83 = .ok (.iconst 1, 1) := by decide +kernel
theorem d_M_event_84 : decode b_M_event 84 = .ok (.goto 4, 3) := by decide +kernel
theorem d_M_event_87 : decode b_M_event 87 = .ok (.iconst 0, 1) := by decide +kernel
theorem d_M_event_88 : decode b_M_event 88 = .ok (.istore 7, 2) := by decide +kernel
theorem d_M_event_90 : decode b_M_event 90 = .ok (.aload_n 0, 1) := by decide +kernel
theorem d_M_event_91 : decode b_M_event 91 = .ok (.iload_n 1, 1) := by decide +kernel
theorem d_M_event_92 : decode b_M_event 92 = .ok (.iload_n 3, 1) := by decide +kernel
theorem d_M_event_93 : decode b_M_event 93 = .ok (.invokevirtual 115, 3) := by decide +kernel
theorem d_M_event_96 : decode b_M_event 96 = .ok (.ifCond .le 7, 3) := by decide +kernel
theorem d_M_event_99 : decode b_M_event 99 = .ok (.iconst 1, 1) := by decide +kernel
theorem d_M_event_100 : decode b_M_event 100 = .ok (.goto 4, 3) := by decide +kernel
theorem d_M_event_103 : decode b_M_event 103 = .ok (.iconst 0, 1) := by decide +kernel
theorem d_M_event_104 : decode b_M_event 104 = .ok (.istore 8, 2) := by decide +kernel
theorem d_M_event_106 : decode b_M_event 106 = .ok (.iload 8, 2) := by decide +kernel
theorem d_M_event_108 : decode b_M_event 108 = .ok (.ifCond .eq 13, 3) := by decide +kernel
theorem d_M_event_111 : decode b_M_event 111 = .ok (.aload_n 0, 1) := by decide +kernel
theorem d_M_event_112 : decode b_M_event 112 = .ok (.getfield 129, 3) := by decide +kernel
theorem d_M_event_115 : decode b_M_event 115 = .ok (.sipush 200, 3) := by decide +kernel
theorem d_M_event_118 : decode b_M_event 118 = .ok (.if_icmp .eq 22, 3) := by decide +kernel
theorem d_M_event_121 : decode b_M_event 121 = .ok (.iload 7, 2) := by decide +kernel
theorem d_M_event_123 : decode b_M_event 123 = .ok (.ifCond .eq 20, 3) := by decide +kernel
theorem d_M_event_126 : decode b_M_event 126 = .ok (.iload 6, 2) := by decide +kernel
theorem d_M_event_128 : decode b_M_event 128 = .ok (.ifCond .ge 15, 3) := by decide +kernel
theorem d_M_event_131 : decode b_M_event 131 = .ok (.aload_n 0, 1) := by decide +kernel
theorem d_M_event_132 : decode b_M_event 132 = .ok (.getfield 123, 3) := by decide +kernel
theorem d_M_event_135 : decode b_M_event 135 = .ok (.bipush 60, 2) := by decide +kernel
theorem d_M_event_137 : decode b_M_event 137 = .ok (.if_icmp .ne 6, 3) := by decide +kernel
theorem d_M_event_140 : decode b_M_event 140 = .ok (.bipush (-14), 2) := by decide +kernel
theorem d_M_event_142 : decode b_M_event 142 = .ok (.ireturn, 1) := by decide +kernel
theorem d_M_event_143 : decode b_M_event 143 = .ok (.iload 7, 2) := by decide +kernel
theorem d_M_event_145 : decode b_M_event 145 = .ok (.ifCond .eq 15, 3) := by decide +kernel
theorem d_M_event_148 : decode b_M_event 148 = .ok (.aload_n 0, 1) := by decide +kernel
theorem d_M_event_149 : decode b_M_event 149 = .ok (.getfield 60, 3) := by decide +kernel
theorem d_M_event_152 : decode b_M_event 152 = .ok (.aload_n 0, 1) := by decide +kernel
theorem d_M_event_153 : decode b_M_event 153 = .ok (.iload_n 1, 1) := by decide +kernel
theorem d_M_event_154 : decode b_M_event 154 = .ok (.iload_n 2, 1) := by decide +kernel
theorem d_M_event_155 : decode b_M_event 155 = .ok (.invokevirtual 138, 3) := by decide +kernel
theorem d_M_event_158 : decode b_M_event 158 = .ok (.iconst 1, 1) := by decide +kernel
theorem d_M_event_159 : decode b_M_event 159 = .ok (.bastore, 1) := by decide +kernel
theorem d_M_event_160 : decode b_M_event 160 = .ok (.iload 8, 2) := by decide +kernel
theorem d_M_event_162 : decode b_M_event 162 = .ok (.ifCond .eq 19, 3) := by decide +kernel
theorem d_M_event_165 : decode b_M_event 165 = .ok (.aload_n 0, 1) := by decide +kernel
theorem d_M_event_166 : decode b_M_event 166 = .ok (.iload_n 1, 1) := by decide +kernel
theorem d_M_event_167 : decode b_M_event 167 = .ok (.iload_n 2, 1) := by decide +kernel
theorem d_M_event_168 : decode b_M_event 168 = .ok (.iload_n 3, 1) := by decide +kernel
theorem d_M_event_169 : decode b_M_event 169 = .ok (.lload 4, 2) := by decide +kernel
theorem d_M_event_171 : decode b_M_event 171 = .ok (.ldc2_w 141, 3) := by decide +kernel
theorem d_M_event_174 : decode b_M_event 174 = .ok (.iconst 0, 1) := by decide +kernel
theorem d_M_event_175 : decode b_M_event 175 = .ok (.invokevirtual 143, 3) := by decide +kernel
theorem d_M_event_178 : decode b_M_event 178 = .ok (.goto 4, 3) := by decide +kernel
theorem d_M_event_181 : decode b_M_event 181 = .ok (.iconst 0, 1) := by decide +kernel
theorem d_M_event_182 : decode b_M_event 182 = .ok (.ireturn, 1) := by decide +kernel
theorem d_M_isTime_0 : decode b_M_isTime 0 = .ok (.lload_n 1, 1) := by decide +kernel
theorem d_M_isTime_1 : decode b_M_isTime 1 = .ok (.aload_n 0, 1) := by decide +kernel
theorem d_M_isTime_2 : decode b_M_isTime 2 = .ok (.getfield 95, 3) := by decide +kernel
theorem d_M_isTime_5 : decode b_M_isTime 5 = .ok (.ldc2_w 99, 3) := by decide +kernel
theorem d_M_isTime_8 : decode b_M_isTime 8 = .ok (.invokestatic 91, 3) := by decide +kernel
theorem d_M_isTime_11 : decode b_M_isTime 11 = .ok (.ireturn, 1) := by decide +kernel
theorem d_M_pairOf_0 : decode b_M_pairOf 0 = .ok (.iconst (-1), 1) := by decide +kernel
theorem d_M_pairOf_1 : decode b_M_pairOf 1 = .ok (.istore_n 3, 1) := by decide +kernel
theorem d_M_pairOf_2 : decode b_M_pairOf 2 = .ok (.iconst 0, 1) := by decide +kernel
theorem d_M_pairOf_3 : decode b_M_pairOf 3 = .ok (.istore 4, 2) := by decide +kernel
theorem d_M_pairOf_5 : decode b_M_pairOf 5 = .ok (.iload 4, 2) := by decide +kernel
theorem d_M_pairOf_7 : decode b_M_pairOf 7 = .ok (.aload_n 0, 1) := by decide +kernel
theorem d_M_pairOf_8 : decode b_M_pairOf 8 = .ok (.getfield 123, 3) := by decide +kernel
theorem d_M_pairOf_11 : decode b_M_pairOf 11 = .ok (.if_icmp .ge 38, 3) := by decide +kernel
theorem d_M_pairOf_14 : decode b_M_pairOf 14 = .ok (.aload_n 0, 1) := by decide +kernel
theorem d_M_pairOf_15 : decode b_M_pairOf 15 = .ok (.getfield 54, 3) := by decide +kernel
theorem d_M_pairOf_18 : decode b_M_pairOf 18 = .ok (.iload 4, 2) := by decide +kernel
theorem d_M_pairOf_20 : decode b_M_pairOf 20 = .ok (.iaload, 1) := by decide +kernel
theorem d_M_pairOf_21 : decode b_M_pairOf 21 = .ok (.iload_n 1, 1) := by decide +kernel
theorem d_M_pairOf_22 : decode b_M_pairOf 22 = .ok (.if_icmp .ne 19, 3) := by decide +kernel
theorem d_M_pairOf_25 : decode b_M_pairOf 25 = .ok (.aload_n 0, 1) := by decide +kernel
theorem d_M_pairOf_26 : decode b_M_pairOf 26 = .ok (.getfield 57, 3) := by decide +kernel
theorem d_M_pairOf_29 : decode b_M_pairOf 29 = .ok (.iload 4, 2) := by decide +kernel
theorem d_M_pairOf_31 : decode b_M_pairOf 31 = .ok (.iaload, 1) := by decide +kernel
theorem d_M_pairOf_32 : decode b_M_pairOf 32 = .ok (.iload_n 2, 1) := by decide +kernel
theorem d_M_pairOf_33 : decode b_M_pairOf 33 = .ok (.if_icmp .ne 8, 3) := by decide +kernel
theorem d_M_pairOf_36 : decode b_M_pairOf 36 = .ok (.iload 4, 2) := by decide +kernel
theorem d_M_pairOf_38 : decode b_M_pairOf 38 = .ok (.goto 4, 3) := by decide +kernel
theorem d_M_pairOf_41 : decode b_M_pairOf 41 = .ok (.iload_n 3, 1) := by decide +kernel
theorem d_M_pairOf_42 : decode b_M_pairOf 42 = .ok (.istore_n 3, 1) := by decide +kernel
theorem d_M_pairOf_43 : decode b_M_pairOf 43 = .ok (.iinc 4 1, 3) := by decide +kernel
theorem d_M_pairOf_46 : decode b_M_pairOf 46 = .ok (.goto (-41), 3) := by decide +kernel
theorem d_M_pairOf_49 : decode b_M_pairOf 49 = .ok (.iload_n 3, 1) := by decide +kernel
theorem d_M_pairOf_50 : decode b_M_pairOf 50 = .ok (.ireturn, 1) := by decide +kernel
theorem d_M_keep_0 : decode b_M_keep 0 = .ok (.aload_n 0, 1) := by decide +kernel
theorem d_M_keep_1 : decode b_M_keep 1 = .ok (.iload_n 1, 1) := by decide +kernel
theorem d_M_keep_2 : decode b_M_keep 2 = .ok (.iload_n 2, 1) := by decide +kernel
theorem d_M_keep_3 : decode b_M_keep 3 = .ok (.invokevirtual 126, 3) := by decide +kernel
theorem d_M_keep_6 : decode b_M_keep 6 = .ok (.istore_n 3, 1) := by decide +kernel
theorem d_M_keep_7 : decode b_M_keep 7 = .ok (.iload_n 3, 1) := by decide +kernel
theorem d_M_keep_8 : decode b_M_keep 8 = .ok (.ifCond .lt 5, 3) := by decide +kernel
theorem d_M_keep_11 : decode b_M_keep 11 = .ok (.iload_n 3, 1) := by decide +kernel
theorem d_M_keep_12 : decode b_M_keep 12 = .ok (.ireturn, 1) := by decide +kernel
theorem d_M_keep_13 : decode b_M_keep 13 = .ok (.aload_n 0, 1) := by decide +kernel
theorem d_M_keep_14 : decode b_M_keep 14 = .ok (.getfield 54, 3) := by decide +kernel
theorem d_M_keep_17 : decode b_M_keep 17 = .ok (.aload_n 0, 1) := by decide +kernel
theorem d_M_keep_18 : decode b_M_keep 18 = .ok (.getfield 123, 3) := by decide +kernel
theorem d_M_keep_21 : decode b_M_keep 21 = .ok (.iload_n 1, 1) := by decide +kernel
theorem d_M_keep_22 : decode b_M_keep 22 = .ok (.iastore, 1) := by decide +kernel
theorem d_M_keep_23 : decode b_M_keep 23 = .ok (.aload_n 0, 1) := by decide +kernel
theorem d_M_keep_24 : decode b_M_keep 24 = .ok (.getfield 57, 3) := by decide +kernel
theorem d_M_keep_27 : decode b_M_keep 27 = .ok (.aload_n 0, 1) := by decide +kernel
theorem d_M_keep_28 : decode b_M_keep 28 = .ok (.getfield 123, 3) := by decide +kernel
theorem d_M_keep_31 : decode b_M_keep 31 = .ok (.iload_n 2, 1) := by decide +kernel
theorem d_M_keep_32 : decode b_M_keep 32 = .ok (.iastore, 1) := by decide +kernel
theorem d_M_keep_33 : decode b_M_keep 33 = .ok (.aload_n 0, 1) := by decide +kernel
theorem d_M_keep_34 : decode b_M_keep 34 = .ok (.getfield 60, 3) := by decide +kernel
theorem d_M_keep_37 : decode b_M_keep 37 = .ok (.aload_n 0, 1) := by decide +kernel
theorem d_M_keep_38 : decode b_M_keep 38 = .ok (.getfield 123, 3) := by decide +kernel
theorem d_M_keep_41 : decode b_M_keep 41 = .ok (.iconst 0, 1) := by decide +kernel
theorem d_M_keep_42 : decode b_M_keep 42 = .ok (.bastore, 1) := by decide +kernel
theorem d_M_keep_43 : decode b_M_keep 43 = .ok (.aload_n 0, 1) := by decide +kernel
theorem d_M_keep_44 : decode b_M_keep 44 = .ok (.getfield 63, 3) := by decide +kernel
theorem d_M_keep_47 : decode b_M_keep 47 = .ok (.aload_n 0, 1) := by decide +kernel
theorem d_M_keep_48 : decode b_M_keep 48 = .ok (.getfield 123, 3) := by decide +kernel
theorem d_M_keep_51 : decode b_M_keep 51 = .ok (.iconst 0, 1) := by decide +kernel
theorem d_M_keep_52 : decode b_M_keep 52 = .ok (.iastore, 1) := by decide +kernel
theorem d_M_keep_53 : decode b_M_keep 53 = .ok (.aload_n 0, 1) := by decide +kernel
theorem d_M_keep_54 : decode b_M_keep 54 = .ok (.dup, 1) := by decide +kernel
theorem d_M_keep_55 : decode b_M_keep 55 = .ok (.getfield 123, 3) := by decide +kernel
theorem d_M_keep_58 : decode b_M_keep 58 = .ok (.iconst 1, 1) := by decide +kernel
theorem d_M_keep_59 : decode b_M_keep 59 = .ok (.iadd, 1) := by decide +kernel
theorem d_M_keep_60 : decode b_M_keep 60 = .ok (.putfield 123, 3) := by decide +kernel
theorem d_M_keep_63 : decode b_M_keep 63 = .ok (.aload_n 0, 1) := by decide +kernel
theorem d_M_keep_64 : decode b_M_keep 64 = .ok (.getfield 123, 3) := by decide +kernel
theorem d_M_keep_67 : decode b_M_keep 67 = .ok (.iconst 1, 1) := by decide +kernel
theorem d_M_keep_68 : decode b_M_keep 68 = .ok (.isub, 1) := by decide +kernel
theorem d_M_keep_69 : decode b_M_keep 69 = .ok (.ireturn, 1) := by decide +kernel
theorem d_M_put_0 : decode b_M_put 0 = .ok (.aload_n 0, 1) := by decide +kernel
theorem d_M_put_1 : decode b_M_put 1 = .ok (.dup, 1) := by decide +kernel
theorem d_M_put_2 : decode b_M_put 2 = .ok (.getfield 129, 3) := by decide +kernel
theorem d_M_put_5 : decode b_M_put 5 = .ok (.iconst 1, 1) := by decide +kernel
theorem d_M_put_6 : decode b_M_put 6 = .ok (.iadd, 1) := by decide +kernel
theorem d_M_put_7 : decode b_M_put 7 = .ok (.putfield 129, 3) := by decide +kernel
theorem d_M_put_10 : decode b_M_put 10 = .ok (.aload_n 0, 1) := by decide +kernel
theorem d_M_put_11 : decode b_M_put 11 = .ok (.getfield 29, 3) := by decide +kernel
theorem d_M_put_14 : decode b_M_put 14 = .ok (.aload_n 0, 1) := by decide +kernel
theorem d_M_put_15 : decode b_M_put 15 = .ok (.getfield 129, 3) := by decide +kernel
theorem d_M_put_18 : decode b_M_put 18 = .ok (.iload_n 1, 1) := by decide +kernel
theorem d_M_put_19 : decode b_M_put 19 = .ok (.iastore, 1) := by decide +kernel
theorem d_M_put_20 : decode b_M_put 20 = .ok (.aload_n 0, 1) := by decide +kernel
theorem d_M_put_21 : decode b_M_put 21 = .ok (.getfield 32, 3) := by decide +kernel
theorem d_M_put_24 : decode b_M_put 24 = .ok (.aload_n 0, 1) := by decide +kernel
theorem d_M_put_25 : decode b_M_put 25 = .ok (.getfield 129, 3) := by decide +kernel
theorem d_M_put_28 : decode b_M_put 28 = .ok (.iload_n 2, 1) := by decide +kernel
theorem d_M_put_29 : decode b_M_put 29 = .ok (.iastore, 1) := by decide +kernel
theorem d_M_put_30 : decode b_M_put 30 = .ok (.aload_n 0, 1) := by decide +kernel
theorem d_M_put_31 : decode b_M_put 31 = .ok (.getfield 35, 3) := by decide +kernel
theorem d_M_put_34 : decode b_M_put 34 = .ok (.aload_n 0, 1) := by decide +kernel
theorem d_M_put_35 : decode b_M_put 35 = .ok (.getfield 129, 3) := by decide +kernel
theorem d_M_put_38 : decode b_M_put 38 = .ok (.iload_n 3, 1) := by decide +kernel
theorem d_M_put_39 : decode b_M_put 39 = .ok (.iastore, 1) := by decide +kernel
theorem d_M_put_40 : decode b_M_put 40 = .ok (.aload_n 0, 1) := by decide +kernel
theorem d_M_put_41 : decode b_M_put 41 = .ok (.getfield 38, 3) := by decide +kernel
theorem d_M_put_44 : decode b_M_put 44 = .ok (.aload_n 0, 1) := by decide +kernel
theorem d_M_put_45 : decode b_M_put 45 = .ok (.getfield 129, 3) := by decide +kernel
theorem d_M_put_48 : decode b_M_put 48 = .ok (.lload 4, 2) := by decide +kernel
theorem d_M_put_50 : decode b_M_put 50 = .ok (.lastore, 1) := by decide +kernel
theorem d_M_put_51 : decode b_M_put 51 = .ok (.aload_n 0, 1) := by decide +kernel
theorem d_M_put_52 : decode b_M_put 52 = .ok (.getfield 42, 3) := by decide +kernel
theorem d_M_put_55 : decode b_M_put 55 = .ok (.aload_n 0, 1) := by decide +kernel
theorem d_M_put_56 : decode b_M_put 56 = .ok (.getfield 129, 3) := by decide +kernel
theorem d_M_put_59 : decode b_M_put 59 = .ok (.lload 6, 2) := by decide +kernel
theorem d_M_put_61 : decode b_M_put 61 = .ok (.lastore, 1) := by decide +kernel
theorem d_M_put_62 : decode b_M_put 62 = .ok (.aload_n 0, 1) := by decide +kernel
theorem d_M_put_63 : decode b_M_put 63 = .ok (.getfield 45, 3) := by decide +kernel
theorem d_M_put_66 : decode b_M_put 66 = .ok (.aload_n 0, 1) := by decide +kernel
theorem d_M_put_67 : decode b_M_put 67 = .ok (.getfield 129, 3) := by decide +kernel
theorem d_M_put_70 : decode b_M_put 70 = .ok (.iconst 0, 1) := by decide +kernel
theorem d_M_put_71 : decode b_M_put 71 = .ok (.iastore, 1) := by decide +kernel
theorem d_M_put_72 : decode b_M_put 72 = .ok (.aload_n 0, 1) := by decide +kernel
theorem d_M_put_73 : decode b_M_put 73 = .ok (.getfield 48, 3) := by decide +kernel
theorem d_M_put_76 : decode b_M_put 76 = .ok (.aload_n 0, 1) := by decide +kernel
theorem d_M_put_77 : decode b_M_put 77 = .ok (.getfield 129, 3) := by decide +kernel
theorem d_M_put_80 : decode b_M_put 80 = .ok (.iload 8, 2) := by decide +kernel
theorem d_M_put_82 : decode b_M_put 82 = .ok (.bastore, 1) := by decide +kernel
theorem d_M_put_83 : decode b_M_put 83 = .ok (.aload_n 0, 1) := by decide +kernel
theorem d_M_put_84 : decode b_M_put 84 = .ok (.getfield 51, 3) := by decide +kernel
theorem d_M_put_87 : decode b_M_put 87 = .ok (.aload_n 0, 1) := by decide +kernel
theorem d_M_put_88 : decode b_M_put 88 = .ok (.getfield 129, 3) := by decide +kernel
theorem d_M_put_91 : decode b_M_put 91 = .ok (.iconst 0, 1) := by decide +kernel
theorem d_M_put_92 : decode b_M_put 92 = .ok (.bastore, 1) := by decide +kernel
theorem d_M_put_93 : decode b_M_put 93 = .ok (.aload_n 0, 1) := by decide +kernel
theorem d_M_put_94 : decode b_M_put 94 = .ok (.getfield 129, 3) := by decide +kernel
theorem d_M_put_97 : decode b_M_put 97 = .ok (.ireturn, 1) := by decide +kernel
theorem d_M_promise_0 : decode b_M_promise 0 = .ok (.aload_n 0, 1) := by decide +kernel
theorem d_M_promise_1 : decode b_M_promise 1 = .ok (.iload_n 1, 1) := by decide +kernel
theorem d_M_promise_2 : decode b_M_promise 2 = .ok (.invokevirtual 107, 3) := by decide +kernel
theorem d_M_promise_5 : decode b_M_promise 5 = .ok (.ifCond .ne 6, 3) := by decide +kernel
theorem d_M_promise_8 : decode b_M_promise 8 = .ok (.bipush (-11), 2) := by decide +kernel
theorem d_M_promise_10 : decode b_M_promise 10 = .ok (.ireturn, 1) := by decide +kernel
theorem d_M_promise_11 : decode b_M_promise 11 = .ok (.iload_n 2, 1) := by decide +kernel
theorem d_M_promise_12 : decode b_M_promise 12 = .ok (.i2l, 1) := by decide +kernel
theorem d_M_promise_13 : decode b_M_promise 13 = .ok (.lconst 1, 1) := by decide +kernel
theorem d_M_promise_14 : decode b_M_promise 14 = .ok (.ldc2_w 132, 3) := by decide +kernel
theorem d_M_promise_17 : decode b_M_promise 17 = .ok (.invokestatic 91, 3) := by decide +kernel
theorem d_M_promise_20 : decode b_M_promise 20 = .ok (.ifCond .eq 26, 3) := by decide +kernel
theorem d_M_promise_23 : decode b_M_promise 23 = .ok (.lload_n 3, 1) := by decide +kernel
theorem d_M_promise_24 : decode b_M_promise 24 = .ok (.lconst 0, 1) := by decide +kernel
theorem d_M_promise_25 : decode b_M_promise 25 = .ok (.ldc2_w 99, 3) := by decide +kernel
theorem d_M_promise_28 : decode b_M_promise 28 = .ok (.invokestatic 91, 3) := by decide +kernel
theorem d_M_promise_31 : decode b_M_promise 31 = .ok (.ifCond .eq 15, 3) := by decide +kernel
theorem d_M_promise_34 : decode b_M_promise 34 = .ok (.lload 5, 2) := by decide +kernel
theorem d_M_promise_36 : decode b_M_promise 36 = .ok (.lconst 0, 1) := by decide +kernel
theorem d_M_promise_37 : decode b_M_promise 37 = .ok (.ldc2_w 147, 3) := by decide +kernel
theorem d_M_promise_40 : decode b_M_promise 40 = .ok (.invokestatic 91, 3) := by decide +kernel
theorem d_M_promise_43 : decode b_M_promise 43 = .ok (.ifCond .ne 6, 3) := by decide +kernel
theorem d_M_promise_46 : decode b_M_promise 46 = .ok (.bipush (-12), 2) := by decide +kernel
theorem d_M_promise_48 : decode b_M_promise 48 = .ok (.ireturn, 1) := by decide +kernel
theorem d_M_promise_49 : decode b_M_promise 49 = .ok (.aload_n 0, 1) := by decide +kernel
theorem d_M_promise_50 : decode b_M_promise 50 = .ok (.iload_n 1, 1) := by decide +kernel
theorem d_M_promise_51 : decode b_M_promise 51 = .ok (.iload_n 2, 1) := by decide +kernel
theorem d_M_promise_52 : decode b_M_promise 52 = .ok (.invokevirtual 126, 3) := by decide +kernel
theorem d_M_promise_55 : decode b_M_promise 55 = .ok (.istore 7, 2) := by decide +kernel
theorem d_M_promise_57 : decode b_M_promise 57 = .ok (.iload 7, 2) := by decide +kernel
theorem d_M_promise_59 : decode b_M_promise 59 = .ok (.ifCond .lt 13, 3) := by decide +kernel
theorem d_M_promise_62 : decode b_M_promise 62 = .ok (.aload_n 0, 1) := by decide +kernel
theorem d_M_promise_63 : decode b_M_promise 63 = .ok (.getfield 60, 3) := by decide +kernel
theorem d_M_promise_66 : decode b_M_promise 66 = .ok (.iload 7, 2) := by decide +kernel
theorem d_M_promise_68 : decode b_M_promise 68 = .ok (.baload, 1) := by decide +kernel
theorem d_M_promise_69 : decode b_M_promise 69 = .ok (.ifCond .ne 12, 3) := by decide +kernel
theorem d_M_promise_72 : decode b_M_promise 72 = .ok (.aload_n 0, 1) := by decide +kernel
theorem d_M_promise_73 : decode b_M_promise 73 = .ok (.iload_n 1, 1) := by decide +kernel
theorem d_M_promise_74 : decode b_M_promise 74 = .ok (.iconst 3, 1) := by decide +kernel
theorem d_M_promise_75 : decode b_M_promise 75 = .ok (.invokevirtual 115, 3) := by decide +kernel
theorem d_M_promise_78 : decode b_M_promise 78 = .ok (.ifCond .ne 5, 3) := by decide +kernel
theorem d_M_promise_81 : decode b_M_promise 81 = .ok (.iconst 0, 1) := by decide +kernel
theorem d_M_promise_82 : decode b_M_promise 82 = .ok (.ireturn, 1) := by decide +kernel
theorem d_M_promise_83 : decode b_M_promise 83 = .ok (.iload 7, 2) := by decide +kernel
theorem d_M_promise_85 : decode b_M_promise 85 = .ok (.ifCond .ge 7, 3) := by decide +kernel
theorem d_M_promise_88 : decode b_M_promise 88 = .ok (.iconst 0, 1) := by decide +kernel
theorem d_M_promise_89 : decode b_M_promise 89 = .ok (.goto 10, 3) := by decide +kernel
theorem d_M_promise_92 : decode b_M_promise 92 = .ok (.aload_n 0, 1) := by decide +kernel
theorem d_M_promise_93 : decode b_M_promise 93 = .ok (.getfield 63, 3) := by decide +kernel
theorem d_M_promise_96 : decode b_M_promise 96 = .ok (.iload 7, 2) := by decide +kernel
theorem d_M_promise_98 : decode b_M_promise 98 = .ok (.iaload, 1) := by decide +kernel
theorem d_M_promise_99 : decode b_M_promise 99 = .ok (.istore 8, 2) := by decide +kernel
theorem d_M_promise_101 : decode b_M_promise 101 = .ok (.iload 8, 2) := by decide +kernel
theorem d_M_promise_103 : decode b_M_promise 103 = .ok (.ifCond .le 50, 3) := by decide +kernel
theorem d_M_promise_106 : decode b_M_promise 106 = .ok (.lload_n 3, 1) := by decide +kernel
theorem d_M_promise_107 : decode b_M_promise 107 = .ok (.aload_n 0, 1) := by decide +kernel
theorem d_M_promise_108 : decode b_M_promise 108 = .ok (.getfield 42, 3) := by decide +kernel
theorem d_M_promise_111 : decode b_M_promise 111 = .ok (.iload 8, 2) := by decide +kernel
theorem d_M_promise_113 : decode b_M_promise 113 = .ok (.laload, 1) := by decide +kernel
theorem d_M_promise_114 : decode b_M_promise 114 = .ok (.lsub, 1) := by decide +kernel
theorem d_M_promise_115 : decode b_M_promise 115 = .ok (.lstore 9, 2) := by decide +kernel
theorem d_M_promise_117 : decode b_M_promise 117 = .ok (.lload 9, 2) := by decide +kernel
theorem d_M_promise_119 : decode b_M_promise 119 = .ok (.lload 5, 2) := by decide +kernel
theorem d_M_promise_121 : decode b_M_promise 121 = .ok (.lneg, 1) := by decide +kernel
theorem d_M_promise_122 : decode b_M_promise 122 = .ok (.lload 5, 2) := by decide +kernel
theorem d_M_promise_124 : decode b_M_promise 124 = .ok (.invokestatic 91, 3) := by decide +kernel
theorem d_M_promise_127 : decode b_M_promise 127 = .ok (.ifCond .eq 5, 3) := by decide +kernel
theorem d_M_promise_130 : decode b_M_promise 130 = .ok (.iconst 0, 1) := by decide +kernel
theorem d_M_promise_131 : decode b_M_promise 131 = .ok (.ireturn, 1) := by decide +kernel
theorem d_M_promise_132 : decode b_M_promise 132 = .ok (.aload_n 0, 1) := by decide +kernel
theorem d_M_promise_133 : decode b_M_promise 133 = .ok (.getfield 45, 3) := by decide +kernel
theorem d_M_promise_136 : decode b_M_promise 136 = .ok (.iload 8, 2) := by decide +kernel
theorem d_M_promise_138 : decode b_M_promise 138 = .ok (.iaload, 1) := by decide +kernel
theorem d_M_promise_139 : decode b_M_promise 139 = .ok (.ifCond .ne 14, 3) := by decide +kernel
theorem d_M_promise_142 : decode b_M_promise 142 = .ok (.aload_n 0, 1) := by decide +kernel
theorem d_M_promise_143 : decode b_M_promise 143 = .ok (.getfield 42, 3) := by decide +kernel
theorem d_M_promise_146 : decode b_M_promise 146 = .ok (.iload 8, 2) := by decide +kernel
theorem d_M_promise_148 : decode b_M_promise 148 = .ok (.lload_n 3, 1) := by decide +kernel
theorem d_M_promise_149 : decode b_M_promise 149 = .ok (.lastore, 1) := by decide +kernel
theorem d_M_promise_150 : decode b_M_promise 150 = .ok (.iload 8, 2) := by decide +kernel
theorem d_M_promise_152 : decode b_M_promise 152 = .ok (.ireturn, 1) := by decide +kernel
theorem d_M_promise_153 : decode b_M_promise 153 = .ok (.aload_n 0, 1) := by decide +kernel
theorem d_M_promise_154 : decode b_M_promise 154 = .ok (.getfield 129, 3) := by decide +kernel
theorem d_M_promise_157 : decode b_M_promise 157 = .ok (.sipush 200, 3) := by decide +kernel
theorem d_M_promise_160 : decode b_M_promise 160 = .ok (.if_icmp .eq 17, 3) := by decide +kernel
theorem d_M_promise_163 : decode b_M_promise 163 = .ok (.iload 7, 2) := by decide +kernel
theorem d_M_promise_165 : decode b_M_promise 165 = .ok (.ifCond .ge 15, 3) := by decide +kernel
theorem d_M_promise_168 : decode b_M_promise 168 = .ok (.aload_n 0, 1) := by decide +kernel
theorem d_M_promise_169 : decode b_M_promise 169 = .ok (.getfield 123, 3) := by decide +kernel
theorem d_M_promise_172 : decode b_M_promise 172 = .ok (.bipush 60, 2) := by decide +kernel
theorem d_M_promise_174 : decode b_M_promise 174 = .ok (.if_icmp .ne 6, 3) := by decide +kernel
theorem d_M_promise_177 : decode b_M_promise 177 = .ok (.bipush (-14), 2) := by decide +kernel
theorem d_M_promise_179 : decode b_M_promise 179 = .ok (.ireturn, 1) := by decide +kernel
theorem d_M_promise_180 : decode b_M_promise 180 = .ok (.aload_n 0, 1) := by decide +kernel
theorem d_M_promise_181 : decode b_M_promise 181 = .ok (.iload_n 1, 1) := by decide +kernel
theorem d_M_promise_182 : decode b_M_promise 182 = .ok (.iload_n 2, 1) := by decide +kernel
theorem d_M_promise_183 : decode b_M_promise 183 = .ok (.iconst 3, 1) := by decide +kernel
theorem d_M_promise_184 : decode b_M_promise 184 = .ok (.aload_n 0, 1) := by decide +kernel
theorem d_M_promise_185 : decode b_M_promise 185 = .ok (.getfield 95, 3) := by decide +kernel
theorem d_M_promise_188 : decode b_M_promise 188 = .ok (.lload_n 3, 1) := by decide +kernel
theorem d_M_promise_189 : decode b_M_promise 189 = .ok (.iconst 0, 1) := by decide +kernel
theorem d_M_promise_190 : decode b_M_promise 190 = .ok (.invokevirtual 143, 3) := by decide +kernel
theorem d_M_promise_193 : decode b_M_promise 193 = .ok (.istore 9, 2) := by decide +kernel
theorem d_M_promise_195 : decode b_M_promise 195 = .ok (.aload_n 0, 1) := by decide +kernel
theorem d_M_promise_196 : decode b_M_promise 196 = .ok (.getfield 63, 3) := by decide +kernel
theorem d_M_promise_199 : decode b_M_promise 199 = .ok (.aload_n 0, 1) := by decide +kernel
theorem d_M_promise_200 : decode b_M_promise 200 = .ok (.iload_n 1, 1) := by decide +kernel
theorem d_M_promise_201 : decode b_M_promise 201 = .ok (.iload_n 2, 1) := by decide +kernel
theorem d_M_promise_202 : decode b_M_promise 202 = .ok (.invokevirtual 138, 3) := by decide +kernel
theorem d_M_promise_205 : decode b_M_promise 205 = .ok (.iload 9, 2) := by decide +kernel
theorem d_M_promise_207 : decode b_M_promise 207 = .ok (.iastore, 1) := by decide +kernel
theorem d_M_promise_208 : decode b_M_promise 208 = .ok (.iload 9, 2) := by decide +kernel
theorem d_M_promise_210 : decode b_M_promise 210 = .ok (.ireturn, 1) := by decide +kernel
theorem d_M_tick_0 : decode b_M_tick 0 = .ok (.aload_n 0, 1) := by decide +kernel
theorem d_M_tick_1 : decode b_M_tick 1 = .ok (.lload_n 1, 1) := by decide +kernel
theorem d_M_tick_2 : decode b_M_tick 2 = .ok (.invokevirtual 134, 3) := by decide +kernel
theorem d_M_tick_5 : decode b_M_tick 5 = .ok (.ifCond .ne 6, 3) := by decide +kernel
theorem d_M_tick_8 : decode b_M_tick 8 = .ok (.bipush (-12), 2) := by decide +kernel
theorem d_M_tick_10 : decode b_M_tick 10 = .ok (.ireturn, 1) := by decide +kernel
theorem d_M_tick_11 : decode b_M_tick 11 = .ok (.aload_n 0, 1) := by decide +kernel
theorem d_M_tick_12 : decode b_M_tick 12 = .ok (.lload_n 1, 1) := by decide +kernel
theorem d_M_tick_13 : decode b_M_tick 13 = .ok (.putfield 95, 3) := by decide +kernel
theorem d_M_tick_16 : decode b_M_tick 16 = .ok (.iconst 1, 1) := by decide +kernel
theorem d_M_tick_17 : decode b_M_tick 17 = .ok (.istore_n 3, 1) := by decide +kernel
theorem d_M_tick_18 : decode b_M_tick 18 = .ok (.iload_n 3, 1) := by decide +kernel
theorem d_M_tick_19 : decode b_M_tick 19 = .ok (.aload_n 0, 1) := by decide +kernel
theorem d_M_tick_20 : decode b_M_tick 20 = .ok (.getfield 87, 3) := by decide +kernel
theorem d_M_tick_23 : decode b_M_tick 23 = .ok (.if_icmp .gt 25, 3) := by decide +kernel
theorem d_M_tick_26 : decode b_M_tick 26 = .ok (.aload_n 0, 1) := by decide +kernel
theorem d_M_tick_27 : decode b_M_tick 27 = .ok (.getfield 81, 3) := by decide +kernel
theorem d_M_tick_30 : decode b_M_tick 30 = .ok (.iload_n 3, 1) := by decide +kernel
theorem d_M_tick_31 : decode b_M_tick 31 = .ok (.ldc2_w 155, 3) := by decide +kernel
theorem d_M_tick_34 : decode b_M_tick 34 = .ok (.lastore, 1) := by decide +kernel
theorem d_M_tick_35 : decode b_M_tick 35 = .ok (.aload_n 0, 1) := by decide +kernel
theorem d_M_tick_36 : decode b_M_tick 36 = .ok (.getfield 84, 3) := by decide +kernel
theorem d_M_tick_39 : decode b_M_tick 39 = .ok (.iload_n 3, 1) := by decide +kernel
theorem d_M_tick_40 : decode b_M_tick 40 = .ok (.iconst 0, 1) := by decide +kernel
theorem d_M_tick_41 : decode b_M_tick 41 = .ok (.iastore, 1) := by decide +kernel
theorem d_M_tick_42 : decode b_M_tick 42 = .ok (.iinc 3 1, 3) := by decide +kernel
theorem d_M_tick_45 : decode b_M_tick 45 = .ok (.goto (-27), 3) := by decide +kernel
theorem d_M_tick_48 : decode b_M_tick 48 = .ok (.iconst 1, 1) := by decide +kernel
theorem d_M_tick_49 : decode b_M_tick 49 = .ok (.istore_n 3, 1) := by decide +kernel
theorem d_M_tick_50 : decode b_M_tick 50 = .ok (.iload_n 3, 1) := by decide +kernel
theorem d_M_tick_51 : decode b_M_tick 51 = .ok (.aload_n 0, 1) := by decide +kernel
theorem d_M_tick_52 : decode b_M_tick 52 = .ok (.getfield 129, 3) := by decide +kernel
theorem d_M_tick_55 : decode b_M_tick 55 = .ok (.if_icmp .gt 67, 3) := by decide +kernel
theorem d_M_tick_58 : decode b_M_tick 58 = .ok (.aload_n 0, 1) := by decide +kernel
theorem d_M_tick_59 : decode b_M_tick 59 = .ok (.getfield 45, 3) := by decide +kernel
theorem d_M_tick_62 : decode b_M_tick 62 = .ok (.iload_n 3, 1) := by decide +kernel
theorem d_M_tick_63 : decode b_M_tick 63 = .ok (.iaload, 1) := by decide +kernel
theorem d_M_tick_64 : decode b_M_tick 64 = .ok (.ifCond .ne 52, 3) := by decide +kernel
theorem d_M_tick_67 : decode b_M_tick 67 = .ok (.aload_n 0, 1) := by decide +kernel
theorem d_M_tick_68 : decode b_M_tick 68 = .ok (.getfield 35, 3) := by decide +kernel
theorem d_M_tick_71 : decode b_M_tick 71 = .ok (.iload_n 3, 1) := by decide +kernel
theorem d_M_tick_72 : decode b_M_tick 72 = .ok (.iaload, 1) := by decide +kernel
theorem d_M_tick_73 : decode b_M_tick 73 = .ok (.bipush 7, 2) := by decide +kernel
theorem d_M_tick_75 : decode b_M_tick 75 = .ok (.if_icmp .eq 41, 3) := by decide +kernel
theorem d_M_tick_78 : decode b_M_tick 78 = .ok (.aload_n 0, 1) := by decide +kernel
theorem d_M_tick_79 : decode b_M_tick 79 = .ok (.getfield 38, 3) := by decide +kernel
theorem d_M_tick_82 : decode b_M_tick 82 = .ok (.iload_n 3, 1) := by decide +kernel
theorem d_M_tick_83 : decode b_M_tick 83 = .ok (.laload, 1) := by decide +kernel
theorem d_M_tick_84 : decode b_M_tick 84 = .ok (.aload_n 0, 1) := by decide +kernel
theorem d_M_tick_85 : decode b_M_tick 85 = .ok (.getfield 81, 3) := by decide +kernel
theorem d_M_tick_88 : decode b_M_tick 88 = .ok (.aload_n 0, 1) := by decide +kernel
theorem d_M_tick_89 : decode b_M_tick 89 = .ok (.getfield 29, 3) := by decide +kernel
theorem d_M_tick_92 : decode b_M_tick 92 = .ok (.iload_n 3, 1) := by decide +kernel
theorem d_M_tick_93 : decode b_M_tick 93 = .ok (.iaload, 1) := by decide +kernel
theorem d_M_tick_94 : decode b_M_tick 94 = .ok (.laload, 1) := by decide +kernel
theorem d_M_tick_95 : decode b_M_tick 95 = .ok (.lcmp, 1) := by decide +kernel
theorem d_M_tick_96 : decode b_M_tick 96 = .ok (.ifCond .ge 20, 3) := by decide +kernel
theorem d_M_tick_99 : decode b_M_tick 99 = .ok (.aload_n 0, 1) := by decide +kernel
theorem d_M_tick_100 : decode b_M_tick 100 = .ok (.getfield 81, 3) := by decide +kernel
theorem d_M_tick_103 : decode b_M_tick 103 = .ok (.aload_n 0, 1) := by decide +kernel
theorem d_M_tick_104 : decode b_M_tick 104 = .ok (.getfield 29, 3) := by decide +kernel
theorem d_M_tick_107 : decode b_M_tick 107 = .ok (.iload_n 3, 1) := by decide +kernel
theorem d_M_tick_108 : decode b_M_tick 108 = .ok (.iaload, 1) := by decide +kernel
theorem d_M_tick_109 : decode b_M_tick 109 = .ok (.aload_n 0, 1) := by decide +kernel
theorem d_M_tick_110 : decode b_M_tick 110 = .ok (.getfield 38, 3) := by decide +kernel
theorem d_M_tick_113 : decode b_M_tick 113 = .ok (.iload_n 3, 1) := by decide +kernel
theorem d_M_tick_114 : decode b_M_tick 114 = .ok (.laload, 1) := by decide +kernel
theorem d_M_tick_115 : decode b_M_tick 115 = .ok (.lastore, 1) := by decide +kernel
theorem d_M_tick_116 : decode b_M_tick 116 = .ok (.iinc 3 1, 3) := by decide +kernel
theorem d_M_tick_119 : decode b_M_tick 119 = .ok (.goto (-69), 3) := by decide +kernel
theorem d_M_tick_122 : decode b_M_tick 122 = .ok (.iconst 0, 1) := by decide +kernel
theorem d_M_tick_123 : decode b_M_tick 123 = .ok (.istore_n 3, 1) := by decide +kernel
theorem d_M_tick_124 : decode b_M_tick 124 = .ok (.iconst 1, 1) := by decide +kernel
theorem d_M_tick_125 : decode b_M_tick 125 = .ok (.istore 4, 2) := by decide +kernel
theorem d_M_tick_127 : decode b_M_tick 127 = .ok (.iload 4, 2) := by decide +kernel
theorem d_M_tick_129 : decode b_M_tick 129 = .ok (.aload_n 0, 1) := by decide +kernel
theorem d_M_tick_130 : decode b_M_tick 130 = .ok (.getfield 129, 3) := by decide +kernel
theorem d_M_tick_133 : decode b_M_tick 133 = .ok (.if_icmp .gt 197, 3) := by decide +kernel
theorem d_M_tick_136 : decode b_M_tick 136 = .ok (.aload_n 0, 1) := by decide +kernel
theorem d_M_tick_137 : decode b_M_tick 137 = .ok (.getfield 45, 3) := by decide +kernel
theorem d_M_tick_140 : decode b_M_tick 140 = .ok (.iload 4, 2) := by decide +kernel
theorem d_M_tick_142 : decode b_M_tick 142 = .ok (.iaload, 1) := by decide +kernel
theorem d_M_tick_143 : decode b_M_tick 143 = .ok (.ifCond .ne 181, 3) := by decide +kernel
theorem d_M_tick_146 : decode b_M_tick 146 = .ok (.aload_n 0, 1) := by decide +kernel
theorem d_M_tick_147 : decode b_M_tick 147 = .ok (.iload 4, 2) := by decide +kernel
theorem d_M_tick_149 : decode b_M_tick 149 = .ok (.invokevirtual 157, 3) := by decide +kernel
theorem d_M_tick_152 : decode b_M_tick 152 = .ok (.ifCond .ne 6, 3) := by decide +kernel
theorem d_M_tick_155 : decode b_M_tick 155 = .ok (.goto 169, 3) := by decide +kernel
theorem d_M_tick_158 : decode b_M_tick 158 = .ok (.aload_n 0, 1) := by decide +kernel
theorem d_M_tick_159 : decode b_M_tick 159 = .ok (.iload 4, 2) := by decide +kernel
theorem d_M_tick_161 : decode b_M_tick 161 = .ok (.invokevirtual 160, 3) := by decide +kernel
theorem d_M_tick_164 : decode b_M_tick 164 = .ok (.istore 5, 2) := by decide +kernel
theorem d_M_tick_166 : decode b_M_tick 166 = .ok (.iload 5, 2) := by decide +kernel
theorem d_M_tick_168 : decode b_M_tick 168 = .ok (.ifCond .ge 35, 3) := by decide +kernel
theorem d_M_tick_171 : decode b_M_tick 171 = .ok (.aload_n 0, 1) := by decide +kernel
theorem d_M_tick_172 : decode b_M_tick 172 = .ok (.getfield 45, 3) := by decide +kernel
theorem d_M_tick_175 : decode b_M_tick 175 = .ok (.iload 4, 2) := by decide +kernel
theorem d_M_tick_177 : decode b_M_tick 177 = .ok (.iconst 2, 1) := by decide +kernel
theorem d_M_tick_178 : decode b_M_tick 178 = .ok (.iastore, 1) := by decide +kernel
theorem d_M_tick_179 : decode b_M_tick 179 = .ok (.aload_n 0, 1) := by decide +kernel
theorem d_M_tick_180 : decode b_M_tick 180 = .ok (.getfield 78, 3) := by decide +kernel
theorem d_M_tick_183 : decode b_M_tick 183 = .ok (.aload_n 0, 1) := by decide +kernel
theorem d_M_tick_184 : decode b_M_tick 184 = .ok (.getfield 164, 3) := by decide +kernel
theorem d_M_tick_187 : decode b_M_tick 187 = .ok (.iload 4, 2) := by decide +kernel
theorem d_M_tick_189 : decode b_M_tick 189 = .ok (.iastore, 1) := by decide +kernel
theorem d_M_tick_190 : decode b_M_tick 190 = .ok (.aload_n 0, 1) := by decide +kernel
theorem d_M_tick_191 : decode b_M_tick 191 = .ok (.dup, 1) := by decide +kernel
theorem d_M_tick_192 : decode b_M_tick 192 = .ok (.getfield 164, 3) := by decide +kernel
theorem d_M_tick_195 : decode b_M_tick 195 = .ok (.iconst 1, 1) := by decide +kernel
theorem d_M_tick_196 : decode b_M_tick 196 = .ok (.iadd, 1) := by decide +kernel
theorem d_M_tick_197 : decode b_M_tick 197 = .ok (.putfield 164, 3) := by decide +kernel
theorem d_M_tick_200 : decode b_M_tick 200 = .ok (.goto 124, 3) := by decide +kernel
theorem d_M_tick_203 : decode b_M_tick 203 = .ok (.aload_n 0, 1) := by decide +kernel
theorem d_M_tick_204 : decode b_M_tick 204 = .ok (.getfield 45, 3) := by decide +kernel
theorem d_M_tick_207 : decode b_M_tick 207 = .ok (.iload 4, 2) := by decide +kernel
theorem d_M_tick_209 : decode b_M_tick 209 = .ok (.iconst 1, 1) := by decide +kernel
theorem d_M_tick_210 : decode b_M_tick 210 = .ok (.iastore, 1) := by decide +kernel
theorem d_M_tick_211 : decode b_M_tick 211 = .ok (.aload_n 0, 1) := by decide +kernel
theorem d_M_tick_212 : decode b_M_tick 212 = .ok (.getfield 84, 3) := by decide +kernel
theorem d_M_tick_215 : decode b_M_tick 215 = .ok (.aload_n 0, 1) := by decide +kernel
theorem d_M_tick_216 : decode b_M_tick 216 = .ok (.getfield 29, 3) := by decide +kernel
theorem d_M_tick_219 : decode b_M_tick 219 = .ok (.iload 4, 2) := by decide +kernel
theorem d_M_tick_221 : decode b_M_tick 221 = .ok (.iaload, 1) := by decide +kernel
theorem d_M_tick_222 : decode b_M_tick 222 = .ok (.aload_n 0, 1) := by decide +kernel
theorem d_M_tick_223 : decode b_M_tick 223 = .ok (.getfield 84, 3) := by decide +kernel
theorem d_M_tick_226 : decode b_M_tick 226 = .ok (.aload_n 0, 1) := by decide +kernel
theorem d_M_tick_227 : decode b_M_tick 227 = .ok (.getfield 29, 3) := by decide +kernel
theorem d_M_tick_230 : decode b_M_tick 230 = .ok (.iload 4, 2) := by decide +kernel
theorem d_M_tick_232 : decode b_M_tick 232 = .ok (.iaload, 1) := by decide +kernel
theorem d_M_tick_233 : decode b_M_tick 233 = .ok (.iaload, 1) := by decide +kernel
theorem d_M_tick_234 : decode b_M_tick 234 = .ok (.ifCond .ne 8, 3) := by decide +kernel
theorem d_M_tick_237 : decode b_M_tick 237 = .ok (.iload 4, 2) := by decide +kernel
theorem d_M_tick_239 : decode b_M_tick 239 = .ok (.goto 15, 3) := by decide +kernel
theorem d_M_tick_242 : decode b_M_tick 242 = .ok (.aload_n 0, 1) := by decide +kernel
theorem d_M_tick_243 : decode b_M_tick 243 = .ok (.getfield 84, 3) := by decide +kernel
theorem d_M_tick_246 : decode b_M_tick 246 = .ok (.aload_n 0, 1) := by decide +kernel
theorem d_M_tick_247 : decode b_M_tick 247 = .ok (.getfield 29, 3) := by decide +kernel
theorem d_M_tick_250 : decode b_M_tick 250 = .ok (.iload 4, 2) := by decide +kernel
theorem d_M_tick_252 : decode b_M_tick 252 = .ok (.iaload, 1) := by decide +kernel
theorem d_M_tick_253 : decode b_M_tick 253 = .ok (.iaload, 1) := by decide +kernel
theorem d_M_tick_254 : decode b_M_tick 254 = .ok (.iastore, 1) := by decide +kernel
theorem d_M_tick_255 : decode b_M_tick 255 = .ok (.aload_n 0, 1) := by decide +kernel
theorem d_M_tick_256 : decode b_M_tick 256 = .ok (.getfield 66, 3) := by decide +kernel
theorem d_M_tick_259 : decode b_M_tick 259 = .ok (.aload_n 0, 1) := by decide +kernel
theorem d_M_tick_260 : decode b_M_tick 260 = .ok (.getfield 167, 3) := by decide +kernel
theorem d_M_tick_263 : decode b_M_tick 263 = .ok (.iload 4, 2) := by decide +kernel
theorem d_M_tick_265 : decode b_M_tick 265 = .ok (.iastore, 1) := by decide +kernel
theorem d_M_tick_266 : decode b_M_tick 266 = .ok (.aload_n 0, 1) := by decide +kernel
theorem d_M_tick_267 : decode b_M_tick 267 = .ok (.getfield 69, 3) := by decide +kernel
theorem d_M_tick_270 : decode b_M_tick 270 = .ok (.aload_n 0, 1) := by decide +kernel
theorem d_M_tick_271 : decode b_M_tick 271 = .ok (.getfield 167, 3) := by decide +kernel
theorem d_M_tick_274 : decode b_M_tick 274 = .ok (.iload 5, 2) := by decide +kernel
theorem d_M_tick_276 : decode b_M_tick 276 = .ok (.iastore, 1) := by decide +kernel
theorem d_M_tick_277 : decode b_M_tick 277 = .ok (.aload_n 0, 1) := by decide +kernel
theorem d_M_tick_278 : decode b_M_tick 278 = .ok (.getfield 72, 3) := by decide +kernel
theorem d_M_tick_281 : decode b_M_tick 281 = .ok (.aload_n 0, 1) := by decide +kernel
theorem d_M_tick_282 : decode b_M_tick 282 = .ok (.getfield 167, 3) := by decide +kernel
theorem d_M_tick_285 : decode b_M_tick 285 = .ok (.aload_n 0, 1) := by decide +kernel
theorem d_M_tick_286 : decode b_M_tick 286 = .ok (.getfield 84, 3) := by decide +kernel
theorem d_M_tick_289 : decode b_M_tick 289 = .ok (.aload_n 0, 1) := by decide +kernel
theorem d_M_tick_290 : decode b_M_tick 290 = .ok (.getfield 29, 3) := by decide +kernel
theorem d_M_tick_293 : decode b_M_tick 293 = .ok (.iload 4, 2) := by decide +kernel
theorem d_M_tick_295 : decode b_M_tick 295 = .ok (.iaload, 1) := by decide +kernel
theorem d_M_tick_296 : decode b_M_tick 296 = .ok (.iaload, 1) := by decide +kernel
theorem d_M_tick_297 : decode b_M_tick 297 = .ok (.iastore, 1) := by decide +kernel
theorem d_M_tick_298 : decode b_M_tick 298 = .ok (.aload_n 0, 1) := by decide +kernel
theorem d_M_tick_299 : decode b_M_tick 299 = .ok (.getfield 75, 3) := by decide +kernel
theorem d_M_tick_302 : decode b_M_tick 302 = .ok (.aload_n 0, 1) := by decide +kernel
theorem d_M_tick_303 : decode b_M_tick 303 = .ok (.getfield 167, 3) := by decide +kernel
theorem d_M_tick_306 : decode b_M_tick 306 = .ok (.aload_n 0, 1) := by decide +kernel
theorem d_M_tick_307 : decode b_M_tick 307 = .ok (.getfield 95, 3) := by decide +kernel
theorem d_M_tick_310 : decode b_M_tick 310 = .ok (.lastore, 1) := by decide +kernel
theorem d_M_tick_311 : decode b_M_tick 311 = .ok (.aload_n 0, 1) := by decide +kernel
theorem d_M_tick_312 : decode b_M_tick 312 = .ok (.dup, 1) := by decide +kernel
theorem d_M_tick_313 : decode b_M_tick 313 = .ok (.getfield 167, 3) := by decide +kernel
theorem d_M_tick_316 : decode b_M_tick 316 = .ok (.iconst 1, 1) := by decide +kernel
theorem d_M_tick_317 : decode b_M_tick 317 = .ok (.iadd, 1) := by decide +kernel
theorem d_M_tick_318 : decode b_M_tick 318 = .ok (.putfield 167, 3) := by decide +kernel
theorem d_M_tick_321 : decode b_M_tick 321 = .ok (.iinc 3 1, 3) := by decide +kernel
theorem d_M_tick_324 : decode b_M_tick 324 = .ok (.iinc 4 1, 3) := by decide +kernel
theorem d_M_tick_327 : decode b_M_tick 327 = .ok (.goto (-200), 3) := by decide +kernel
theorem d_M_tick_330 : decode b_M_tick 330 = .ok (.iload_n 3, 1) := by decide +kernel
theorem d_M_tick_331 : decode b_M_tick 331 = .ok (.ireturn, 1) := by decide +kernel
theorem d_M_isDue_0 : decode b_M_isDue 0 = .ok (.aload_n 0, 1) := by decide +kernel
theorem d_M_isDue_1 : decode b_M_isDue 1 = .ok (.getfield 35, 3) := by decide +kernel
theorem d_M_isDue_4 : decode b_M_isDue 4 = .ok (.iload_n 1, 1) := by decide +kernel
theorem d_M_isDue_5 : decode b_M_isDue 5 = .ok (.iaload, 1) := by decide +kernel
theorem d_M_isDue_6 : decode b_M_isDue 6 = .ok (.bipush 7, 2) := by decide +kernel
theorem d_M_isDue_8 : decode b_M_isDue 8 = .ok (.if_icmp .ne 7, 3) := by decide +kernel
theorem d_M_isDue_11 : decode b_M_isDue 11 = .ok (.iconst 1, 1) := by decide +kernel
theorem d_M_isDue_12 : decode b_M_isDue 12 = .ok (.goto 4, 3) := by decide +kernel
theorem d_M_isDue_15 : decode b_M_isDue 15 = .ok (.iconst 0, 1) := by decide +kernel
theorem d_M_isDue_16 : decode b_M_isDue 16 = .ok (.istore_n 2, 1) := by decide +kernel
theorem d_M_isDue_17 : decode b_M_isDue 17 = .ok (.aload_n 0, 1) := by decide +kernel
theorem d_M_isDue_18 : decode b_M_isDue 18 = .ok (.getfield 29, 3) := by decide +kernel
theorem d_M_isDue_21 : decode b_M_isDue 21 = .ok (.iload_n 1, 1) := by decide +kernel
theorem d_M_isDue_22 : decode b_M_isDue 22 = .ok (.iaload, 1) := by decide +kernel
theorem d_M_isDue_23 : decode b_M_isDue 23 = .ok (.istore_n 3, 1) := by decide +kernel
theorem d_M_isDue_24 : decode b_M_isDue 24 = .ok (.aload_n 0, 1) := by decide +kernel
theorem d_M_isDue_25 : decode b_M_isDue 25 = .ok (.getfield 38, 3) := by decide +kernel
theorem d_M_isDue_28 : decode b_M_isDue 28 = .ok (.iload_n 1, 1) := by decide +kernel
theorem d_M_isDue_29 : decode b_M_isDue 29 = .ok (.laload, 1) := by decide +kernel
theorem d_M_isDue_30 : decode b_M_isDue 30 = .ok (.aload_n 0, 1) := by decide +kernel
theorem d_M_isDue_31 : decode b_M_isDue 31 = .ok (.getfield 95, 3) := by decide +kernel
theorem d_M_isDue_34 : decode b_M_isDue 34 = .ok (.lcmp, 1) := by decide +kernel
theorem d_M_isDue_35 : decode b_M_isDue 35 = .ok (.ifCond .gt 39, 3) := by decide +kernel
theorem d_M_isDue_38 : decode b_M_isDue 38 = .ok (.iload_n 2, 1) := by decide +kernel
theorem d_M_isDue_39 : decode b_M_isDue 39 = .ok (.ifCond .ne 31, 3) := by decide +kernel
theorem d_M_isDue_42 : decode b_M_isDue 42 = .ok (.aload_n 0, 1) := by decide +kernel
theorem d_M_isDue_43 : decode b_M_isDue 43 = .ok (.getfield 95, 3) := by decide +kernel
theorem d_M_isDue_46 : decode b_M_isDue 46 = .ok (.aload_n 0, 1) := by decide +kernel
theorem d_M_isDue_47 : decode b_M_isDue 47 = .ok (.getfield 81, 3) := by decide +kernel
theorem d_M_isDue_50 : decode b_M_isDue 50 = .ok (.iload_n 3, 1) := by decide +kernel
theorem d_M_isDue_51 : decode b_M_isDue 51 = .ok (.laload, 1) := by decide +kernel
theorem d_M_isDue_52 : decode b_M_isDue 52 = .ok (.aload_n 0, 1) := by decide +kernel
theorem d_M_isDue_53 : decode b_M_isDue 53 = .ok (.getfield 149, 3) := by decide +kernel
theorem d_M_isDue_56 : decode b_M_isDue 56 = .ok (.i2l, 1) := by decide +kernel
theorem d_M_isDue_57 : decode b_M_isDue 57 = .ok (.ladd, 1) := by decide +kernel
theorem d_M_isDue_58 : decode b_M_isDue 58 = .ok (.lcmp, 1) := by decide +kernel
theorem d_M_isDue_59 : decode b_M_isDue 59 = .ok (.ifCond .lt 15, 3) := by decide +kernel
theorem d_M_isDue_62 : decode b_M_isDue 62 = .ok (.aload_n 0, 1) := by decide +kernel
theorem d_M_isDue_63 : decode b_M_isDue 63 = .ok (.iload_n 3, 1) := by decide +kernel
theorem d_M_isDue_64 : decode b_M_isDue 64 = .ok (.invokevirtual 152, 3) := by decide +kernel
theorem d_M_isDue_67 : decode b_M_isDue 67 = .ok (.ifCond .ne 7, 3) := by decide +kernel
theorem d_M_isDue_70 : decode b_M_isDue 70 = .ok (.iconst 1, 1) := by decide +kernel
theorem d_M_isDue_71 : decode b_M_isDue 71 = .ok (.goto 4, 3) := by decide +kernel
theorem d_M_isDue_74 : decode b_M_isDue 74 = .ok (.iconst 0, 1) := by decide +kernel
theorem d_M_isDue_75 : decode b_M_isDue 75 = .ok (.ireturn, 1) := by decide +kernel
theorem d_M_isQuiet_0 : decode b_M_isQuiet 0 = .ok (.aload_n 0, 1) := by decide +kernel
theorem d_M_isQuiet_1 : decode b_M_isQuiet 1 = .ok (.getfield 95, 3) := by decide +kernel
theorem d_M_isQuiet_4 : decode b_M_isQuiet 4 = .ok (.bipush 60, 2) := by decide +kernel
theorem d_M_isQuiet_6 : decode b_M_isQuiet 6 = .ok (.aload_n 0, 1) := by decide +kernel
theorem d_M_isQuiet_7 : decode b_M_isQuiet 7 = .ok (.getfield 17, 3) := by decide +kernel
theorem d_M_isQuiet_10 : decode b_M_isQuiet 10 = .ok (.iload_n 1, 1) := by decide +kernel
theorem d_M_isQuiet_11 : decode b_M_isQuiet 11 = .ok (.iaload, 1) := by decide +kernel
theorem d_M_isQuiet_12 : decode b_M_isQuiet 12 = .ok (.imul, 1) := by decide +kernel
theorem d_M_isQuiet_13 : decode b_M_isQuiet 13 = .ok (.i2l, 1) := by decide +kernel
theorem d_M_isQuiet_14 : decode b_M_isQuiet 14 = .ok (.ladd, 1) := by decide +kernel
theorem d_M_isQuiet_15 : decode b_M_isQuiet 15 = .ok (.ldc2_w 121, 3) := by decide +kernel
theorem d_M_isQuiet_18 : decode b_M_isQuiet 18 = .ok (.ladd, 1) := by decide +kernel
theorem d_M_isQuiet_19 : decode b_M_isQuiet 19 = .ok (.ldc2_w 121, 3) := by decide +kernel
theorem d_M_isQuiet_22 : decode b_M_isQuiet 22 = .ok (.lrem, 1) := by decide +kernel
theorem d_M_isQuiet_23 : decode b_M_isQuiet 23 = .ok (.l2i, 1) := by decide +kernel
theorem d_M_isQuiet_24 : decode b_M_isQuiet 24 = .ok (.istore_n 2, 1) := by decide +kernel
theorem d_M_isQuiet_25 : decode b_M_isQuiet 25 = .ok (.aload_n 0, 1) := by decide +kernel
theorem d_M_isQuiet_26 : decode b_M_isQuiet 26 = .ok (.getfield 20, 3) := by decide +kernel
theorem d_M_isQuiet_29 : decode b_M_isQuiet 29 = .ok (.iload_n 1, 1) := by decide +kernel
theorem d_M_isQuiet_30 : decode b_M_isQuiet 30 = .ok (.iaload, 1) := by decide +kernel
theorem d_M_isQuiet_31 : decode b_M_isQuiet 31 = .ok (.istore_n 3, 1) := by decide +kernel
theorem d_M_isQuiet_32 : decode b_M_isQuiet 32 = .ok (.aload_n 0, 1) := by decide +kernel
theorem d_M_isQuiet_33 : decode b_M_isQuiet 33 = .ok (.getfield 23, 3) := by decide +kernel
theorem d_M_isQuiet_36 : decode b_M_isQuiet 36 = .ok (.iload_n 1, 1) := by decide +kernel
theorem d_M_isQuiet_37 : decode b_M_isQuiet 37 = .ok (.iaload, 1) := by decide +kernel
theorem d_M_isQuiet_38 : decode b_M_isQuiet 38 = .ok (.istore 4, 2) := by decide +kernel
theorem d_M_isQuiet_40 : decode b_M_isQuiet 40 = .ok (.iload_n 3, 1) := by decide +kernel
theorem d_M_isQuiet_41 : decode b_M_isQuiet 41 = .ok (.iload 4, 2) := by decide +kernel
theorem d_M_isQuiet_43 : decode b_M_isQuiet 43 = .ok (.if_icmp .gt 22, 3) := by decide +kernel
theorem d_M_isQuiet_46 : decode b_M_isQuiet 46 = .ok (.iload_n 2, 1) := by decide +kernel
theorem d_M_isQuiet_47 : decode b_M_isQuiet 47 = .ok (.iload_n 3, 1) := by decide +kernel
theorem d_M_isQuiet_48 : decode b_M_isQuiet 48 = .ok (.if_icmp .lt 13, 3) := by decide +kernel
theorem d_M_isQuiet_51 : decode b_M_isQuiet 51 = .ok (.iload_n 2, 1) := by decide +kernel
theorem d_M_isQuiet_52 : decode b_M_isQuiet 52 = .ok (.iload 4, 2) := by decide +kernel
theorem d_M_isQuiet_54 : decode b_M_isQuiet 54 = .ok (.if_icmp .ge 7, 3) := by decide +kernel
theorem d_M_isQuiet_57 : decode b_M_isQuiet 57 = .ok (.iconst 1, 1) := by decide +kernel
theorem d_M_isQuiet_58 : decode b_M_isQuiet 58 = .ok (.goto 23, 3) := by decide +kernel
theorem d_M_isQuiet_61 : decode b_M_isQuiet 61 = .ok (.iconst 0, 1) := by decide +kernel
theorem d_M_isQuiet_62 : decode b_M_isQuiet 62 = .ok (.goto 19, 3) := by decide +kernel
theorem d_M_isQuiet_65 : decode b_M_isQuiet 65 = .ok (.iload_n 2, 1) := by decide +kernel
theorem d_M_isQuiet_66 : decode b_M_isQuiet 66 = .ok (.iload_n 3, 1) := by decide +kernel
theorem d_M_isQuiet_67 : decode b_M_isQuiet 67 = .ok (.if_icmp .ge 9, 3) := by decide +kernel
theorem d_M_isQuiet_70 : decode b_M_isQuiet 70 = .ok (.iload_n 2, 1) := by decide +kernel
theorem d_M_isQuiet_71 : decode b_M_isQuiet 71 = .ok (.iload 4, 2) := by decide +kernel
theorem d_M_isQuiet_73 : decode b_M_isQuiet 73 = .ok (.if_icmp .ge 7, 3) := by decide +kernel
theorem d_M_isQuiet_76 : decode b_M_isQuiet 76 = .ok (.iconst 1, 1) := by decide +kernel
theorem d_M_isQuiet_77 : decode b_M_isQuiet 77 = .ok (.goto 4, 3) := by decide +kernel
theorem d_M_isQuiet_80 : decode b_M_isQuiet 80 = .ok (.iconst 0, 1) := by decide +kernel
theorem d_M_isQuiet_81 : decode b_M_isQuiet 81 = .ok (.ireturn, 1) := by decide +kernel
theorem d_M_channelOf_0 : decode b_M_channelOf 0 = .ok (.aload_n 0, 1) := by decide +kernel
theorem d_M_channelOf_1 : decode b_M_channelOf 1 = .ok (.getfield 35, 3) := by decide +kernel
theorem d_M_channelOf_4 : decode b_M_channelOf 4 = .ok (.iload_n 1, 1) := by decide +kernel
theorem d_M_channelOf_5 : decode b_M_channelOf 5 = .ok (.iaload, 1) := by decide +kernel
theorem d_M_channelOf_6 : decode b_M_channelOf 6 = .ok (.iconst 4, 1) := by decide +kernel
theorem d_M_channelOf_7 : decode b_M_channelOf 7 = .ok (.if_icmp .ne 38, 3) := by decide +kernel
theorem d_M_channelOf_10 : decode b_M_channelOf 10 = .ok (.aload_n 0, 1) := by decide +kernel
theorem d_M_channelOf_11 : decode b_M_channelOf 11 = .ok (.getfield 7, 3) := by decide +kernel
theorem d_M_channelOf_14 : decode b_M_channelOf 14 = .ok (.iconst 0, 1) := by decide +kernel
theorem d_M_channelOf_15 : decode b_M_channelOf 15 = .ok (.baload, 1) := by decide +kernel
theorem d_M_channelOf_16 : decode b_M_channelOf 16 = .ok (.ifCond .ne 23, 3) := by decide +kernel
theorem d_M_channelOf_19 : decode b_M_channelOf 19 = .ok (.aload_n 0, 1) := by decide +kernel
theorem d_M_channelOf_20 : decode b_M_channelOf 20 = .ok (.getfield 26, 3) := by decide +kernel
theorem d_M_channelOf_23 : decode b_M_channelOf 23 = .ok (.bipush 32, 2) := by decide +kernel
theorem d_M_channelOf_25 : decode b_M_channelOf 25 = .ok (.aload_n 0, 1) := by decide +kernel
theorem d_M_channelOf_26 : decode b_M_channelOf 26 = .ok (.getfield 29, 3) := by decide +kernel
theorem d_M_channelOf_29 : decode b_M_channelOf 29 = .ok (.iload_n 1, 1) := by decide +kernel
theorem d_M_channelOf_30 : decode b_M_channelOf 30 = .ok (.iaload, 1) := by decide +kernel
theorem d_M_channelOf_31 : decode b_M_channelOf 31 = .ok (.imul, 1) := by decide +kernel
theorem d_M_channelOf_32 : decode b_M_channelOf 32 = .ok (.bipush 16, 2) := by decide +kernel
theorem d_M_channelOf_34 : decode b_M_channelOf 34 = .ok (.iadd, 1) := by decide +kernel
theorem d_M_channelOf_35 : decode b_M_channelOf 35 = .ok (.iaload, 1) := by decide +kernel
theorem d_M_channelOf_36 : decode b_M_channelOf 36 = .ok (.ifCond .ne 7, 3) := by decide +kernel
theorem d_M_channelOf_39 : decode b_M_channelOf 39 = .ok (.iconst (-1), 1) := by decide +kernel
theorem d_M_channelOf_40 : decode b_M_channelOf 40 = .ok (.goto 4, 3) := by decide +kernel
theorem d_M_channelOf_43 : decode b_M_channelOf 43 = .ok (.iconst 0, 1) := by decide +kernel
theorem d_M_channelOf_44 : decode b_M_channelOf 44 = .ok (.ireturn, 1) := by decide +kernel
theorem d_M_channelOf_45 : decode b_M_channelOf 45 = .ok (.iconst (-1), 1) := by decide +kernel
theorem d_M_channelOf_46 : decode b_M_channelOf 46 = .ok (.istore_n 2, 1) := by decide +kernel
theorem d_M_channelOf_47 : decode b_M_channelOf 47 = .ok (.iconst 0, 1) := by decide +kernel
theorem d_M_channelOf_48 : decode b_M_channelOf 48 = .ok (.istore_n 3, 1) := by decide +kernel
theorem d_M_channelOf_49 : decode b_M_channelOf 49 = .ok (.iload_n 3, 1) := by decide +kernel
theorem d_M_channelOf_50 : decode b_M_channelOf 50 = .ok (.iconst 4, 1) := by decide +kernel
theorem d_M_channelOf_51 : decode b_M_channelOf 51 = .ok (.if_icmp .ge 98, 3) := by decide +kernel
theorem d_M_channelOf_54 : decode b_M_channelOf 54 = .ok (.aload_n 0, 1) := by decide +kernel
theorem d_M_channelOf_55 : decode b_M_channelOf 55 = .ok (.getfield 26, 3) := by decide +kernel
theorem d_M_channelOf_58 : decode b_M_channelOf 58 = .ok (.bipush 32, 2) := by decide +kernel
theorem d_M_channelOf_60 : decode b_M_channelOf 60 = .ok (.aload_n 0, 1) := by decide +kernel
theorem d_M_channelOf_61 : decode b_M_channelOf 61 = .ok (.getfield 29, 3) := by decide +kernel
theorem d_M_channelOf_64 : decode b_M_channelOf 64 = .ok (.iload_n 1, 1) := by decide +kernel
theorem d_M_channelOf_65 : decode b_M_channelOf 65 = .ok (.iaload, 1) := by decide +kernel
theorem d_M_channelOf_66 : decode b_M_channelOf 66 = .ok (.imul, 1) := by decide +kernel
theorem d_M_channelOf_67 : decode b_M_channelOf 67 = .ok (.iconst 4, 1) := by decide +kernel
theorem d_M_channelOf_68 : decode b_M_channelOf 68 = .ok (.aload_n 0, 1) := by decide +kernel
theorem d_M_channelOf_69 : decode b_M_channelOf 69 = .ok (.getfield 35, 3) := by decide +kernel
theorem d_M_channelOf_72 : decode b_M_channelOf 72 = .ok (.iload_n 1, 1) := by decide +kernel
theorem d_M_channelOf_73 : decode b_M_channelOf 73 = .ok (.iaload, 1) := by decide +kernel
theorem d_M_channelOf_74 : decode b_M_channelOf 74 = .ok (.imul, 1) := by decide +kernel
theorem d_M_channelOf_75 : decode b_M_channelOf 75 = .ok (.iadd, 1) := by decide +kernel
theorem d_M_channelOf_76 : decode b_M_channelOf 76 = .ok (.iload_n 3, 1) := by decide +kernel
theorem d_M_channelOf_77 : decode b_M_channelOf 77 = .ok (.iadd, 1) := by decide +kernel
theorem d_M_channelOf_78 : decode b_M_channelOf 78 = .ok (.iaload, 1) := by decide +kernel
theorem d_M_channelOf_79 : decode b_M_channelOf 79 = .ok (.istore 4, 2) := by decide +kernel
theorem d_M_channelOf_81 : decode b_M_channelOf 81 = .ok (.iload 4, 2) := by decide +kernel
theorem d_M_channelOf_83 : decode b_M_channelOf 83 = .ok (.ifCond .le 16, 3) := by decide +kernel
theorem d_M_channelOf_86 : decode b_M_channelOf 86 = .ok (.aload_n 0, 1) := by decide +kernel
theorem d_M_channelOf_87 : decode b_M_channelOf 87 = .ok (.getfield 7, 3) := by decide +kernel
theorem d_M_channelOf_90 : decode b_M_channelOf 90 = .ok (.iload_n 3, 1) := by decide +kernel
theorem d_M_channelOf_91 : decode b_M_channelOf 91 = .ok (.baload, 1) := by decide +kernel
theorem d_M_channelOf_92 : decode b_M_channelOf 92 = .ok (.ifCond .ne 7, 3) := by decide +kernel
theorem d_M_channelOf_95 : decode b_M_channelOf 95 = .ok (.iconst 1, 1) := by decide +kernel
theorem d_M_channelOf_96 : decode b_M_channelOf 96 = .ok (.goto 4, 3) := by decide +kernel
theorem d_M_channelOf_99 : decode b_M_channelOf 99 = .ok (.iconst 0, 1) := by decide +kernel
theorem d_M_channelOf_100 : decode b_M_channelOf 100 = .ok (.istore 5, 2) := by decide +kernel
theorem d_M_channelOf_102 : decode b_M_channelOf 102 = .ok (.iload 5, 2) := by decide +kernel
theorem d_M_channelOf_104 : decode b_M_channelOf 104 = .ok (.ifCond .eq 39, 3) := by decide +kernel
theorem d_M_channelOf_107 : decode b_M_channelOf 107 = .ok (.iload_n 2, 1) := by decide +kernel
theorem d_M_channelOf_108 : decode b_M_channelOf 108 = .ok (.ifCond .lt 33, 3) := by decide +kernel
theorem d_M_channelOf_111 : decode b_M_channelOf 111 = .ok (.iload 4, 2) := by decide +kernel
theorem d_M_channelOf_113 : decode b_M_channelOf 113 = .ok (.aload_n 0, 1) := by decide +kernel
theorem d_M_channelOf_114 : decode b_M_channelOf 114 = .ok (.getfield 26, 3) := by decide +kernel
theorem d_M_channelOf_117 : decode b_M_channelOf 117 = .ok (.bipush 32, 2) := by decide +kernel
theorem d_M_channelOf_119 : decode b_M_channelOf 119 = .ok (.aload_n 0, 1) := by decide +kernel
theorem d_M_channelOf_120 : decode b_M_channelOf 120 = .ok (.getfield 29, 3) := by decide +kernel
theorem d_M_channelOf_123 : decode b_M_channelOf 123 = .ok (.iload_n 1, 1) := by decide +kernel
theorem d_M_channelOf_124 : decode b_M_channelOf 124 = .ok (.iaload, 1) := by decide +kernel
theorem d_M_channelOf_125 : decode b_M_channelOf 125 = .ok (.imul, 1) := by decide +kernel
theorem d_M_channelOf_126 : decode b_M_channelOf 126 = .ok (.iconst 4, 1) := by decide +kernel
theorem d_M_channelOf_127 : decode b_M_channelOf 127 = .ok (.aload_n 0, 1) := by decide +kernel
theorem d_M_channelOf_128 : decode b_M_channelOf 128 = .ok (.getfield 35, 3) := by decide +kernel
theorem d_M_channelOf_131 : decode b_M_channelOf 131 = .ok (.iload_n 1, 1) := by decide +kernel
theorem d_M_channelOf_132 : decode b_M_channelOf 132 = .ok (.iaload, 1) := by decide +kernel
theorem d_M_channelOf_133 : decode b_M_channelOf 133 = .ok (.imul, 1) := by decide +kernel
theorem d_M_channelOf_134 : decode b_M_channelOf 134 = .ok (.iadd, 1) := by decide +kernel
theorem d_M_channelOf_135 : decode b_M_channelOf 135 = .ok (.iload_n 2, 1) := by decide +kernel
theorem d_M_channelOf_136 : decode b_M_channelOf 136 = .ok (.iadd, 1) := by decide +kernel
theorem d_M_channelOf_137 : decode b_M_channelOf 137 = .ok (.iaload, 1) := by decide +kernel
theorem d_M_channelOf_138 : decode b_M_channelOf 138 = .ok (.if_icmp .ge 5, 3) := by decide +kernel
theorem d_M_channelOf_141 : decode b_M_channelOf 141 = .ok (.iload_n 3, 1) := by decide +kernel
theorem d_M_channelOf_142 : decode b_M_channelOf 142 = .ok (.istore_n 2, 1) := by decide +kernel
theorem d_M_channelOf_143 : decode b_M_channelOf 143 = .ok (.iinc 3 1, 3) := by decide +kernel
theorem d_M_channelOf_146 : decode b_M_channelOf 146 = .ok (.goto (-97), 3) := by decide +kernel
theorem d_M_channelOf_149 : decode b_M_channelOf 149 = .ok (.iload_n 2, 1) := by decide +kernel
theorem d_M_channelOf_150 : decode b_M_channelOf 150 = .ok (.ireturn, 1) := by decide +kernel
theorem d_M_sent_0 : decode b_M_sent 0 = .ok (.iload_n 2, 1) := by decide +kernel
theorem d_M_sent_1 : decode b_M_sent 1 = .ok (.i2l, 1) := by decide +kernel
theorem d_M_sent_2 : decode b_M_sent 2 = .ok (.lconst 0, 1) := by decide +kernel
theorem d_M_sent_3 : decode b_M_sent 3 = .ok (.ldc2_w 170, 3) := by decide +kernel
theorem d_M_sent_6 : decode b_M_sent 6 = .ok (.invokestatic 91, 3) := by decide +kernel
theorem d_M_sent_9 : decode b_M_sent 9 = .ok (.ifCond .ne 6, 3) := by decide +kernel
theorem d_M_sent_12 : decode b_M_sent 12 = .ok (.bipush (-12), 2) := by decide +kernel
theorem d_M_sent_14 : decode b_M_sent 14 = .ok (.ireturn, 1) := by decide +kernel
theorem d_M_sent_15 : decode b_M_sent 15 = .ok (.iload_n 1, 1) := by decide +kernel
theorem d_M_sent_16 : decode b_M_sent 16 = .ok (.i2l, 1) := by decide +kernel
theorem d_M_sent_17 : decode b_M_sent 17 = .ok (.lconst 0, 1) := by decide +kernel
theorem d_M_sent_18 : decode b_M_sent 18 = .ok (.aload_n 0, 1) := by decide +kernel
theorem d_M_sent_19 : decode b_M_sent 19 = .ok (.getfield 167, 3) := by decide +kernel
theorem d_M_sent_22 : decode b_M_sent 22 = .ok (.iconst 1, 1) := by decide +kernel
theorem d_M_sent_23 : decode b_M_sent 23 = .ok (.isub, 1) := by decide +kernel
theorem d_M_sent_24 : decode b_M_sent 24 = .ok (.i2l, 1) := by decide +kernel
theorem d_M_sent_25 : decode b_M_sent 25 = .ok (.invokestatic 91, 3) := by decide +kernel
theorem d_M_sent_28 : decode b_M_sent 28 = .ok (.ifCond .ne 5, 3) := by decide +kernel
theorem d_M_sent_31 : decode b_M_sent 31 = .ok (.iconst (-1), 1) := by decide +kernel
theorem d_M_sent_32 : decode b_M_sent 32 = .ok (.ireturn, 1) := by decide +kernel
theorem d_M_sent_33 : decode b_M_sent 33 = .ok (.aload_n 0, 1) := by decide +kernel
theorem d_M_sent_34 : decode b_M_sent 34 = .ok (.getfield 66, 3) := by decide +kernel
theorem d_M_sent_37 : decode b_M_sent 37 = .ok (.iload_n 1, 1) := by decide +kernel
theorem d_M_sent_38 : decode b_M_sent 38 = .ok (.iaload, 1) := by decide +kernel
theorem d_M_sent_39 : decode b_M_sent 39 = .ok (.istore_n 3, 1) := by decide +kernel
theorem d_M_sent_40 : decode b_M_sent 40 = .ok (.iload_n 2, 1) := by decide +kernel
theorem d_M_sent_41 : decode b_M_sent 41 = .ok (.tableswitch 131 0 7 #[47, 49, 56, 63, 70, 77, 116, 123], 47) := by decide +kernel
theorem d_M_sent_88 : decode b_M_sent 88 = .ok (.iload_n 3, 1) := by decide +kernel
theorem d_M_sent_89 : decode b_M_sent 89 = .ok (.ireturn, 1) := by decide +kernel
theorem d_M_sent_90 : decode b_M_sent 90 = .ok (.aload_n 0, 1) := by decide +kernel
theorem d_M_sent_91 : decode b_M_sent 91 = .ok (.getfield 29, 3) := by decide +kernel
theorem d_M_sent_94 : decode b_M_sent 94 = .ok (.iload_n 3, 1) := by decide +kernel
theorem d_M_sent_95 : decode b_M_sent 95 = .ok (.iaload, 1) := by decide +kernel
theorem d_M_sent_96 : decode b_M_sent 96 = .ok (.ireturn, 1) := by decide +kernel
theorem d_M_sent_97 : decode b_M_sent 97 = .ok (.aload_n 0, 1) := by decide +kernel
theorem d_M_sent_98 : decode b_M_sent 98 = .ok (.getfield 32, 3) := by decide +kernel
theorem d_M_sent_101 : decode b_M_sent 101 = .ok (.iload_n 3, 1) := by decide +kernel
theorem d_M_sent_102 : decode b_M_sent 102 = .ok (.iaload, 1) := by decide +kernel
theorem d_M_sent_103 : decode b_M_sent 103 = .ok (.ireturn, 1) := by decide +kernel
theorem d_M_sent_104 : decode b_M_sent 104 = .ok (.aload_n 0, 1) := by decide +kernel
theorem d_M_sent_105 : decode b_M_sent 105 = .ok (.getfield 35, 3) := by decide +kernel
theorem d_M_sent_108 : decode b_M_sent 108 = .ok (.iload_n 3, 1) := by decide +kernel
theorem d_M_sent_109 : decode b_M_sent 109 = .ok (.iaload, 1) := by decide +kernel
theorem d_M_sent_110 : decode b_M_sent 110 = .ok (.ireturn, 1) := by decide +kernel
theorem d_M_sent_111 : decode b_M_sent 111 = .ok (.aload_n 0, 1) := by decide +kernel
theorem d_M_sent_112 : decode b_M_sent 112 = .ok (.getfield 69, 3) := by decide +kernel
theorem d_M_sent_115 : decode b_M_sent 115 = .ok (.iload_n 1, 1) := by decide +kernel
theorem d_M_sent_116 : decode b_M_sent 116 = .ok (.iaload, 1) := by decide +kernel
theorem d_M_sent_117 : decode b_M_sent 117 = .ok (.ireturn, 1) := by decide +kernel
theorem d_M_sent_118 : decode b_M_sent 118 = .ok (.bipush 32, 2) := by decide +kernel
theorem d_M_sent_120 : decode b_M_sent 120 = .ok (.aload_n 0, 1) := by decide +kernel
theorem d_M_sent_121 : decode b_M_sent 121 = .ok (.getfield 13, 3) := by decide +kernel
theorem d_M_sent_124 : decode b_M_sent 124 = .ok (.aload_n 0, 1) := by decide +kernel
theorem d_M_sent_125 : decode b_M_sent 125 = .ok (.getfield 29, 3) := by decide +kernel
theorem d_M_sent_128 : decode b_M_sent 128 = .ok (.iload_n 3, 1) := by decide +kernel
theorem d_M_sent_129 : decode b_M_sent 129 = .ok (.iaload, 1) := by decide +kernel
theorem d_M_sent_130 : decode b_M_sent 130 = .ok (.iaload, 1) := by decide +kernel
theorem d_M_sent_131 : decode b_M_sent 131 = .ok (.imul, 1) := by decide +kernel
theorem d_M_sent_132 : decode b_M_sent 132 = .ok (.iconst 2, 1) := by decide +kernel
theorem d_M_sent_133 : decode b_M_sent 133 = .ok (.aload_n 0, 1) := by decide +kernel
theorem d_M_sent_134 : decode b_M_sent 134 = .ok (.getfield 35, 3) := by decide +kernel
theorem d_M_sent_137 : decode b_M_sent 137 = .ok (.iload_n 3, 1) := by decide +kernel
theorem d_M_sent_138 : decode b_M_sent 138 = .ok (.iaload, 1) := by decide +kernel
theorem d_M_sent_139 : decode b_M_sent 139 = .ok (.imul, 1) := by decide +kernel
theorem d_M_sent_140 : decode b_M_sent 140 = .ok (.iadd, 1) := by decide +kernel
theorem d_M_sent_141 : decode b_M_sent 141 = .ok (.aload_n 0, 1) := by decide +kernel
theorem d_M_sent_142 : decode b_M_sent 142 = .ok (.getfield 48, 3) := by decide +kernel
theorem d_M_sent_145 : decode b_M_sent 145 = .ok (.iload_n 3, 1) := by decide +kernel
theorem d_M_sent_146 : decode b_M_sent 146 = .ok (.baload, 1) := by decide +kernel
theorem d_M_sent_147 : decode b_M_sent 147 = .ok (.ifCond .eq 7, 3) := by decide +kernel
theorem d_M_sent_150 : decode b_M_sent 150 = .ok (.iconst 1, 1) := by decide +kernel
theorem d_M_sent_151 : decode b_M_sent 151 = .ok (.goto 4, 3) := by decide +kernel
theorem d_M_sent_154 : decode b_M_sent 154 = .ok (.iconst 0, 1) := by decide +kernel
theorem d_M_sent_155 : decode b_M_sent 155 = .ok (.iadd, 1) := by decide +kernel
theorem d_M_sent_156 : decode b_M_sent 156 = .ok (.ireturn, 1) := by decide +kernel
theorem d_M_sent_157 : decode b_M_sent 157 = .ok (.aload_n 0, 1) := by decide +kernel
theorem d_M_sent_158 : decode b_M_sent 158 = .ok (.getfield 72, 3) := by decide +kernel
theorem d_M_sent_161 : decode b_M_sent 161 = .ok (.iload_n 1, 1) := by decide +kernel
theorem d_M_sent_162 : decode b_M_sent 162 = .ok (.iaload, 1) := by decide +kernel
theorem d_M_sent_163 : decode b_M_sent 163 = .ok (.ireturn, 1) := by decide +kernel
theorem d_M_sent_164 : decode b_M_sent 164 = .ok (.aload_n 0, 1) := by decide +kernel
theorem d_M_sent_165 : decode b_M_sent 165 = .ok (.getfield 75, 3) := by decide +kernel
theorem d_M_sent_168 : decode b_M_sent 168 = .ok (.iload_n 1, 1) := by decide +kernel
theorem d_M_sent_169 : decode b_M_sent 169 = .ok (.laload, 1) := by decide +kernel
theorem d_M_sent_170 : decode b_M_sent 170 = .ok (.l2i, 1) := by decide +kernel
theorem d_M_sent_171 : decode b_M_sent 171 = .ok (.ireturn, 1) := by decide +kernel
theorem d_M_sent_172 : decode b_M_sent 172 = .ok (.aload_n 0, 1) := by decide +kernel
theorem d_M_sent_173 : decode b_M_sent 173 = .ok (.getfield 42, 3) := by decide +kernel
theorem d_M_sent_176 : decode b_M_sent 176 = .ok (.iload_n 3, 1) := by decide +kernel
theorem d_M_sent_177 : decode b_M_sent 177 = .ok (.laload, 1) := by decide +kernel
theorem d_M_sent_178 : decode b_M_sent 178 = .ok (.l2i, 1) := by decide +kernel
theorem d_M_sent_179 : decode b_M_sent 179 = .ok (.ireturn, 1) := by decide +kernel
theorem d_M_works_0 : decode b_M_works 0 = .ok (.iload_n 1, 1) := by decide +kernel
theorem d_M_works_1 : decode b_M_works 1 = .ok (.i2l, 1) := by decide +kernel
theorem d_M_works_2 : decode b_M_works 2 = .ok (.lconst 0, 1) := by decide +kernel
theorem d_M_works_3 : decode b_M_works 3 = .ok (.ldc2_w 113, 3) := by decide +kernel
theorem d_M_works_6 : decode b_M_works 6 = .ok (.invokestatic 91, 3) := by decide +kernel
theorem d_M_works_9 : decode b_M_works 9 = .ok (.ifCond .ne 5, 3) := by decide +kernel
theorem d_M_works_12 : decode b_M_works 12 = .ok (.iconst 0, 1) := by decide +kernel
theorem d_M_works_13 : decode b_M_works 13 = .ok (.ireturn, 1) := by decide +kernel
theorem d_M_works_14 : decode b_M_works 14 = .ok (.aload_n 0, 1) := by decide +kernel
theorem d_M_works_15 : decode b_M_works 15 = .ok (.getfield 7, 3) := by decide +kernel
theorem d_M_works_18 : decode b_M_works 18 = .ok (.iload_n 1, 1) := by decide +kernel
theorem d_M_works_19 : decode b_M_works 19 = .ok (.baload, 1) := by decide +kernel
theorem d_M_works_20 : decode b_M_works 20 = .ok (.ifCond .ne 7, 3) := by decide +kernel
theorem d_M_works_23 : decode b_M_works 23 = .ok (.iconst 1, 1) := by decide +kernel
theorem d_M_works_24 : decode b_M_works 24 = .ok (.goto 4, 3) := by decide +kernel
theorem d_M_works_27 : decode b_M_works 27 = .ok (.iconst 0, 1) := by decide +kernel
theorem d_M_works_28 : decode b_M_works 28 = .ok (.istore_n 3, 1) := by decide +kernel
theorem d_M_works_29 : decode b_M_works 29 = .ok (.aload_n 0, 1) := by decide +kernel
theorem d_M_works_30 : decode b_M_works 30 = .ok (.getfield 7, 3) := by decide +kernel
theorem d_M_works_33 : decode b_M_works 33 = .ok (.iload_n 1, 1) := by decide +kernel
theorem d_M_works_34 : decode b_M_works 34 = .ok (.iload_n 2, 1) := by decide +kernel
theorem d_M_works_35 : decode b_M_works 35 = .ok (.ifCond .ne 7, 3) := by decide +kernel
theorem d_M_works_38 : decode b_M_works 38 = .ok (.iconst 1, 1) := by decide +kernel
theorem d_M_works_39 : decode b_M_works 39 = .ok (.goto 4, 3) := by decide +kernel
theorem d_M_works_42 : decode b_M_works 42 = .ok (.iconst 0, 1) := by decide +kernel
theorem d_M_works_43 : decode b_M_works 43 = .ok (.bastore, 1) := by decide +kernel
theorem d_M_works_44 : decode b_M_works 44 = .ok (.iload_n 3, 1) := by decide +kernel
theorem d_M_works_45 : decode b_M_works 45 = .ok (.ireturn, 1) := by decide +kernel
theorem d_M_out_0 : decode b_M_out 0 = .ok (.aload_n 0, 1) := by decide +kernel
theorem d_M_out_1 : decode b_M_out 1 = .ok (.iload_n 1, 1) := by decide +kernel
theorem d_M_out_2 : decode b_M_out 2 = .ok (.invokevirtual 107, 3) := by decide +kernel
theorem d_M_out_5 : decode b_M_out 5 = .ok (.ifCond .ne 6, 3) := by decide +kernel
theorem d_M_out_8 : decode b_M_out 8 = .ok (.bipush (-11), 2) := by decide +kernel
theorem d_M_out_10 : decode b_M_out 10 = .ok (.ireturn, 1) := by decide +kernel
theorem d_M_out_11 : decode b_M_out 11 = .ok (.iload_n 2, 1) := by decide +kernel
theorem d_M_out_12 : decode b_M_out 12 = .ok (.i2l, 1) := by decide +kernel
theorem d_M_out_13 : decode b_M_out 13 = .ok (.lconst 0, 1) := by decide +kernel
theorem d_M_out_14 : decode b_M_out 14 = .ok (.ldc2_w 111, 3) := by decide +kernel
theorem d_M_out_17 : decode b_M_out 17 = .ok (.invokestatic 91, 3) := by decide +kernel
theorem d_M_out_20 : decode b_M_out 20 = .ok (.ifCond .ne 6, 3) := by decide +kernel
theorem d_M_out_23 : decode b_M_out 23 = .ok (.bipush (-12), 2) := by decide +kernel
theorem d_M_out_25 : decode b_M_out 25 = .ok (.ireturn, 1) := by decide +kernel
theorem d_M_out_26 : decode b_M_out 26 = .ok (.iconst 0, 1) := by decide +kernel
theorem d_M_out_27 : decode b_M_out 27 = .ok (.istore_n 3, 1) := by decide +kernel
theorem d_M_out_28 : decode b_M_out 28 = .ok (.iload_n 3, 1) := by decide +kernel
theorem d_M_out_29 : decode b_M_out 29 = .ok (.iconst 4, 1) := by decide +kernel
theorem d_M_out_30 : decode b_M_out 30 = .ok (.if_icmp .ge 25, 3) := by decide +kernel
theorem d_M_out_33 : decode b_M_out 33 = .ok (.aload_n 0, 1) := by decide +kernel
theorem d_M_out_34 : decode b_M_out 34 = .ok (.getfield 26, 3) := by decide +kernel
theorem d_M_out_37 : decode b_M_out 37 = .ok (.bipush 32, 2) := by decide +kernel
theorem d_M_out_39 : decode b_M_out 39 = .ok (.iload_n 1, 1) := by decide +kernel
theorem d_M_out_40 : decode b_M_out 40 = .ok (.imul, 1) := by decide +kernel
theorem d_M_out_41 : decode b_M_out 41 = .ok (.iconst 4, 1) := by decide +kernel
theorem d_M_out_42 : decode b_M_out 42 = .ok (.iload_n 2, 1) := by decide +kernel
theorem d_M_out_43 : decode b_M_out 43 = .ok (.imul, 1) := by decide +kernel
theorem d_M_out_44 : decode b_M_out 44 = .ok (.iadd, 1) := by decide +kernel
theorem d_M_out_45 : decode b_M_out 45 = .ok (.iload_n 3, 1) := by decide +kernel
theorem d_M_out_46 : decode b_M_out 46 = .ok (.iadd, 1) := by decide +kernel
theorem d_M_out_47 : decode b_M_out 47 = .ok (.iconst 0, 1) := by decide +kernel
theorem d_M_out_48 : decode b_M_out 48 = .ok (.iastore, 1) := by decide +kernel
theorem d_M_out_49 : decode b_M_out 49 = .ok (.iinc 3 1, 3) := by decide +kernel
theorem d_M_out_52 : decode b_M_out 52 = .ok (.goto (-24), 3) := by decide +kernel
theorem d_M_out_55 : decode b_M_out 55 = .ok (.iconst 0, 1) := by decide +kernel
theorem d_M_out_56 : decode b_M_out 56 = .ok (.istore_n 3, 1) := by decide +kernel
theorem d_M_out_57 : decode b_M_out 57 = .ok (.iconst 1, 1) := by decide +kernel
theorem d_M_out_58 : decode b_M_out 58 = .ok (.istore 4, 2) := by decide +kernel
theorem d_M_out_60 : decode b_M_out 60 = .ok (.iload 4, 2) := by decide +kernel
theorem d_M_out_62 : decode b_M_out 62 = .ok (.aload_n 0, 1) := by decide +kernel
theorem d_M_out_63 : decode b_M_out 63 = .ok (.getfield 129, 3) := by decide +kernel
theorem d_M_out_66 : decode b_M_out 66 = .ok (.if_icmp .gt 52, 3) := by decide +kernel
theorem d_M_out_69 : decode b_M_out 69 = .ok (.aload_n 0, 1) := by decide +kernel
theorem d_M_out_70 : decode b_M_out 70 = .ok (.getfield 45, 3) := by decide +kernel
theorem d_M_out_73 : decode b_M_out 73 = .ok (.iload 4, 2) := by decide +kernel
theorem d_M_out_75 : decode b_M_out 75 = .ok (.iaload, 1) := by decide +kernel
theorem d_M_out_76 : decode b_M_out 76 = .ok (.ifCond .ne 36, 3) := by decide +kernel
theorem d_M_out_79 : decode b_M_out 79 = .ok (.aload_n 0, 1) := by decide +kernel
theorem d_M_out_80 : decode b_M_out 80 = .ok (.getfield 29, 3) := by decide +kernel
theorem d_M_out_83 : decode b_M_out 83 = .ok (.iload 4, 2) := by decide +kernel
theorem d_M_out_85 : decode b_M_out 85 = .ok (.iaload, 1) := by decide +kernel
theorem d_M_out_86 : decode b_M_out 86 = .ok (.iload_n 1, 1) := by decide +kernel
theorem d_M_out_87 : decode b_M_out 87 = .ok (.if_icmp .ne 25, 3) := by decide +kernel
theorem d_M_out_90 : decode b_M_out 90 = .ok (.aload_n 0, 1) := by decide +kernel
theorem d_M_out_91 : decode b_M_out 91 = .ok (.getfield 35, 3) := by decide +kernel
theorem d_M_out_94 : decode b_M_out 94 = .ok (.iload 4, 2) := by decide +kernel
theorem d_M_out_96 : decode b_M_out 96 = .ok (.iaload, 1) := by decide +kernel
theorem d_M_out_97 : decode b_M_out 97 = .ok (.iload_n 2, 1) := by decide +kernel
theorem d_M_out_98 : decode b_M_out 98 = .ok (.if_icmp .ne 14, 3) := by decide +kernel
theorem d_M_out_101 : decode b_M_out 101 = .ok (.aload_n 0, 1) := by decide +kernel
theorem d_M_out_102 : decode b_M_out 102 = .ok (.getfield 45, 3) := by decide +kernel
theorem d_M_out_105 : decode b_M_out 105 = .ok (.iload 4, 2) := by decide +kernel
theorem d_M_out_107 : decode b_M_out 107 = .ok (.iconst 3, 1) := by decide +kernel
theorem d_M_out_108 : decode b_M_out 108 = .ok (.iastore, 1) := by decide +kernel
theorem d_M_out_109 : decode b_M_out 109 = .ok (.iinc 3 1, 3) := by decide +kernel
theorem d_M_out_112 : decode b_M_out 112 = .ok (.iinc 4 1, 3) := by decide +kernel
theorem d_M_out_115 : decode b_M_out 115 = .ok (.goto (-55), 3) := by decide +kernel
theorem d_M_out_118 : decode b_M_out 118 = .ok (.iload_n 3, 1) := by decide +kernel
theorem d_M_out_119 : decode b_M_out 119 = .ok (.ireturn, 1) := by decide +kernel
theorem d_M_failed_0 : decode b_M_failed 0 = .ok (.iload_n 1, 1) := by decide +kernel
theorem d_M_failed_1 : decode b_M_failed 1 = .ok (.i2l, 1) := by decide +kernel
theorem d_M_failed_2 : decode b_M_failed 2 = .ok (.lconst 0, 1) := by decide +kernel
theorem d_M_failed_3 : decode b_M_failed 3 = .ok (.aload_n 0, 1) := by decide +kernel
theorem d_M_failed_4 : decode b_M_failed 4 = .ok (.getfield 164, 3) := by decide +kernel
theorem d_M_failed_7 : decode b_M_failed 7 = .ok (.iconst 1, 1) := by decide +kernel
theorem d_M_failed_8 : decode b_M_failed 8 = .ok (.isub, 1) := by decide +kernel
theorem d_M_failed_9 : decode b_M_failed 9 = .ok (.i2l, 1) := by decide +kernel
theorem d_M_failed_10 : decode b_M_failed 10 = .ok (.invokestatic 91, 3) := by decide +kernel
theorem d_M_failed_13 : decode b_M_failed 13 = .ok (.ifCond .eq 12, 3) := by decide +kernel
theorem d_M_failed_16 : decode b_M_failed 16 = .ok (.aload_n 0, 1) := by decide +kernel
theorem d_M_failed_17 : decode b_M_failed 17 = .ok (.getfield 78, 3) := by decide +kernel
theorem d_M_failed_20 : decode b_M_failed 20 = .ok (.iload_n 1, 1) := by decide +kernel
theorem d_M_failed_21 : decode b_M_failed 21 = .ok (.iaload, 1) := by decide +kernel
theorem d_M_failed_22 : decode b_M_failed 22 = .ok (.goto 4, 3) := by decide +kernel
theorem d_M_failed_25 : decode b_M_failed 25 = .ok (.iconst (-1), 1) := by decide +kernel
theorem d_M_failed_26 : decode b_M_failed 26 = .ok (.ireturn, 1) := by decide +kernel
theorem d_M_correct_0 : decode b_M_correct 0 = .ok (.iload_n 1, 1) := by decide +kernel
theorem d_M_correct_1 : decode b_M_correct 1 = .ok (.i2l, 1) := by decide +kernel
theorem d_M_correct_2 : decode b_M_correct 2 = .ok (.lconst 1, 1) := by decide +kernel
theorem d_M_correct_3 : decode b_M_correct 3 = .ok (.aload_n 0, 1) := by decide +kernel
theorem d_M_correct_4 : decode b_M_correct 4 = .ok (.getfield 129, 3) := by decide +kernel
theorem d_M_correct_7 : decode b_M_correct 7 = .ok (.i2l, 1) := by decide +kernel
theorem d_M_correct_8 : decode b_M_correct 8 = .ok (.invokestatic 91, 3) := by decide +kernel
theorem d_M_correct_11 : decode b_M_correct 11 = .ok (.ifCond .ne 6, 3) := by decide +kernel
theorem d_M_correct_14 : decode b_M_correct 14 = .ok (.bipush (-11), 2) := by decide +kernel
theorem d_M_correct_16 : decode b_M_correct 16 = .ok (.ireturn, 1) := by decide +kernel
theorem d_M_correct_17 : decode b_M_correct 17 = .ok (.aload_n 0, 1) := by decide +kernel
theorem d_M_correct_18 : decode b_M_correct 18 = .ok (.lload_n 2, 1) := by decide +kernel
theorem d_M_correct_19 : decode b_M_correct 19 = .ok (.invokevirtual 134, 3) := by decide +kernel
theorem d_M_correct_22 : decode b_M_correct 22 = .ok (.ifCond .ne 6, 3) := by decide +kernel
theorem d_M_correct_25 : decode b_M_correct 25 = .ok (.bipush (-12), 2) := by decide +kernel
theorem d_M_correct_27 : decode b_M_correct 27 = .ok (.ireturn, 1) := by decide +kernel
theorem d_M_correct_28 : decode b_M_correct 28 = .ok (.aload_n 0, 1) := by decide +kernel
theorem d_M_correct_29 : decode b_M_correct 29 = .ok (.getfield 45, 3) := by decide +kernel
theorem d_M_correct_32 : decode b_M_correct 32 = .ok (.iload_n 1, 1) := by decide +kernel
theorem d_M_correct_33 : decode b_M_correct 33 = .ok (.iaload, 1) := by decide +kernel
theorem d_M_correct_34 : decode b_M_correct 34 = .ok (.iconst 2, 1) := by decide +kernel
theorem d_M_correct_35 : decode b_M_correct 35 = .ok (.if_icmp .eq 31, 3) := by decide +kernel
theorem d_M_correct_38 : decode b_M_correct 38 = .ok (.aload_n 0, 1) := by decide +kernel
theorem d_M_correct_39 : decode b_M_correct 39 = .ok (.getfield 45, 3) := by decide +kernel
theorem d_M_correct_42 : decode b_M_correct 42 = .ok (.iload_n 1, 1) := by decide +kernel
theorem d_M_correct_43 : decode b_M_correct 43 = .ok (.iaload, 1) := by decide +kernel
theorem d_M_correct_44 : decode b_M_correct 44 = .ok (.iconst 3, 1) := by decide +kernel
theorem d_M_correct_45 : decode b_M_correct 45 = .ok (.if_icmp .eq 21, 3) := by decide +kernel
theorem d_M_correct_48 : decode b_M_correct 48 = .ok (.aload_n 0, 1) := by decide +kernel
theorem d_M_correct_49 : decode b_M_correct 49 = .ok (.getfield 51, 3) := by decide +kernel
theorem d_M_correct_52 : decode b_M_correct 52 = .ok (.iload_n 1, 1) := by decide +kernel
theorem d_M_correct_53 : decode b_M_correct 53 = .ok (.baload, 1) := by decide +kernel
theorem d_M_correct_54 : decode b_M_correct 54 = .ok (.ifCond .ne 12, 3) := by decide +kernel
theorem d_M_correct_57 : decode b_M_correct 57 = .ok (.aload_n 0, 1) := by decide +kernel
theorem d_M_correct_58 : decode b_M_correct 58 = .ok (.getfield 48, 3) := by decide +kernel
theorem d_M_correct_61 : decode b_M_correct 61 = .ok (.iload_n 1, 1) := by decide +kernel
theorem d_M_correct_62 : decode b_M_correct 62 = .ok (.baload, 1) := by decide +kernel
theorem d_M_correct_63 : decode b_M_correct 63 = .ok (.ifCond .eq 6, 3) := by decide +kernel
theorem d_M_correct_66 : decode b_M_correct 66 = .ok (.bipush (-13), 2) := by decide +kernel
theorem d_M_correct_68 : decode b_M_correct 68 = .ok (.ireturn, 1) := by decide +kernel
theorem d_M_correct_69 : decode b_M_correct 69 = .ok (.aload_n 0, 1) := by decide +kernel
theorem d_M_correct_70 : decode b_M_correct 70 = .ok (.getfield 45, 3) := by decide +kernel
theorem d_M_correct_73 : decode b_M_correct 73 = .ok (.iload_n 1, 1) := by decide +kernel
theorem d_M_correct_74 : decode b_M_correct 74 = .ok (.iaload, 1) := by decide +kernel
theorem d_M_correct_75 : decode b_M_correct 75 = .ok (.ifCond .ne 17, 3) := by decide +kernel
theorem d_M_correct_78 : decode b_M_correct 78 = .ok (.aload_n 0, 1) := by decide +kernel
theorem d_M_correct_79 : decode b_M_correct 79 = .ok (.getfield 45, 3) := by decide +kernel
theorem d_M_correct_82 : decode b_M_correct 82 = .ok (.iload_n 1, 1) := by decide +kernel
theorem d_M_correct_83 : decode b_M_correct 83 = .ok (.iconst 3, 1) := by decide +kernel
theorem d_M_correct_84 : decode b_M_correct 84 = .ok (.iastore, 1) := by decide +kernel
theorem d_M_correct_85 : decode b_M_correct 85 = .ok (.aload_n 0, 1) := by decide +kernel
theorem d_M_correct_86 : decode b_M_correct 86 = .ok (.iload_n 1, 1) := by decide +kernel
theorem d_M_correct_87 : decode b_M_correct 87 = .ok (.invokevirtual 172, 3) := by decide +kernel
theorem d_M_correct_90 : decode b_M_correct 90 = .ok (.iconst 0, 1) := by decide +kernel
theorem d_M_correct_91 : decode b_M_correct 91 = .ok (.ireturn, 1) := by decide +kernel
theorem d_M_correct_92 : decode b_M_correct 92 = .ok (.aload_n 0, 1) := by decide +kernel
theorem d_M_correct_93 : decode b_M_correct 93 = .ok (.aload_n 0, 1) := by decide +kernel
theorem d_M_correct_94 : decode b_M_correct 94 = .ok (.getfield 29, 3) := by decide +kernel
theorem d_M_correct_97 : decode b_M_correct 97 = .ok (.iload_n 1, 1) := by decide +kernel
theorem d_M_correct_98 : decode b_M_correct 98 = .ok (.iaload, 1) := by decide +kernel
theorem d_M_correct_99 : decode b_M_correct 99 = .ok (.aload_n 0, 1) := by decide +kernel
theorem d_M_correct_100 : decode b_M_correct 100 = .ok (.getfield 35, 3) := by decide +kernel
theorem d_M_correct_103 : decode b_M_correct 103 = .ok (.iload_n 1, 1) := by decide +kernel
theorem d_M_correct_104 : decode b_M_correct 104 = .ok (.iaload, 1) := by decide +kernel
theorem d_M_correct_105 : decode b_M_correct 105 = .ok (.invokevirtual 115, 3) := by decide +kernel
theorem d_M_correct_108 : decode b_M_correct 108 = .ok (.ifCond .le 7, 3) := by decide +kernel
theorem d_M_correct_111 : decode b_M_correct 111 = .ok (.iconst 1, 1) := by decide +kernel
theorem d_M_correct_112 : decode b_M_correct 112 = .ok (.goto 4, 3) := by decide +kernel
theorem d_M_correct_115 : decode b_M_correct 115 = .ok (.iconst 0, 1) := by decide +kernel
theorem d_M_correct_116 : decode b_M_correct 116 = .ok (.istore 4, 2) := by decide +kernel
theorem d_M_correct_118 : decode b_M_correct 118 = .ok (.iload 4, 2) := by decide +kernel
theorem d_M_correct_120 : decode b_M_correct 120 = .ok (.ifCond .eq 16, 3) := by decide +kernel
theorem d_M_correct_123 : decode b_M_correct 123 = .ok (.aload_n 0, 1) := by decide +kernel
theorem d_M_correct_124 : decode b_M_correct 124 = .ok (.getfield 129, 3) := by decide +kernel
theorem d_M_correct_127 : decode b_M_correct 127 = .ok (.sipush 200, 3) := by decide +kernel
theorem d_M_correct_130 : decode b_M_correct 130 = .ok (.if_icmp .ne 6, 3) := by decide +kernel
theorem d_M_correct_133 : decode b_M_correct 133 = .ok (.bipush (-14), 2) := by decide +kernel
theorem d_M_correct_135 : decode b_M_correct 135 = .ok (.ireturn, 1) := by decide +kernel
theorem d_M_correct_136 : decode b_M_correct 136 = .ok (.aload_n 0, 1) := by decide +kernel
theorem d_M_correct_137 : decode b_M_correct 137 = .ok (.getfield 51, 3) := by decide +kernel
theorem d_M_correct_140 : decode b_M_correct 140 = .ok (.iload_n 1, 1) := by decide +kernel
theorem d_M_correct_141 : decode b_M_correct 141 = .ok (.iconst 1, 1) := by decide +kernel
theorem d_M_correct_142 : decode b_M_correct 142 = .ok (.bastore, 1) := by decide +kernel
theorem d_M_correct_143 : decode b_M_correct 143 = .ok (.aload_n 0, 1) := by decide +kernel
theorem d_M_correct_144 : decode b_M_correct 144 = .ok (.iload_n 1, 1) := by decide +kernel
theorem d_M_correct_145 : decode b_M_correct 145 = .ok (.invokevirtual 172, 3) := by decide +kernel
theorem d_M_correct_148 : decode b_M_correct 148 = .ok (.iload 4, 2) := by decide +kernel
theorem d_M_correct_150 : decode b_M_correct 150 = .ok (.ifCond .eq 33, 3) := by decide +kernel
theorem d_M_correct_153 : decode b_M_correct 153 = .ok (.aload_n 0, 1) := by decide +kernel
theorem d_M_correct_154 : decode b_M_correct 154 = .ok (.aload_n 0, 1) := by decide +kernel
theorem d_M_correct_155 : decode b_M_correct 155 = .ok (.getfield 29, 3) := by decide +kernel
theorem d_M_correct_158 : decode b_M_correct 158 = .ok (.iload_n 1, 1) := by decide +kernel
theorem d_M_correct_159 : decode b_M_correct 159 = .ok (.iaload, 1) := by decide +kernel
theorem d_M_correct_160 : decode b_M_correct 160 = .ok (.aload_n 0, 1) := by decide +kernel
theorem d_M_correct_161 : decode b_M_correct 161 = .ok (.getfield 32, 3) := by decide +kernel
theorem d_M_correct_164 : decode b_M_correct 164 = .ok (.iload_n 1, 1) := by decide +kernel
theorem d_M_correct_165 : decode b_M_correct 165 = .ok (.iaload, 1) := by decide +kernel
theorem d_M_correct_166 : decode b_M_correct 166 = .ok (.aload_n 0, 1) := by decide +kernel
theorem d_M_correct_167 : decode b_M_correct 167 = .ok (.getfield 35, 3) := by decide +kernel
theorem d_M_correct_170 : decode b_M_correct 170 = .ok (.iload_n 1, 1) := by decide +kernel
theorem d_M_correct_171 : decode b_M_correct 171 = .ok (.iaload, 1) := by decide +kernel
theorem d_M_correct_172 : decode b_M_correct 172 = .ok (.lload_n 2, 1) := by decide +kernel
theorem d_M_correct_173 : decode b_M_correct 173 = .ok (.ldc2_w 141, 3) := by decide +kernel
theorem d_M_correct_176 : decode b_M_correct 176 = .ok (.iconst 1, 1) := by decide +kernel
theorem d_M_correct_177 : decode b_M_correct 177 = .ok (.invokevirtual 143, 3) := by decide +kernel
theorem d_M_correct_180 : decode b_M_correct 180 = .ok (.goto 4, 3) := by decide +kernel
theorem d_M_correct_183 : decode b_M_correct 183 = .ok (.iconst 0, 1) := by decide +kernel
theorem d_M_correct_184 : decode b_M_correct 184 = .ok (.ireturn, 1) := by decide +kernel
theorem d_M_undo_0 : decode b_M_undo 0 = .ok (.aload_n 0, 1) := by decide +kernel
theorem d_M_undo_1 : decode b_M_undo 1 = .ok (.getfield 35, 3) := by decide +kernel
theorem d_M_undo_4 : decode b_M_undo 4 = .ok (.iload_n 1, 1) := by decide +kernel
theorem d_M_undo_5 : decode b_M_undo 5 = .ok (.iaload, 1) := by decide +kernel
theorem d_M_undo_6 : decode b_M_undo 6 = .ok (.iconst 5, 1) := by decide +kernel
theorem d_M_undo_7 : decode b_M_undo 7 = .ok (.if_icmp .eq 14, 3) := by decide +kernel
theorem d_M_undo_10 : decode b_M_undo 10 = .ok (.aload_n 0, 1) := by decide +kernel
theorem d_M_undo_11 : decode b_M_undo 11 = .ok (.getfield 35, 3) := by decide +kernel
theorem d_M_undo_14 : decode b_M_undo 14 = .ok (.iload_n 1, 1) := by decide +kernel
theorem d_M_undo_15 : decode b_M_undo 15 = .ok (.iaload, 1) := by decide +kernel
theorem d_M_undo_16 : decode b_M_undo 16 = .ok (.bipush 6, 2) := by decide +kernel
theorem d_M_undo_18 : decode b_M_undo 18 = .ok (.if_icmp .ne 25, 3) := by decide +kernel
theorem d_M_undo_21 : decode b_M_undo 21 = .ok (.aload_n 0, 1) := by decide +kernel
theorem d_M_undo_22 : decode b_M_undo 22 = .ok (.getfield 60, 3) := by decide +kernel
theorem d_M_undo_25 : decode b_M_undo 25 = .ok (.aload_n 0, 1) := by decide +kernel
theorem d_M_undo_26 : decode b_M_undo 26 = .ok (.aload_n 0, 1) := by decide +kernel
theorem d_M_undo_27 : decode b_M_undo 27 = .ok (.getfield 29, 3) := by decide +kernel
theorem d_M_undo_30 : decode b_M_undo 30 = .ok (.iload_n 1, 1) := by decide +kernel
theorem d_M_undo_31 : decode b_M_undo 31 = .ok (.iaload, 1) := by decide +kernel
theorem d_M_undo_32 : decode b_M_undo 32 = .ok (.aload_n 0, 1) := by decide +kernel
theorem d_M_undo_33 : decode b_M_undo 33 = .ok (.getfield 32, 3) := by decide +kernel
theorem d_M_undo_36 : decode b_M_undo 36 = .ok (.iload_n 1, 1) := by decide +kernel
theorem d_M_undo_37 : decode b_M_undo 37 = .ok (.iaload, 1) := by decide +kernel
theorem d_M_undo_38 : decode b_M_undo 38 = .ok (.invokevirtual 126, 3) := by decide +kernel
theorem d_M_undo_41 : decode b_M_undo 41 = .ok (.iconst 0, 1) := by decide +kernel
theorem d_M_undo_42 : decode b_M_undo 42 = .ok (.bastore, 1) := by decide +kernel
theorem d_M_undo_43 : decode b_M_undo 43 = .ok (.return_, 1) := by decide +kernel
theorem d_M_join_0 : decode b_M_join 0 = .ok (.iload_n 1, 1) := by decide +kernel
theorem d_M_join_1 : decode b_M_join 1 = .ok (.i2l, 1) := by decide +kernel
theorem d_M_join_2 : decode b_M_join 2 = .ok (.lconst 0, 1) := by decide +kernel
theorem d_M_join_3 : decode b_M_join 3 = .ok (.ldc2_w 121, 3) := by decide +kernel
theorem d_M_join_6 : decode b_M_join 6 = .ok (.invokestatic 91, 3) := by decide +kernel
theorem d_M_join_9 : decode b_M_join 9 = .ok (.ifCond .ne 6, 3) := by decide +kernel
theorem d_M_join_12 : decode b_M_join 12 = .ok (.bipush (-12), 2) := by decide +kernel
theorem d_M_join_14 : decode b_M_join 14 = .ok (.ireturn, 1) := by decide +kernel
theorem d_M_join_15 : decode b_M_join 15 = .ok (.aload_n 0, 1) := by decide +kernel
theorem d_M_join_16 : decode b_M_join 16 = .ok (.getfield 149, 3) := by decide +kernel
theorem d_M_join_19 : decode b_M_join 19 = .ok (.istore_n 2, 1) := by decide +kernel
theorem d_M_join_20 : decode b_M_join 20 = .ok (.aload_n 0, 1) := by decide +kernel
theorem d_M_join_21 : decode b_M_join 21 = .ok (.iload_n 1, 1) := by decide +kernel
theorem d_M_join_22 : decode b_M_join 22 = .ok (.putfield 149, 3) := by decide +kernel
theorem d_M_join_25 : decode b_M_join 25 = .ok (.iload_n 2, 1) := by decide +kernel
theorem d_M_join_26 : decode b_M_join 26 = .ok (.ireturn, 1) := by decide +kernel
