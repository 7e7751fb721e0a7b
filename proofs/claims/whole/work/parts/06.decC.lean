theorem d_C_init_0 : decode b_C_init 0 = .ok (.aload_n 0, 1) := by decide +kernel
theorem d_C_init_1 : decode b_C_init 1 = .ok (.invokespecial 1, 3) := by decide +kernel
theorem d_C_init_4 : decode b_C_init 4 = .ok (.aload_n 0, 1) := by decide +kernel
theorem d_C_init_5 : decode b_C_init 5 = .ok (.new 7, 3) := by decide +kernel
theorem d_C_init_8 : decode b_C_init 8 = .ok (.dup, 1) := by decide +kernel
theorem d_C_init_9 : decode b_C_init 9 = .ok (.invokespecial 9, 3) := by decide +kernel
theorem d_C_init_12 : decode b_C_init 12 = .ok (.putfield 10, 3) := by decide +kernel
theorem d_C_init_15 : decode b_C_init 15 = .ok (.aload_n 0, 1) := by decide +kernel
theorem d_C_init_16 : decode b_C_init 16 = .ok (.new 7, 3) := by decide +kernel
theorem d_C_init_19 : decode b_C_init 19 = .ok (.dup, 1) := by decide +kernel
theorem d_C_init_20 : decode b_C_init 20 = .ok (.invokespecial 9, 3) := by decide +kernel
theorem d_C_init_23 : decode b_C_init 23 = .ok (.putfield 16, 3) := by decide +kernel
theorem d_C_init_26 : decode b_C_init 26 = .ok (.aload_n 0, 1) := by decide +kernel
theorem d_C_init_27 : decode b_C_init 27 = .ok (.new 7, 3) := by decide +kernel
theorem d_C_init_30 : decode b_C_init 30 = .ok (.dup, 1) := by decide +kernel
theorem d_C_init_31 : decode b_C_init 31 = .ok (.invokespecial 9, 3) := by decide +kernel
theorem d_C_init_34 : decode b_C_init 34 = .ok (.putfield 19, 3) := by decide +kernel
theorem d_C_init_37 : decode b_C_init 37 = .ok (.aload_n 0, 1) := by decide +kernel
theorem d_C_init_38 : decode b_C_init 38 = .ok (.new 7, 3) := by decide +kernel
theorem d_C_init_41 : decode b_C_init 41 = .ok (.dup, 1) := by decide +kernel
theorem d_C_init_42 : decode b_C_init 42 = .ok (.invokespecial 9, 3) := by decide +kernel
theorem d_C_init_45 : decode b_C_init 45 = .ok (.putfield 22, 3) := by decide +kernel
theorem d_C_init_48 : decode b_C_init 48 = .ok (.aload_n 0, 1) := by decide +kernel
theorem d_C_init_49 : decode b_C_init 49 = .ok (.new 7, 3) := by decide +kernel
theorem d_C_init_52 : decode b_C_init 52 = .ok (.dup, 1) := by decide +kernel
theorem d_C_init_53 : decode b_C_init 53 = .ok (.invokespecial 9, 3) := by decide +kernel
theorem d_C_init_56 : decode b_C_init 56 = .ok (.putfield 25, 3) := by decide +kernel
theorem d_C_init_59 : decode b_C_init 59 = .ok (.aload_n 0, 1) := by decide +kernel
theorem d_C_init_60 : decode b_C_init 60 = .ok (.iconst 4, 1) := by decide +kernel
theorem d_C_init_61 : decode b_C_init 61 = .ok (.newarray .boolean, 2) := by decide +kernel
theorem d_C_init_63 : decode b_C_init 63 = .ok (.putfield 28, 3) := by decide +kernel
theorem d_C_init_66 : decode b_C_init 66 = .ok (.iconst 0, 1) := by decide +kernel
theorem d_C_init_67 : decode b_C_init 67 = .ok (.istore_n 1, 1) := by decide +kernel
theorem d_C_init_68 : decode b_C_init 68 = .ok (.iload_n 1, 1) := by decide +kernel
theorem d_C_init_69 : decode b_C_init 69 = .ok (.iconst 4, 1) := by decide +kernel
theorem d_C_init_70 : decode b_C_init 70 = .ok (.if_icmp .ge 16, 3) := by decide +kernel
theorem d_C_init_73 : decode b_C_init 73 = .ok (.aload_n 0, 1) := by decide +kernel
theorem d_C_init_74 : decode b_C_init 74 = .ok (.getfield 28, 3) := by decide +kernel
theorem d_C_init_77 : decode b_C_init 77 = .ok (.iload_n 1, 1) := by decide +kernel
theorem d_C_init_78 : decode b_C_init 78 = .ok (.iconst 1, 1) := by decide +kernel
theorem d_C_init_79 : decode b_C_init 79 = .ok (.bastore, 1) := by decide +kernel
theorem d_C_init_80 : decode b_C_init 80 = .ok (.iinc 1 1, 3) := by decide +kernel
theorem d_C_init_83 : decode b_C_init 83 = .ok (.goto (-15), 3) := by decide +kernel
theorem d_C_init_86 : decode b_C_init 86 = .ok (.aload_n 0, 1) := by decide +kernel
theorem d_C_init_87 : decode b_C_init 87 = .ok (.lconst 0, 1) := by decide +kernel
theorem d_C_init_88 : decode b_C_init 88 = .ok (.putfield 32, 3) := by decide +kernel
theorem d_C_init_91 : decode b_C_init 91 = .ok (.aload_n 0, 1) := by decide +kernel
theorem d_C_init_92 : decode b_C_init 92 = .ok (.iconst 0, 1) := by decide +kernel
theorem d_C_init_93 : decode b_C_init 93 = .ok (.putfield 36, 3) := by decide +kernel
theorem d_C_init_96 : decode b_C_init 96 = .ok (.return_, 1) := by decide +kernel
theorem d_C_customer_0 : decode b_C_customer 0 = .ok (.iload_n 1, 1) := by decide +kernel
theorem d_C_customer_1 : decode b_C_customer 1 = .ok (.i2l, 1) := by decide +kernel
theorem d_C_customer_2 : decode b_C_customer 2 = .ok (.lconst 0, 1) := by decide +kernel
theorem d_C_customer_3 : decode b_C_customer 3 = .ok (.ldc2_w 40, 3) := by decide +kernel
theorem d_C_customer_6 : decode b_C_customer 6 = .ok (.invokestatic 42, 3) := by decide +kernel
theorem d_C_customer_9 : decode b_C_customer 9 = .ok (.ifCond .eq 17, 3) := by decide +kernel
theorem d_C_customer_12 : decode b_C_customer 12 = .ok (.iload_n 2, 1) := by decide +kernel
theorem d_C_customer_13 : decode b_C_customer 13 = .ok (.i2l, 1) := by decide +kernel
theorem d_C_customer_14 : decode b_C_customer 14 = .ok (.ldc2_w 46, 3) := by decide +kernel
theorem d_C_customer_17 : decode b_C_customer 17 = .ok (.ldc2_w 48, 3) := by decide +kernel
theorem d_C_customer_20 : decode b_C_customer 20 = .ok (.invokestatic 42, 3) := by decide +kernel
theorem d_C_customer_23 : decode b_C_customer 23 = .ok (.ifCond .ne 6, 3) := by decide +kernel
theorem d_C_customer_26 : decode b_C_customer 26 = .ok (.bipush (-12), 2) := by decide +kernel
theorem d_C_customer_28 : decode b_C_customer 28 = .ok (.ireturn, 1) := by decide +kernel
theorem d_C_customer_29 : decode b_C_customer 29 = .ok (.aload_n 0, 1) := by decide +kernel
theorem d_C_customer_30 : decode b_C_customer 30 = .ok (.getfield 10, 3) := by decide +kernel
theorem d_C_customer_33 : decode b_C_customer 33 = .ok (.invokevirtual 50, 3) := by decide +kernel
theorem d_C_customer_36 : decode b_C_customer 36 = .ok (.bipush 40, 2) := by decide +kernel
theorem d_C_customer_38 : decode b_C_customer 38 = .ok (.if_icmp .lt 6, 3) := by decide +kernel
theorem d_C_customer_41 : decode b_C_customer 41 = .ok (.bipush (-14), 2) := by decide +kernel
theorem d_C_customer_43 : decode b_C_customer 43 = .ok (.ireturn, 1) := by decide +kernel
theorem d_C_customer_44 : decode b_C_customer 44 = .ok (.aload_n 0, 1) := by decide +kernel
theorem d_C_customer_45 : decode b_C_customer 45 = .ok (.getfield 10, 3) := by decide +kernel
theorem d_C_customer_48 : decode b_C_customer 48 = .ok (.invokevirtual 50, 3) := by decide +kernel
theorem d_C_customer_51 : decode b_C_customer 51 = .ok (.iconst 1, 1) := by decide +kernel
theorem d_C_customer_52 : decode b_C_customer 52 = .ok (.iadd, 1) := by decide +kernel
theorem d_C_customer_53 : decode b_C_customer 53 = .ok (.istore_n 3, 1) := by decide +kernel
theorem d_C_customer_54 : decode b_C_customer 54 = .ok (.aload_n 0, 1) := by decide +kernel
theorem d_C_customer_55 : decode b_C_customer 55 = .ok (.getfield 10, 3) := by decide +kernel
theorem d_C_customer_58 : decode b_C_customer 58 = .ok (.new 54, 3) := by decide +kernel
theorem d_C_customer_61 : decode b_C_customer 61 = .ok (.dup, 1) := by decide +kernel
theorem d_C_customer_62 : decode b_C_customer 62 = .ok (.iload_n 3, 1) := by decide +kernel
theorem d_C_customer_63 : decode b_C_customer 63 = .ok (.iload_n 1, 1) := by decide +kernel
theorem d_C_customer_64 : decode b_C_customer 64 = .ok (.iload_n 2, 1) := by decide +kernel
theorem d_C_customer_65 : decode b_C_customer 65 = .ok (.invokespecial 56, 3) := by decide +kernel
theorem d_C_customer_68 : decode b_C_customer 68 = .ok (.invokevirtual 59, 3) := by decide +kernel
theorem d_C_customer_71 : decode b_C_customer 71 = .ok (.pop, 1) := by decide +kernel
theorem d_C_customer_72 : decode b_C_customer 72 = .ok (.iload_n 3, 1) := by decide +kernel
theorem d_C_customer_73 : decode b_C_customer 73 = .ok (.ireturn, 1) := by decide +kernel
theorem d_C_isWithin_0 : decode b_C_isWithin 0 = .ok (.lload_n 0, 1) := by decide +kernel
theorem d_C_isWithin_1 : decode b_C_isWithin 1 = .ok (.lload_n 2, 1) := by decide +kernel
theorem d_C_isWithin_2 : decode b_C_isWithin 2 = .ok (.lcmp, 1) := by decide +kernel
theorem d_C_isWithin_3 : decode b_C_isWithin 3 = .ok (.ifCond .lt 14, 3) := by decide +kernel
theorem d_C_isWithin_6 : decode b_C_isWithin 6 = .ok (.lload_n 0, 1) := by decide +kernel
theorem d_C_isWithin_7 : decode b_C_isWithin 7 = .ok (.lload 4, 2) := by decide +kernel
theorem d_C_isWithin_9 : decode b_C_isWithin 9 = .ok (.lcmp, 1) := by decide +kernel
theorem d_C_isWithin_10 : decode b_C_isWithin 10 = .ok (.ifCond .gt 7, 3) := by decide +kernel
theorem d_C_isWithin_13 : decode b_C_isWithin 13 = .ok (.iconst 1, 1) := by decide +kernel
theorem d_C_isWithin_14 : decode b_C_isWithin 14 = .ok (.goto 4, 3) := by decide +kernel
theorem d_C_isWithin_17 : decode b_C_isWithin 17 = .ok (.iconst 0, 1) := by decide +kernel
theorem d_C_isWithin_18 : decode b_C_isWithin 18 = .ok (.ireturn, 1) := by decide +kernel
theorem d_K_init_0 : decode b_K_init 0 = .ok (.aload_n 0, 1) := by decide +kernel
theorem d_K_init_1 : decode b_K_init 1 = .ok (.invokespecial 3, 3) := by decide +kernel
theorem d_K_init_4 : decode b_K_init 4 = .ok (.aload_n 0, 1) := by decide +kernel
theorem d_K_init_5 : decode b_K_init 5 = .ok (.iload_n 1, 1) := by decide +kernel
theorem d_K_init_6 : decode b_K_init 6 = .ok (.putfield 9, 3) := by decide +kernel
theorem d_K_init_9 : decode b_K_init 9 = .ok (.aload_n 0, 1) := by decide +kernel
theorem d_K_init_10 : decode b_K_init 10 = .ok (.iload_n 2, 1) := by decide +kernel
theorem d_K_init_11 : decode b_K_init 11 = .ok (.putfield 15, 3) := by decide +kernel
theorem d_K_init_14 : decode b_K_init 14 = .ok (.aload_n 0, 1) := by decide +kernel
theorem d_K_init_15 : decode b_K_init 15 = .ok (.iload_n 3, 1) := by decide +kernel
theorem d_K_init_16 : decode b_K_init 16 = .ok (.putfield 18, 3) := by decide +kernel
theorem d_K_init_19 : decode b_K_init 19 = .ok (.aload_n 0, 1) := by decide +kernel
theorem d_K_init_20 : decode b_K_init 20 = .ok (.bipush 32, 2) := by decide +kernel
theorem d_K_init_22 : decode b_K_init 22 = .ok (.newarray .int, 2) := by decide +kernel
theorem d_K_init_24 : decode b_K_init 24 = .ok (.putfield 21, 3) := by decide +kernel
theorem d_K_init_27 : decode b_K_init 27 = .ok (.iconst 0, 1) := by decide +kernel
theorem d_K_init_28 : decode b_K_init 28 = .ok (.istore 4, 2) := by decide +kernel
theorem d_K_init_30 : decode b_K_init 30 = .ok (.iload 4, 2) := by decide +kernel
theorem d_K_init_32 : decode b_K_init 32 = .ok (.aload_n 0, 1) := by decide +kernel
theorem d_K_init_33 : decode b_K_init 33 = .ok (.getfield 21, 3) := by decide +kernel
theorem d_K_init_36 : decode b_K_init 36 = .ok (.arraylength, 1) := by decide +kernel
theorem d_K_init_37 : decode b_K_init 37 = .ok (.if_icmp .ge 17, 3) := by decide +kernel
theorem d_K_init_40 : decode b_K_init 40 = .ok (.aload_n 0, 1) := by decide +kernel
theorem d_K_init_41 : decode b_K_init 41 = .ok (.getfield 21, 3) := by decide +kernel
theorem d_K_init_44 : decode b_K_init 44 = .ok (.iload 4, 2) := by decide +kernel
theorem d_K_init_46 : decode b_K_init 46 = .ok (.iconst (-1), 1) := by decide +kernel
theorem d_K_init_47 : decode b_K_init 47 = .ok (.iastore, 1) := by decide +kernel
theorem d_K_init_48 : decode b_K_init 48 = .ok (.iinc 4 1, 3) := by decide +kernel
theorem d_K_init_51 : decode b_K_init 51 = .ok (.goto (-21), 3) := by decide +kernel
theorem d_K_init_54 : decode b_K_init 54 = .ok (.return_, 1) := by decide +kernel
theorem d_C_wish_0 : decode b_C_wish 0 = .ok (.aload_n 0, 1) := by decide +kernel
theorem d_C_wish_1 : decode b_C_wish 1 = .ok (.iload_n 1, 1) := by decide +kernel
theorem d_C_wish_2 : decode b_C_wish 2 = .ok (.invokevirtual 63, 3) := by decide +kernel
theorem d_C_wish_5 : decode b_C_wish 5 = .ok (.astore 5, 2) := by decide +kernel
theorem d_C_wish_7 : decode b_C_wish 7 = .ok (.aload 5, 2) := by decide +kernel
theorem d_C_wish_9 : decode b_C_wish 9 = .ok (.ifnonnull 6, 3) := by decide +kernel
theorem d_C_wish_12 : decode b_C_wish 12 = .ok (.bipush (-11), 2) := by decide +kernel
theorem d_C_wish_14 : decode b_C_wish 14 = .ok (.ireturn, 1) := by decide +kernel
theorem d_C_wish_15 : decode b_C_wish 15 = .ok (.iload_n 2, 1) := by decide +kernel
theorem d_C_wish_16 : decode b_C_wish 16 = .ok (.invokestatic 67, 3) := by decide +kernel
theorem d_C_wish_19 : decode b_C_wish 19 = .ok (.ifCond .eq 23, 3) := by decide +kernel
theorem d_C_wish_22 : decode b_C_wish 22 = .ok (.iload_n 3, 1) := by decide +kernel
theorem d_C_wish_23 : decode b_C_wish 23 = .ok (.invokestatic 71, 3) := by decide +kernel
theorem d_C_wish_26 : decode b_C_wish 26 = .ok (.ifCond .eq 16, 3) := by decide +kernel
theorem d_C_wish_29 : decode b_C_wish 29 = .ok (.iload 4, 2) := by decide +kernel
theorem d_C_wish_31 : decode b_C_wish 31 = .ok (.i2l, 1) := by decide +kernel
theorem d_C_wish_32 : decode b_C_wish 32 = .ok (.lconst 0, 1) := by decide +kernel
theorem d_C_wish_33 : decode b_C_wish 33 = .ok (.ldc2_w 40, 3) := by decide +kernel
theorem d_C_wish_36 : decode b_C_wish 36 = .ok (.invokestatic 42, 3) := by decide +kernel
theorem d_C_wish_39 : decode b_C_wish 39 = .ok (.ifCond .ne 6, 3) := by decide +kernel
theorem d_C_wish_42 : decode b_C_wish 42 = .ok (.bipush (-12), 2) := by decide +kernel
theorem d_C_wish_44 : decode b_C_wish 44 = .ok (.ireturn, 1) := by decide +kernel
theorem d_C_wish_45 : decode b_C_wish 45 = .ok (.aload 5, 2) := by decide +kernel
theorem d_C_wish_47 : decode b_C_wish 47 = .ok (.iload_n 2, 1) := by decide +kernel
theorem d_C_wish_48 : decode b_C_wish 48 = .ok (.iload_n 3, 1) := by decide +kernel
theorem d_C_wish_49 : decode b_C_wish 49 = .ok (.iload 4, 2) := by decide +kernel
theorem d_C_wish_51 : decode b_C_wish 51 = .ok (.invokevirtual 74, 3) := by decide +kernel
theorem d_C_wish_54 : decode b_C_wish 54 = .ok (.aload 5, 2) := by decide +kernel
theorem d_C_wish_56 : decode b_C_wish 56 = .ok (.iload_n 2, 1) := by decide +kernel
theorem d_C_wish_57 : decode b_C_wish 57 = .ok (.invokevirtual 77, 3) := by decide +kernel
theorem d_C_wish_60 : decode b_C_wish 60 = .ok (.ireturn, 1) := by decide +kernel
theorem d_C_findCustomer_0 : decode b_C_findCustomer 0 = .ok (.iload_n 1, 1) := by decide +kernel
theorem d_C_findCustomer_1 : decode b_C_findCustomer 1 = .ok (.iconst 1, 1) := by decide +kernel
theorem d_C_findCustomer_2 : decode b_C_findCustomer 2 = .ok (.if_icmp .lt 14, 3) := by decide +kernel
theorem d_C_findCustomer_5 : decode b_C_findCustomer 5 = .ok (.iload_n 1, 1) := by decide +kernel
theorem d_C_findCustomer_6 : decode b_C_findCustomer 6 = .ok (.aload_n 0, 1) := by decide +kernel
theorem d_C_findCustomer_7 : decode b_C_findCustomer 7 = .ok (.getfield 10, 3) := by decide +kernel
theorem d_C_findCustomer_10 : decode b_C_findCustomer 10 = .ok (.invokevirtual 50, 3) := by decide +kernel
theorem d_C_findCustomer_13 : decode b_C_findCustomer 13 = .ok (.if_icmp .le 5, 3) := by decide +kernel
theorem d_C_findCustomer_16 : decode b_C_findCustomer 16 = .ok (.aconst_null, 1) := by decide +kernel
theorem d_C_findCustomer_17 : decode b_C_findCustomer 17 = .ok (.areturn, 1) := by decide +kernel
theorem d_C_findCustomer_18 : decode b_C_findCustomer 18 = .ok (.aload_n 0, 1) := by decide +kernel
theorem d_C_findCustomer_19 : decode b_C_findCustomer 19 = .ok (.getfield 10, 3) := by decide +kernel
theorem d_C_findCustomer_22 : decode b_C_findCustomer 22 = .ok (.iload_n 1, 1) := by decide +kernel
theorem d_C_findCustomer_23 : decode b_C_findCustomer 23 = .ok (.iconst 1, 1) := by decide +kernel
theorem d_C_findCustomer_24 : decode b_C_findCustomer 24 = .ok (.isub, 1) := by decide +kernel
theorem d_C_findCustomer_25 : decode b_C_findCustomer 25 = .ok (.invokevirtual 160, 3) := by decide +kernel
theorem d_C_findCustomer_28 : decode b_C_findCustomer 28 = .ok (.checkcast 54, 3) := by decide +kernel
theorem d_C_findCustomer_31 : decode b_C_findCustomer 31 = .ok (.areturn, 1) := by decide +kernel
theorem d_C_isKind_0 : decode b_C_isKind 0 = .ok (.iload_n 0, 1) := by decide +kernel
theorem d_C_isKind_1 : decode b_C_isKind 1 = .ok (.i2l, 1) := by decide +kernel
theorem d_C_isKind_2 : decode b_C_isKind 2 = .ok (.lconst 0, 1) := by decide +kernel
theorem d_C_isKind_3 : decode b_C_isKind 3 = .ok (.ldc2_w 216, 3) := by decide +kernel
theorem d_C_isKind_6 : decode b_C_isKind 6 = .ok (.invokestatic 42, 3) := by decide +kernel
theorem d_C_isKind_9 : decode b_C_isKind 9 = .ok (.ireturn, 1) := by decide +kernel
theorem d_C_isChannel_0 : decode b_C_isChannel 0 = .ok (.iload_n 0, 1) := by decide +kernel
theorem d_C_isChannel_1 : decode b_C_isChannel 1 = .ok (.i2l, 1) := by decide +kernel
theorem d_C_isChannel_2 : decode b_C_isChannel 2 = .ok (.lconst 0, 1) := by decide +kernel
theorem d_C_isChannel_3 : decode b_C_isChannel 3 = .ok (.ldc2_w 218, 3) := by decide +kernel
theorem d_C_isChannel_6 : decode b_C_isChannel 6 = .ok (.invokestatic 42, 3) := by decide +kernel
theorem d_C_isChannel_9 : decode b_C_isChannel 9 = .ok (.ireturn, 1) := by decide +kernel
theorem d_K_setOrder_0 : decode b_K_setOrder 0 = .ok (.iload_n 1, 1) := by decide +kernel
theorem d_K_setOrder_1 : decode b_K_setOrder 1 = .ok (.invokestatic 25, 3) := by decide +kernel
theorem d_K_setOrder_4 : decode b_K_setOrder 4 = .ok (.ifCond .eq 21, 3) := by decide +kernel
theorem d_K_setOrder_7 : decode b_K_setOrder 7 = .ok (.iload_n 2, 1) := by decide +kernel
theorem d_K_setOrder_8 : decode b_K_setOrder 8 = .ok (.invokestatic 29, 3) := by decide +kernel
theorem d_K_setOrder_11 : decode b_K_setOrder 11 = .ok (.ifCond .eq 14, 3) := by decide +kernel
theorem d_K_setOrder_14 : decode b_K_setOrder 14 = .ok (.aload_n 0, 1) := by decide +kernel
theorem d_K_setOrder_15 : decode b_K_setOrder 15 = .ok (.getfield 21, 3) := by decide +kernel
theorem d_K_setOrder_18 : decode b_K_setOrder 18 = .ok (.iload_n 1, 1) := by decide +kernel
theorem d_K_setOrder_19 : decode b_K_setOrder 19 = .ok (.iconst 4, 1) := by decide +kernel
theorem d_K_setOrder_20 : decode b_K_setOrder 20 = .ok (.imul, 1) := by decide +kernel
theorem d_K_setOrder_21 : decode b_K_setOrder 21 = .ok (.iload_n 2, 1) := by decide +kernel
theorem d_K_setOrder_22 : decode b_K_setOrder 22 = .ok (.iadd, 1) := by decide +kernel
theorem d_K_setOrder_23 : decode b_K_setOrder 23 = .ok (.iload_n 3, 1) := by decide +kernel
theorem d_K_setOrder_24 : decode b_K_setOrder 24 = .ok (.iastore, 1) := by decide +kernel
theorem d_K_setOrder_25 : decode b_K_setOrder 25 = .ok (.return_, 1) := by decide +kernel
theorem d_K_countWishes_0 : decode b_K_countWishes 0 = .ok (.iconst 0, 1) := by decide +kernel
theorem d_K_countWishes_1 : decode b_K_countWishes 1 = .ok (.istore_n 2, 1) := by decide +kernel
theorem d_K_countWishes_2 : decode b_K_countWishes 2 = .ok (.iconst 0, 1) := by decide +kernel
theorem d_K_countWishes_3 : decode b_K_countWishes 3 = .ok (.istore_n 3, 1) := by decide +kernel
theorem d_K_countWishes_4 : decode b_K_countWishes 4 = .ok (.iload_n 3, 1) := by decide +kernel
theorem d_K_countWishes_5 : decode b_K_countWishes 5 = .ok (.iconst 4, 1) := by decide +kernel
theorem d_K_countWishes_6 : decode b_K_countWishes 6 = .ok (.if_icmp .ge 22, 3) := by decide +kernel
theorem d_K_countWishes_9 : decode b_K_countWishes 9 = .ok (.aload_n 0, 1) := by decide +kernel
theorem d_K_countWishes_10 : decode b_K_countWishes 10 = .ok (.iload_n 1, 1) := by decide +kernel
theorem d_K_countWishes_11 : decode b_K_countWishes 11 = .ok (.iload_n 3, 1) := by decide +kernel
theorem d_K_countWishes_12 : decode b_K_countWishes 12 = .ok (.invokevirtual 36, 3) := by decide +kernel
theorem d_K_countWishes_15 : decode b_K_countWishes 15 = .ok (.iconst (-1), 1) := by decide +kernel
theorem d_K_countWishes_16 : decode b_K_countWishes 16 = .ok (.if_icmp .eq 6, 3) := by decide +kernel
theorem d_K_countWishes_19 : decode b_K_countWishes 19 = .ok (.iinc 2 1, 3) := by decide +kernel
theorem d_K_countWishes_22 : decode b_K_countWishes 22 = .ok (.iinc 3 1, 3) := by decide +kernel
theorem d_K_countWishes_25 : decode b_K_countWishes 25 = .ok (.goto (-21), 3) := by decide +kernel
theorem d_K_countWishes_28 : decode b_K_countWishes 28 = .ok (.iload_n 2, 1) := by decide +kernel
theorem d_K_countWishes_29 : decode b_K_countWishes 29 = .ok (.ireturn, 1) := by decide +kernel
theorem d_K_orderOf_0 : decode b_K_orderOf 0 = .ok (.iload_n 1, 1) := by decide +kernel
theorem d_K_orderOf_1 : decode b_K_orderOf 1 = .ok (.invokestatic 25, 3) := by decide +kernel
theorem d_K_orderOf_4 : decode b_K_orderOf 4 = .ok (.ifCond .eq 23, 3) := by decide +kernel
theorem d_K_orderOf_7 : decode b_K_orderOf 7 = .ok (.iload_n 2, 1) := by decide +kernel
theorem d_K_orderOf_8 : decode b_K_orderOf 8 = .ok (.invokestatic 29, 3) := by decide +kernel
theorem d_K_orderOf_11 : decode b_K_orderOf 11 = .ok (.ifCond .eq 16, 3) := by decide +kernel
theorem d_K_orderOf_14 : decode b_K_orderOf 14 = .ok (.aload_n 0, 1) := by decide +kernel
theorem d_K_orderOf_15 : decode b_K_orderOf 15 = .ok (.getfield 21, 3) := by decide +kernel
theorem d_K_orderOf_18 : decode b_K_orderOf 18 = .ok (.iload_n 1, 1) := by decide +kernel
theorem d_K_orderOf_19 : decode b_K_orderOf 19 = .ok (.iconst 4, 1) := by decide +kernel
theorem d_K_orderOf_20 : decode b_K_orderOf 20 = .ok (.imul, 1) := by decide +kernel
theorem d_K_orderOf_21 : decode b_K_orderOf 21 = .ok (.iload_n 2, 1) := by decide +kernel
theorem d_K_orderOf_22 : decode b_K_orderOf 22 = .ok (.iadd, 1) := by decide +kernel
theorem d_K_orderOf_23 : decode b_K_orderOf 23 = .ok (.iaload, 1) := by decide +kernel
theorem d_K_orderOf_24 : decode b_K_orderOf 24 = .ok (.goto 4, 3) := by decide +kernel
theorem d_K_orderOf_27 : decode b_K_orderOf 27 = .ok (.iconst (-1), 1) := by decide +kernel
theorem d_K_orderOf_28 : decode b_K_orderOf 28 = .ok (.ireturn, 1) := by decide +kernel
theorem d_C_quiet_0 : decode b_C_quiet 0 = .ok (.aload_n 0, 1) := by decide +kernel
theorem d_C_quiet_1 : decode b_C_quiet 1 = .ok (.iload_n 1, 1) := by decide +kernel
theorem d_C_quiet_2 : decode b_C_quiet 2 = .ok (.invokevirtual 63, 3) := by decide +kernel
theorem d_C_quiet_5 : decode b_C_quiet 5 = .ok (.astore 4, 2) := by decide +kernel
theorem d_C_quiet_7 : decode b_C_quiet 7 = .ok (.aload 4, 2) := by decide +kernel
theorem d_C_quiet_9 : decode b_C_quiet 9 = .ok (.ifnonnull 6, 3) := by decide +kernel
theorem d_C_quiet_12 : decode b_C_quiet 12 = .ok (.bipush (-11), 2) := by decide +kernel
theorem d_C_quiet_14 : decode b_C_quiet 14 = .ok (.ireturn, 1) := by decide +kernel
theorem d_C_quiet_15 : decode b_C_quiet 15 = .ok (.iload_n 2, 1) := by decide +kernel
theorem d_C_quiet_16 : decode b_C_quiet 16 = .ok (.invokestatic 81, 3) := by decide +kernel
theorem d_C_quiet_19 : decode b_C_quiet 19 = .ok (.ifCond .eq 10, 3) := by decide +kernel
theorem d_C_quiet_22 : decode b_C_quiet 22 = .ok (.iload_n 3, 1) := by decide +kernel
theorem d_C_quiet_23 : decode b_C_quiet 23 = .ok (.invokestatic 81, 3) := by decide +kernel
theorem d_C_quiet_26 : decode b_C_quiet 26 = .ok (.ifCond .ne 6, 3) := by decide +kernel
theorem d_C_quiet_29 : decode b_C_quiet 29 = .ok (.bipush (-12), 2) := by decide +kernel
theorem d_C_quiet_31 : decode b_C_quiet 31 = .ok (.ireturn, 1) := by decide +kernel
theorem d_C_quiet_32 : decode b_C_quiet 32 = .ok (.aload 4, 2) := by decide +kernel
theorem d_C_quiet_34 : decode b_C_quiet 34 = .ok (.iload_n 2, 1) := by decide +kernel
theorem d_C_quiet_35 : decode b_C_quiet 35 = .ok (.putfield 84, 3) := by decide +kernel
theorem d_C_quiet_38 : decode b_C_quiet 38 = .ok (.aload 4, 2) := by decide +kernel
theorem d_C_quiet_40 : decode b_C_quiet 40 = .ok (.iload_n 3, 1) := by decide +kernel
theorem d_C_quiet_41 : decode b_C_quiet 41 = .ok (.putfield 87, 3) := by decide +kernel
theorem d_C_quiet_44 : decode b_C_quiet 44 = .ok (.iload_n 3, 1) := by decide +kernel
theorem d_C_quiet_45 : decode b_C_quiet 45 = .ok (.iload_n 2, 1) := by decide +kernel
theorem d_C_quiet_46 : decode b_C_quiet 46 = .ok (.isub, 1) := by decide +kernel
theorem d_C_quiet_47 : decode b_C_quiet 47 = .ok (.sipush 1440, 3) := by decide +kernel
theorem d_C_quiet_50 : decode b_C_quiet 50 = .ok (.invokestatic 90, 3) := by decide +kernel
theorem d_C_quiet_53 : decode b_C_quiet 53 = .ok (.ireturn, 1) := by decide +kernel
theorem d_C_isMinuteOfDay_0 : decode b_C_isMinuteOfDay 0 = .ok (.iload_n 0, 1) := by decide +kernel
theorem d_C_isMinuteOfDay_1 : decode b_C_isMinuteOfDay 1 = .ok (.i2l, 1) := by decide +kernel
theorem d_C_isMinuteOfDay_2 : decode b_C_isMinuteOfDay 2 = .ok (.lconst 0, 1) := by decide +kernel
theorem d_C_isMinuteOfDay_3 : decode b_C_isMinuteOfDay 3 = .ok (.ldc2_w 220, 3) := by decide +kernel
theorem d_C_isMinuteOfDay_6 : decode b_C_isMinuteOfDay 6 = .ok (.invokestatic 42, 3) := by decide +kernel
theorem d_C_isMinuteOfDay_9 : decode b_C_isMinuteOfDay 9 = .ok (.ireturn, 1) := by decide +kernel
theorem d_C_event_0 : decode b_C_event 0 = .ok (.aload_n 0, 1) := by decide +kernel
theorem d_C_event_1 : decode b_C_event 1 = .ok (.iload_n 1, 1) := by decide +kernel
theorem d_C_event_2 : decode b_C_event 2 = .ok (.invokevirtual 63, 3) := by decide +kernel
theorem d_C_event_5 : decode b_C_event 5 = .ok (.astore 6, 2) := by decide +kernel
theorem d_C_event_7 : decode b_C_event 7 = .ok (.aload 6, 2) := by decide +kernel
theorem d_C_event_9 : decode b_C_event 9 = .ok (.ifnonnull 6, 3) := by decide +kernel
theorem d_C_event_12 : decode b_C_event 12 = .ok (.bipush (-11), 2) := by decide +kernel
theorem d_C_event_14 : decode b_C_event 14 = .ok (.ireturn, 1) := by decide +kernel
theorem d_C_event_15 : decode b_C_event 15 = .ok (.iload_n 2, 1) := by decide +kernel
theorem d_C_event_16 : decode b_C_event 16 = .ok (.invokestatic 96, 3) := by decide +kernel
theorem d_C_event_19 : decode b_C_event 19 = .ok (.ifCond .eq 19, 3) := by decide +kernel
theorem d_C_event_22 : decode b_C_event 22 = .ok (.iload_n 3, 1) := by decide +kernel
theorem d_C_event_23 : decode b_C_event 23 = .ok (.invokestatic 67, 3) := by decide +kernel
theorem d_C_event_26 : decode b_C_event 26 = .ok (.ifCond .eq 12, 3) := by decide +kernel
theorem d_C_event_29 : decode b_C_event 29 = .ok (.aload_n 0, 1) := by decide +kernel
theorem d_C_event_30 : decode b_C_event 30 = .ok (.lload 4, 2) := by decide +kernel
theorem d_C_event_32 : decode b_C_event 32 = .ok (.invokevirtual 99, 3) := by decide +kernel
theorem d_C_event_35 : decode b_C_event 35 = .ok (.ifCond .ne 6, 3) := by decide +kernel
theorem d_C_event_38 : decode b_C_event 38 = .ok (.bipush (-12), 2) := by decide +kernel
theorem d_C_event_40 : decode b_C_event 40 = .ok (.ireturn, 1) := by decide +kernel
theorem d_C_event_41 : decode b_C_event 41 = .ok (.aload_n 0, 1) := by decide +kernel
theorem d_C_event_42 : decode b_C_event 42 = .ok (.iload_n 1, 1) := by decide +kernel
theorem d_C_event_43 : decode b_C_event 43 = .ok (.iload_n 2, 1) := by decide +kernel
theorem d_C_event_44 : decode b_C_event 44 = .ok (.invokevirtual 103, 3) := by decide +kernel
theorem d_C_event_47 : decode b_C_event 47 = .ok (.astore 7, 2) := by decide +kernel
theorem d_C_event_49 : decode b_C_event 49 = .ok (.aload 7, 2) := by decide +kernel
theorem d_C_event_51 : decode b_C_event 51 = .ok (.ifnull 13, 3) := by decide +kernel
theorem d_C_event_54 : decode b_C_event 54 = .ok (.aload 7, 2) := by decide +kernel
theorem d_C_event_56 : decode b_C_event 56 = .ok (.getfield 107, 3) := by decide +kernel
theorem d_C_event_59 : decode b_C_event 59 = .ok (.ifCond .eq 5, 3) := by decide +kernel
theorem d_C_event_62 : decode b_C_event 62 = .ok (.iconst 0, 1) := by decide +kernel
theorem d_C_event_63 : decode b_C_event 63 = .ok (.ireturn, 1) := by decide +kernel
theorem d_C_event_64 : decode b_C_event 64 = .ok (.aload 6, 2) := by decide +kernel
theorem d_C_event_66 : decode b_C_event 66 = .ok (.iload_n 3, 1) := by decide +kernel
theorem d_C_event_67 : decode b_C_event 67 = .ok (.invokevirtual 77, 3) := by decide +kernel
theorem d_C_event_70 : decode b_C_event 70 = .ok (.ifCond .le 7, 3) := by decide +kernel
theorem d_C_event_73 : decode b_C_event 73 = .ok (.iconst 1, 1) := by decide +kernel
theorem d_C_event_74 : decode b_C_event 74 = .ok (.goto 4, 3) := by decide +kernel
theorem d_C_event_77 : decode b_C_event 77 = .ok (.iconst 0, 1) := by decide +kernel
theorem d_C_event_78 : decode b_C_event 78 = .ok (.istore 8, 2) := by decide +kernel
theorem d_C_event_80 : decode b_C_event 80 = .ok (.iload_n 3, 1) := by decide +kernel
theorem d_C_event_81 : decode b_C_event 81 = .ok (.invokestatic 113, 3) := by decide +kernel
theorem d_C_event_84 : decode b_C_event 84 = .ok (.ifCond .eq 12, 3) := by decide +kernel
theorem d_C_event_87 : decode b_C_event 87 = .ok (.aload 7, 2) := by decide +kernel
theorem d_C_event_89 : decode b_C_event 89 = .ok (.ifnonnull 7, 3) := by decide +kernel
theorem d_C_event_92 : decode b_C_event 92 = .ok (.iconst 1, 1) := by decide +kernel
theorem d_C_event_93 : decode b_C_event 93 = .ok (.goto 4, 3) := by decide +kernel
theorem d_C_event_96 : decode b_C_event 96 = .ok (.iconst 0, 1) := by decide +kernel
theorem d_C_event_97 : decode b_C_event 97 = .ok (.istore 9, 2) := by decide +kernel
theorem d_C_event_99 : decode b_C_event 99 = .ok (.iload 8, 2) := by decide +kernel
theorem d_C_event_101 : decode b_C_event 101 = .ok (.ifCond .eq 10, 3) := by decide +kernel
theorem d_C_event_104 : decode b_C_event 104 = .ok (.aload_n 0, 1) := by decide +kernel
theorem d_C_event_105 : decode b_C_event 105 = .ok (.invokevirtual 116, 3) := by decide +kernel
theorem d_C_event_108 : decode b_C_event 108 = .ok (.ifCond .ne 15, 3) := by decide +kernel
theorem d_C_event_111 : decode b_C_event 111 = .ok (.iload 9, 2) := by decide +kernel
theorem d_C_event_113 : decode b_C_event 113 = .ok (.ifCond .eq 13, 3) := by decide +kernel
theorem d_C_event_116 : decode b_C_event 116 = .ok (.aload_n 0, 1) := by decide +kernel
theorem d_C_event_117 : decode b_C_event 117 = .ok (.invokevirtual 120, 3) := by decide +kernel
theorem d_C_event_120 : decode b_C_event 120 = .ok (.ifCond .eq 6, 3) := by decide +kernel
theorem d_C_event_123 : decode b_C_event 123 = .ok (.bipush (-14), 2) := by decide +kernel
theorem d_C_event_125 : decode b_C_event 125 = .ok (.ireturn, 1) := by decide +kernel
theorem d_C_event_126 : decode b_C_event 126 = .ok (.iload_n 3, 1) := by decide +kernel
theorem d_C_event_127 : decode b_C_event 127 = .ok (.invokestatic 113, 3) := by decide +kernel
theorem d_C_event_130 : decode b_C_event 130 = .ok (.ifCond .eq 27, 3) := by decide +kernel
theorem d_C_event_133 : decode b_C_event 133 = .ok (.aload 7, 2) := by decide +kernel
theorem d_C_event_135 : decode b_C_event 135 = .ok (.ifnonnull 12, 3) := by decide +kernel
theorem d_C_event_138 : decode b_C_event 138 = .ok (.aload_n 0, 1) := by decide +kernel
theorem d_C_event_139 : decode b_C_event 139 = .ok (.iload_n 1, 1) := by decide +kernel
theorem d_C_event_140 : decode b_C_event 140 = .ok (.iload_n 2, 1) := by decide +kernel
theorem d_C_event_141 : decode b_C_event 141 = .ok (.invokevirtual 123, 3) := by decide +kernel
theorem d_C_event_144 : decode b_C_event 144 = .ok (.goto 5, 3) := by decide +kernel
theorem d_C_event_147 : decode b_C_event 147 = .ok (.aload 7, 2) := by decide +kernel
theorem d_C_event_149 : decode b_C_event 149 = .ok (.astore 10, 2) := by decide +kernel
theorem d_C_event_151 : decode b_C_event 151 = .ok (.aload 10, 2) := by decide +kernel
theorem d_C_event_153 : decode b_C_event 153 = .ok (.iconst 1, 1) := by decide +kernel
theorem d_C_event_154 : decode b_C_event 154 = .ok (.putfield 107, 3) := by decide +kernel
theorem d_C_event_157 : decode b_C_event 157 = .ok (.iload 8, 2) := by decide +kernel
theorem d_C_event_159 : decode b_C_event 159 = .ok (.ifCond .eq 19, 3) := by decide +kernel
theorem d_C_event_162 : decode b_C_event 162 = .ok (.aload_n 0, 1) := by decide +kernel
theorem d_C_event_163 : decode b_C_event 163 = .ok (.aload 6, 2) := by decide +kernel
theorem d_C_event_165 : decode b_C_event 165 = .ok (.iload_n 2, 1) := by decide +kernel
theorem d_C_event_166 : decode b_C_event 166 = .ok (.iload_n 3, 1) := by decide +kernel
theorem d_C_event_167 : decode b_C_event 167 = .ok (.lload 4, 2) := by decide +kernel
theorem d_C_event_169 : decode b_C_event 169 = .ok (.invokevirtual 126, 3) := by decide +kernel
theorem d_C_event_172 : decode b_C_event 172 = .ok (.getfield 130, 3) := by decide +kernel
theorem d_C_event_175 : decode b_C_event 175 = .ok (.goto 4, 3) := by decide +kernel
theorem d_C_event_178 : decode b_C_event 178 = .ok (.iconst 0, 1) := by decide +kernel
theorem d_C_event_179 : decode b_C_event 179 = .ok (.ireturn, 1) := by decide +kernel
theorem d_C_isItemNumber_0 : decode b_C_isItemNumber 0 = .ok (.iload_n 0, 1) := by decide +kernel
theorem d_C_isItemNumber_1 : decode b_C_isItemNumber 1 = .ok (.i2l, 1) := by decide +kernel
theorem d_C_isItemNumber_2 : decode b_C_isItemNumber 2 = .ok (.lconst 1, 1) := by decide +kernel
theorem d_C_isItemNumber_3 : decode b_C_isItemNumber 3 = .ok (.ldc2_w 222, 3) := by decide +kernel
theorem d_C_isItemNumber_6 : decode b_C_isItemNumber 6 = .ok (.invokestatic 42, 3) := by decide +kernel
theorem d_C_isItemNumber_9 : decode b_C_isItemNumber 9 = .ok (.ireturn, 1) := by decide +kernel
theorem d_C_isTimeFromNow_0 : decode b_C_isTimeFromNow 0 = .ok (.lload_n 1, 1) := by decide +kernel
theorem d_C_isTimeFromNow_1 : decode b_C_isTimeFromNow 1 = .ok (.aload_n 0, 1) := by decide +kernel
theorem d_C_isTimeFromNow_2 : decode b_C_isTimeFromNow 2 = .ok (.getfield 32, 3) := by decide +kernel
theorem d_C_isTimeFromNow_5 : decode b_C_isTimeFromNow 5 = .ok (.ldc2_w 135, 3) := by decide +kernel
theorem d_C_isTimeFromNow_8 : decode b_C_isTimeFromNow 8 = .ok (.invokestatic 42, 3) := by decide +kernel
theorem d_C_isTimeFromNow_11 : decode b_C_isTimeFromNow 11 = .ok (.ireturn, 1) := by decide +kernel
theorem d_C_findItem_0 : decode b_C_findItem 0 = .ok (.iconst 0, 1) := by decide +kernel
theorem d_C_findItem_1 : decode b_C_findItem 1 = .ok (.istore_n 3, 1) := by decide +kernel
theorem d_C_findItem_2 : decode b_C_findItem 2 = .ok (.iload_n 3, 1) := by decide +kernel
theorem d_C_findItem_3 : decode b_C_findItem 3 = .ok (.aload_n 0, 1) := by decide +kernel
theorem d_C_findItem_4 : decode b_C_findItem 4 = .ok (.getfield 19, 3) := by decide +kernel
theorem d_C_findItem_7 : decode b_C_findItem 7 = .ok (.invokevirtual 50, 3) := by decide +kernel
theorem d_C_findItem_10 : decode b_C_findItem 10 = .ok (.if_icmp .ge 43, 3) := by decide +kernel
theorem d_C_findItem_13 : decode b_C_findItem 13 = .ok (.aload_n 0, 1) := by decide +kernel
theorem d_C_findItem_14 : decode b_C_findItem 14 = .ok (.getfield 19, 3) := by decide +kernel
theorem d_C_findItem_17 : decode b_C_findItem 17 = .ok (.iload_n 3, 1) := by decide +kernel
theorem d_C_findItem_18 : decode b_C_findItem 18 = .ok (.invokevirtual 160, 3) := by decide +kernel
theorem d_C_findItem_21 : decode b_C_findItem 21 = .ok (.checkcast 108, 3) := by decide +kernel
theorem d_C_findItem_24 : decode b_C_findItem 24 = .ok (.astore 4, 2) := by decide +kernel
theorem d_C_findItem_26 : decode b_C_findItem 26 = .ok (.aload 4, 2) := by decide +kernel
theorem d_C_findItem_28 : decode b_C_findItem 28 = .ok (.getfield 224, 3) := by decide +kernel
theorem d_C_findItem_31 : decode b_C_findItem 31 = .ok (.iload_n 1, 1) := by decide +kernel
theorem d_C_findItem_32 : decode b_C_findItem 32 = .ok (.if_icmp .ne 15, 3) := by decide +kernel
theorem d_C_findItem_35 : decode b_C_findItem 35 = .ok (.aload 4, 2) := by decide +kernel
theorem d_C_findItem_37 : decode b_C_findItem 37 = .ok (.getfield 227, 3) := by decide +kernel
theorem d_C_findItem_40 : decode b_C_findItem 40 = .ok (.iload_n 2, 1) := by decide +kernel
theorem d_C_findItem_41 : decode b_C_findItem 41 = .ok (.if_icmp .ne 6, 3) := by decide +kernel
theorem d_C_findItem_44 : decode b_C_findItem 44 = .ok (.aload 4, 2) := by decide +kernel
theorem d_C_findItem_46 : decode b_C_findItem 46 = .ok (.areturn, 1) := by decide +kernel
theorem d_C_findItem_47 : decode b_C_findItem 47 = .ok (.iinc 3 1, 3) := by decide +kernel
theorem d_C_findItem_50 : decode b_C_findItem 50 = .ok (.goto (-48), 3) := by decide +kernel
theorem d_C_findItem_53 : decode b_C_findItem 53 = .ok (.aconst_null, 1) := by decide +kernel
theorem d_C_findItem_54 : decode b_C_findItem 54 = .ok (.areturn, 1) := by decide +kernel
theorem d_C_isEnd_0 : decode b_C_isEnd 0 = .ok (.iload_n 0, 1) := by decide +kernel
theorem d_C_isEnd_1 : decode b_C_isEnd 1 = .ok (.iconst 5, 1) := by decide +kernel
theorem d_C_isEnd_2 : decode b_C_isEnd 2 = .ok (.if_icmp .eq 9, 3) := by decide +kernel
theorem d_C_isEnd_5 : decode b_C_isEnd 5 = .ok (.iload_n 0, 1) := by decide +kernel
theorem d_C_isEnd_6 : decode b_C_isEnd 6 = .ok (.bipush 6, 2) := by decide +kernel
theorem d_C_isEnd_8 : decode b_C_isEnd 8 = .ok (.if_icmp .ne 7, 3) := by decide +kernel
theorem d_C_isEnd_11 : decode b_C_isEnd 11 = .ok (.iconst 1, 1) := by decide +kernel
theorem d_C_isEnd_12 : decode b_C_isEnd 12 = .ok (.goto 4, 3) := by decide +kernel
theorem d_C_isEnd_15 : decode b_C_isEnd 15 = .ok (.iconst 0, 1) := by decide +kernel
theorem d_C_isEnd_16 : decode b_C_isEnd 16 = .ok (.ireturn, 1) := by decide +kernel
theorem d_C_noticesAreFull_0 : decode b_C_noticesAreFull 0 = .ok (.aload_n 0, 1) := by decide +kernel
theorem d_C_noticesAreFull_1 : decode b_C_noticesAreFull 1 = .ok (.getfield 16, 3) := by decide +kernel
theorem d_C_noticesAreFull_4 : decode b_C_noticesAreFull 4 = .ok (.invokevirtual 50, 3) := by decide +kernel
theorem d_C_noticesAreFull_7 : decode b_C_noticesAreFull 7 = .ok (.sipush 200, 3) := by decide +kernel
theorem d_C_noticesAreFull_10 : decode b_C_noticesAreFull 10 = .ok (.if_icmp .lt 7, 3) := by decide +kernel
theorem d_C_noticesAreFull_13 : decode b_C_noticesAreFull 13 = .ok (.iconst 1, 1) := by decide +kernel
theorem d_C_noticesAreFull_14 : decode b_C_noticesAreFull 14 = .ok (.goto 4, 3) := by decide +kernel
theorem d_C_noticesAreFull_17 : decode b_C_noticesAreFull 17 = .ok (.iconst 0, 1) := by decide +kernel
theorem d_C_noticesAreFull_18 : decode b_C_noticesAreFull 18 = .ok (.ireturn, 1) := by decide +kernel
theorem d_C_itemsAreFull_0 : decode b_C_itemsAreFull 0 = .ok (.aload_n 0, 1) := by decide +kernel
theorem d_C_itemsAreFull_1 : decode b_C_itemsAreFull 1 = .ok (.getfield 19, 3) := by decide +kernel
theorem d_C_itemsAreFull_4 : decode b_C_itemsAreFull 4 = .ok (.invokevirtual 50, 3) := by decide +kernel
theorem d_C_itemsAreFull_7 : decode b_C_itemsAreFull 7 = .ok (.bipush 60, 2) := by decide +kernel
theorem d_C_itemsAreFull_9 : decode b_C_itemsAreFull 9 = .ok (.if_icmp .lt 7, 3) := by decide +kernel
theorem d_C_itemsAreFull_12 : decode b_C_itemsAreFull 12 = .ok (.iconst 1, 1) := by decide +kernel
theorem d_C_itemsAreFull_13 : decode b_C_itemsAreFull 13 = .ok (.goto 4, 3) := by decide +kernel
theorem d_C_itemsAreFull_16 : decode b_C_itemsAreFull 16 = .ok (.iconst 0, 1) := by decide +kernel
theorem d_C_itemsAreFull_17 : decode b_C_itemsAreFull 17 = .ok (.ireturn, 1) := by decide +kernel
theorem d_C_addItem_0 : decode b_C_addItem 0 = .ok (.new 108, 3) := by decide +kernel
theorem d_C_addItem_3 : decode b_C_addItem 3 = .ok (.dup, 1) := by decide +kernel
theorem d_C_addItem_4 : decode b_C_addItem 4 = .ok (.iload_n 1, 1) := by decide +kernel
theorem d_C_addItem_5 : decode b_C_addItem 5 = .ok (.iload_n 2, 1) := by decide +kernel
theorem d_C_addItem_6 : decode b_C_addItem 6 = .ok (.invokespecial 230, 3) := by decide +kernel
theorem d_C_addItem_9 : decode b_C_addItem 9 = .ok (.astore_n 3, 1) := by decide +kernel
theorem d_C_addItem_10 : decode b_C_addItem 10 = .ok (.aload_n 0, 1) := by decide +kernel
theorem d_C_addItem_11 : decode b_C_addItem 11 = .ok (.getfield 19, 3) := by decide +kernel
theorem d_C_addItem_14 : decode b_C_addItem 14 = .ok (.aload_n 3, 1) := by decide +kernel
theorem d_C_addItem_15 : decode b_C_addItem 15 = .ok (.invokevirtual 59, 3) := by decide +kernel
theorem d_C_addItem_18 : decode b_C_addItem 18 = .ok (.pop, 1) := by decide +kernel
theorem d_C_addItem_19 : decode b_C_addItem 19 = .ok (.aload_n 3, 1) := by decide +kernel
theorem d_C_addItem_20 : decode b_C_addItem 20 = .ok (.areturn, 1) := by decide +kernel
theorem d_I_init_0 : decode b_I_init 0 = .ok (.aload_n 0, 1) := by decide +kernel
theorem d_I_init_1 : decode b_I_init 1 = .ok (.invokespecial 1, 3) := by decide +kernel
theorem d_I_init_4 : decode b_I_init 4 = .ok (.aload_n 0, 1) := by decide +kernel
theorem d_I_init_5 : decode b_I_init 5 = .ok (.iload_n 1, 1) := by decide +kernel
theorem d_I_init_6 : decode b_I_init 6 = .ok (.putfield 7, 3) := by decide +kernel
theorem d_I_init_9 : decode b_I_init 9 = .ok (.aload_n 0, 1) := by decide +kernel
theorem d_I_init_10 : decode b_I_init 10 = .ok (.iload_n 2, 1) := by decide +kernel
theorem d_I_init_11 : decode b_I_init 11 = .ok (.putfield 13, 3) := by decide +kernel
theorem d_I_init_14 : decode b_I_init 14 = .ok (.return_, 1) := by decide +kernel
theorem d_C_addNotice_0 : decode b_C_addNotice 0 = .ok (.new 131, 3) := by decide +kernel
theorem d_C_addNotice_3 : decode b_C_addNotice 3 = .ok (.dup, 1) := by decide +kernel
theorem d_C_addNotice_4 : decode b_C_addNotice 4 = .ok (.aload_n 0, 1) := by decide +kernel
theorem d_C_addNotice_5 : decode b_C_addNotice 5 = .ok (.getfield 16, 3) := by decide +kernel
theorem d_C_addNotice_8 : decode b_C_addNotice 8 = .ok (.invokevirtual 50, 3) := by decide +kernel
theorem d_C_addNotice_11 : decode b_C_addNotice 11 = .ok (.iconst 1, 1) := by decide +kernel
theorem d_C_addNotice_12 : decode b_C_addNotice 12 = .ok (.iadd, 1) := by decide +kernel
theorem d_C_addNotice_13 : decode b_C_addNotice 13 = .ok (.aload_n 1, 1) := by decide +kernel
theorem d_C_addNotice_14 : decode b_C_addNotice 14 = .ok (.iload_n 2, 1) := by decide +kernel
theorem d_C_addNotice_15 : decode b_C_addNotice 15 = .ok (.iload_n 3, 1) := by decide +kernel
theorem d_C_addNotice_16 : decode b_C_addNotice 16 = .ok (.lload 4, 2) := by decide +kernel
theorem d_C_addNotice_18 : decode b_C_addNotice 18 = .ok (.invokespecial 232, 3) := by decide +kernel
theorem d_C_addNotice_21 : decode b_C_addNotice 21 = .ok (.astore 6, 2) := by decide +kernel
theorem d_C_addNotice_23 : decode b_C_addNotice 23 = .ok (.aload_n 0, 1) := by decide +kernel
theorem d_C_addNotice_24 : decode b_C_addNotice 24 = .ok (.getfield 16, 3) := by decide +kernel
theorem d_C_addNotice_27 : decode b_C_addNotice 27 = .ok (.aload 6, 2) := by decide +kernel
theorem d_C_addNotice_29 : decode b_C_addNotice 29 = .ok (.invokevirtual 59, 3) := by decide +kernel
theorem d_C_addNotice_32 : decode b_C_addNotice 32 = .ok (.pop, 1) := by decide +kernel
theorem d_C_addNotice_33 : decode b_C_addNotice 33 = .ok (.aload 6, 2) := by decide +kernel
theorem d_C_addNotice_35 : decode b_C_addNotice 35 = .ok (.areturn, 1) := by decide +kernel
theorem d_N_init_0 : decode b_N_init 0 = .ok (.aload_n 0, 1) := by decide +kernel
theorem d_N_init_1 : decode b_N_init 1 = .ok (.invokespecial 3, 3) := by decide +kernel
theorem d_N_init_4 : decode b_N_init 4 = .ok (.aload_n 0, 1) := by decide +kernel
theorem d_N_init_5 : decode b_N_init 5 = .ok (.iload_n 1, 1) := by decide +kernel
theorem d_N_init_6 : decode b_N_init 6 = .ok (.putfield 9, 3) := by decide +kernel
theorem d_N_init_9 : decode b_N_init 9 = .ok (.aload_n 0, 1) := by decide +kernel
theorem d_N_init_10 : decode b_N_init 10 = .ok (.aload_n 2, 1) := by decide +kernel
theorem d_N_init_11 : decode b_N_init 11 = .ok (.putfield 15, 3) := by decide +kernel
theorem d_N_init_14 : decode b_N_init 14 = .ok (.aload_n 0, 1) := by decide +kernel
theorem d_N_init_15 : decode b_N_init 15 = .ok (.iload_n 3, 1) := by decide +kernel
theorem d_N_init_16 : decode b_N_init 16 = .ok (.putfield 19, 3) := by decide +kernel
theorem d_N_init_19 : decode b_N_init 19 = .ok (.aload_n 0, 1) := by decide +kernel
theorem d_N_init_20 : decode b_N_init 20 = .ok (.iload 4, 2) := by decide +kernel
theorem d_N_init_22 : decode b_N_init 22 = .ok (.putfield 22, 3) := by decide +kernel
theorem d_N_init_25 : decode b_N_init 25 = .ok (.aload_n 0, 1) := by decide +kernel
theorem d_N_init_26 : decode b_N_init 26 = .ok (.lload 5, 2) := by decide +kernel
theorem d_N_init_28 : decode b_N_init 28 = .ok (.putfield 25, 3) := by decide +kernel
theorem d_N_init_31 : decode b_N_init 31 = .ok (.aload_n 0, 1) := by decide +kernel
theorem d_N_init_32 : decode b_N_init 32 = .ok (.iconst 0, 1) := by decide +kernel
theorem d_N_init_33 : decode b_N_init 33 = .ok (.putfield 29, 3) := by decide +kernel
theorem d_N_init_36 : decode b_N_init 36 = .ok (.aload_n 0, 1) := by decide +kernel
theorem d_N_init_37 : decode b_N_init 37 = .ok (.ldc2_w 32, 3) := by decide +kernel
theorem d_N_init_40 : decode b_N_init 40 = .ok (.putfield 34, 3) := by decide +kernel
theorem d_N_init_43 : decode b_N_init 43 = .ok (.return_, 1) := by decide +kernel
theorem d_C_promise_0 : decode b_C_promise 0 = .ok (.aload_n 0, 1) := by decide +kernel
theorem d_C_promise_1 : decode b_C_promise 1 = .ok (.iload_n 1, 1) := by decide +kernel
theorem d_C_promise_2 : decode b_C_promise 2 = .ok (.invokevirtual 63, 3) := by decide +kernel
theorem d_C_promise_5 : decode b_C_promise 5 = .ok (.astore 7, 2) := by decide +kernel
theorem d_C_promise_7 : decode b_C_promise 7 = .ok (.aload 7, 2) := by decide +kernel
theorem d_C_promise_9 : decode b_C_promise 9 = .ok (.ifnonnull 6, 3) := by decide +kernel
theorem d_C_promise_12 : decode b_C_promise 12 = .ok (.bipush (-11), 2) := by decide +kernel
theorem d_C_promise_14 : decode b_C_promise 14 = .ok (.ireturn, 1) := by decide +kernel
theorem d_C_promise_15 : decode b_C_promise 15 = .ok (.iload_n 2, 1) := by decide +kernel
theorem d_C_promise_16 : decode b_C_promise 16 = .ok (.invokestatic 96, 3) := by decide +kernel
theorem d_C_promise_19 : decode b_C_promise 19 = .ok (.ifCond .eq 26, 3) := by decide +kernel
theorem d_C_promise_22 : decode b_C_promise 22 = .ok (.lload_n 3, 1) := by decide +kernel
theorem d_C_promise_23 : decode b_C_promise 23 = .ok (.lconst 0, 1) := by decide +kernel
theorem d_C_promise_24 : decode b_C_promise 24 = .ok (.ldc2_w 135, 3) := by decide +kernel
theorem d_C_promise_27 : decode b_C_promise 27 = .ok (.invokestatic 42, 3) := by decide +kernel
theorem d_C_promise_30 : decode b_C_promise 30 = .ok (.ifCond .eq 15, 3) := by decide +kernel
theorem d_C_promise_33 : decode b_C_promise 33 = .ok (.lload 5, 2) := by decide +kernel
theorem d_C_promise_35 : decode b_C_promise 35 = .ok (.lconst 0, 1) := by decide +kernel
theorem d_C_promise_36 : decode b_C_promise 36 = .ok (.ldc2_w 137, 3) := by decide +kernel
theorem d_C_promise_39 : decode b_C_promise 39 = .ok (.invokestatic 42, 3) := by decide +kernel
theorem d_C_promise_42 : decode b_C_promise 42 = .ok (.ifCond .ne 6, 3) := by decide +kernel
theorem d_C_promise_45 : decode b_C_promise 45 = .ok (.bipush (-12), 2) := by decide +kernel
theorem d_C_promise_47 : decode b_C_promise 47 = .ok (.ireturn, 1) := by decide +kernel
theorem d_C_promise_48 : decode b_C_promise 48 = .ok (.aload_n 0, 1) := by decide +kernel
theorem d_C_promise_49 : decode b_C_promise 49 = .ok (.iload_n 1, 1) := by decide +kernel
theorem d_C_promise_50 : decode b_C_promise 50 = .ok (.iload_n 2, 1) := by decide +kernel
theorem d_C_promise_51 : decode b_C_promise 51 = .ok (.invokevirtual 103, 3) := by decide +kernel
theorem d_C_promise_54 : decode b_C_promise 54 = .ok (.astore 8, 2) := by decide +kernel
theorem d_C_promise_56 : decode b_C_promise 56 = .ok (.aload 7, 2) := by decide +kernel
theorem d_C_promise_58 : decode b_C_promise 58 = .ok (.iconst 3, 1) := by decide +kernel
theorem d_C_promise_59 : decode b_C_promise 59 = .ok (.invokevirtual 77, 3) := by decide +kernel
theorem d_C_promise_62 : decode b_C_promise 62 = .ok (.ifCond .eq 16, 3) := by decide +kernel
theorem d_C_promise_65 : decode b_C_promise 65 = .ok (.aload 8, 2) := by decide +kernel
theorem d_C_promise_67 : decode b_C_promise 67 = .ok (.ifnull 13, 3) := by decide +kernel
theorem d_C_promise_70 : decode b_C_promise 70 = .ok (.aload 8, 2) := by decide +kernel
theorem d_C_promise_72 : decode b_C_promise 72 = .ok (.getfield 107, 3) := by decide +kernel
theorem d_C_promise_75 : decode b_C_promise 75 = .ok (.ifCond .eq 5, 3) := by decide +kernel
theorem d_C_promise_78 : decode b_C_promise 78 = .ok (.iconst 0, 1) := by decide +kernel
theorem d_C_promise_79 : decode b_C_promise 79 = .ok (.ireturn, 1) := by decide +kernel
theorem d_C_promise_80 : decode b_C_promise 80 = .ok (.aload 8, 2) := by decide +kernel
theorem d_C_promise_82 : decode b_C_promise 82 = .ok (.ifnonnull 7, 3) := by decide +kernel
theorem d_C_promise_85 : decode b_C_promise 85 = .ok (.aconst_null, 1) := by decide +kernel
theorem d_C_promise_86 : decode b_C_promise 86 = .ok (.goto 8, 3) := by decide +kernel
theorem d_C_promise_89 : decode b_C_promise 89 = .ok (.aload 8, 2) := by decide +kernel
theorem d_C_promise_91 : decode b_C_promise 91 = .ok (.getfield 139, 3) := by decide +kernel
theorem d_C_promise_94 : decode b_C_promise 94 = .ok (.astore 9, 2) := by decide +kernel
theorem d_C_promise_96 : decode b_C_promise 96 = .ok (.aload 9, 2) := by decide +kernel
theorem d_C_promise_98 : decode b_C_promise 98 = .ok (.ifnonnull 14, 3) := by decide +kernel
theorem d_C_promise_101 : decode b_C_promise 101 = .ok (.aload_n 0, 1) := by decide +kernel
theorem d_C_promise_102 : decode b_C_promise 102 = .ok (.aload 7, 2) := by decide +kernel
theorem d_C_promise_104 : decode b_C_promise 104 = .ok (.iload_n 2, 1) := by decide +kernel
theorem d_C_promise_105 : decode b_C_promise 105 = .ok (.aload 8, 2) := by decide +kernel
theorem d_C_promise_107 : decode b_C_promise 107 = .ok (.lload_n 3, 1) := by decide +kernel
theorem d_C_promise_108 : decode b_C_promise 108 = .ok (.invokevirtual 143, 3) := by decide +kernel
theorem d_C_promise_111 : decode b_C_promise 111 = .ok (.ireturn, 1) := by decide +kernel
theorem d_C_promise_112 : decode b_C_promise 112 = .ok (.lload_n 3, 1) := by decide +kernel
theorem d_C_promise_113 : decode b_C_promise 113 = .ok (.aload 9, 2) := by decide +kernel
theorem d_C_promise_115 : decode b_C_promise 115 = .ok (.getfield 147, 3) := by decide +kernel
theorem d_C_promise_118 : decode b_C_promise 118 = .ok (.lsub, 1) := by decide +kernel
theorem d_C_promise_119 : decode b_C_promise 119 = .ok (.invokestatic 150, 3) := by decide +kernel
theorem d_C_promise_122 : decode b_C_promise 122 = .ok (.lload 5, 2) := by decide +kernel
theorem d_C_promise_124 : decode b_C_promise 124 = .ok (.lcmp, 1) := by decide +kernel
theorem d_C_promise_125 : decode b_C_promise 125 = .ok (.ifCond .gt 5, 3) := by decide +kernel
theorem d_C_promise_128 : decode b_C_promise 128 = .ok (.iconst 0, 1) := by decide +kernel
theorem d_C_promise_129 : decode b_C_promise 129 = .ok (.ireturn, 1) := by decide +kernel
theorem d_C_promise_130 : decode b_C_promise 130 = .ok (.aload 9, 2) := by decide +kernel
theorem d_C_promise_132 : decode b_C_promise 132 = .ok (.getfield 154, 3) := by decide +kernel
theorem d_C_promise_135 : decode b_C_promise 135 = .ok (.ifCond .ne 15, 3) := by decide +kernel
theorem d_C_promise_138 : decode b_C_promise 138 = .ok (.aload 9, 2) := by decide +kernel
theorem d_C_promise_140 : decode b_C_promise 140 = .ok (.lload_n 3, 1) := by decide +kernel
theorem d_C_promise_141 : decode b_C_promise 141 = .ok (.putfield 147, 3) := by decide +kernel
theorem d_C_promise_144 : decode b_C_promise 144 = .ok (.aload 9, 2) := by decide +kernel
theorem d_C_promise_146 : decode b_C_promise 146 = .ok (.getfield 130, 3) := by decide +kernel
theorem d_C_promise_149 : decode b_C_promise 149 = .ok (.ireturn, 1) := by decide +kernel
theorem d_C_promise_150 : decode b_C_promise 150 = .ok (.aload_n 0, 1) := by decide +kernel
theorem d_C_promise_151 : decode b_C_promise 151 = .ok (.aload 7, 2) := by decide +kernel
theorem d_C_promise_153 : decode b_C_promise 153 = .ok (.iload_n 2, 1) := by decide +kernel
theorem d_C_promise_154 : decode b_C_promise 154 = .ok (.aload 8, 2) := by decide +kernel
theorem d_C_promise_156 : decode b_C_promise 156 = .ok (.lload_n 3, 1) := by decide +kernel
theorem d_C_promise_157 : decode b_C_promise 157 = .ok (.invokevirtual 143, 3) := by decide +kernel
theorem d_C_promise_160 : decode b_C_promise 160 = .ok (.ireturn, 1) := by decide +kernel
theorem d_C_addPromise_0 : decode b_C_addPromise 0 = .ok (.aload_n 0, 1) := by decide +kernel
theorem d_C_addPromise_1 : decode b_C_addPromise 1 = .ok (.invokevirtual 116, 3) := by decide +kernel
theorem d_C_addPromise_4 : decode b_C_addPromise 4 = .ok (.ifCond .ne 14, 3) := by decide +kernel
theorem d_C_addPromise_7 : decode b_C_addPromise 7 = .ok (.aload_n 3, 1) := by decide +kernel
theorem d_C_addPromise_8 : decode b_C_addPromise 8 = .ok (.ifnonnull 13, 3) := by decide +kernel
theorem d_C_addPromise_11 : decode b_C_addPromise 11 = .ok (.aload_n 0, 1) := by decide +kernel
theorem d_C_addPromise_12 : decode b_C_addPromise 12 = .ok (.invokevirtual 120, 3) := by decide +kernel
theorem d_C_addPromise_15 : decode b_C_addPromise 15 = .ok (.ifCond .eq 6, 3) := by decide +kernel
theorem d_C_addPromise_18 : decode b_C_addPromise 18 = .ok (.bipush (-14), 2) := by decide +kernel
theorem d_C_addPromise_20 : decode b_C_addPromise 20 = .ok (.ireturn, 1) := by decide +kernel
theorem d_C_addPromise_21 : decode b_C_addPromise 21 = .ok (.aload_n 0, 1) := by decide +kernel
theorem d_C_addPromise_22 : decode b_C_addPromise 22 = .ok (.aload_n 1, 1) := by decide +kernel
theorem d_C_addPromise_23 : decode b_C_addPromise 23 = .ok (.iload_n 2, 1) := by decide +kernel
theorem d_C_addPromise_24 : decode b_C_addPromise 24 = .ok (.iconst 3, 1) := by decide +kernel
theorem d_C_addPromise_25 : decode b_C_addPromise 25 = .ok (.aload_n 0, 1) := by decide +kernel
theorem d_C_addPromise_26 : decode b_C_addPromise 26 = .ok (.getfield 32, 3) := by decide +kernel
theorem d_C_addPromise_29 : decode b_C_addPromise 29 = .ok (.invokevirtual 126, 3) := by decide +kernel
theorem d_C_addPromise_32 : decode b_C_addPromise 32 = .ok (.astore 6, 2) := by decide +kernel
theorem d_C_addPromise_34 : decode b_C_addPromise 34 = .ok (.aload 6, 2) := by decide +kernel
theorem d_C_addPromise_36 : decode b_C_addPromise 36 = .ok (.lload 4, 2) := by decide +kernel
theorem d_C_addPromise_38 : decode b_C_addPromise 38 = .ok (.putfield 147, 3) := by decide +kernel
theorem d_C_addPromise_41 : decode b_C_addPromise 41 = .ok (.aload_n 3, 1) := by decide +kernel
theorem d_C_addPromise_42 : decode b_C_addPromise 42 = .ok (.ifnonnull 15, 3) := by decide +kernel
theorem d_C_addPromise_45 : decode b_C_addPromise 45 = .ok (.aload_n 0, 1) := by decide +kernel
theorem d_C_addPromise_46 : decode b_C_addPromise 46 = .ok (.aload_n 1, 1) := by decide +kernel
theorem d_C_addPromise_47 : decode b_C_addPromise 47 = .ok (.getfield 189, 3) := by decide +kernel
theorem d_C_addPromise_50 : decode b_C_addPromise 50 = .ok (.iload_n 2, 1) := by decide +kernel
theorem d_C_addPromise_51 : decode b_C_addPromise 51 = .ok (.invokevirtual 123, 3) := by decide +kernel
theorem d_C_addPromise_54 : decode b_C_addPromise 54 = .ok (.goto 4, 3) := by decide +kernel
theorem d_C_addPromise_57 : decode b_C_addPromise 57 = .ok (.aload_n 3, 1) := by decide +kernel
theorem d_C_addPromise_58 : decode b_C_addPromise 58 = .ok (.astore 7, 2) := by decide +kernel
theorem d_C_addPromise_60 : decode b_C_addPromise 60 = .ok (.aload 7, 2) := by decide +kernel
theorem d_C_addPromise_62 : decode b_C_addPromise 62 = .ok (.aload 6, 2) := by decide +kernel
theorem d_C_addPromise_64 : decode b_C_addPromise 64 = .ok (.putfield 139, 3) := by decide +kernel
theorem d_C_addPromise_67 : decode b_C_addPromise 67 = .ok (.aload 6, 2) := by decide +kernel
theorem d_C_addPromise_69 : decode b_C_addPromise 69 = .ok (.getfield 130, 3) := by decide +kernel
theorem d_C_addPromise_72 : decode b_C_addPromise 72 = .ok (.ireturn, 1) := by decide +kernel
theorem d_C_tick_0 : decode b_C_tick 0 = .ok (.aload_n 0, 1) := by decide +kernel
theorem d_C_tick_1 : decode b_C_tick 1 = .ok (.lload_n 1, 1) := by decide +kernel
theorem d_C_tick_2 : decode b_C_tick 2 = .ok (.invokevirtual 99, 3) := by decide +kernel
theorem d_C_tick_5 : decode b_C_tick 5 = .ok (.ifCond .ne 6, 3) := by decide +kernel
theorem d_C_tick_8 : decode b_C_tick 8 = .ok (.bipush (-12), 2) := by decide +kernel
theorem d_C_tick_10 : decode b_C_tick 10 = .ok (.ireturn, 1) := by decide +kernel
theorem d_C_tick_11 : decode b_C_tick 11 = .ok (.aload_n 0, 1) := by decide +kernel
theorem d_C_tick_12 : decode b_C_tick 12 = .ok (.lload_n 1, 1) := by decide +kernel
theorem d_C_tick_13 : decode b_C_tick 13 = .ok (.putfield 32, 3) := by decide +kernel
theorem d_C_tick_16 : decode b_C_tick 16 = .ok (.aload_n 0, 1) := by decide +kernel
theorem d_C_tick_17 : decode b_C_tick 17 = .ok (.invokevirtual 157, 3) := by decide +kernel
theorem d_C_tick_20 : decode b_C_tick 20 = .ok (.aload_n 0, 1) := by decide +kernel
theorem d_C_tick_21 : decode b_C_tick 21 = .ok (.getfield 22, 3) := by decide +kernel
theorem d_C_tick_24 : decode b_C_tick 24 = .ok (.invokevirtual 50, 3) := by decide +kernel
theorem d_C_tick_27 : decode b_C_tick 27 = .ok (.istore_n 3, 1) := by decide +kernel
theorem d_C_tick_28 : decode b_C_tick 28 = .ok (.iconst 0, 1) := by decide +kernel
theorem d_C_tick_29 : decode b_C_tick 29 = .ok (.istore 4, 2) := by decide +kernel
theorem d_C_tick_31 : decode b_C_tick 31 = .ok (.iload 4, 2) := by decide +kernel
theorem d_C_tick_33 : decode b_C_tick 33 = .ok (.aload_n 0, 1) := by decide +kernel
theorem d_C_tick_34 : decode b_C_tick 34 = .ok (.getfield 16, 3) := by decide +kernel
theorem d_C_tick_37 : decode b_C_tick 37 = .ok (.invokevirtual 50, 3) := by decide +kernel
theorem d_C_tick_40 : decode b_C_tick 40 = .ok (.if_icmp .ge 55, 3) := by decide +kernel
theorem d_C_tick_43 : decode b_C_tick 43 = .ok (.aload_n 0, 1) := by decide +kernel
theorem d_C_tick_44 : decode b_C_tick 44 = .ok (.getfield 16, 3) := by decide +kernel
theorem d_C_tick_47 : decode b_C_tick 47 = .ok (.iload 4, 2) := by decide +kernel
theorem d_C_tick_49 : decode b_C_tick 49 = .ok (.invokevirtual 160, 3) := by decide +kernel
theorem d_C_tick_52 : decode b_C_tick 52 = .ok (.checkcast 131, 3) := by decide +kernel
theorem d_C_tick_55 : decode b_C_tick 55 = .ok (.astore 5, 2) := by decide +kernel
theorem d_C_tick_57 : decode b_C_tick 57 = .ok (.aload 5, 2) := by decide +kernel
theorem d_C_tick_59 : decode b_C_tick 59 = .ok (.getfield 154, 3) := by decide +kernel
theorem d_C_tick_62 : decode b_C_tick 62 = .ok (.ifCond .ne 27, 3) := by decide +kernel
theorem d_C_tick_65 : decode b_C_tick 65 = .ok (.aload_n 0, 1) := by decide +kernel
theorem d_C_tick_66 : decode b_C_tick 66 = .ok (.aload 5, 2) := by decide +kernel
theorem d_C_tick_68 : decode b_C_tick 68 = .ok (.invokevirtual 164, 3) := by decide +kernel
theorem d_C_tick_71 : decode b_C_tick 71 = .ok (.ifCond .eq 18, 3) := by decide +kernel
theorem d_C_tick_74 : decode b_C_tick 74 = .ok (.aload_n 0, 1) := by decide +kernel
theorem d_C_tick_75 : decode b_C_tick 75 = .ok (.aload 5, 2) := by decide +kernel
theorem d_C_tick_77 : decode b_C_tick 77 = .ok (.invokevirtual 168, 3) := by decide +kernel
theorem d_C_tick_80 : decode b_C_tick 80 = .ok (.ifCond .ne 9, 3) := by decide +kernel
theorem d_C_tick_83 : decode b_C_tick 83 = .ok (.aload_n 0, 1) := by decide +kernel
theorem d_C_tick_84 : decode b_C_tick 84 = .ok (.aload 5, 2) := by decide +kernel
theorem d_C_tick_86 : decode b_C_tick 86 = .ok (.invokevirtual 171, 3) := by decide +kernel
theorem d_C_tick_89 : decode b_C_tick 89 = .ok (.iinc 4 1, 3) := by decide +kernel
theorem d_C_tick_92 : decode b_C_tick 92 = .ok (.goto (-61), 3) := by decide +kernel
theorem d_C_tick_95 : decode b_C_tick 95 = .ok (.aload_n 0, 1) := by decide +kernel
theorem d_C_tick_96 : decode b_C_tick 96 = .ok (.getfield 22, 3) := by decide +kernel
theorem d_C_tick_99 : decode b_C_tick 99 = .ok (.invokevirtual 50, 3) := by decide +kernel
theorem d_C_tick_102 : decode b_C_tick 102 = .ok (.iload_n 3, 1) := by decide +kernel
theorem d_C_tick_103 : decode b_C_tick 103 = .ok (.isub, 1) := by decide +kernel
theorem d_C_tick_104 : decode b_C_tick 104 = .ok (.ireturn, 1) := by decide +kernel
theorem d_C_prepareCustomersForTick_0 : decode b_C_prepareCustomersForTick 0 = .ok (.iconst 0, 1) := by decide +kernel
theorem d_C_prepareCustomersForTick_1 : decode b_C_prepareCustomersForTick 1 = .ok (.istore_n 1, 1) := by decide +kernel
theorem d_C_prepareCustomersForTick_2 : decode b_C_prepareCustomersForTick 2 = .ok (.iload_n 1, 1) := by decide +kernel
theorem d_C_prepareCustomersForTick_3 : decode b_C_prepareCustomersForTick 3 = .ok (.aload_n 0, 1) := by decide +kernel
theorem d_C_prepareCustomersForTick_4 : decode b_C_prepareCustomersForTick 4 = .ok (.getfield 10, 3) := by decide +kernel
theorem d_C_prepareCustomersForTick_7 : decode b_C_prepareCustomersForTick 7 = .ok (.invokevirtual 50, 3) := by decide +kernel
theorem d_C_prepareCustomersForTick_10 : decode b_C_prepareCustomersForTick 10 = .ok (.if_icmp .ge 33, 3) := by decide +kernel
theorem d_C_prepareCustomersForTick_13 : decode b_C_prepareCustomersForTick 13 = .ok (.aload_n 0, 1) := by decide +kernel
theorem d_C_prepareCustomersForTick_14 : decode b_C_prepareCustomersForTick 14 = .ok (.getfield 10, 3) := by decide +kernel
theorem d_C_prepareCustomersForTick_17 : decode b_C_prepareCustomersForTick 17 = .ok (.iload_n 1, 1) := by decide +kernel
theorem d_C_prepareCustomersForTick_18 : decode b_C_prepareCustomersForTick 18 = .ok (.invokevirtual 160, 3) := by decide +kernel
theorem d_C_prepareCustomersForTick_21 : decode b_C_prepareCustomersForTick 21 = .ok (.checkcast 54, 3) := by decide +kernel
theorem d_C_prepareCustomersForTick_24 : decode b_C_prepareCustomersForTick 24 = .ok (.astore_n 2, 1) := by decide +kernel
theorem d_C_prepareCustomersForTick_25 : decode b_C_prepareCustomersForTick 25 = .ok (.aload_n 2, 1) := by decide +kernel
theorem d_C_prepareCustomersForTick_26 : decode b_C_prepareCustomersForTick 26 = .ok (.ldc2_w 135, 3) := by decide +kernel
theorem d_C_prepareCustomersForTick_29 : decode b_C_prepareCustomersForTick 29 = .ok (.putfield 238, 3) := by decide +kernel
theorem d_C_prepareCustomersForTick_32 : decode b_C_prepareCustomersForTick 32 = .ok (.aload_n 2, 1) := by decide +kernel
theorem d_C_prepareCustomersForTick_33 : decode b_C_prepareCustomersForTick 33 = .ok (.iconst 0, 1) := by decide +kernel
theorem d_C_prepareCustomersForTick_34 : decode b_C_prepareCustomersForTick 34 = .ok (.putfield 241, 3) := by decide +kernel
theorem d_C_prepareCustomersForTick_37 : decode b_C_prepareCustomersForTick 37 = .ok (.iinc 1 1, 3) := by decide +kernel
theorem d_C_prepareCustomersForTick_40 : decode b_C_prepareCustomersForTick 40 = .ok (.goto (-38), 3) := by decide +kernel
theorem d_C_prepareCustomersForTick_43 : decode b_C_prepareCustomersForTick 43 = .ok (.iconst 0, 1) := by decide +kernel
theorem d_C_prepareCustomersForTick_44 : decode b_C_prepareCustomersForTick 44 = .ok (.istore_n 1, 1) := by decide +kernel
theorem d_C_prepareCustomersForTick_45 : decode b_C_prepareCustomersForTick 45 = .ok (.iload_n 1, 1) := by decide +kernel
theorem d_C_prepareCustomersForTick_46 : decode b_C_prepareCustomersForTick 46 = .ok (.aload_n 0, 1) := by decide +kernel
theorem d_C_prepareCustomersForTick_47 : decode b_C_prepareCustomersForTick 47 = .ok (.getfield 16, 3) := by decide +kernel
theorem d_C_prepareCustomersForTick_50 : decode b_C_prepareCustomersForTick 50 = .ok (.invokevirtual 50, 3) := by decide +kernel
theorem d_C_prepareCustomersForTick_53 : decode b_C_prepareCustomersForTick 53 = .ok (.if_icmp .ge 55, 3) := by decide +kernel
theorem d_C_prepareCustomersForTick_56 : decode b_C_prepareCustomersForTick 56 = .ok (.aload_n 0, 1) := by decide +kernel
theorem d_C_prepareCustomersForTick_57 : decode b_C_prepareCustomersForTick 57 = .ok (.getfield 16, 3) := by decide +kernel
theorem d_C_prepareCustomersForTick_60 : decode b_C_prepareCustomersForTick 60 = .ok (.iload_n 1, 1) := by decide +kernel
theorem d_C_prepareCustomersForTick_61 : decode b_C_prepareCustomersForTick 61 = .ok (.invokevirtual 160, 3) := by decide +kernel
theorem d_C_prepareCustomersForTick_64 : decode b_C_prepareCustomersForTick 64 = .ok (.checkcast 131, 3) := by decide +kernel
theorem d_C_prepareCustomersForTick_67 : decode b_C_prepareCustomersForTick 67 = .ok (.astore_n 2, 1) := by decide +kernel
theorem d_C_prepareCustomersForTick_68 : decode b_C_prepareCustomersForTick 68 = .ok (.aload_n 2, 1) := by decide +kernel
theorem d_C_prepareCustomersForTick_69 : decode b_C_prepareCustomersForTick 69 = .ok (.getfield 154, 3) := by decide +kernel
theorem d_C_prepareCustomersForTick_72 : decode b_C_prepareCustomersForTick 72 = .ok (.ifCond .ne 30, 3) := by decide +kernel
theorem d_C_prepareCustomersForTick_75 : decode b_C_prepareCustomersForTick 75 = .ok (.aload_n 2, 1) := by decide +kernel
theorem d_C_prepareCustomersForTick_76 : decode b_C_prepareCustomersForTick 76 = .ok (.invokevirtual 244, 3) := by decide +kernel
theorem d_C_prepareCustomersForTick_79 : decode b_C_prepareCustomersForTick 79 = .ok (.ifCond .ne 23, 3) := by decide +kernel
theorem d_C_prepareCustomersForTick_82 : decode b_C_prepareCustomersForTick 82 = .ok (.aload_n 2, 1) := by decide +kernel
theorem d_C_prepareCustomersForTick_83 : decode b_C_prepareCustomersForTick 83 = .ok (.getfield 185, 3) := by decide +kernel
theorem d_C_prepareCustomersForTick_86 : decode b_C_prepareCustomersForTick 86 = .ok (.astore_n 3, 1) := by decide +kernel
theorem d_C_prepareCustomersForTick_87 : decode b_C_prepareCustomersForTick 87 = .ok (.aload_n 3, 1) := by decide +kernel
theorem d_C_prepareCustomersForTick_88 : decode b_C_prepareCustomersForTick 88 = .ok (.aload_n 3, 1) := by decide +kernel
theorem d_C_prepareCustomersForTick_89 : decode b_C_prepareCustomersForTick 89 = .ok (.getfield 238, 3) := by decide +kernel
theorem d_C_prepareCustomersForTick_92 : decode b_C_prepareCustomersForTick 92 = .ok (.aload_n 2, 1) := by decide +kernel
theorem d_C_prepareCustomersForTick_93 : decode b_C_prepareCustomersForTick 93 = .ok (.getfield 247, 3) := by decide +kernel
theorem d_C_prepareCustomersForTick_96 : decode b_C_prepareCustomersForTick 96 = .ok (.invokestatic 250, 3) := by decide +kernel
theorem d_C_prepareCustomersForTick_99 : decode b_C_prepareCustomersForTick 99 = .ok (.putfield 238, 3) := by decide +kernel
theorem d_C_prepareCustomersForTick_102 : decode b_C_prepareCustomersForTick 102 = .ok (.iinc 1 1, 3) := by decide +kernel
theorem d_C_prepareCustomersForTick_105 : decode b_C_prepareCustomersForTick 105 = .ok (.goto (-60), 3) := by decide +kernel
theorem d_C_prepareCustomersForTick_108 : decode b_C_prepareCustomersForTick 108 = .ok (.return_, 1) := by decide +kernel
theorem d_N_isMarked_0 : decode b_N_isMarked 0 = .ok (.aload_n 0, 1) := by decide +kernel
theorem d_N_isMarked_1 : decode b_N_isMarked 1 = .ok (.getfield 22, 3) := by decide +kernel
theorem d_N_isMarked_4 : decode b_N_isMarked 4 = .ok (.bipush 7, 2) := by decide +kernel
theorem d_N_isMarked_6 : decode b_N_isMarked 6 = .ok (.if_icmp .ne 7, 3) := by decide +kernel
theorem d_N_isMarked_9 : decode b_N_isMarked 9 = .ok (.iconst 1, 1) := by decide +kernel
theorem d_N_isMarked_10 : decode b_N_isMarked 10 = .ok (.goto 4, 3) := by decide +kernel
theorem d_N_isMarked_13 : decode b_N_isMarked 13 = .ok (.iconst 0, 1) := by decide +kernel
theorem d_N_isMarked_14 : decode b_N_isMarked 14 = .ok (.ireturn, 1) := by decide +kernel
theorem d_C_isDue_0 : decode b_C_isDue 0 = .ok (.aload_n 1, 1) := by decide +kernel
theorem d_C_isDue_1 : decode b_C_isDue 1 = .ok (.getfield 247, 3) := by decide +kernel
theorem d_C_isDue_4 : decode b_C_isDue 4 = .ok (.aload_n 0, 1) := by decide +kernel
theorem d_C_isDue_5 : decode b_C_isDue 5 = .ok (.getfield 32, 3) := by decide +kernel
theorem d_C_isDue_8 : decode b_C_isDue 8 = .ok (.lcmp, 1) := by decide +kernel
theorem d_C_isDue_9 : decode b_C_isDue 9 = .ok (.ifCond .le 5, 3) := by decide +kernel
theorem d_C_isDue_12 : decode b_C_isDue 12 = .ok (.iconst 0, 1) := by decide +kernel
theorem d_C_isDue_13 : decode b_C_isDue 13 = .ok (.ireturn, 1) := by decide +kernel
theorem d_C_isDue_14 : decode b_C_isDue 14 = .ok (.aload_n 1, 1) := by decide +kernel
theorem d_C_isDue_15 : decode b_C_isDue 15 = .ok (.invokevirtual 244, 3) := by decide +kernel
theorem d_C_isDue_18 : decode b_C_isDue 18 = .ok (.ifCond .ne 24, 3) := by decide +kernel
theorem d_C_isDue_21 : decode b_C_isDue 21 = .ok (.aload_n 0, 1) := by decide +kernel
theorem d_C_isDue_22 : decode b_C_isDue 22 = .ok (.getfield 32, 3) := by decide +kernel
theorem d_C_isDue_25 : decode b_C_isDue 25 = .ok (.aload_n 1, 1) := by decide +kernel
theorem d_C_isDue_26 : decode b_C_isDue 26 = .ok (.getfield 185, 3) := by decide +kernel
theorem d_C_isDue_29 : decode b_C_isDue 29 = .ok (.getfield 238, 3) := by decide +kernel
theorem d_C_isDue_32 : decode b_C_isDue 32 = .ok (.aload_n 0, 1) := by decide +kernel
theorem d_C_isDue_33 : decode b_C_isDue 33 = .ok (.getfield 36, 3) := by decide +kernel
theorem d_C_isDue_36 : decode b_C_isDue 36 = .ok (.i2l, 1) := by decide +kernel
theorem d_C_isDue_37 : decode b_C_isDue 37 = .ok (.ladd, 1) := by decide +kernel
theorem d_C_isDue_38 : decode b_C_isDue 38 = .ok (.lcmp, 1) := by decide +kernel
theorem d_C_isDue_39 : decode b_C_isDue 39 = .ok (.ifCond .lt 7, 3) := by decide +kernel
theorem d_C_isDue_42 : decode b_C_isDue 42 = .ok (.iconst 1, 1) := by decide +kernel
theorem d_C_isDue_43 : decode b_C_isDue 43 = .ok (.goto 4, 3) := by decide +kernel
theorem d_C_isDue_46 : decode b_C_isDue 46 = .ok (.iconst 0, 1) := by decide +kernel
theorem d_C_isDue_47 : decode b_C_isDue 47 = .ok (.ireturn, 1) := by decide +kernel
theorem d_C_isHeldByQuiet_0 : decode b_C_isHeldByQuiet 0 = .ok (.aload_n 1, 1) := by decide +kernel
theorem d_C_isHeldByQuiet_1 : decode b_C_isHeldByQuiet 1 = .ok (.invokevirtual 244, 3) := by decide +kernel
theorem d_C_isHeldByQuiet_4 : decode b_C_isHeldByQuiet 4 = .ok (.ifCond .ne 21, 3) := by decide +kernel
theorem d_C_isHeldByQuiet_7 : decode b_C_isHeldByQuiet 7 = .ok (.aload_n 1, 1) := by decide +kernel
theorem d_C_isHeldByQuiet_8 : decode b_C_isHeldByQuiet 8 = .ok (.getfield 185, 3) := by decide +kernel
theorem d_C_isHeldByQuiet_11 : decode b_C_isHeldByQuiet 11 = .ok (.aload_n 0, 1) := by decide +kernel
theorem d_C_isHeldByQuiet_12 : decode b_C_isHeldByQuiet 12 = .ok (.getfield 32, 3) := by decide +kernel
theorem d_C_isHeldByQuiet_15 : decode b_C_isHeldByQuiet 15 = .ok (.invokevirtual 254, 3) := by decide +kernel
theorem d_C_isHeldByQuiet_18 : decode b_C_isHeldByQuiet 18 = .ok (.ifCond .eq 7, 3) := by decide +kernel
theorem d_C_isHeldByQuiet_21 : decode b_C_isHeldByQuiet 21 = .ok (.iconst 1, 1) := by decide +kernel
theorem d_C_isHeldByQuiet_22 : decode b_C_isHeldByQuiet 22 = .ok (.goto 4, 3) := by decide +kernel
theorem d_C_isHeldByQuiet_25 : decode b_C_isHeldByQuiet 25 = .ok (.iconst 0, 1) := by decide +kernel
theorem d_C_isHeldByQuiet_26 : decode b_C_isHeldByQuiet 26 = .ok (.ireturn, 1) := by decide +kernel
theorem d_K_isQuietAt_0 : decode b_K_isQuietAt 0 = .ok (.lload_n 1, 1) := by decide +kernel
theorem d_K_isQuietAt_1 : decode b_K_isQuietAt 1 = .ok (.bipush 60, 2) := by decide +kernel
theorem d_K_isQuietAt_3 : decode b_K_isQuietAt 3 = .ok (.aload_n 0, 1) := by decide +kernel
theorem d_K_isQuietAt_4 : decode b_K_isQuietAt 4 = .ok (.getfield 18, 3) := by decide +kernel
theorem d_K_isQuietAt_7 : decode b_K_isQuietAt 7 = .ok (.imul, 1) := by decide +kernel
theorem d_K_isQuietAt_8 : decode b_K_isQuietAt 8 = .ok (.i2l, 1) := by decide +kernel
theorem d_K_isQuietAt_9 : decode b_K_isQuietAt 9 = .ok (.ladd, 1) := by decide +kernel
theorem d_K_isQuietAt_10 : decode b_K_isQuietAt 10 = .ok (.ldc2_w 40, 3) := by decide +kernel
theorem d_K_isQuietAt_13 : decode b_K_isQuietAt 13 = .ok (.invokestatic 42, 3) := by decide +kernel
theorem d_K_isQuietAt_16 : decode b_K_isQuietAt 16 = .ok (.lstore_n 3, 1) := by decide +kernel
theorem d_K_isQuietAt_17 : decode b_K_isQuietAt 17 = .ok (.aload_n 0, 1) := by decide +kernel
theorem d_K_isQuietAt_18 : decode b_K_isQuietAt 18 = .ok (.getfield 48, 3) := by decide +kernel
theorem d_K_isQuietAt_21 : decode b_K_isQuietAt 21 = .ok (.aload_n 0, 1) := by decide +kernel
theorem d_K_isQuietAt_22 : decode b_K_isQuietAt 22 = .ok (.getfield 51, 3) := by decide +kernel
theorem d_K_isQuietAt_25 : decode b_K_isQuietAt 25 = .ok (.if_icmp .gt 29, 3) := by decide +kernel
theorem d_K_isQuietAt_28 : decode b_K_isQuietAt 28 = .ok (.lload_n 3, 1) := by decide +kernel
theorem d_K_isQuietAt_29 : decode b_K_isQuietAt 29 = .ok (.aload_n 0, 1) := by decide +kernel
theorem d_K_isQuietAt_30 : decode b_K_isQuietAt 30 = .ok (.getfield 48, 3) := by decide +kernel
theorem d_K_isQuietAt_33 : decode b_K_isQuietAt 33 = .ok (.i2l, 1) := by decide +kernel
theorem d_K_isQuietAt_34 : decode b_K_isQuietAt 34 = .ok (.lcmp, 1) := by decide +kernel
theorem d_K_isQuietAt_35 : decode b_K_isQuietAt 35 = .ok (.ifCond .lt 17, 3) := by decide +kernel
theorem d_K_isQuietAt_38 : decode b_K_isQuietAt 38 = .ok (.lload_n 3, 1) := by decide +kernel
theorem d_K_isQuietAt_39 : decode b_K_isQuietAt 39 = .ok (.aload_n 0, 1) := by decide +kernel
theorem d_K_isQuietAt_40 : decode b_K_isQuietAt 40 = .ok (.getfield 51, 3) := by decide +kernel
theorem d_K_isQuietAt_43 : decode b_K_isQuietAt 43 = .ok (.i2l, 1) := by decide +kernel
theorem d_K_isQuietAt_44 : decode b_K_isQuietAt 44 = .ok (.lcmp, 1) := by decide +kernel
theorem d_K_isQuietAt_45 : decode b_K_isQuietAt 45 = .ok (.ifCond .ge 7, 3) := by decide +kernel
theorem d_K_isQuietAt_48 : decode b_K_isQuietAt 48 = .ok (.iconst 1, 1) := by decide +kernel
theorem d_K_isQuietAt_49 : decode b_K_isQuietAt 49 = .ok (.goto 4, 3) := by decide +kernel
theorem d_K_isQuietAt_52 : decode b_K_isQuietAt 52 = .ok (.iconst 0, 1) := by decide +kernel
theorem d_K_isQuietAt_53 : decode b_K_isQuietAt 53 = .ok (.ireturn, 1) := by decide +kernel
theorem d_K_isQuietAt_54 : decode b_K_isQuietAt 54 = .ok (.lload_n 3, 1) := by decide +kernel
theorem d_K_isQuietAt_55 : decode b_K_isQuietAt 55 = .ok (.aload_n 0, 1) := by decide +kernel
theorem d_K_isQuietAt_56 : decode b_K_isQuietAt 56 = .ok (.getfield 48, 3) := by decide +kernel
theorem d_K_isQuietAt_59 : decode b_K_isQuietAt 59 = .ok (.i2l, 1) := by decide +kernel
theorem d_K_isQuietAt_60 : decode b_K_isQuietAt 60 = .ok (.lcmp, 1) := by decide +kernel
theorem d_K_isQuietAt_61 : decode b_K_isQuietAt 61 = .ok (.ifCond .ge 13, 3) := by decide +kernel
theorem d_K_isQuietAt_64 : decode b_K_isQuietAt 64 = .ok (.lload_n 3, 1) := by decide +kernel
theorem d_K_isQuietAt_65 : decode b_K_isQuietAt 65 = .ok (.aload_n 0, 1) := by decide +kernel
theorem d_K_isQuietAt_66 : decode b_K_isQuietAt 66 = .ok (.getfield 51, 3) := by decide +kernel
theorem d_K_isQuietAt_69 : decode b_K_isQuietAt 69 = .ok (.i2l, 1) := by decide +kernel
theorem d_K_isQuietAt_70 : decode b_K_isQuietAt 70 = .ok (.lcmp, 1) := by decide +kernel
theorem d_K_isQuietAt_71 : decode b_K_isQuietAt 71 = .ok (.ifCond .ge 7, 3) := by decide +kernel
theorem d_K_isQuietAt_74 : decode b_K_isQuietAt 74 = .ok (.iconst 1, 1) := by decide +kernel
theorem d_K_isQuietAt_75 : decode b_K_isQuietAt 75 = .ok (.goto 4, 3) := by decide +kernel
theorem d_K_isQuietAt_78 : decode b_K_isQuietAt 78 = .ok (.iconst 0, 1) := by decide +kernel
theorem d_K_isQuietAt_79 : decode b_K_isQuietAt 79 = .ok (.ireturn, 1) := by decide +kernel
theorem d_C_deliver_0 : decode b_C_deliver 0 = .ok (.aload_n 1, 1) := by decide +kernel
theorem d_C_deliver_1 : decode b_C_deliver 1 = .ok (.getfield 185, 3) := by decide +kernel
theorem d_C_deliver_4 : decode b_C_deliver 4 = .ok (.astore_n 2, 1) := by decide +kernel
theorem d_C_deliver_5 : decode b_C_deliver 5 = .ok (.aload_n 2, 1) := by decide +kernel
theorem d_C_deliver_6 : decode b_C_deliver 6 = .ok (.aload_n 1, 1) := by decide +kernel
theorem d_C_deliver_7 : decode b_C_deliver 7 = .ok (.getfield 190, 3) := by decide +kernel
theorem d_C_deliver_10 : decode b_C_deliver 10 = .ok (.aload_n 0, 1) := by decide +kernel
theorem d_C_deliver_11 : decode b_C_deliver 11 = .ok (.getfield 28, 3) := by decide +kernel
theorem d_C_deliver_14 : decode b_C_deliver 14 = .ok (.invokevirtual 257, 3) := by decide +kernel
theorem d_C_deliver_17 : decode b_C_deliver 17 = .ok (.istore_n 3, 1) := by decide +kernel
theorem d_C_deliver_18 : decode b_C_deliver 18 = .ok (.iload_n 3, 1) := by decide +kernel
theorem d_C_deliver_19 : decode b_C_deliver 19 = .ok (.iconst (-1), 1) := by decide +kernel
theorem d_C_deliver_20 : decode b_C_deliver 20 = .ok (.if_icmp .ne 18, 3) := by decide +kernel
theorem d_C_deliver_23 : decode b_C_deliver 23 = .ok (.aload_n 1, 1) := by decide +kernel
theorem d_C_deliver_24 : decode b_C_deliver 24 = .ok (.iconst 2, 1) := by decide +kernel
theorem d_C_deliver_25 : decode b_C_deliver 25 = .ok (.putfield 154, 3) := by decide +kernel
theorem d_C_deliver_28 : decode b_C_deliver 28 = .ok (.aload_n 0, 1) := by decide +kernel
theorem d_C_deliver_29 : decode b_C_deliver 29 = .ok (.getfield 25, 3) := by decide +kernel
theorem d_C_deliver_32 : decode b_C_deliver 32 = .ok (.aload_n 1, 1) := by decide +kernel
theorem d_C_deliver_33 : decode b_C_deliver 33 = .ok (.invokevirtual 59, 3) := by decide +kernel
theorem d_C_deliver_36 : decode b_C_deliver 36 = .ok (.pop, 1) := by decide +kernel
theorem d_C_deliver_37 : decode b_C_deliver 37 = .ok (.return_, 1) := by decide +kernel
theorem d_C_deliver_38 : decode b_C_deliver 38 = .ok (.aload_n 2, 1) := by decide +kernel
theorem d_C_deliver_39 : decode b_C_deliver 39 = .ok (.getfield 241, 3) := by decide +kernel
theorem d_C_deliver_42 : decode b_C_deliver 42 = .ok (.ifCond .ne 11, 3) := by decide +kernel
theorem d_C_deliver_45 : decode b_C_deliver 45 = .ok (.aload_n 2, 1) := by decide +kernel
theorem d_C_deliver_46 : decode b_C_deliver 46 = .ok (.aload_n 1, 1) := by decide +kernel
theorem d_C_deliver_47 : decode b_C_deliver 47 = .ok (.getfield 130, 3) := by decide +kernel
theorem d_C_deliver_50 : decode b_C_deliver 50 = .ok (.putfield 241, 3) := by decide +kernel
theorem d_C_deliver_53 : decode b_C_deliver 53 = .ok (.aload_n 1, 1) := by decide +kernel
theorem d_C_deliver_54 : decode b_C_deliver 54 = .ok (.iconst 1, 1) := by decide +kernel
theorem d_C_deliver_55 : decode b_C_deliver 55 = .ok (.putfield 154, 3) := by decide +kernel
theorem d_C_deliver_58 : decode b_C_deliver 58 = .ok (.aload_n 1, 1) := by decide +kernel
theorem d_C_deliver_59 : decode b_C_deliver 59 = .ok (.iload_n 3, 1) := by decide +kernel
theorem d_C_deliver_60 : decode b_C_deliver 60 = .ok (.putfield 261, 3) := by decide +kernel
theorem d_C_deliver_63 : decode b_C_deliver 63 = .ok (.aload_n 1, 1) := by decide +kernel
theorem d_C_deliver_64 : decode b_C_deliver 64 = .ok (.aload_n 2, 1) := by decide +kernel
theorem d_C_deliver_65 : decode b_C_deliver 65 = .ok (.getfield 241, 3) := by decide +kernel
theorem d_C_deliver_68 : decode b_C_deliver 68 = .ok (.putfield 264, 3) := by decide +kernel
theorem d_C_deliver_71 : decode b_C_deliver 71 = .ok (.aload_n 1, 1) := by decide +kernel
theorem d_C_deliver_72 : decode b_C_deliver 72 = .ok (.aload_n 0, 1) := by decide +kernel
theorem d_C_deliver_73 : decode b_C_deliver 73 = .ok (.getfield 32, 3) := by decide +kernel
theorem d_C_deliver_76 : decode b_C_deliver 76 = .ok (.putfield 267, 3) := by decide +kernel
theorem d_C_deliver_79 : decode b_C_deliver 79 = .ok (.aload_n 0, 1) := by decide +kernel
theorem d_C_deliver_80 : decode b_C_deliver 80 = .ok (.getfield 22, 3) := by decide +kernel
theorem d_C_deliver_83 : decode b_C_deliver 83 = .ok (.aload_n 1, 1) := by decide +kernel
theorem d_C_deliver_84 : decode b_C_deliver 84 = .ok (.invokevirtual 59, 3) := by decide +kernel
theorem d_C_deliver_87 : decode b_C_deliver 87 = .ok (.pop, 1) := by decide +kernel
theorem d_C_deliver_88 : decode b_C_deliver 88 = .ok (.return_, 1) := by decide +kernel
theorem d_K_firstWorkingChannel_0 : decode b_K_firstWorkingChannel 0 = .ok (.iload_n 1, 1) := by decide +kernel
theorem d_K_firstWorkingChannel_1 : decode b_K_firstWorkingChannel 1 = .ok (.iconst 4, 1) := by decide +kernel
theorem d_K_firstWorkingChannel_2 : decode b_K_firstWorkingChannel 2 = .ok (.if_icmp .ne 7, 3) := by decide +kernel
theorem d_K_firstWorkingChannel_5 : decode b_K_firstWorkingChannel 5 = .ok (.iconst 0, 1) := by decide +kernel
theorem d_K_firstWorkingChannel_6 : decode b_K_firstWorkingChannel 6 = .ok (.goto 4, 3) := by decide +kernel
theorem d_K_firstWorkingChannel_9 : decode b_K_firstWorkingChannel 9 = .ok (.iconst 3, 1) := by decide +kernel
theorem d_K_firstWorkingChannel_10 : decode b_K_firstWorkingChannel 10 = .ok (.istore_n 3, 1) := by decide +kernel
theorem d_K_firstWorkingChannel_11 : decode b_K_firstWorkingChannel 11 = .ok (.iconst (-1), 1) := by decide +kernel
theorem d_K_firstWorkingChannel_12 : decode b_K_firstWorkingChannel 12 = .ok (.istore 4, 2) := by decide +kernel
theorem d_K_firstWorkingChannel_14 : decode b_K_firstWorkingChannel 14 = .ok (.iconst 0, 1) := by decide +kernel
theorem d_K_firstWorkingChannel_15 : decode b_K_firstWorkingChannel 15 = .ok (.istore 5, 2) := by decide +kernel
theorem d_K_firstWorkingChannel_17 : decode b_K_firstWorkingChannel 17 = .ok (.iload 5, 2) := by decide +kernel
theorem d_K_firstWorkingChannel_19 : decode b_K_firstWorkingChannel 19 = .ok (.iload_n 3, 1) := by decide +kernel
theorem d_K_firstWorkingChannel_20 : decode b_K_firstWorkingChannel 20 = .ok (.if_icmp .gt 60, 3) := by decide +kernel
theorem d_K_firstWorkingChannel_23 : decode b_K_firstWorkingChannel 23 = .ok (.iload 5, 2) := by decide +kernel
theorem d_K_firstWorkingChannel_25 : decode b_K_firstWorkingChannel 25 = .ok (.aload_n 2, 1) := by decide +kernel
theorem d_K_firstWorkingChannel_26 : decode b_K_firstWorkingChannel 26 = .ok (.arraylength, 1) := by decide +kernel
theorem d_K_firstWorkingChannel_27 : decode b_K_firstWorkingChannel 27 = .ok (.if_icmp .ge 53, 3) := by decide +kernel
theorem d_K_firstWorkingChannel_30 : decode b_K_firstWorkingChannel 30 = .ok (.aload_n 0, 1) := by decide +kernel
theorem d_K_firstWorkingChannel_31 : decode b_K_firstWorkingChannel 31 = .ok (.iload_n 1, 1) := by decide +kernel
theorem d_K_firstWorkingChannel_32 : decode b_K_firstWorkingChannel 32 = .ok (.iload 5, 2) := by decide +kernel
theorem d_K_firstWorkingChannel_34 : decode b_K_firstWorkingChannel 34 = .ok (.invokevirtual 36, 3) := by decide +kernel
theorem d_K_firstWorkingChannel_37 : decode b_K_firstWorkingChannel 37 = .ok (.istore 6, 2) := by decide +kernel
theorem d_K_firstWorkingChannel_39 : decode b_K_firstWorkingChannel 39 = .ok (.iload 6, 2) := by decide +kernel
theorem d_K_firstWorkingChannel_41 : decode b_K_firstWorkingChannel 41 = .ok (.iconst (-1), 1) := by decide +kernel
theorem d_K_firstWorkingChannel_42 : decode b_K_firstWorkingChannel 42 = .ok (.if_icmp .eq 32, 3) := by decide +kernel
theorem d_K_firstWorkingChannel_45 : decode b_K_firstWorkingChannel 45 = .ok (.aload_n 2, 1) := by decide +kernel
theorem d_K_firstWorkingChannel_46 : decode b_K_firstWorkingChannel 46 = .ok (.iload 5, 2) := by decide +kernel
theorem d_K_firstWorkingChannel_48 : decode b_K_firstWorkingChannel 48 = .ok (.baload, 1) := by decide +kernel
theorem d_K_firstWorkingChannel_49 : decode b_K_firstWorkingChannel 49 = .ok (.ifCond .eq 25, 3) := by decide +kernel
theorem d_K_firstWorkingChannel_52 : decode b_K_firstWorkingChannel 52 = .ok (.iload 4, 2) := by decide +kernel
theorem d_K_firstWorkingChannel_54 : decode b_K_firstWorkingChannel 54 = .ok (.iconst (-1), 1) := by decide +kernel
theorem d_K_firstWorkingChannel_55 : decode b_K_firstWorkingChannel 55 = .ok (.if_icmp .eq 15, 3) := by decide +kernel
theorem d_K_firstWorkingChannel_58 : decode b_K_firstWorkingChannel 58 = .ok (.iload 6, 2) := by decide +kernel
theorem d_K_firstWorkingChannel_60 : decode b_K_firstWorkingChannel 60 = .ok (.aload_n 0, 1) := by decide +kernel
theorem d_K_firstWorkingChannel_61 : decode b_K_firstWorkingChannel 61 = .ok (.iload_n 1, 1) := by decide +kernel
theorem d_K_firstWorkingChannel_62 : decode b_K_firstWorkingChannel 62 = .ok (.iload 4, 2) := by decide +kernel
theorem d_K_firstWorkingChannel_64 : decode b_K_firstWorkingChannel 64 = .ok (.invokevirtual 36, 3) := by decide +kernel
theorem d_K_firstWorkingChannel_67 : decode b_K_firstWorkingChannel 67 = .ok (.if_icmp .ge 7, 3) := by decide +kernel
theorem d_K_firstWorkingChannel_70 : decode b_K_firstWorkingChannel 70 = .ok (.iload 5, 2) := by decide +kernel
theorem d_K_firstWorkingChannel_72 : decode b_K_firstWorkingChannel 72 = .ok (.istore 4, 2) := by decide +kernel
theorem d_K_firstWorkingChannel_74 : decode b_K_firstWorkingChannel 74 = .ok (.iinc 5 1, 3) := by decide +kernel
theorem d_K_firstWorkingChannel_77 : decode b_K_firstWorkingChannel 77 = .ok (.goto (-60), 3) := by decide +kernel
theorem d_K_firstWorkingChannel_80 : decode b_K_firstWorkingChannel 80 = .ok (.iload 4, 2) := by decide +kernel
theorem d_K_firstWorkingChannel_82 : decode b_K_firstWorkingChannel 82 = .ok (.ireturn, 1) := by decide +kernel
theorem d_C_sent_0 : decode b_C_sent 0 = .ok (.iload_n 2, 1) := by decide +kernel
theorem d_C_sent_1 : decode b_C_sent 1 = .ok (.i2l, 1) := by decide +kernel
theorem d_C_sent_2 : decode b_C_sent 2 = .ok (.lconst 0, 1) := by decide +kernel
theorem d_C_sent_3 : decode b_C_sent 3 = .ok (.ldc2_w 175, 3) := by decide +kernel
theorem d_C_sent_6 : decode b_C_sent 6 = .ok (.invokestatic 42, 3) := by decide +kernel
theorem d_C_sent_9 : decode b_C_sent 9 = .ok (.ifCond .ne 6, 3) := by decide +kernel
theorem d_C_sent_12 : decode b_C_sent 12 = .ok (.bipush (-12), 2) := by decide +kernel
theorem d_C_sent_14 : decode b_C_sent 14 = .ok (.ireturn, 1) := by decide +kernel
theorem d_C_sent_15 : decode b_C_sent 15 = .ok (.iload_n 1, 1) := by decide +kernel
theorem d_C_sent_16 : decode b_C_sent 16 = .ok (.ifCond .lt 14, 3) := by decide +kernel
theorem d_C_sent_19 : decode b_C_sent 19 = .ok (.iload_n 1, 1) := by decide +kernel
theorem d_C_sent_20 : decode b_C_sent 20 = .ok (.aload_n 0, 1) := by decide +kernel
theorem d_C_sent_21 : decode b_C_sent 21 = .ok (.getfield 22, 3) := by decide +kernel
theorem d_C_sent_24 : decode b_C_sent 24 = .ok (.invokevirtual 50, 3) := by decide +kernel
theorem d_C_sent_27 : decode b_C_sent 27 = .ok (.if_icmp .lt 5, 3) := by decide +kernel
theorem d_C_sent_30 : decode b_C_sent 30 = .ok (.iconst (-1), 1) := by decide +kernel
theorem d_C_sent_31 : decode b_C_sent 31 = .ok (.ireturn, 1) := by decide +kernel
theorem d_C_sent_32 : decode b_C_sent 32 = .ok (.aload_n 0, 1) := by decide +kernel
theorem d_C_sent_33 : decode b_C_sent 33 = .ok (.getfield 22, 3) := by decide +kernel
theorem d_C_sent_36 : decode b_C_sent 36 = .ok (.iload_n 1, 1) := by decide +kernel
theorem d_C_sent_37 : decode b_C_sent 37 = .ok (.invokevirtual 160, 3) := by decide +kernel
theorem d_C_sent_40 : decode b_C_sent 40 = .ok (.checkcast 131, 3) := by decide +kernel
theorem d_C_sent_43 : decode b_C_sent 43 = .ok (.iload_n 2, 1) := by decide +kernel
theorem d_C_sent_44 : decode b_C_sent 44 = .ok (.invokestatic 177, 3) := by decide +kernel
theorem d_C_sent_47 : decode b_C_sent 47 = .ok (.ireturn, 1) := by decide +kernel
theorem d_C_detail_0 : decode b_C_detail 0 = .ok (.iload_n 1, 1) := by decide +kernel
theorem d_C_detail_1 : decode b_C_detail 1 = .ok (.tableswitch 91 0 7 #[47, 52, 60, 65, 70, 75, 80, 85], 47) := by decide +kernel
theorem d_C_detail_48 : decode b_C_detail 48 = .ok (.aload_n 0, 1) := by decide +kernel
theorem d_C_detail_49 : decode b_C_detail 49 = .ok (.getfield 130, 3) := by decide +kernel
theorem d_C_detail_52 : decode b_C_detail 52 = .ok (.ireturn, 1) := by decide +kernel
theorem d_C_detail_53 : decode b_C_detail 53 = .ok (.aload_n 0, 1) := by decide +kernel
theorem d_C_detail_54 : decode b_C_detail 54 = .ok (.getfield 185, 3) := by decide +kernel
theorem d_C_detail_57 : decode b_C_detail 57 = .ok (.getfield 189, 3) := by decide +kernel
theorem d_C_detail_60 : decode b_C_detail 60 = .ok (.ireturn, 1) := by decide +kernel
theorem d_C_detail_61 : decode b_C_detail 61 = .ok (.aload_n 0, 1) := by decide +kernel
theorem d_C_detail_62 : decode b_C_detail 62 = .ok (.getfield 200, 3) := by decide +kernel
theorem d_C_detail_65 : decode b_C_detail 65 = .ok (.ireturn, 1) := by decide +kernel
theorem d_C_detail_66 : decode b_C_detail 66 = .ok (.aload_n 0, 1) := by decide +kernel
theorem d_C_detail_67 : decode b_C_detail 67 = .ok (.getfield 190, 3) := by decide +kernel
theorem d_C_detail_70 : decode b_C_detail 70 = .ok (.ireturn, 1) := by decide +kernel
theorem d_C_detail_71 : decode b_C_detail 71 = .ok (.aload_n 0, 1) := by decide +kernel
theorem d_C_detail_72 : decode b_C_detail 72 = .ok (.getfield 261, 3) := by decide +kernel
theorem d_C_detail_75 : decode b_C_detail 75 = .ok (.ireturn, 1) := by decide +kernel
theorem d_C_detail_76 : decode b_C_detail 76 = .ok (.aload_n 0, 1) := by decide +kernel
theorem d_C_detail_77 : decode b_C_detail 77 = .ok (.invokevirtual 270, 3) := by decide +kernel
theorem d_C_detail_80 : decode b_C_detail 80 = .ok (.ireturn, 1) := by decide +kernel
theorem d_C_detail_81 : decode b_C_detail 81 = .ok (.aload_n 0, 1) := by decide +kernel
theorem d_C_detail_82 : decode b_C_detail 82 = .ok (.getfield 264, 3) := by decide +kernel
theorem d_C_detail_85 : decode b_C_detail 85 = .ok (.ireturn, 1) := by decide +kernel
theorem d_C_detail_86 : decode b_C_detail 86 = .ok (.aload_n 0, 1) := by decide +kernel
theorem d_C_detail_87 : decode b_C_detail 87 = .ok (.getfield 267, 3) := by decide +kernel
theorem d_C_detail_90 : decode b_C_detail 90 = .ok (.l2i, 1) := by decide +kernel
theorem d_C_detail_91 : decode b_C_detail 91 = .ok (.ireturn, 1) := by decide +kernel
theorem d_C_detail_92 : decode b_C_detail 92 = .ok (.aload_n 0, 1) := by decide +kernel
theorem d_C_detail_93 : decode b_C_detail 93 = .ok (.getfield 147, 3) := by decide +kernel
theorem d_C_detail_96 : decode b_C_detail 96 = .ok (.l2i, 1) := by decide +kernel
theorem d_C_detail_97 : decode b_C_detail 97 = .ok (.ireturn, 1) := by decide +kernel
theorem d_N_text_0 : decode b_N_text 0 = .ok (.bipush 32, 2) := by decide +kernel
theorem d_N_text_2 : decode b_N_text 2 = .ok (.aload_n 0, 1) := by decide +kernel
theorem d_N_text_3 : decode b_N_text 3 = .ok (.getfield 15, 3) := by decide +kernel
theorem d_N_text_6 : decode b_N_text 6 = .ok (.getfield 44, 3) := by decide +kernel
theorem d_N_text_9 : decode b_N_text 9 = .ok (.imul, 1) := by decide +kernel
theorem d_N_text_10 : decode b_N_text 10 = .ok (.iconst 2, 1) := by decide +kernel
theorem d_N_text_11 : decode b_N_text 11 = .ok (.aload_n 0, 1) := by decide +kernel
theorem d_N_text_12 : decode b_N_text 12 = .ok (.getfield 22, 3) := by decide +kernel
theorem d_N_text_15 : decode b_N_text 15 = .ok (.imul, 1) := by decide +kernel
theorem d_N_text_16 : decode b_N_text 16 = .ok (.iadd, 1) := by decide +kernel
theorem d_N_text_17 : decode b_N_text 17 = .ok (.aload_n 0, 1) := by decide +kernel
theorem d_N_text_18 : decode b_N_text 18 = .ok (.getfield 41, 3) := by decide +kernel
theorem d_N_text_21 : decode b_N_text 21 = .ok (.ifCond .eq 7, 3) := by decide +kernel
theorem d_N_text_24 : decode b_N_text 24 = .ok (.iconst 1, 1) := by decide +kernel
theorem d_N_text_25 : decode b_N_text 25 = .ok (.goto 4, 3) := by decide +kernel
theorem d_N_text_28 : decode b_N_text 28 = .ok (.iconst 0, 1) := by decide +kernel
theorem d_N_text_29 : decode b_N_text 29 = .ok (.iadd, 1) := by decide +kernel
theorem d_N_text_30 : decode b_N_text 30 = .ok (.ireturn, 1) := by decide +kernel
theorem d_C_works_0 : decode b_C_works 0 = .ok (.iload_n 1, 1) := by decide +kernel
theorem d_C_works_1 : decode b_C_works 1 = .ok (.invokestatic 71, 3) := by decide +kernel
theorem d_C_works_4 : decode b_C_works 4 = .ok (.ifCond .ne 5, 3) := by decide +kernel
theorem d_C_works_7 : decode b_C_works 7 = .ok (.iconst 0, 1) := by decide +kernel
theorem d_C_works_8 : decode b_C_works 8 = .ok (.ireturn, 1) := by decide +kernel
theorem d_C_works_9 : decode b_C_works 9 = .ok (.aload_n 0, 1) := by decide +kernel
theorem d_C_works_10 : decode b_C_works 10 = .ok (.getfield 28, 3) := by decide +kernel
theorem d_C_works_13 : decode b_C_works 13 = .ok (.iload_n 1, 1) := by decide +kernel
theorem d_C_works_14 : decode b_C_works 14 = .ok (.baload, 1) := by decide +kernel
theorem d_C_works_15 : decode b_C_works 15 = .ok (.istore_n 3, 1) := by decide +kernel
theorem d_C_works_16 : decode b_C_works 16 = .ok (.aload_n 0, 1) := by decide +kernel
theorem d_C_works_17 : decode b_C_works 17 = .ok (.getfield 28, 3) := by decide +kernel
theorem d_C_works_20 : decode b_C_works 20 = .ok (.iload_n 1, 1) := by decide +kernel
theorem d_C_works_21 : decode b_C_works 21 = .ok (.iload_n 2, 1) := by decide +kernel
theorem d_C_works_22 : decode b_C_works 22 = .ok (.bastore, 1) := by decide +kernel
theorem d_C_works_23 : decode b_C_works 23 = .ok (.iload_n 3, 1) := by decide +kernel
theorem d_C_works_24 : decode b_C_works 24 = .ok (.ireturn, 1) := by decide +kernel
theorem d_C_out_0 : decode b_C_out 0 = .ok (.aload_n 0, 1) := by decide +kernel
theorem d_C_out_1 : decode b_C_out 1 = .ok (.iload_n 1, 1) := by decide +kernel
theorem d_C_out_2 : decode b_C_out 2 = .ok (.invokevirtual 63, 3) := by decide +kernel
theorem d_C_out_5 : decode b_C_out 5 = .ok (.astore_n 3, 1) := by decide +kernel
theorem d_C_out_6 : decode b_C_out 6 = .ok (.aload_n 3, 1) := by decide +kernel
theorem d_C_out_7 : decode b_C_out 7 = .ok (.ifnonnull 6, 3) := by decide +kernel
theorem d_C_out_10 : decode b_C_out 10 = .ok (.bipush (-11), 2) := by decide +kernel
theorem d_C_out_12 : decode b_C_out 12 = .ok (.ireturn, 1) := by decide +kernel
theorem d_C_out_13 : decode b_C_out 13 = .ok (.iload_n 2, 1) := by decide +kernel
theorem d_C_out_14 : decode b_C_out 14 = .ok (.invokestatic 67, 3) := by decide +kernel
theorem d_C_out_17 : decode b_C_out 17 = .ok (.ifCond .ne 6, 3) := by decide +kernel
theorem d_C_out_20 : decode b_C_out 20 = .ok (.bipush (-12), 2) := by decide +kernel
theorem d_C_out_22 : decode b_C_out 22 = .ok (.ireturn, 1) := by decide +kernel
theorem d_C_out_23 : decode b_C_out 23 = .ok (.aload_n 3, 1) := by decide +kernel
theorem d_C_out_24 : decode b_C_out 24 = .ok (.iload_n 2, 1) := by decide +kernel
theorem d_C_out_25 : decode b_C_out 25 = .ok (.invokevirtual 181, 3) := by decide +kernel
theorem d_C_out_28 : decode b_C_out 28 = .ok (.iconst 0, 1) := by decide +kernel
theorem d_C_out_29 : decode b_C_out 29 = .ok (.istore 4, 2) := by decide +kernel
theorem d_C_out_31 : decode b_C_out 31 = .ok (.iconst 0, 1) := by decide +kernel
theorem d_C_out_32 : decode b_C_out 32 = .ok (.istore 5, 2) := by decide +kernel
theorem d_C_out_34 : decode b_C_out 34 = .ok (.iload 5, 2) := by decide +kernel
theorem d_C_out_36 : decode b_C_out 36 = .ok (.aload_n 0, 1) := by decide +kernel
theorem d_C_out_37 : decode b_C_out 37 = .ok (.getfield 16, 3) := by decide +kernel
theorem d_C_out_40 : decode b_C_out 40 = .ok (.invokevirtual 50, 3) := by decide +kernel
theorem d_C_out_43 : decode b_C_out 43 = .ok (.if_icmp .ge 61, 3) := by decide +kernel
theorem d_C_out_46 : decode b_C_out 46 = .ok (.aload_n 0, 1) := by decide +kernel
theorem d_C_out_47 : decode b_C_out 47 = .ok (.getfield 16, 3) := by decide +kernel
theorem d_C_out_50 : decode b_C_out 50 = .ok (.iload 5, 2) := by decide +kernel
theorem d_C_out_52 : decode b_C_out 52 = .ok (.invokevirtual 160, 3) := by decide +kernel
theorem d_C_out_55 : decode b_C_out 55 = .ok (.checkcast 131, 3) := by decide +kernel
theorem d_C_out_58 : decode b_C_out 58 = .ok (.astore 6, 2) := by decide +kernel
theorem d_C_out_60 : decode b_C_out 60 = .ok (.aload 6, 2) := by decide +kernel
theorem d_C_out_62 : decode b_C_out 62 = .ok (.getfield 154, 3) := by decide +kernel
theorem d_C_out_65 : decode b_C_out 65 = .ok (.ifCond .ne 33, 3) := by decide +kernel
theorem d_C_out_68 : decode b_C_out 68 = .ok (.aload 6, 2) := by decide +kernel
theorem d_C_out_70 : decode b_C_out 70 = .ok (.getfield 185, 3) := by decide +kernel
theorem d_C_out_73 : decode b_C_out 73 = .ok (.getfield 189, 3) := by decide +kernel
theorem d_C_out_76 : decode b_C_out 76 = .ok (.iload_n 1, 1) := by decide +kernel
theorem d_C_out_77 : decode b_C_out 77 = .ok (.if_icmp .ne 21, 3) := by decide +kernel
theorem d_C_out_80 : decode b_C_out 80 = .ok (.aload 6, 2) := by decide +kernel
theorem d_C_out_82 : decode b_C_out 82 = .ok (.getfield 190, 3) := by decide +kernel
theorem d_C_out_85 : decode b_C_out 85 = .ok (.iload_n 2, 1) := by decide +kernel
theorem d_C_out_86 : decode b_C_out 86 = .ok (.if_icmp .ne 12, 3) := by decide +kernel
theorem d_C_out_89 : decode b_C_out 89 = .ok (.aload 6, 2) := by decide +kernel
theorem d_C_out_91 : decode b_C_out 91 = .ok (.iconst 3, 1) := by decide +kernel
theorem d_C_out_92 : decode b_C_out 92 = .ok (.putfield 154, 3) := by decide +kernel
theorem d_C_out_95 : decode b_C_out 95 = .ok (.iinc 4 1, 3) := by decide +kernel
theorem d_C_out_98 : decode b_C_out 98 = .ok (.iinc 5 1, 3) := by decide +kernel
theorem d_C_out_101 : decode b_C_out 101 = .ok (.goto (-67), 3) := by decide +kernel
theorem d_C_out_104 : decode b_C_out 104 = .ok (.iload 4, 2) := by decide +kernel
theorem d_C_out_106 : decode b_C_out 106 = .ok (.ireturn, 1) := by decide +kernel
theorem d_K_clearWishes_0 : decode b_K_clearWishes 0 = .ok (.iconst 0, 1) := by decide +kernel
theorem d_K_clearWishes_1 : decode b_K_clearWishes 1 = .ok (.istore_n 2, 1) := by decide +kernel
theorem d_K_clearWishes_2 : decode b_K_clearWishes 2 = .ok (.iload_n 2, 1) := by decide +kernel
theorem d_K_clearWishes_3 : decode b_K_clearWishes 3 = .ok (.iconst 4, 1) := by decide +kernel
theorem d_K_clearWishes_4 : decode b_K_clearWishes 4 = .ok (.if_icmp .ge 16, 3) := by decide +kernel
theorem d_K_clearWishes_7 : decode b_K_clearWishes 7 = .ok (.aload_n 0, 1) := by decide +kernel
theorem d_K_clearWishes_8 : decode b_K_clearWishes 8 = .ok (.iload_n 1, 1) := by decide +kernel
theorem d_K_clearWishes_9 : decode b_K_clearWishes 9 = .ok (.iload_n 2, 1) := by decide +kernel
theorem d_K_clearWishes_10 : decode b_K_clearWishes 10 = .ok (.iconst (-1), 1) := by decide +kernel
theorem d_K_clearWishes_11 : decode b_K_clearWishes 11 = .ok (.invokevirtual 32, 3) := by decide +kernel
theorem d_K_clearWishes_14 : decode b_K_clearWishes 14 = .ok (.iinc 2 1, 3) := by decide +kernel
theorem d_K_clearWishes_17 : decode b_K_clearWishes 17 = .ok (.goto (-15), 3) := by decide +kernel
theorem d_K_clearWishes_20 : decode b_K_clearWishes 20 = .ok (.return_, 1) := by decide +kernel
theorem d_C_failed_0 : decode b_C_failed 0 = .ok (.iload_n 1, 1) := by decide +kernel
theorem d_C_failed_1 : decode b_C_failed 1 = .ok (.ifCond .lt 14, 3) := by decide +kernel
theorem d_C_failed_4 : decode b_C_failed 4 = .ok (.iload_n 1, 1) := by decide +kernel
theorem d_C_failed_5 : decode b_C_failed 5 = .ok (.aload_n 0, 1) := by decide +kernel
theorem d_C_failed_6 : decode b_C_failed 6 = .ok (.getfield 25, 3) := by decide +kernel
theorem d_C_failed_9 : decode b_C_failed 9 = .ok (.invokevirtual 50, 3) := by decide +kernel
theorem d_C_failed_12 : decode b_C_failed 12 = .ok (.if_icmp .lt 5, 3) := by decide +kernel
theorem d_C_failed_15 : decode b_C_failed 15 = .ok (.iconst (-1), 1) := by decide +kernel
theorem d_C_failed_16 : decode b_C_failed 16 = .ok (.ireturn, 1) := by decide +kernel
theorem d_C_failed_17 : decode b_C_failed 17 = .ok (.aload_n 0, 1) := by decide +kernel
theorem d_C_failed_18 : decode b_C_failed 18 = .ok (.getfield 25, 3) := by decide +kernel
theorem d_C_failed_21 : decode b_C_failed 21 = .ok (.iload_n 1, 1) := by decide +kernel
theorem d_C_failed_22 : decode b_C_failed 22 = .ok (.invokevirtual 160, 3) := by decide +kernel
theorem d_C_failed_25 : decode b_C_failed 25 = .ok (.checkcast 131, 3) := by decide +kernel
theorem d_C_failed_28 : decode b_C_failed 28 = .ok (.getfield 130, 3) := by decide +kernel
theorem d_C_failed_31 : decode b_C_failed 31 = .ok (.ireturn, 1) := by decide +kernel
theorem d_C_correct_0 : decode b_C_correct 0 = .ok (.aload_n 0, 1) := by decide +kernel
theorem d_C_correct_1 : decode b_C_correct 1 = .ok (.iload_n 1, 1) := by decide +kernel
theorem d_C_correct_2 : decode b_C_correct 2 = .ok (.invokevirtual 193, 3) := by decide +kernel
theorem d_C_correct_5 : decode b_C_correct 5 = .ok (.astore 4, 2) := by decide +kernel
theorem d_C_correct_7 : decode b_C_correct 7 = .ok (.aload 4, 2) := by decide +kernel
theorem d_C_correct_9 : decode b_C_correct 9 = .ok (.ifnonnull 6, 3) := by decide +kernel
theorem d_C_correct_12 : decode b_C_correct 12 = .ok (.bipush (-11), 2) := by decide +kernel
theorem d_C_correct_14 : decode b_C_correct 14 = .ok (.ireturn, 1) := by decide +kernel
theorem d_C_correct_15 : decode b_C_correct 15 = .ok (.aload_n 0, 1) := by decide +kernel
theorem d_C_correct_16 : decode b_C_correct 16 = .ok (.lload_n 2, 1) := by decide +kernel
theorem d_C_correct_17 : decode b_C_correct 17 = .ok (.invokevirtual 99, 3) := by decide +kernel
theorem d_C_correct_20 : decode b_C_correct 20 = .ok (.ifCond .ne 6, 3) := by decide +kernel
theorem d_C_correct_23 : decode b_C_correct 23 = .ok (.bipush (-12), 2) := by decide +kernel
theorem d_C_correct_25 : decode b_C_correct 25 = .ok (.ireturn, 1) := by decide +kernel
theorem d_C_correct_26 : decode b_C_correct 26 = .ok (.aload 4, 2) := by decide +kernel
theorem d_C_correct_28 : decode b_C_correct 28 = .ok (.invokevirtual 197, 3) := by decide +kernel
theorem d_C_correct_31 : decode b_C_correct 31 = .ok (.ifCond .ne 6, 3) := by decide +kernel
theorem d_C_correct_34 : decode b_C_correct 34 = .ok (.bipush (-13), 2) := by decide +kernel
theorem d_C_correct_36 : decode b_C_correct 36 = .ok (.ireturn, 1) := by decide +kernel
theorem d_C_correct_37 : decode b_C_correct 37 = .ok (.aload 4, 2) := by decide +kernel
theorem d_C_correct_39 : decode b_C_correct 39 = .ok (.getfield 154, 3) := by decide +kernel
theorem d_C_correct_42 : decode b_C_correct 42 = .ok (.iconst 1, 1) := by decide +kernel
theorem d_C_correct_43 : decode b_C_correct 43 = .ok (.if_icmp .ne 23, 3) := by decide +kernel
theorem d_C_correct_46 : decode b_C_correct 46 = .ok (.aload 4, 2) := by decide +kernel
theorem d_C_correct_48 : decode b_C_correct 48 = .ok (.getfield 185, 3) := by decide +kernel
theorem d_C_correct_51 : decode b_C_correct 51 = .ok (.aload 4, 2) := by decide +kernel
theorem d_C_correct_53 : decode b_C_correct 53 = .ok (.getfield 190, 3) := by decide +kernel
theorem d_C_correct_56 : decode b_C_correct 56 = .ok (.invokevirtual 77, 3) := by decide +kernel
theorem d_C_correct_59 : decode b_C_correct 59 = .ok (.ifCond .le 7, 3) := by decide +kernel
theorem d_C_correct_62 : decode b_C_correct 62 = .ok (.iconst 1, 1) := by decide +kernel
theorem d_C_correct_63 : decode b_C_correct 63 = .ok (.goto 4, 3) := by decide +kernel
theorem d_C_correct_66 : decode b_C_correct 66 = .ok (.iconst 0, 1) := by decide +kernel
theorem d_C_correct_67 : decode b_C_correct 67 = .ok (.istore 5, 2) := by decide +kernel
theorem d_C_correct_69 : decode b_C_correct 69 = .ok (.iload 5, 2) := by decide +kernel
theorem d_C_correct_71 : decode b_C_correct 71 = .ok (.ifCond .eq 13, 3) := by decide +kernel
theorem d_C_correct_74 : decode b_C_correct 74 = .ok (.aload_n 0, 1) := by decide +kernel
theorem d_C_correct_75 : decode b_C_correct 75 = .ok (.invokevirtual 116, 3) := by decide +kernel
theorem d_C_correct_78 : decode b_C_correct 78 = .ok (.ifCond .eq 6, 3) := by decide +kernel
theorem d_C_correct_81 : decode b_C_correct 81 = .ok (.bipush (-14), 2) := by decide +kernel
theorem d_C_correct_83 : decode b_C_correct 83 = .ok (.ireturn, 1) := by decide +kernel
theorem d_C_correct_84 : decode b_C_correct 84 = .ok (.aload 4, 2) := by decide +kernel
theorem d_C_correct_86 : decode b_C_correct 86 = .ok (.getfield 190, 3) := by decide +kernel
theorem d_C_correct_89 : decode b_C_correct 89 = .ok (.invokestatic 113, 3) := by decide +kernel
theorem d_C_correct_92 : decode b_C_correct 92 = .ok (.ifCond .eq 20, 3) := by decide +kernel
theorem d_C_correct_95 : decode b_C_correct 95 = .ok (.aload_n 0, 1) := by decide +kernel
theorem d_C_correct_96 : decode b_C_correct 96 = .ok (.aload 4, 2) := by decide +kernel
theorem d_C_correct_98 : decode b_C_correct 98 = .ok (.getfield 185, 3) := by decide +kernel
theorem d_C_correct_101 : decode b_C_correct 101 = .ok (.getfield 189, 3) := by decide +kernel
theorem d_C_correct_104 : decode b_C_correct 104 = .ok (.aload 4, 2) := by decide +kernel
theorem d_C_correct_106 : decode b_C_correct 106 = .ok (.getfield 200, 3) := by decide +kernel
theorem d_C_correct_109 : decode b_C_correct 109 = .ok (.invokevirtual 203, 3) := by decide +kernel
theorem d_C_correct_112 : decode b_C_correct 112 = .ok (.aload 4, 2) := by decide +kernel
theorem d_C_correct_114 : decode b_C_correct 114 = .ok (.getfield 154, 3) := by decide +kernel
theorem d_C_correct_117 : decode b_C_correct 117 = .ok (.ifCond .ne 11, 3) := by decide +kernel
theorem d_C_correct_120 : decode b_C_correct 120 = .ok (.aload 4, 2) := by decide +kernel
theorem d_C_correct_122 : decode b_C_correct 122 = .ok (.iconst 3, 1) := by decide +kernel
theorem d_C_correct_123 : decode b_C_correct 123 = .ok (.putfield 154, 3) := by decide +kernel
theorem d_C_correct_126 : decode b_C_correct 126 = .ok (.iconst 0, 1) := by decide +kernel
theorem d_C_correct_127 : decode b_C_correct 127 = .ok (.ireturn, 1) := by decide +kernel
theorem d_C_correct_128 : decode b_C_correct 128 = .ok (.aload 4, 2) := by decide +kernel
theorem d_C_correct_130 : decode b_C_correct 130 = .ok (.iconst 1, 1) := by decide +kernel
theorem d_C_correct_131 : decode b_C_correct 131 = .ok (.putfield 207, 3) := by decide +kernel
theorem d_C_correct_134 : decode b_C_correct 134 = .ok (.iload 5, 2) := by decide +kernel
theorem d_C_correct_136 : decode b_C_correct 136 = .ok (.ifCond .eq 13, 3) := by decide +kernel
theorem d_C_correct_139 : decode b_C_correct 139 = .ok (.aload_n 0, 1) := by decide +kernel
theorem d_C_correct_140 : decode b_C_correct 140 = .ok (.aload 4, 2) := by decide +kernel
theorem d_C_correct_142 : decode b_C_correct 142 = .ok (.lload_n 2, 1) := by decide +kernel
theorem d_C_correct_143 : decode b_C_correct 143 = .ok (.invokevirtual 210, 3) := by decide +kernel
theorem d_C_correct_146 : decode b_C_correct 146 = .ok (.goto 4, 3) := by decide +kernel
theorem d_C_correct_149 : decode b_C_correct 149 = .ok (.iconst 0, 1) := by decide +kernel
theorem d_C_correct_150 : decode b_C_correct 150 = .ok (.ireturn, 1) := by decide +kernel
theorem d_C_findNotice_0 : decode b_C_findNotice 0 = .ok (.iload_n 1, 1) := by decide +kernel
theorem d_C_findNotice_1 : decode b_C_findNotice 1 = .ok (.iconst 1, 1) := by decide +kernel
theorem d_C_findNotice_2 : decode b_C_findNotice 2 = .ok (.if_icmp .lt 14, 3) := by decide +kernel
theorem d_C_findNotice_5 : decode b_C_findNotice 5 = .ok (.iload_n 1, 1) := by decide +kernel
theorem d_C_findNotice_6 : decode b_C_findNotice 6 = .ok (.aload_n 0, 1) := by decide +kernel
theorem d_C_findNotice_7 : decode b_C_findNotice 7 = .ok (.getfield 16, 3) := by decide +kernel
theorem d_C_findNotice_10 : decode b_C_findNotice 10 = .ok (.invokevirtual 50, 3) := by decide +kernel
theorem d_C_findNotice_13 : decode b_C_findNotice 13 = .ok (.if_icmp .le 5, 3) := by decide +kernel
theorem d_C_findNotice_16 : decode b_C_findNotice 16 = .ok (.aconst_null, 1) := by decide +kernel
theorem d_C_findNotice_17 : decode b_C_findNotice 17 = .ok (.areturn, 1) := by decide +kernel
theorem d_C_findNotice_18 : decode b_C_findNotice 18 = .ok (.aload_n 0, 1) := by decide +kernel
theorem d_C_findNotice_19 : decode b_C_findNotice 19 = .ok (.getfield 16, 3) := by decide +kernel
theorem d_C_findNotice_22 : decode b_C_findNotice 22 = .ok (.iload_n 1, 1) := by decide +kernel
theorem d_C_findNotice_23 : decode b_C_findNotice 23 = .ok (.iconst 1, 1) := by decide +kernel
theorem d_C_findNotice_24 : decode b_C_findNotice 24 = .ok (.isub, 1) := by decide +kernel
theorem d_C_findNotice_25 : decode b_C_findNotice 25 = .ok (.invokevirtual 160, 3) := by decide +kernel
theorem d_C_findNotice_28 : decode b_C_findNotice 28 = .ok (.checkcast 131, 3) := by decide +kernel
theorem d_C_findNotice_31 : decode b_C_findNotice 31 = .ok (.areturn, 1) := by decide +kernel
theorem d_N_canBeCorrected_0 : decode b_N_canBeCorrected 0 = .ok (.aload_n 0, 1) := by decide +kernel
theorem d_N_canBeCorrected_1 : decode b_N_canBeCorrected 1 = .ok (.getfield 29, 3) := by decide +kernel
theorem d_N_canBeCorrected_4 : decode b_N_canBeCorrected 4 = .ok (.ifCond .eq 11, 3) := by decide +kernel
theorem d_N_canBeCorrected_7 : decode b_N_canBeCorrected 7 = .ok (.aload_n 0, 1) := by decide +kernel
theorem d_N_canBeCorrected_8 : decode b_N_canBeCorrected 8 = .ok (.getfield 29, 3) := by decide +kernel
theorem d_N_canBeCorrected_11 : decode b_N_canBeCorrected 11 = .ok (.iconst 1, 1) := by decide +kernel
theorem d_N_canBeCorrected_12 : decode b_N_canBeCorrected 12 = .ok (.if_icmp .ne 21, 3) := by decide +kernel
theorem d_N_canBeCorrected_15 : decode b_N_canBeCorrected 15 = .ok (.aload_n 0, 1) := by decide +kernel
theorem d_N_canBeCorrected_16 : decode b_N_canBeCorrected 16 = .ok (.getfield 37, 3) := by decide +kernel
theorem d_N_canBeCorrected_19 : decode b_N_canBeCorrected 19 = .ok (.ifCond .ne 14, 3) := by decide +kernel
theorem d_N_canBeCorrected_22 : decode b_N_canBeCorrected 22 = .ok (.aload_n 0, 1) := by decide +kernel
theorem d_N_canBeCorrected_23 : decode b_N_canBeCorrected 23 = .ok (.getfield 41, 3) := by decide +kernel
theorem d_N_canBeCorrected_26 : decode b_N_canBeCorrected 26 = .ok (.ifCond .ne 7, 3) := by decide +kernel
theorem d_N_canBeCorrected_29 : decode b_N_canBeCorrected 29 = .ok (.iconst 1, 1) := by decide +kernel
theorem d_N_canBeCorrected_30 : decode b_N_canBeCorrected 30 = .ok (.goto 4, 3) := by decide +kernel
theorem d_N_canBeCorrected_33 : decode b_N_canBeCorrected 33 = .ok (.iconst 0, 1) := by decide +kernel
theorem d_N_canBeCorrected_34 : decode b_N_canBeCorrected 34 = .ok (.ireturn, 1) := by decide +kernel
theorem d_C_reopenItem_0 : decode b_C_reopenItem 0 = .ok (.aload_n 0, 1) := by decide +kernel
theorem d_C_reopenItem_1 : decode b_C_reopenItem 1 = .ok (.iload_n 1, 1) := by decide +kernel
theorem d_C_reopenItem_2 : decode b_C_reopenItem 2 = .ok (.iload_n 2, 1) := by decide +kernel
theorem d_C_reopenItem_3 : decode b_C_reopenItem 3 = .ok (.invokevirtual 103, 3) := by decide +kernel
theorem d_C_reopenItem_6 : decode b_C_reopenItem 6 = .ok (.astore_n 3, 1) := by decide +kernel
theorem d_C_reopenItem_7 : decode b_C_reopenItem 7 = .ok (.aload_n 3, 1) := by decide +kernel
theorem d_C_reopenItem_8 : decode b_C_reopenItem 8 = .ok (.ifnull 8, 3) := by decide +kernel
theorem d_C_reopenItem_11 : decode b_C_reopenItem 11 = .ok (.aload_n 3, 1) := by decide +kernel
theorem d_C_reopenItem_12 : decode b_C_reopenItem 12 = .ok (.iconst 0, 1) := by decide +kernel
theorem d_C_reopenItem_13 : decode b_C_reopenItem 13 = .ok (.putfield 107, 3) := by decide +kernel
theorem d_C_reopenItem_16 : decode b_C_reopenItem 16 = .ok (.return_, 1) := by decide +kernel
theorem d_C_addCorrection_0 : decode b_C_addCorrection 0 = .ok (.aload_n 0, 1) := by decide +kernel
theorem d_C_addCorrection_1 : decode b_C_addCorrection 1 = .ok (.aload_n 1, 1) := by decide +kernel
theorem d_C_addCorrection_2 : decode b_C_addCorrection 2 = .ok (.getfield 185, 3) := by decide +kernel
theorem d_C_addCorrection_5 : decode b_C_addCorrection 5 = .ok (.aload_n 1, 1) := by decide +kernel
theorem d_C_addCorrection_6 : decode b_C_addCorrection 6 = .ok (.getfield 200, 3) := by decide +kernel
theorem d_C_addCorrection_9 : decode b_C_addCorrection 9 = .ok (.aload_n 1, 1) := by decide +kernel
theorem d_C_addCorrection_10 : decode b_C_addCorrection 10 = .ok (.getfield 190, 3) := by decide +kernel
theorem d_C_addCorrection_13 : decode b_C_addCorrection 13 = .ok (.lload_n 2, 1) := by decide +kernel
theorem d_C_addCorrection_14 : decode b_C_addCorrection 14 = .ok (.invokevirtual 126, 3) := by decide +kernel
theorem d_C_addCorrection_17 : decode b_C_addCorrection 17 = .ok (.astore 4, 2) := by decide +kernel
theorem d_C_addCorrection_19 : decode b_C_addCorrection 19 = .ok (.aload 4, 2) := by decide +kernel
theorem d_C_addCorrection_21 : decode b_C_addCorrection 21 = .ok (.iconst 1, 1) := by decide +kernel
theorem d_C_addCorrection_22 : decode b_C_addCorrection 22 = .ok (.putfield 235, 3) := by decide +kernel
theorem d_C_addCorrection_25 : decode b_C_addCorrection 25 = .ok (.aload 4, 2) := by decide +kernel
theorem d_C_addCorrection_27 : decode b_C_addCorrection 27 = .ok (.getfield 130, 3) := by decide +kernel
theorem d_C_addCorrection_30 : decode b_C_addCorrection 30 = .ok (.ireturn, 1) := by decide +kernel
theorem d_C_join_0 : decode b_C_join 0 = .ok (.iload_n 1, 1) := by decide +kernel
theorem d_C_join_1 : decode b_C_join 1 = .ok (.i2l, 1) := by decide +kernel
theorem d_C_join_2 : decode b_C_join 2 = .ok (.lconst 0, 1) := by decide +kernel
theorem d_C_join_3 : decode b_C_join 3 = .ok (.ldc2_w 214, 3) := by decide +kernel
theorem d_C_join_6 : decode b_C_join 6 = .ok (.invokestatic 42, 3) := by decide +kernel
theorem d_C_join_9 : decode b_C_join 9 = .ok (.ifCond .ne 6, 3) := by decide +kernel
theorem d_C_join_12 : decode b_C_join 12 = .ok (.bipush (-12), 2) := by decide +kernel
theorem d_C_join_14 : decode b_C_join 14 = .ok (.ireturn, 1) := by decide +kernel
theorem d_C_join_15 : decode b_C_join 15 = .ok (.aload_n 0, 1) := by decide +kernel
theorem d_C_join_16 : decode b_C_join 16 = .ok (.getfield 36, 3) := by decide +kernel
theorem d_C_join_19 : decode b_C_join 19 = .ok (.istore_n 2, 1) := by decide +kernel
theorem d_C_join_20 : decode b_C_join 20 = .ok (.aload_n 0, 1) := by decide +kernel
theorem d_C_join_21 : decode b_C_join 21 = .ok (.iload_n 1, 1) := by decide +kernel
theorem d_C_join_22 : decode b_C_join 22 = .ok (.putfield 36, 3) := by decide +kernel
theorem d_C_join_25 : decode b_C_join 25 = .ok (.iload_n 2, 1) := by decide +kernel
theorem d_C_join_26 : decode b_C_join 26 = .ok (.ireturn, 1) := by decide +kernel
