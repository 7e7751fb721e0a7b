theorem d_Oj_init_0 : decode b_Oj_init 0 = .ok (.return_, 1) := by decide +kernel
theorem d_AL_init_0 : decode b_AL_init 0 = .ok (.aload_n 0, 1) := by decide +kernel
theorem d_AL_init_1 : decode b_AL_init 1 = .ok (.invokespecial 1, 3) := by decide +kernel
theorem d_AL_init_4 : decode b_AL_init 4 = .ok (.aload_n 0, 1) := by decide +kernel
theorem d_AL_init_5 : decode b_AL_init 5 = .ok (.getstatic 39, 3) := by decide +kernel
theorem d_AL_init_8 : decode b_AL_init 8 = .ok (.putfield 9, 3) := by decide +kernel
theorem d_AL_init_11 : decode b_AL_init 11 = .ok (.return_, 1) := by decide +kernel
theorem d_AbL_init_0 : decode b_AbL_init 0 = .ok (.aload_n 0, 1) := by decide +kernel
theorem d_AbL_init_1 : decode b_AbL_init 1 = .ok (.invokespecial 1, 3) := by decide +kernel
theorem d_AbL_init_4 : decode b_AbL_init 4 = .ok (.aload_n 0, 1) := by decide +kernel
theorem d_AbL_init_5 : decode b_AbL_init 5 = .ok (.iconst 0, 1) := by decide +kernel
theorem d_AbL_init_6 : decode b_AbL_init 6 = .ok (.putfield 7, 3) := by decide +kernel
theorem d_AbL_init_9 : decode b_AbL_init 9 = .ok (.return_, 1) := by decide +kernel
theorem d_AbC_init_0 : decode b_AbC_init 0 = .ok (.aload_n 0, 1) := by decide +kernel
theorem d_AbC_init_1 : decode b_AbC_init 1 = .ok (.invokespecial 1, 3) := by decide +kernel
theorem d_AbC_init_4 : decode b_AbC_init 4 = .ok (.return_, 1) := by decide +kernel
theorem d_AL_size_0 : decode b_AL_size 0 = .ok (.aload_n 0, 1) := by decide +kernel
theorem d_AL_size_1 : decode b_AL_size 1 = .ok (.getfield 48, 3) := by decide +kernel
theorem d_AL_size_4 : decode b_AL_size 4 = .ok (.ireturn, 1) := by decide +kernel
theorem d_AL_add_0 : decode b_AL_add 0 = .ok (.aload_n 0, 1) := by decide +kernel
theorem d_AL_add_1 : decode b_AL_add 1 = .ok (.dup, 1) := by decide +kernel
theorem d_AL_add_2 : decode b_AL_add 2 = .ok (.getfield 63, 3) := by decide +kernel
theorem d_AL_add_5 : decode b_AL_add 5 = .ok (.iconst 1, 1) := by decide +kernel
theorem d_AL_add_6 : decode b_AL_add 6 = .ok (.iadd, 1) := by decide +kernel
theorem d_AL_add_7 : decode b_AL_add 7 = .ok (.putfield 63, 3) := by decide +kernel
theorem d_AL_add_10 : decode b_AL_add 10 = .ok (.aload_n 0, 1) := by decide +kernel
theorem d_AL_add_11 : decode b_AL_add 11 = .ok (.aload_n 1, 1) := by decide +kernel
theorem d_AL_add_12 : decode b_AL_add 12 = .ok (.aload_n 0, 1) := by decide +kernel
theorem d_AL_add_13 : decode b_AL_add 13 = .ok (.getfield 9, 3) := by decide +kernel
theorem d_AL_add_16 : decode b_AL_add 16 = .ok (.aload_n 0, 1) := by decide +kernel
theorem d_AL_add_17 : decode b_AL_add 17 = .ok (.getfield 48, 3) := by decide +kernel
theorem d_AL_add_20 : decode b_AL_add 20 = .ok (.invokevirtual 131, 3) := by decide +kernel
theorem d_AL_add_23 : decode b_AL_add 23 = .ok (.iconst 1, 1) := by decide +kernel
theorem d_AL_add_24 : decode b_AL_add 24 = .ok (.ireturn, 1) := by decide +kernel
theorem d_AL_add_LObjectALObjectIV_0 : decode b_AL_add_LObjectALObjectIV 0 = .ok (.iload_n 3, 1) := by decide +kernel
theorem d_AL_add_LObjectALObjectIV_1 : decode b_AL_add_LObjectALObjectIV 1 = .ok (.aload_n 2, 1) := by decide +kernel
theorem d_AL_add_LObjectALObjectIV_2 : decode b_AL_add_LObjectALObjectIV 2 = .ok (.arraylength, 1) := by decide +kernel
theorem d_AL_add_LObjectALObjectIV_3 : decode b_AL_add_LObjectALObjectIV 3 = .ok (.if_icmp .ne 8, 3) := by decide +kernel
theorem d_AL_add_LObjectALObjectIV_6 : decode b_AL_add_LObjectALObjectIV 6 = .ok (.aload_n 0, 1) := by decide +kernel
theorem d_AL_add_LObjectALObjectIV_7 : decode b_AL_add_LObjectALObjectIV 7 = .ok (.invokevirtual 129, 3) := by decide +kernel
theorem d_AL_add_LObjectALObjectIV_10 : decode b_AL_add_LObjectALObjectIV 10 = .ok (.astore_n 2, 1) := by decide +kernel
theorem d_AL_add_LObjectALObjectIV_11 : decode b_AL_add_LObjectALObjectIV 11 = .ok (.aload_n 2, 1) := by decide +kernel
theorem d_AL_add_LObjectALObjectIV_12 : decode b_AL_add_LObjectALObjectIV 12 = .ok (.iload_n 3, 1) := by decide +kernel
theorem d_AL_add_LObjectALObjectIV_13 : decode b_AL_add_LObjectALObjectIV 13 = .ok (.aload_n 1, 1) := by decide +kernel
theorem d_AL_add_LObjectALObjectIV_14 : decode b_AL_add_LObjectALObjectIV 14 = .ok (.aastore, 1) := by decide +kernel
theorem d_AL_add_LObjectALObjectIV_15 : decode b_AL_add_LObjectALObjectIV 15 = .ok (.aload_n 0, 1) := by decide +kernel
theorem d_AL_add_LObjectALObjectIV_16 : decode b_AL_add_LObjectALObjectIV 16 = .ok (.iload_n 3, 1) := by decide +kernel
theorem d_AL_add_LObjectALObjectIV_17 : decode b_AL_add_LObjectALObjectIV 17 = .ok (.iconst 1, 1) := by decide +kernel
theorem d_AL_add_LObjectALObjectIV_18 : decode b_AL_add_LObjectALObjectIV 18 = .ok (.iadd, 1) := by decide +kernel
theorem d_AL_add_LObjectALObjectIV_19 : decode b_AL_add_LObjectALObjectIV 19 = .ok (.putfield 48, 3) := by decide +kernel
theorem d_AL_add_LObjectALObjectIV_22 : decode b_AL_add_LObjectALObjectIV 22 = .ok (.return_, 1) := by decide +kernel
theorem d_AL_grow_0 : decode b_AL_grow 0 = .ok (.aload_n 0, 1) := by decide +kernel
theorem d_AL_grow_1 : decode b_AL_grow 1 = .ok (.aload_n 0, 1) := by decide +kernel
theorem d_AL_grow_2 : decode b_AL_grow 2 = .ok (.getfield 48, 3) := by decide +kernel
theorem d_AL_grow_5 : decode b_AL_grow 5 = .ok (.iconst 1, 1) := by decide +kernel
theorem d_AL_grow_6 : decode b_AL_grow 6 = .ok (.iadd, 1) := by decide +kernel
theorem d_AL_grow_7 : decode b_AL_grow 7 = .ok (.invokevirtual 69, 3) := by decide +kernel
theorem d_AL_grow_10 : decode b_AL_grow 10 = .ok (.areturn, 1) := by decide +kernel
theorem d_AL_grow_IALObject_0 : decode b_AL_grow_IALObject 0 = .ok (.aload_n 0, 1) := by decide +kernel
theorem d_AL_grow_IALObject_1 : decode b_AL_grow_IALObject 1 = .ok (.getfield 9, 3) := by decide +kernel
theorem d_AL_grow_IALObject_4 : decode b_AL_grow_IALObject 4 = .ok (.arraylength, 1) := by decide +kernel
theorem d_AL_grow_IALObject_5 : decode b_AL_grow_IALObject 5 = .ok (.istore_n 2, 1) := by decide +kernel
theorem d_AL_grow_IALObject_6 : decode b_AL_grow_IALObject 6 = .ok (.iload_n 2, 1) := by decide +kernel
theorem d_AL_grow_IALObject_7 : decode b_AL_grow_IALObject 7 = .ok (.ifCond .gt 13, 3) := by decide +kernel
theorem d_AL_grow_IALObject_10 : decode b_AL_grow_IALObject 10 = .ok (.aload_n 0, 1) := by decide +kernel
theorem d_AL_grow_IALObject_11 : decode b_AL_grow_IALObject 11 = .ok (.getfield 9, 3) := by decide +kernel
theorem d_AL_grow_IALObject_14 : decode b_AL_grow_IALObject 14 = .ok (.getstatic 39, 3) := by decide +kernel
theorem d_AL_grow_IALObject_17 : decode b_AL_grow_IALObject 17 = .ok (.if_acmp .eq 28, 3) := by decide +kernel
theorem d_AL_grow_IALObject_20 : decode b_AL_grow_IALObject 20 = .ok (.iload_n 2, 1) := by decide +kernel
theorem d_AL_grow_IALObject_21 : decode b_AL_grow_IALObject 21 = .ok (.iload_n 1, 1) := by decide +kernel
theorem d_AL_grow_IALObject_22 : decode b_AL_grow_IALObject 22 = .ok (.iload_n 2, 1) := by decide +kernel
theorem d_AL_grow_IALObject_23 : decode b_AL_grow_IALObject 23 = .ok (.isub, 1) := by decide +kernel
theorem d_AL_grow_IALObject_24 : decode b_AL_grow_IALObject 24 = .ok (.iload_n 2, 1) := by decide +kernel
theorem d_AL_grow_IALObject_25 : decode b_AL_grow_IALObject 25 = .ok (.iconst 1, 1) := by decide +kernel
theorem d_AL_grow_IALObject_26 : decode b_AL_grow_IALObject 26 = .ok (.ishr, 1) := by decide +kernel
theorem d_AL_grow_IALObject_27 : decode b_AL_grow_IALObject 27 = .ok (.invokestatic 73, 3) := by decide +kernel
theorem d_AL_grow_IALObject_30 : decode b_AL_grow_IALObject 30 = .ok (.istore_n 3, 1) := by decide +kernel
theorem d_AL_grow_IALObject_31 : decode b_AL_grow_IALObject 31 = .ok (.aload_n 0, 1) := by decide +kernel
theorem d_AL_grow_IALObject_32 : decode b_AL_grow_IALObject 32 = .ok (.aload_n 0, 1) := by decide +kernel
theorem d_AL_grow_IALObject_33 : decode b_AL_grow_IALObject 33 = .ok (.getfield 9, 3) := by decide +kernel
theorem d_AL_grow_IALObject_36 : decode b_AL_grow_IALObject 36 = .ok (.iload_n 3, 1) := by decide +kernel
theorem d_AL_grow_IALObject_37 : decode b_AL_grow_IALObject 37 = .ok (.invokestatic 66, 3) := by decide +kernel
theorem d_AL_grow_IALObject_40 : decode b_AL_grow_IALObject 40 = .ok (.dup_x1, 1) := by decide +kernel
theorem d_AL_grow_IALObject_41 : decode b_AL_grow_IALObject 41 = .ok (.putfield 9, 3) := by decide +kernel
theorem d_AL_grow_IALObject_44 : decode b_AL_grow_IALObject 44 = .ok (.areturn, 1) := by decide +kernel
theorem d_AL_grow_IALObject_45 : decode b_AL_grow_IALObject 45 = .ok (.aload_n 0, 1) := by decide +kernel
theorem d_AL_grow_IALObject_46 : decode b_AL_grow_IALObject 46 = .ok (.bipush 10, 2) := by decide +kernel
theorem d_AL_grow_IALObject_48 : decode b_AL_grow_IALObject 48 = .ok (.iload_n 1, 1) := by decide +kernel
theorem d_AL_grow_IALObject_49 : decode b_AL_grow_IALObject 49 = .ok (.invokestatic 79, 3) := by decide +kernel
theorem d_AL_grow_IALObject_52 : decode b_AL_grow_IALObject 52 = .ok (.anewarray 7, 3) := by decide +kernel
theorem d_AL_grow_IALObject_55 : decode b_AL_grow_IALObject 55 = .ok (.dup_x1, 1) := by decide +kernel
theorem d_AL_grow_IALObject_56 : decode b_AL_grow_IALObject 56 = .ok (.putfield 9, 3) := by decide +kernel
theorem d_AL_grow_IALObject_59 : decode b_AL_grow_IALObject 59 = .ok (.areturn, 1) := by decide +kernel
theorem d_AS_newLength_0 : decode b_AS_newLength 0 = .ok (.iload_n 0, 1) := by decide +kernel
theorem d_AS_newLength_1 : decode b_AS_newLength 1 = .ok (.iload_n 1, 1) := by decide +kernel
theorem d_AS_newLength_2 : decode b_AS_newLength 2 = .ok (.iload_n 2, 1) := by decide +kernel
theorem d_AS_newLength_3 : decode b_AS_newLength 3 = .ok (.invokestatic 194, 3) := by decide +kernel
theorem d_AS_newLength_6 : decode b_AS_newLength 6 = .ok (.iadd, 1) := by decide +kernel
theorem d_AS_newLength_7 : decode b_AS_newLength 7 = .ok (.istore_n 3, 1) := by decide +kernel
theorem d_AS_newLength_8 : decode b_AS_newLength 8 = .ok (.iconst 0, 1) := by decide +kernel
theorem d_AS_newLength_9 : decode b_AS_newLength 9 = .ok (.iload_n 3, 1) := by decide +kernel
theorem d_AS_newLength_10 : decode b_AS_newLength 10 = .ok (.if_icmp .ge 11, 3) := by decide +kernel
theorem d_AS_newLength_13 : decode b_AS_newLength 13 = .ok (.iload_n 3, 1) := by decide +kernel
theorem d_AS_newLength_14 : decode b_AS_newLength 14 = .ok (.ldc 200, 2) := by decide +kernel
theorem d_AS_newLength_16 : decode b_AS_newLength 16 = .ok (.if_icmp .gt 5, 3) := by decide +kernel
theorem d_AS_newLength_19 : decode b_AS_newLength 19 = .ok (.iload_n 3, 1) := by decide +kernel
theorem d_AS_newLength_20 : decode b_AS_newLength 20 = .ok (.ireturn, 1) := by decide +kernel
theorem d_AS_newLength_21 : decode b_AS_newLength 21 = .ok (.iload_n 0, 1) := by decide +kernel
theorem d_AS_newLength_22 : decode b_AS_newLength 22 = .ok (.iload_n 1, 1) := by decide +kernel
theorem d_AS_newLength_23 : decode b_AS_newLength 23 = .ok (.invokestatic 201, 3) := by decide +kernel
theorem d_AS_newLength_26 : decode b_AS_newLength 26 = .ok (.ireturn, 1) := by decide +kernel
theorem d_Ma_max_0 : decode b_Ma_max 0 = .ok (.iload_n 0, 1) := by decide +kernel
theorem d_Ma_max_1 : decode b_Ma_max 1 = .ok (.iload_n 1, 1) := by decide +kernel
theorem d_Ma_max_2 : decode b_Ma_max 2 = .ok (.if_icmp .lt 7, 3) := by decide +kernel
theorem d_Ma_max_5 : decode b_Ma_max 5 = .ok (.iload_n 0, 1) := by decide +kernel
theorem d_Ma_max_6 : decode b_Ma_max 6 = .ok (.goto 4, 3) := by decide +kernel
theorem d_Ma_max_9 : decode b_Ma_max 9 = .ok (.iload_n 1, 1) := by decide +kernel
theorem d_Ma_max_10 : decode b_Ma_max 10 = .ok (.ireturn, 1) := by decide +kernel
theorem d_AS_hugeLength_0 : decode b_AS_hugeLength 0 = .ok (.iload_n 0, 1) := by decide +kernel
theorem d_AS_hugeLength_1 : decode b_AS_hugeLength 1 = .ok (.iload_n 1, 1) := by decide +kernel
theorem d_AS_hugeLength_2 : decode b_AS_hugeLength 2 = .ok (.iadd, 1) := by decide +kernel
theorem d_AS_hugeLength_3 : decode b_AS_hugeLength 3 = .ok (.istore_n 2, 1) := by decide +kernel
theorem d_AS_hugeLength_4 : decode b_AS_hugeLength 4 = .ok (.iload_n 2, 1) := by decide +kernel
theorem d_AS_hugeLength_5 : decode b_AS_hugeLength 5 = .ok (.ifCond .ge 44, 3) := by decide +kernel
theorem d_AS_hugeLength_8 : decode b_AS_hugeLength 8 = .ok (.new 204, 3) := by decide +kernel
theorem d_AS_hugeLength_11 : decode b_AS_hugeLength 11 = .ok (.dup, 1) := by decide +kernel
theorem d_AS_hugeLength_12 : decode b_AS_hugeLength 12 = .ok (.new 89, 3) := by decide +kernel
theorem d_AS_hugeLength_15 : decode b_AS_hugeLength 15 = .ok (.dup, 1) := by decide +kernel
theorem d_AS_hugeLength_16 : decode b_AS_hugeLength 16 = .ok (.invokespecial 91, 3) := by decide +kernel
theorem d_AS_hugeLength_19 : decode b_AS_hugeLength 19 = .ok (.ldc 206, 2) := by decide +kernel
theorem d_AS_hugeLength_21 : decode b_AS_hugeLength 21 = .ok (.invokevirtual 94, 3) := by decide +kernel
theorem d_AS_hugeLength_24 : decode b_AS_hugeLength 24 = .ok (.iload_n 0, 1) := by decide +kernel
theorem d_AS_hugeLength_25 : decode b_AS_hugeLength 25 = .ok (.invokevirtual 98, 3) := by decide +kernel
theorem d_AS_hugeLength_28 : decode b_AS_hugeLength 28 = .ok (.ldc 208, 2) := by decide +kernel
theorem d_AS_hugeLength_30 : decode b_AS_hugeLength 30 = .ok (.invokevirtual 94, 3) := by decide +kernel
theorem d_AS_hugeLength_33 : decode b_AS_hugeLength 33 = .ok (.iload_n 1, 1) := by decide +kernel
theorem d_AS_hugeLength_34 : decode b_AS_hugeLength 34 = .ok (.invokevirtual 98, 3) := by decide +kernel
theorem d_AS_hugeLength_37 : decode b_AS_hugeLength 37 = .ok (.ldc 210, 2) := by decide +kernel
theorem d_AS_hugeLength_39 : decode b_AS_hugeLength 39 = .ok (.invokevirtual 94, 3) := by decide +kernel
theorem d_AS_hugeLength_42 : decode b_AS_hugeLength 42 = .ok (.invokevirtual 101, 3) := by decide +kernel
theorem d_AS_hugeLength_45 : decode b_AS_hugeLength 45 = .ok (.invokespecial 212, 3) := by decide +kernel
theorem d_AS_hugeLength_48 : decode b_AS_hugeLength 48 = .ok (.athrow, 1) := by decide +kernel
theorem d_AS_hugeLength_49 : decode b_AS_hugeLength 49 = .ok (.iload_n 2, 1) := by decide +kernel
theorem d_AS_hugeLength_50 : decode b_AS_hugeLength 50 = .ok (.ldc 200, 2) := by decide +kernel
theorem d_AS_hugeLength_52 : decode b_AS_hugeLength 52 = .ok (.if_icmp .gt 6, 3) := by decide +kernel
theorem d_AS_hugeLength_55 : decode b_AS_hugeLength 55 = .ok (.ldc 200, 2) := by decide +kernel
theorem d_AS_hugeLength_57 : decode b_AS_hugeLength 57 = .ok (.ireturn, 1) := by decide +kernel
theorem d_AS_hugeLength_58 : decode b_AS_hugeLength 58 = .ok (.iload_n 2, 1) := by decide +kernel
theorem d_AS_hugeLength_59 : decode b_AS_hugeLength 59 = .ok (.ireturn, 1) := by decide +kernel
theorem d_Ar_copyOf_0 : decode b_Ar_copyOf 0 = .ok (.aload_n 0, 1) := by decide +kernel
theorem d_Ar_copyOf_1 : decode b_Ar_copyOf 1 = .ok (.iload_n 1, 1) := by decide +kernel
theorem d_Ar_copyOf_2 : decode b_Ar_copyOf 2 = .ok (.aload_n 0, 1) := by decide +kernel
theorem d_Ar_copyOf_3 : decode b_Ar_copyOf 3 = .ok (.invokevirtual 86, 3) := by decide +kernel
theorem d_Ar_copyOf_6 : decode b_Ar_copyOf 6 = .ok (.invokestatic 300, 3) := by decide +kernel
theorem d_Ar_copyOf_9 : decode b_Ar_copyOf 9 = .ok (.areturn, 1) := by decide +kernel
theorem d_Ar_copyOf_ALObjectILClassALObject_0 : decode b_Ar_copyOf_ALObjectILClassALObject 0 = .ok (.aload_n 2, 1) := by decide +kernel
theorem d_Ar_copyOf_ALObjectILClassALObject_1 : decode b_Ar_copyOf_ALObjectILClassALObject 1 = .ok (.ldc 110, 2) := by decide +kernel
theorem d_Ar_copyOf_ALObjectILClassALObject_3 : decode b_Ar_copyOf_ALObjectILClassALObject 3 = .ok (.if_acmp .ne 10, 3) := by decide +kernel
theorem d_Ar_copyOf_ALObjectILClassALObject_6 : decode b_Ar_copyOf_ALObjectILClassALObject 6 = .ok (.iload_n 1, 1) := by decide +kernel
theorem d_Ar_copyOf_ALObjectILClassALObject_7 : decode b_Ar_copyOf_ALObjectILClassALObject 7 = .ok (.anewarray 2, 3) := by decide +kernel
theorem d_Ar_copyOf_ALObjectILClassALObject_10 : decode b_Ar_copyOf_ALObjectILClassALObject 10 = .ok (.goto 14, 3) := by decide +kernel
theorem d_Ar_copyOf_ALObjectILClassALObject_13 : decode b_Ar_copyOf_ALObjectILClassALObject 13 = .ok (.aload_n 2, 1) := by decide +kernel
theorem d_Ar_copyOf_ALObjectILClassALObject_14 : decode b_Ar_copyOf_ALObjectILClassALObject 14 = .ok (.invokevirtual 90, 3) := by decide +kernel
theorem d_Ar_copyOf_ALObjectILClassALObject_17 : decode b_Ar_copyOf_ALObjectILClassALObject 17 = .ok (.iload_n 1, 1) := by decide +kernel
theorem d_Ar_copyOf_ALObjectILClassALObject_18 : decode b_Ar_copyOf_ALObjectILClassALObject 18 = .ok (.invokestatic 95, 3) := by decide +kernel
theorem d_Ar_copyOf_ALObjectILClassALObject_21 : decode b_Ar_copyOf_ALObjectILClassALObject 21 = .ok (.checkcast 110, 3) := by decide +kernel
theorem d_Ar_copyOf_ALObjectILClassALObject_24 : decode b_Ar_copyOf_ALObjectILClassALObject 24 = .ok (.astore_n 3, 1) := by decide +kernel
theorem d_Ar_copyOf_ALObjectILClassALObject_25 : decode b_Ar_copyOf_ALObjectILClassALObject 25 = .ok (.aload_n 0, 1) := by decide +kernel
theorem d_Ar_copyOf_ALObjectILClassALObject_26 : decode b_Ar_copyOf_ALObjectILClassALObject 26 = .ok (.iconst 0, 1) := by decide +kernel
theorem d_Ar_copyOf_ALObjectILClassALObject_27 : decode b_Ar_copyOf_ALObjectILClassALObject 27 = .ok (.aload_n 3, 1) := by decide +kernel
theorem d_Ar_copyOf_ALObjectILClassALObject_28 : decode b_Ar_copyOf_ALObjectILClassALObject 28 = .ok (.iconst 0, 1) := by decide +kernel
theorem d_Ar_copyOf_ALObjectILClassALObject_29 : decode b_Ar_copyOf_ALObjectILClassALObject 29 = .ok (.aload_n 0, 1) := by decide +kernel
theorem d_Ar_copyOf_ALObjectILClassALObject_30 : decode b_Ar_copyOf_ALObjectILClassALObject 30 = .ok (.arraylength, 1) := by decide +kernel
theorem d_Ar_copyOf_ALObjectILClassALObject_31 : decode b_Ar_copyOf_ALObjectILClassALObject 31 = .ok (.iload_n 1, 1) := by decide +kernel
theorem d_Ar_copyOf_ALObjectILClassALObject_32 : decode b_Ar_copyOf_ALObjectILClassALObject 32 = .ok (.invokestatic 304, 3) := by decide +kernel
theorem d_Ar_copyOf_ALObjectILClassALObject_35 : decode b_Ar_copyOf_ALObjectILClassALObject 35 = .ok (.invokestatic 150, 3) := by decide +kernel
theorem d_Ar_copyOf_ALObjectILClassALObject_38 : decode b_Ar_copyOf_ALObjectILClassALObject 38 = .ok (.aload_n 3, 1) := by decide +kernel
theorem d_Ar_copyOf_ALObjectILClassALObject_39 : decode b_Ar_copyOf_ALObjectILClassALObject 39 = .ok (.areturn, 1) := by decide +kernel
theorem d_Ma_min_0 : decode b_Ma_min 0 = .ok (.iload_n 0, 1) := by decide +kernel
theorem d_Ma_min_1 : decode b_Ma_min 1 = .ok (.iload_n 1, 1) := by decide +kernel
theorem d_Ma_min_2 : decode b_Ma_min 2 = .ok (.if_icmp .gt 7, 3) := by decide +kernel
theorem d_Ma_min_5 : decode b_Ma_min 5 = .ok (.iload_n 0, 1) := by decide +kernel
theorem d_Ma_min_6 : decode b_Ma_min 6 = .ok (.goto 4, 3) := by decide +kernel
theorem d_Ma_min_9 : decode b_Ma_min 9 = .ok (.iload_n 1, 1) := by decide +kernel
theorem d_Ma_min_10 : decode b_Ma_min 10 = .ok (.ireturn, 1) := by decide +kernel
theorem d_AL_get_0 : decode b_AL_get 0 = .ok (.iload_n 1, 1) := by decide +kernel
theorem d_AL_get_1 : decode b_AL_get 1 = .ok (.aload_n 0, 1) := by decide +kernel
theorem d_AL_get_2 : decode b_AL_get 2 = .ok (.getfield 48, 3) := by decide +kernel
theorem d_AL_get_5 : decode b_AL_get 5 = .ok (.invokestatic 118, 3) := by decide +kernel
theorem d_AL_get_8 : decode b_AL_get 8 = .ok (.pop, 1) := by decide +kernel
theorem d_AL_get_9 : decode b_AL_get 9 = .ok (.aload_n 0, 1) := by decide +kernel
theorem d_AL_get_10 : decode b_AL_get 10 = .ok (.iload_n 1, 1) := by decide +kernel
theorem d_AL_get_11 : decode b_AL_get 11 = .ok (.invokevirtual 123, 3) := by decide +kernel
theorem d_AL_get_14 : decode b_AL_get 14 = .ok (.areturn, 1) := by decide +kernel
theorem d_Ob_checkIndex_0 : decode b_Ob_checkIndex 0 = .ok (.iload_n 0, 1) := by decide +kernel
theorem d_Ob_checkIndex_1 : decode b_Ob_checkIndex 1 = .ok (.iload_n 1, 1) := by decide +kernel
theorem d_Ob_checkIndex_2 : decode b_Ob_checkIndex 2 = .ok (.aconst_null, 1) := by decide +kernel
theorem d_Ob_checkIndex_3 : decode b_Ob_checkIndex 3 = .ok (.invokestatic 105, 3) := by decide +kernel
theorem d_Ob_checkIndex_6 : decode b_Ob_checkIndex 6 = .ok (.ireturn, 1) := by decide +kernel
theorem d_Pr_checkIndex_0 : decode b_Pr_checkIndex 0 = .ok (.iload_n 0, 1) := by decide +kernel
theorem d_Pr_checkIndex_1 : decode b_Pr_checkIndex 1 = .ok (.ifCond .lt 8, 3) := by decide +kernel
theorem d_Pr_checkIndex_4 : decode b_Pr_checkIndex 4 = .ok (.iload_n 0, 1) := by decide +kernel
theorem d_Pr_checkIndex_5 : decode b_Pr_checkIndex 5 = .ok (.iload_n 1, 1) := by decide +kernel
theorem d_Pr_checkIndex_6 : decode b_Pr_checkIndex 6 = .ok (.if_icmp .lt 10, 3) := by decide +kernel
theorem d_Pr_checkIndex_9 : decode b_Pr_checkIndex 9 = .ok (.aload_n 2, 1) := by decide +kernel
theorem d_Pr_checkIndex_10 : decode b_Pr_checkIndex 10 = .ok (.iload_n 0, 1) := by decide +kernel
theorem d_Pr_checkIndex_11 : decode b_Pr_checkIndex 11 = .ok (.iload_n 1, 1) := by decide +kernel
theorem d_Pr_checkIndex_12 : decode b_Pr_checkIndex 12 = .ok (.invokestatic 95, 3) := by decide +kernel
theorem d_Pr_checkIndex_15 : decode b_Pr_checkIndex 15 = .ok (.athrow, 1) := by decide +kernel
theorem d_Pr_checkIndex_16 : decode b_Pr_checkIndex 16 = .ok (.iload_n 0, 1) := by decide +kernel
theorem d_Pr_checkIndex_17 : decode b_Pr_checkIndex 17 = .ok (.ireturn, 1) := by decide +kernel
theorem d_AL_elementData_0 : decode b_AL_elementData 0 = .ok (.aload_n 0, 1) := by decide +kernel
theorem d_AL_elementData_1 : decode b_AL_elementData 1 = .ok (.getfield 9, 3) := by decide +kernel
theorem d_AL_elementData_4 : decode b_AL_elementData 4 = .ok (.iload_n 1, 1) := by decide +kernel
theorem d_AL_elementData_5 : decode b_AL_elementData 5 = .ok (.aaload, 1) := by decide +kernel
theorem d_AL_elementData_6 : decode b_AL_elementData 6 = .ok (.areturn, 1) := by decide +kernel
theorem d_Ma_floorMod_0 : decode b_Ma_floorMod 0 = .ok (.iload_n 0, 1) := by decide +kernel
theorem d_Ma_floorMod_1 : decode b_Ma_floorMod 1 = .ok (.iload_n 1, 1) := by decide +kernel
theorem d_Ma_floorMod_2 : decode b_Ma_floorMod 2 = .ok (.irem, 1) := by decide +kernel
theorem d_Ma_floorMod_3 : decode b_Ma_floorMod 3 = .ok (.istore_n 2, 1) := by decide +kernel
theorem d_Ma_floorMod_4 : decode b_Ma_floorMod 4 = .ok (.iload_n 0, 1) := by decide +kernel
theorem d_Ma_floorMod_5 : decode b_Ma_floorMod 5 = .ok (.iload_n 1, 1) := by decide +kernel
theorem d_Ma_floorMod_6 : decode b_Ma_floorMod 6 = .ok (.ixor, 1) := by decide +kernel
theorem d_Ma_floorMod_7 : decode b_Ma_floorMod 7 = .ok (.ifCond .ge 11, 3) := by decide +kernel
theorem d_Ma_floorMod_10 : decode b_Ma_floorMod 10 = .ok (.iload_n 2, 1) := by decide +kernel
theorem d_Ma_floorMod_11 : decode b_Ma_floorMod 11 = .ok (.ifCond .eq 7, 3) := by decide +kernel
theorem d_Ma_floorMod_14 : decode b_Ma_floorMod 14 = .ok (.iload_n 2, 1) := by decide +kernel
theorem d_Ma_floorMod_15 : decode b_Ma_floorMod 15 = .ok (.iload_n 1, 1) := by decide +kernel
theorem d_Ma_floorMod_16 : decode b_Ma_floorMod 16 = .ok (.iadd, 1) := by decide +kernel
theorem d_Ma_floorMod_17 : decode b_Ma_floorMod 17 = .ok (.ireturn, 1) := by decide +kernel
theorem d_Ma_floorMod_18 : decode b_Ma_floorMod 18 = .ok (.iload_n 2, 1) := by decide +kernel
theorem d_Ma_floorMod_19 : decode b_Ma_floorMod 19 = .ok (.ireturn, 1) := by decide +kernel
theorem d_Ma_abs_0 : decode b_Ma_abs 0 = .ok (.lload_n 0, 1) := by decide +kernel
theorem d_Ma_abs_1 : decode b_Ma_abs 1 = .ok (.lconst 0, 1) := by decide +kernel
theorem d_Ma_abs_2 : decode b_Ma_abs 2 = .ok (.lcmp, 1) := by decide +kernel
theorem d_Ma_abs_3 : decode b_Ma_abs 3 = .ok (.ifCond .ge 8, 3) := by decide +kernel
theorem d_Ma_abs_6 : decode b_Ma_abs 6 = .ok (.lload_n 0, 1) := by decide +kernel
theorem d_Ma_abs_7 : decode b_Ma_abs 7 = .ok (.lneg, 1) := by decide +kernel
theorem d_Ma_abs_8 : decode b_Ma_abs 8 = .ok (.goto 4, 3) := by decide +kernel
theorem d_Ma_abs_11 : decode b_Ma_abs 11 = .ok (.lload_n 0, 1) := by decide +kernel
theorem d_Ma_abs_12 : decode b_Ma_abs 12 = .ok (.lreturn, 1) := by decide +kernel
theorem d_Ma_min_JJJ_0 : decode b_Ma_min_JJJ 0 = .ok (.lload_n 0, 1) := by decide +kernel
theorem d_Ma_min_JJJ_1 : decode b_Ma_min_JJJ 1 = .ok (.lload_n 2, 1) := by decide +kernel
theorem d_Ma_min_JJJ_2 : decode b_Ma_min_JJJ 2 = .ok (.lcmp, 1) := by decide +kernel
theorem d_Ma_min_JJJ_3 : decode b_Ma_min_JJJ 3 = .ok (.ifCond .gt 7, 3) := by decide +kernel
theorem d_Ma_min_JJJ_6 : decode b_Ma_min_JJJ 6 = .ok (.lload_n 0, 1) := by decide +kernel
theorem d_Ma_min_JJJ_7 : decode b_Ma_min_JJJ 7 = .ok (.goto 4, 3) := by decide +kernel
theorem d_Ma_min_JJJ_10 : decode b_Ma_min_JJJ 10 = .ok (.lload_n 2, 1) := by decide +kernel
theorem d_Ma_min_JJJ_11 : decode b_Ma_min_JJJ 11 = .ok (.lreturn, 1) := by decide +kernel
theorem d_Ma_floorMod_JJJ_0 : decode b_Ma_floorMod_JJJ 0 = .ok (.lload_n 0, 1) := by decide +kernel
theorem d_Ma_floorMod_JJJ_1 : decode b_Ma_floorMod_JJJ 1 = .ok (.lload_n 2, 1) := by decide +kernel
theorem d_Ma_floorMod_JJJ_2 : decode b_Ma_floorMod_JJJ 2 = .ok (.lrem, 1) := by decide +kernel
theorem d_Ma_floorMod_JJJ_3 : decode b_Ma_floorMod_JJJ 3 = .ok (.lstore 4, 2) := by decide +kernel
theorem d_Ma_floorMod_JJJ_5 : decode b_Ma_floorMod_JJJ 5 = .ok (.lload_n 0, 1) := by decide +kernel
theorem d_Ma_floorMod_JJJ_6 : decode b_Ma_floorMod_JJJ 6 = .ok (.lload_n 2, 1) := by decide +kernel
theorem d_Ma_floorMod_JJJ_7 : decode b_Ma_floorMod_JJJ 7 = .ok (.lxor, 1) := by decide +kernel
theorem d_Ma_floorMod_JJJ_8 : decode b_Ma_floorMod_JJJ 8 = .ok (.lconst 0, 1) := by decide +kernel
theorem d_Ma_floorMod_JJJ_9 : decode b_Ma_floorMod_JJJ 9 = .ok (.lcmp, 1) := by decide +kernel
theorem d_Ma_floorMod_JJJ_10 : decode b_Ma_floorMod_JJJ 10 = .ok (.ifCond .ge 15, 3) := by decide +kernel
theorem d_Ma_floorMod_JJJ_13 : decode b_Ma_floorMod_JJJ 13 = .ok (.lload 4, 2) := by decide +kernel
theorem d_Ma_floorMod_JJJ_15 : decode b_Ma_floorMod_JJJ 15 = .ok (.lconst 0, 1) := by decide +kernel
theorem d_Ma_floorMod_JJJ_16 : decode b_Ma_floorMod_JJJ 16 = .ok (.lcmp, 1) := by decide +kernel
theorem d_Ma_floorMod_JJJ_17 : decode b_Ma_floorMod_JJJ 17 = .ok (.ifCond .eq 8, 3) := by decide +kernel
theorem d_Ma_floorMod_JJJ_20 : decode b_Ma_floorMod_JJJ 20 = .ok (.lload 4, 2) := by decide +kernel
theorem d_Ma_floorMod_JJJ_22 : decode b_Ma_floorMod_JJJ 22 = .ok (.lload_n 2, 1) := by decide +kernel
theorem d_Ma_floorMod_JJJ_23 : decode b_Ma_floorMod_JJJ 23 = .ok (.ladd, 1) := by decide +kernel
theorem d_Ma_floorMod_JJJ_24 : decode b_Ma_floorMod_JJJ 24 = .ok (.lreturn, 1) := by decide +kernel
theorem d_Ma_floorMod_JJJ_25 : decode b_Ma_floorMod_JJJ 25 = .ok (.lload 4, 2) := by decide +kernel
theorem d_Ma_floorMod_JJJ_27 : decode b_Ma_floorMod_JJJ 27 = .ok (.lreturn, 1) := by decide +kernel
