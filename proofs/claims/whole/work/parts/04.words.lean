theorem tw_0 : Cond.selects "java/util/ArrayList" y_AL_add_LObjectALObjectIV y_AL_add_LObjectALObjectIV ∈ vv_wds := List.mem_filter.mpr ⟨List.mem_of_getElem? (i := 0) rfl, rfl⟩
theorem tw_1 : Cond.selects "java/util/ArrayList" y_AL_grow y_AL_grow ∈ vv_wds := List.mem_filter.mpr ⟨List.mem_of_getElem? (i := 1) rfl, rfl⟩
theorem tw_2 : Cond.selects "java/util/ArrayList" y_AL_grow_IALObject y_AL_grow_IALObject ∈ vv_wds := List.mem_filter.mpr ⟨List.mem_of_getElem? (i := 2) rfl, rfl⟩
theorem tw_3 : Cond.selects "CustomerNotices" y_C_findCustomer y_C_findCustomer ∈ vv_wds := List.mem_filter.mpr ⟨List.mem_of_getElem? (i := 3) rfl, rfl⟩
theorem tw_4 : Cond.selects "CustomerNotices$Customer" y_K_orderOf y_K_orderOf ∈ vv_wds := List.mem_filter.mpr ⟨List.mem_of_getElem? (i := 4) rfl, rfl⟩
theorem tw_5 : Cond.selects "CustomerNotices" y_C_isTimeFromNow y_C_isTimeFromNow ∈ vv_wds := List.mem_filter.mpr ⟨List.mem_of_getElem? (i := 5) rfl, rfl⟩
theorem tw_6 : Cond.selects "CustomerNotices" y_C_findItem y_C_findItem ∈ vv_wds := List.mem_filter.mpr ⟨List.mem_of_getElem? (i := 6) rfl, rfl⟩
theorem tw_7 : Cond.selects "CustomerNotices" y_C_noticesAreFull y_C_noticesAreFull ∈ vv_wds := List.mem_filter.mpr ⟨List.mem_of_getElem? (i := 7) rfl, rfl⟩
theorem tw_8 : Cond.selects "CustomerNotices" y_C_itemsAreFull y_C_itemsAreFull ∈ vv_wds := List.mem_filter.mpr ⟨List.mem_of_getElem? (i := 8) rfl, rfl⟩
theorem tw_9 : Cond.selects "CustomerNotices" y_C_addItem y_C_addItem ∈ vv_wds := List.mem_filter.mpr ⟨List.mem_of_getElem? (i := 9) rfl, rfl⟩
theorem tw_10 : Cond.selects "CustomerNotices" y_C_addNotice y_C_addNotice ∈ vv_wds := List.mem_filter.mpr ⟨List.mem_of_getElem? (i := 10) rfl, rfl⟩
theorem tw_11 : Cond.selects "CustomerNotices" y_C_addPromise y_C_addPromise ∈ vv_wds := List.mem_filter.mpr ⟨List.mem_of_getElem? (i := 11) rfl, rfl⟩
theorem tw_12 : Cond.selects "CustomerNotices" y_C_prepareCustomersForTick y_C_prepareCustomersForTick ∈ vv_wds := List.mem_filter.mpr ⟨List.mem_of_getElem? (i := 12) rfl, rfl⟩
theorem tw_13 : Cond.selects "CustomerNotices" y_C_isDue y_C_isDue ∈ vv_wds := List.mem_filter.mpr ⟨List.mem_of_getElem? (i := 13) rfl, rfl⟩
theorem tw_14 : Cond.selects "CustomerNotices" y_C_isHeldByQuiet y_C_isHeldByQuiet ∈ vv_wds := List.mem_filter.mpr ⟨List.mem_of_getElem? (i := 14) rfl, rfl⟩
theorem tw_15 : Cond.selects "CustomerNotices" y_C_deliver y_C_deliver ∈ vv_wds := List.mem_filter.mpr ⟨List.mem_of_getElem? (i := 15) rfl, rfl⟩
theorem tw_16 : Cond.selects "CustomerNotices" y_C_findNotice y_C_findNotice ∈ vv_wds := List.mem_filter.mpr ⟨List.mem_of_getElem? (i := 16) rfl, rfl⟩
theorem tw_17 : Cond.selects "CustomerNotices" y_C_reopenItem y_C_reopenItem ∈ vv_wds := List.mem_filter.mpr ⟨List.mem_of_getElem? (i := 17) rfl, rfl⟩
theorem tw_18 : Cond.selects "CustomerNotices" y_C_addCorrection y_C_addCorrection ∈ vv_wds := List.mem_filter.mpr ⟨List.mem_of_getElem? (i := 18) rfl, rfl⟩
theorem tw_19 : Cond.selects "CustomerNoticesModel" y_M_isCustomer y_M_isCustomer ∈ vv_wds := List.mem_filter.mpr ⟨List.mem_of_getElem? (i := 19) rfl, rfl⟩
theorem tw_20 : Cond.selects "CustomerNoticesModel" y_M_wished y_M_wished ∈ vv_wds := List.mem_filter.mpr ⟨List.mem_of_getElem? (i := 20) rfl, rfl⟩
theorem tw_21 : Cond.selects "CustomerNoticesModel" y_M_isTime y_M_isTime ∈ vv_wds := List.mem_filter.mpr ⟨List.mem_of_getElem? (i := 21) rfl, rfl⟩
theorem tw_22 : Cond.selects "CustomerNoticesModel" y_M_pairOf y_M_pairOf ∈ vv_wds := List.mem_filter.mpr ⟨List.mem_of_getElem? (i := 22) rfl, rfl⟩
theorem tw_23 : Cond.selects "CustomerNoticesModel" y_M_keep y_M_keep ∈ vv_wds := List.mem_filter.mpr ⟨List.mem_of_getElem? (i := 23) rfl, rfl⟩
theorem tw_24 : Cond.selects "CustomerNoticesModel" y_M_put y_M_put ∈ vv_wds := List.mem_filter.mpr ⟨List.mem_of_getElem? (i := 24) rfl, rfl⟩
theorem tw_25 : Cond.selects "CustomerNoticesModel" y_M_isDue y_M_isDue ∈ vv_wds := List.mem_filter.mpr ⟨List.mem_of_getElem? (i := 25) rfl, rfl⟩
theorem tw_26 : Cond.selects "CustomerNoticesModel" y_M_isQuiet y_M_isQuiet ∈ vv_wds := List.mem_filter.mpr ⟨List.mem_of_getElem? (i := 26) rfl, rfl⟩
theorem tw_27 : Cond.selects "CustomerNoticesModel" y_M_channelOf y_M_channelOf ∈ vv_wds := List.mem_filter.mpr ⟨List.mem_of_getElem? (i := 27) rfl, rfl⟩
theorem tw_28 : Cond.selects "CustomerNoticesModel" y_M_undo y_M_undo ∈ vv_wds := List.mem_filter.mpr ⟨List.mem_of_getElem? (i := 28) rfl, rfl⟩
theorem tw_29 : Cond.initialized "CustomerNoticesLaw" ∈ vv_wds := List.mem_filter.mpr ⟨List.mem_of_getElem? (i := 29) rfl, rfl⟩
theorem tw_30 : Cond.initialized "CustomerNotices" ∈ vv_wds := List.mem_filter.mpr ⟨List.mem_of_getElem? (i := 30) rfl, rfl⟩
theorem tw_31 : Cond.initialized "java/util/AbstractCollection" ∈ vv_wds := List.mem_filter.mpr ⟨List.mem_of_getElem? (i := 31) rfl, rfl⟩
theorem tw_32 : Cond.initialized "java/util/AbstractList" ∈ vv_wds := List.mem_filter.mpr ⟨List.mem_of_getElem? (i := 32) rfl, rfl⟩
theorem tw_33 : Cond.initialized "java/util/ArrayList" ∈ vv_wds := List.mem_filter.mpr ⟨List.mem_of_getElem? (i := 33) rfl, rfl⟩
theorem tw_34 : Cond.initialized "CustomerNoticesModel" ∈ vv_wds := List.mem_filter.mpr ⟨List.mem_of_getElem? (i := 34) rfl, rfl⟩
theorem tw_35 : Cond.initialized "CustomerNotices$Customer" ∈ vv_wds := List.mem_filter.mpr ⟨List.mem_of_getElem? (i := 35) rfl, rfl⟩
theorem tw_36 : Cond.initialized "jdk/internal/util/ArraysSupport" ∈ vv_wds := List.mem_filter.mpr ⟨List.mem_of_getElem? (i := 36) rfl, rfl⟩
theorem tw_37 : Cond.initialized "java/lang/Math" ∈ vv_wds := List.mem_filter.mpr ⟨List.mem_of_getElem? (i := 37) rfl, rfl⟩
theorem tw_38 : Cond.initialized "java/util/Arrays" ∈ vv_wds := List.mem_filter.mpr ⟨List.mem_of_getElem? (i := 38) rfl, rfl⟩
theorem tw_39 : Cond.initialized "java/lang/System" ∈ vv_wds := List.mem_filter.mpr ⟨List.mem_of_getElem? (i := 39) rfl, rfl⟩
theorem tw_40 : Cond.initialized "java/util/Objects" ∈ vv_wds := List.mem_filter.mpr ⟨List.mem_of_getElem? (i := 40) rfl, rfl⟩
theorem tw_41 : Cond.initialized "jdk/internal/util/Preconditions" ∈ vv_wds := List.mem_filter.mpr ⟨List.mem_of_getElem? (i := 41) rfl, rfl⟩
theorem tw_42 : Cond.initialized "CustomerNotices$Item" ∈ vv_wds := List.mem_filter.mpr ⟨List.mem_of_getElem? (i := 42) rfl, rfl⟩
theorem tw_43 : Cond.initialized "CustomerNotices$Notice" ∈ vv_wds := List.mem_filter.mpr ⟨List.mem_of_getElem? (i := 43) rfl, rfl⟩
theorem tw_44 : Cond.classLink "CustomerNoticesLaw" 7 "CustomerNotices" ∈ vv_wds := List.mem_filter.mpr ⟨List.mem_of_getElem? (i := 44) rfl, rfl⟩
theorem tw_45 : Cond.instantiable "CustomerNotices" 8 ∈ vv_wds := List.mem_filter.mpr ⟨List.mem_of_getElem? (i := 45) rfl, rfl⟩
theorem tw_46 : Cond.methodLink "CustomerNoticesLaw" 9 y_C_init ∈ vv_wds := List.mem_filter.mpr ⟨List.mem_of_getElem? (i := 46) rfl, rfl⟩
theorem tw_47 : Cond.instanceMethod y_C_init ∈ vv_wds := List.mem_filter.mpr ⟨List.mem_of_getElem? (i := 47) rfl, rfl⟩
theorem tw_48 : Cond.code y_C_init b_C_init 2 none ∈ vv_wds := List.mem_filter.mpr ⟨List.mem_of_getElem? (i := 48) rfl, rfl⟩
theorem tw_49 : Cond.methodLink "CustomerNotices" 1 y_Oj_init ∈ vv_wds := List.mem_filter.mpr ⟨List.mem_of_getElem? (i := 49) rfl, rfl⟩
theorem tw_50 : Cond.instanceMethod y_Oj_init ∈ vv_wds := List.mem_filter.mpr ⟨List.mem_of_getElem? (i := 50) rfl, rfl⟩
theorem tw_51 : Cond.code y_Oj_init b_Oj_init 1 none ∈ vv_wds := List.mem_filter.mpr ⟨List.mem_of_getElem? (i := 51) rfl, rfl⟩
theorem tw_52 : Cond.classLink "CustomerNotices" 7 "java/util/ArrayList" ∈ vv_wds := List.mem_filter.mpr ⟨List.mem_of_getElem? (i := 52) rfl, rfl⟩
theorem tw_53 : Cond.instantiable "java/util/ArrayList" 3 ∈ vv_wds := List.mem_filter.mpr ⟨List.mem_of_getElem? (i := 53) rfl, rfl⟩
theorem tw_54 : Cond.methodLink "CustomerNotices" 9 y_AL_init ∈ vv_wds := List.mem_filter.mpr ⟨List.mem_of_getElem? (i := 54) rfl, rfl⟩
theorem tw_55 : Cond.instanceMethod y_AL_init ∈ vv_wds := List.mem_filter.mpr ⟨List.mem_of_getElem? (i := 55) rfl, rfl⟩
theorem tw_56 : Cond.code y_AL_init b_AL_init 1 none ∈ vv_wds := List.mem_filter.mpr ⟨List.mem_of_getElem? (i := 56) rfl, rfl⟩
theorem tw_57 : Cond.methodLink "java/util/ArrayList" 1 y_AbL_init ∈ vv_wds := List.mem_filter.mpr ⟨List.mem_of_getElem? (i := 57) rfl, rfl⟩
theorem tw_58 : Cond.instanceMethod y_AbL_init ∈ vv_wds := List.mem_filter.mpr ⟨List.mem_of_getElem? (i := 58) rfl, rfl⟩
theorem tw_59 : Cond.code y_AbL_init b_AbL_init 1 none ∈ vv_wds := List.mem_filter.mpr ⟨List.mem_of_getElem? (i := 59) rfl, rfl⟩
theorem tw_60 : Cond.methodLink "java/util/AbstractList" 1 y_AbC_init ∈ vv_wds := List.mem_filter.mpr ⟨List.mem_of_getElem? (i := 60) rfl, rfl⟩
theorem tw_61 : Cond.instanceMethod y_AbC_init ∈ vv_wds := List.mem_filter.mpr ⟨List.mem_of_getElem? (i := 61) rfl, rfl⟩
theorem tw_62 : Cond.code y_AbC_init b_AbC_init 1 none ∈ vv_wds := List.mem_filter.mpr ⟨List.mem_of_getElem? (i := 62) rfl, rfl⟩
theorem tw_63 : Cond.methodLink "java/util/AbstractCollection" 1 y_Oj_init ∈ vv_wds := List.mem_filter.mpr ⟨List.mem_of_getElem? (i := 63) rfl, rfl⟩
theorem tw_64 : Cond.fieldLink "java/util/ArrayList" 39 "java/util/ArrayList" "DEFAULTCAPACITY_EMPTY_ELEMENTDATA" "[Ljava/lang/Object;" ∈ vv_wds := List.mem_filter.mpr ⟨List.mem_of_getElem? (i := 64) rfl, rfl⟩
theorem tw_66 : Cond.fieldLink "java/util/ArrayList" 9 "java/util/ArrayList" "elementData" "[Ljava/lang/Object;" ∈ vv_wds := List.mem_filter.mpr ⟨List.mem_of_getElem? (i := 66) rfl, rfl⟩
theorem tw_67 : Cond.fieldLink "java/util/ArrayList" 48 "java/util/ArrayList" "size" "I" ∈ vv_wds := List.mem_filter.mpr ⟨List.mem_of_getElem? (i := 67) rfl, rfl⟩
theorem tw_68 : Cond.fieldLink "java/util/AbstractList" 7 "java/util/AbstractList" "modCount" "I" ∈ vv_wds := List.mem_filter.mpr ⟨List.mem_of_getElem? (i := 68) rfl, rfl⟩
theorem tw_69 : Cond.fieldLink "java/util/ArrayList" 63 "java/util/ArrayList" "modCount" "I" ∈ vv_wds := List.mem_filter.mpr ⟨List.mem_of_getElem? (i := 69) rfl, rfl⟩
theorem tw_70 : Cond.sameField "java/util/ArrayList" "java/util/AbstractList" "modCount" "I" ∈ vv_wds := List.mem_filter.mpr ⟨List.mem_of_getElem? (i := 70) rfl, rfl⟩
theorem tw_71 : Cond.lays "java/util/ArrayList" "java/util/ArrayList" "elementData" "[Ljava/lang/Object;" ∈ vv_wds := List.mem_filter.mpr ⟨List.mem_of_getElem? (i := 71) rfl, rfl⟩
theorem tw_73 : Cond.lays "java/util/ArrayList" "java/util/ArrayList" "size" "I" ∈ vv_wds := List.mem_filter.mpr ⟨List.mem_of_getElem? (i := 73) rfl, rfl⟩
theorem tw_75 : Cond.lays "java/util/ArrayList" "java/util/AbstractList" "modCount" "I" ∈ vv_wds := List.mem_filter.mpr ⟨List.mem_of_getElem? (i := 75) rfl, rfl⟩
theorem tw_78 : Cond.fieldLink "CustomerNotices" 10 "CustomerNotices" "customers" "Ljava/util/ArrayList;" ∈ vv_wds := List.mem_filter.mpr ⟨List.mem_of_getElem? (i := 78) rfl, rfl⟩
theorem tw_79 : Cond.fieldLink "CustomerNotices" 16 "CustomerNotices" "notices" "Ljava/util/ArrayList;" ∈ vv_wds := List.mem_filter.mpr ⟨List.mem_of_getElem? (i := 79) rfl, rfl⟩
theorem tw_80 : Cond.fieldLink "CustomerNotices" 19 "CustomerNotices" "items" "Ljava/util/ArrayList;" ∈ vv_wds := List.mem_filter.mpr ⟨List.mem_of_getElem? (i := 80) rfl, rfl⟩
theorem tw_81 : Cond.fieldLink "CustomerNotices" 22 "CustomerNotices" "sentNotices" "Ljava/util/ArrayList;" ∈ vv_wds := List.mem_filter.mpr ⟨List.mem_of_getElem? (i := 81) rfl, rfl⟩
theorem tw_82 : Cond.fieldLink "CustomerNotices" 25 "CustomerNotices" "failedNotices" "Ljava/util/ArrayList;" ∈ vv_wds := List.mem_filter.mpr ⟨List.mem_of_getElem? (i := 82) rfl, rfl⟩
theorem tw_83 : Cond.fieldLink "CustomerNotices" 28 "CustomerNotices" "channelWorks" "[Z" ∈ vv_wds := List.mem_filter.mpr ⟨List.mem_of_getElem? (i := 83) rfl, rfl⟩
theorem tw_84 : Cond.fieldLink "CustomerNotices" 32 "CustomerNotices" "clock" "J" ∈ vv_wds := List.mem_filter.mpr ⟨List.mem_of_getElem? (i := 84) rfl, rfl⟩
theorem tw_85 : Cond.fieldLink "CustomerNotices" 36 "CustomerNotices" "joinMinutes" "I" ∈ vv_wds := List.mem_filter.mpr ⟨List.mem_of_getElem? (i := 85) rfl, rfl⟩
theorem tw_86 : Cond.laysFinal "CustomerNotices" "CustomerNotices" "customers" "Ljava/util/ArrayList;" ∈ vv_wds := List.mem_filter.mpr ⟨List.mem_of_getElem? (i := 86) rfl, rfl⟩
theorem tw_88 : Cond.laysFinal "CustomerNotices" "CustomerNotices" "notices" "Ljava/util/ArrayList;" ∈ vv_wds := List.mem_filter.mpr ⟨List.mem_of_getElem? (i := 88) rfl, rfl⟩
theorem tw_90 : Cond.laysFinal "CustomerNotices" "CustomerNotices" "items" "Ljava/util/ArrayList;" ∈ vv_wds := List.mem_filter.mpr ⟨List.mem_of_getElem? (i := 90) rfl, rfl⟩
theorem tw_92 : Cond.laysFinal "CustomerNotices" "CustomerNotices" "sentNotices" "Ljava/util/ArrayList;" ∈ vv_wds := List.mem_filter.mpr ⟨List.mem_of_getElem? (i := 92) rfl, rfl⟩
theorem tw_94 : Cond.laysFinal "CustomerNotices" "CustomerNotices" "failedNotices" "Ljava/util/ArrayList;" ∈ vv_wds := List.mem_filter.mpr ⟨List.mem_of_getElem? (i := 94) rfl, rfl⟩
theorem tw_96 : Cond.laysFinal "CustomerNotices" "CustomerNotices" "channelWorks" "[Z" ∈ vv_wds := List.mem_filter.mpr ⟨List.mem_of_getElem? (i := 96) rfl, rfl⟩
theorem tw_98 : Cond.lays "CustomerNotices" "CustomerNotices" "clock" "J" ∈ vv_wds := List.mem_filter.mpr ⟨List.mem_of_getElem? (i := 98) rfl, rfl⟩
theorem tw_100 : Cond.lays "CustomerNotices" "CustomerNotices" "joinMinutes" "I" ∈ vv_wds := List.mem_filter.mpr ⟨List.mem_of_getElem? (i := 100) rfl, rfl⟩
theorem tw_104 : Cond.methodLink "CustomerNoticesLaw" 13 y_C_customer ∈ vv_wds := List.mem_filter.mpr ⟨List.mem_of_getElem? (i := 104) rfl, rfl⟩
theorem tw_105 : Cond.instanceMethod y_C_customer ∈ vv_wds := List.mem_filter.mpr ⟨List.mem_of_getElem? (i := 105) rfl, rfl⟩
theorem tw_106 : Cond.selects "CustomerNotices" y_C_customer y_C_customer ∈ vv_wds := List.mem_filter.mpr ⟨List.mem_of_getElem? (i := 106) rfl, rfl⟩
theorem tw_107 : Cond.code y_C_customer b_C_customer 4 (some FieldType.int) ∈ vv_wds := List.mem_filter.mpr ⟨List.mem_of_getElem? (i := 107) rfl, rfl⟩
theorem tw_108 : Cond.constantLong "CustomerNotices" 40 9 ∈ vv_wds := List.mem_filter.mpr ⟨List.mem_of_getElem? (i := 108) rfl, rfl⟩
theorem tw_109 : Cond.methodLink "CustomerNotices" 42 y_C_isWithin ∈ vv_wds := List.mem_filter.mpr ⟨List.mem_of_getElem? (i := 109) rfl, rfl⟩
theorem tw_110 : Cond.static y_C_isWithin ∈ vv_wds := List.mem_filter.mpr ⟨List.mem_of_getElem? (i := 110) rfl, rfl⟩
theorem tw_111 : Cond.code y_C_isWithin b_C_isWithin 6 (some FieldType.boolean) ∈ vv_wds := List.mem_filter.mpr ⟨List.mem_of_getElem? (i := 111) rfl, rfl⟩
theorem tw_112 : Cond.constantLong "CustomerNotices" 46 (-12) ∈ vv_wds := List.mem_filter.mpr ⟨List.mem_of_getElem? (i := 112) rfl, rfl⟩
theorem tw_113 : Cond.constantLong "CustomerNotices" 48 14 ∈ vv_wds := List.mem_filter.mpr ⟨List.mem_of_getElem? (i := 113) rfl, rfl⟩
theorem tw_114 : Cond.methodLink "CustomerNotices" 50 y_AL_size ∈ vv_wds := List.mem_filter.mpr ⟨List.mem_of_getElem? (i := 114) rfl, rfl⟩
theorem tw_115 : Cond.instanceMethod y_AL_size ∈ vv_wds := List.mem_filter.mpr ⟨List.mem_of_getElem? (i := 115) rfl, rfl⟩
theorem tw_116 : Cond.selects "java/util/ArrayList" y_AL_size y_AL_size ∈ vv_wds := List.mem_filter.mpr ⟨List.mem_of_getElem? (i := 116) rfl, rfl⟩
theorem tw_117 : Cond.code y_AL_size b_AL_size 1 (some FieldType.int) ∈ vv_wds := List.mem_filter.mpr ⟨List.mem_of_getElem? (i := 117) rfl, rfl⟩
theorem tw_118 : Cond.classLink "CustomerNotices" 54 "CustomerNotices$Customer" ∈ vv_wds := List.mem_filter.mpr ⟨List.mem_of_getElem? (i := 118) rfl, rfl⟩
theorem tw_119 : Cond.instantiable "CustomerNotices$Customer" 8 ∈ vv_wds := List.mem_filter.mpr ⟨List.mem_of_getElem? (i := 119) rfl, rfl⟩
theorem tw_120 : Cond.methodLink "CustomerNotices" 56 y_K_init ∈ vv_wds := List.mem_filter.mpr ⟨List.mem_of_getElem? (i := 120) rfl, rfl⟩
theorem tw_121 : Cond.instanceMethod y_K_init ∈ vv_wds := List.mem_filter.mpr ⟨List.mem_of_getElem? (i := 121) rfl, rfl⟩
theorem tw_122 : Cond.code y_K_init b_K_init 5 none ∈ vv_wds := List.mem_filter.mpr ⟨List.mem_of_getElem? (i := 122) rfl, rfl⟩
theorem tw_123 : Cond.methodLink "CustomerNotices$Customer" 3 y_Oj_init ∈ vv_wds := List.mem_filter.mpr ⟨List.mem_of_getElem? (i := 123) rfl, rfl⟩
theorem tw_124 : Cond.fieldLink "CustomerNotices$Customer" 9 "CustomerNotices$Customer" "number" "I" ∈ vv_wds := List.mem_filter.mpr ⟨List.mem_of_getElem? (i := 124) rfl, rfl⟩
theorem tw_125 : Cond.fieldLink "CustomerNotices" 189 "CustomerNotices$Customer" "number" "I" ∈ vv_wds := List.mem_filter.mpr ⟨List.mem_of_getElem? (i := 125) rfl, rfl⟩
theorem tw_126 : Cond.fieldLink "CustomerNotices$Customer" 15 "CustomerNotices$Customer" "language" "I" ∈ vv_wds := List.mem_filter.mpr ⟨List.mem_of_getElem? (i := 126) rfl, rfl⟩
theorem tw_127 : Cond.fieldLink "CustomerNotices$Notice" 44 "CustomerNotices$Customer" "language" "I" ∈ vv_wds := List.mem_filter.mpr ⟨List.mem_of_getElem? (i := 127) rfl, rfl⟩
theorem tw_128 : Cond.fieldLink "CustomerNotices$Customer" 18 "CustomerNotices$Customer" "zone" "I" ∈ vv_wds := List.mem_filter.mpr ⟨List.mem_of_getElem? (i := 128) rfl, rfl⟩
theorem tw_129 : Cond.fieldLink "CustomerNotices" 84 "CustomerNotices$Customer" "quietFrom" "I" ∈ vv_wds := List.mem_filter.mpr ⟨List.mem_of_getElem? (i := 129) rfl, rfl⟩
theorem tw_130 : Cond.fieldLink "CustomerNotices$Customer" 48 "CustomerNotices$Customer" "quietFrom" "I" ∈ vv_wds := List.mem_filter.mpr ⟨List.mem_of_getElem? (i := 130) rfl, rfl⟩
theorem tw_131 : Cond.fieldLink "CustomerNotices" 87 "CustomerNotices$Customer" "quietUntil" "I" ∈ vv_wds := List.mem_filter.mpr ⟨List.mem_of_getElem? (i := 131) rfl, rfl⟩
theorem tw_132 : Cond.fieldLink "CustomerNotices$Customer" 51 "CustomerNotices$Customer" "quietUntil" "I" ∈ vv_wds := List.mem_filter.mpr ⟨List.mem_of_getElem? (i := 132) rfl, rfl⟩
theorem tw_133 : Cond.fieldLink "CustomerNotices" 238 "CustomerNotices$Customer" "leastWaitingTime" "J" ∈ vv_wds := List.mem_filter.mpr ⟨List.mem_of_getElem? (i := 133) rfl, rfl⟩
theorem tw_134 : Cond.fieldLink "CustomerNotices" 241 "CustomerNotices$Customer" "messageOfTick" "I" ∈ vv_wds := List.mem_filter.mpr ⟨List.mem_of_getElem? (i := 134) rfl, rfl⟩
theorem tw_135 : Cond.fieldLink "CustomerNotices$Customer" 21 "CustomerNotices$Customer" "orders" "[I" ∈ vv_wds := List.mem_filter.mpr ⟨List.mem_of_getElem? (i := 135) rfl, rfl⟩
theorem tw_136 : Cond.laysFinal "CustomerNotices$Customer" "CustomerNotices$Customer" "number" "I" ∈ vv_wds := List.mem_filter.mpr ⟨List.mem_of_getElem? (i := 136) rfl, rfl⟩
theorem tw_138 : Cond.laysFinal "CustomerNotices$Customer" "CustomerNotices$Customer" "language" "I" ∈ vv_wds := List.mem_filter.mpr ⟨List.mem_of_getElem? (i := 138) rfl, rfl⟩
theorem tw_140 : Cond.laysFinal "CustomerNotices$Customer" "CustomerNotices$Customer" "zone" "I" ∈ vv_wds := List.mem_filter.mpr ⟨List.mem_of_getElem? (i := 140) rfl, rfl⟩
theorem tw_142 : Cond.lays "CustomerNotices$Customer" "CustomerNotices$Customer" "quietFrom" "I" ∈ vv_wds := List.mem_filter.mpr ⟨List.mem_of_getElem? (i := 142) rfl, rfl⟩
theorem tw_144 : Cond.lays "CustomerNotices$Customer" "CustomerNotices$Customer" "quietUntil" "I" ∈ vv_wds := List.mem_filter.mpr ⟨List.mem_of_getElem? (i := 144) rfl, rfl⟩
theorem tw_146 : Cond.lays "CustomerNotices$Customer" "CustomerNotices$Customer" "leastWaitingTime" "J" ∈ vv_wds := List.mem_filter.mpr ⟨List.mem_of_getElem? (i := 146) rfl, rfl⟩
theorem tw_148 : Cond.lays "CustomerNotices$Customer" "CustomerNotices$Customer" "messageOfTick" "I" ∈ vv_wds := List.mem_filter.mpr ⟨List.mem_of_getElem? (i := 148) rfl, rfl⟩
theorem tw_150 : Cond.laysFinal "CustomerNotices$Customer" "CustomerNotices$Customer" "orders" "[I" ∈ vv_wds := List.mem_filter.mpr ⟨List.mem_of_getElem? (i := 150) rfl, rfl⟩
theorem tw_154 : Cond.methodLink "CustomerNotices" 59 y_AL_add ∈ vv_wds := List.mem_filter.mpr ⟨List.mem_of_getElem? (i := 154) rfl, rfl⟩
theorem tw_155 : Cond.instanceMethod y_AL_add ∈ vv_wds := List.mem_filter.mpr ⟨List.mem_of_getElem? (i := 155) rfl, rfl⟩
theorem tw_156 : Cond.selects "java/util/ArrayList" y_AL_add y_AL_add ∈ vv_wds := List.mem_filter.mpr ⟨List.mem_of_getElem? (i := 156) rfl, rfl⟩
theorem tw_157 : Cond.code y_AL_add b_AL_add 2 (some FieldType.boolean) ∈ vv_wds := List.mem_filter.mpr ⟨List.mem_of_getElem? (i := 157) rfl, rfl⟩
theorem tw_158 : Cond.methodLink "java/util/ArrayList" 131 y_AL_add_LObjectALObjectIV ∈ vv_wds := List.mem_filter.mpr ⟨List.mem_of_getElem? (i := 158) rfl, rfl⟩
theorem tw_160 : Cond.instanceMethod y_AL_add_LObjectALObjectIV ∈ vv_wds := List.mem_filter.mpr ⟨List.mem_of_getElem? (i := 160) rfl, rfl⟩
theorem tw_161 : Cond.code y_AL_add_LObjectALObjectIV b_AL_add_LObjectALObjectIV 4 none ∈ vv_wds := List.mem_filter.mpr ⟨List.mem_of_getElem? (i := 161) rfl, rfl⟩
theorem tw_162 : Cond.methodLink "java/util/ArrayList" 129 y_AL_grow ∈ vv_wds := List.mem_filter.mpr ⟨List.mem_of_getElem? (i := 162) rfl, rfl⟩
theorem tw_164 : Cond.instanceMethod y_AL_grow ∈ vv_wds := List.mem_filter.mpr ⟨List.mem_of_getElem? (i := 164) rfl, rfl⟩
theorem tw_165 : Cond.code y_AL_grow b_AL_grow 1 (some (FieldType.array (FieldType.object "java/lang/Object"))) ∈ vv_wds := List.mem_filter.mpr ⟨List.mem_of_getElem? (i := 165) rfl, rfl⟩
theorem tw_166 : Cond.methodLink "java/util/ArrayList" 69 y_AL_grow_IALObject ∈ vv_wds := List.mem_filter.mpr ⟨List.mem_of_getElem? (i := 166) rfl, rfl⟩
theorem tw_168 : Cond.instanceMethod y_AL_grow_IALObject ∈ vv_wds := List.mem_filter.mpr ⟨List.mem_of_getElem? (i := 168) rfl, rfl⟩
theorem tw_169 : Cond.code y_AL_grow_IALObject b_AL_grow_IALObject 4 (some (FieldType.array (FieldType.object "java/lang/Object"))) ∈ vv_wds := List.mem_filter.mpr ⟨List.mem_of_getElem? (i := 169) rfl, rfl⟩
theorem tw_170 : Cond.methodLink "java/util/ArrayList" 73 y_AS_newLength ∈ vv_wds := List.mem_filter.mpr ⟨List.mem_of_getElem? (i := 170) rfl, rfl⟩
theorem tw_171 : Cond.static y_AS_newLength ∈ vv_wds := List.mem_filter.mpr ⟨List.mem_of_getElem? (i := 171) rfl, rfl⟩
theorem tw_172 : Cond.code y_AS_newLength b_AS_newLength 4 (some FieldType.int) ∈ vv_wds := List.mem_filter.mpr ⟨List.mem_of_getElem? (i := 172) rfl, rfl⟩
theorem tw_173 : Cond.methodLink "jdk/internal/util/ArraysSupport" 194 y_Ma_max ∈ vv_wds := List.mem_filter.mpr ⟨List.mem_of_getElem? (i := 173) rfl, rfl⟩
theorem tw_174 : Cond.static y_Ma_max ∈ vv_wds := List.mem_filter.mpr ⟨List.mem_of_getElem? (i := 174) rfl, rfl⟩
theorem tw_175 : Cond.code y_Ma_max b_Ma_max 2 (some FieldType.int) ∈ vv_wds := List.mem_filter.mpr ⟨List.mem_of_getElem? (i := 175) rfl, rfl⟩
theorem tw_176 : Cond.constant "jdk/internal/util/ArraysSupport" 200 2147483639 ∈ vv_wds := List.mem_filter.mpr ⟨List.mem_of_getElem? (i := 176) rfl, rfl⟩
theorem tw_177 : Cond.methodLink "jdk/internal/util/ArraysSupport" 201 y_AS_hugeLength ∈ vv_wds := List.mem_filter.mpr ⟨List.mem_of_getElem? (i := 177) rfl, rfl⟩
theorem tw_178 : Cond.static y_AS_hugeLength ∈ vv_wds := List.mem_filter.mpr ⟨List.mem_of_getElem? (i := 178) rfl, rfl⟩
theorem tw_179 : Cond.code y_AS_hugeLength b_AS_hugeLength 3 (some FieldType.int) ∈ vv_wds := List.mem_filter.mpr ⟨List.mem_of_getElem? (i := 179) rfl, rfl⟩
theorem tw_180 : Cond.methodLink "java/util/ArrayList" 66 y_Ar_copyOf ∈ vv_wds := List.mem_filter.mpr ⟨List.mem_of_getElem? (i := 180) rfl, rfl⟩
theorem tw_181 : Cond.static y_Ar_copyOf ∈ vv_wds := List.mem_filter.mpr ⟨List.mem_of_getElem? (i := 181) rfl, rfl⟩
theorem tw_182 : Cond.code y_Ar_copyOf b_Ar_copyOf 2 (some (FieldType.array (FieldType.object "java/lang/Object"))) ∈ vv_wds := List.mem_filter.mpr ⟨List.mem_of_getElem? (i := 182) rfl, rfl⟩
theorem tw_183 : Cond.methodLink "java/util/Arrays" 86 (⟨"java/lang/Object", "getClass", "()Ljava/lang/Class;"⟩) ∈ vv_wds := List.mem_filter.mpr ⟨List.mem_of_getElem? (i := 183) rfl, rfl⟩
theorem tw_184 : Cond.instanceMethod (⟨"java/lang/Object", "getClass", "()Ljava/lang/Class;"⟩) ∈ vv_wds := List.mem_filter.mpr ⟨List.mem_of_getElem? (i := 184) rfl, rfl⟩
theorem tw_186 : Cond.selects "CustomerNotices" (⟨"java/lang/Object", "getClass", "()Ljava/lang/Class;"⟩) (⟨"java/lang/Object", "getClass", "()Ljava/lang/Class;"⟩) ∈ vv_wds := List.mem_filter.mpr ⟨List.mem_of_getElem? (i := 186) rfl, rfl⟩
theorem tw_187 : Cond.selects "CustomerNotices$Customer" (⟨"java/lang/Object", "getClass", "()Ljava/lang/Class;"⟩) (⟨"java/lang/Object", "getClass", "()Ljava/lang/Class;"⟩) ∈ vv_wds := List.mem_filter.mpr ⟨List.mem_of_getElem? (i := 187) rfl, rfl⟩
theorem tw_188 : Cond.selects "CustomerNotices$Item" (⟨"java/lang/Object", "getClass", "()Ljava/lang/Class;"⟩) (⟨"java/lang/Object", "getClass", "()Ljava/lang/Class;"⟩) ∈ vv_wds := List.mem_filter.mpr ⟨List.mem_of_getElem? (i := 188) rfl, rfl⟩
theorem tw_189 : Cond.selects "CustomerNotices$Notice" (⟨"java/lang/Object", "getClass", "()Ljava/lang/Class;"⟩) (⟨"java/lang/Object", "getClass", "()Ljava/lang/Class;"⟩) ∈ vv_wds := List.mem_filter.mpr ⟨List.mem_of_getElem? (i := 189) rfl, rfl⟩
theorem tw_190 : Cond.selects "CustomerNoticesModel" (⟨"java/lang/Object", "getClass", "()Ljava/lang/Class;"⟩) (⟨"java/lang/Object", "getClass", "()Ljava/lang/Class;"⟩) ∈ vv_wds := List.mem_filter.mpr ⟨List.mem_of_getElem? (i := 190) rfl, rfl⟩
theorem tw_191 : Cond.selects "java/util/ArrayList" (⟨"java/lang/Object", "getClass", "()Ljava/lang/Class;"⟩) (⟨"java/lang/Object", "getClass", "()Ljava/lang/Class;"⟩) ∈ vv_wds := List.mem_filter.mpr ⟨List.mem_of_getElem? (i := 191) rfl, rfl⟩
theorem tw_192 : Cond.native (⟨"java/lang/Object", "getClass", "()Ljava/lang/Class;"⟩) ∈ vv_wds := List.mem_filter.mpr ⟨List.mem_of_getElem? (i := 192) rfl, rfl⟩
theorem tw_193 : Cond.methodLink "java/util/Arrays" 300 y_Ar_copyOf_ALObjectILClassALObject ∈ vv_wds := List.mem_filter.mpr ⟨List.mem_of_getElem? (i := 193) rfl, rfl⟩
theorem tw_194 : Cond.static y_Ar_copyOf_ALObjectILClassALObject ∈ vv_wds := List.mem_filter.mpr ⟨List.mem_of_getElem? (i := 194) rfl, rfl⟩
theorem tw_195 : Cond.code y_Ar_copyOf_ALObjectILClassALObject b_Ar_copyOf_ALObjectILClassALObject 4 (some (FieldType.array (FieldType.object "java/lang/Object"))) ∈ vv_wds := List.mem_filter.mpr ⟨List.mem_of_getElem? (i := 195) rfl, rfl⟩
theorem tw_196 : Cond.classLink "java/util/Arrays" 110 "[Ljava/lang/Object;" ∈ vv_wds := List.mem_filter.mpr ⟨List.mem_of_getElem? (i := 196) rfl, rfl⟩
theorem tw_198 : Cond.classLink "java/util/Arrays" 2 "java/lang/Object" ∈ vv_wds := List.mem_filter.mpr ⟨List.mem_of_getElem? (i := 198) rfl, rfl⟩
theorem tw_199 : Cond.methodLink "java/util/Arrays" 304 y_Ma_min ∈ vv_wds := List.mem_filter.mpr ⟨List.mem_of_getElem? (i := 199) rfl, rfl⟩
theorem tw_200 : Cond.static y_Ma_min ∈ vv_wds := List.mem_filter.mpr ⟨List.mem_of_getElem? (i := 200) rfl, rfl⟩
theorem tw_201 : Cond.code y_Ma_min b_Ma_min 2 (some FieldType.int) ∈ vv_wds := List.mem_filter.mpr ⟨List.mem_of_getElem? (i := 201) rfl, rfl⟩
theorem tw_202 : Cond.methodLink "java/util/Arrays" 150 (⟨"java/lang/System", "arraycopy", "(Ljava/lang/Object;ILjava/lang/Object;II)V"⟩) ∈ vv_wds := List.mem_filter.mpr ⟨List.mem_of_getElem? (i := 202) rfl, rfl⟩
theorem tw_203 : Cond.static (⟨"java/lang/System", "arraycopy", "(Ljava/lang/Object;ILjava/lang/Object;II)V"⟩) ∈ vv_wds := List.mem_filter.mpr ⟨List.mem_of_getElem? (i := 203) rfl, rfl⟩
theorem tw_204 : Cond.native (⟨"java/lang/System", "arraycopy", "(Ljava/lang/Object;ILjava/lang/Object;II)V"⟩) ∈ vv_wds := List.mem_filter.mpr ⟨List.mem_of_getElem? (i := 204) rfl, rfl⟩
theorem tw_205 : Cond.methodLink "java/util/ArrayList" 79 y_Ma_max ∈ vv_wds := List.mem_filter.mpr ⟨List.mem_of_getElem? (i := 205) rfl, rfl⟩
theorem tw_206 : Cond.classLink "java/util/ArrayList" 7 "java/lang/Object" ∈ vv_wds := List.mem_filter.mpr ⟨List.mem_of_getElem? (i := 206) rfl, rfl⟩
theorem tw_207 : Cond.methodLink "CustomerNoticesLaw" 18 y_C_wish ∈ vv_wds := List.mem_filter.mpr ⟨List.mem_of_getElem? (i := 207) rfl, rfl⟩
theorem tw_208 : Cond.instanceMethod y_C_wish ∈ vv_wds := List.mem_filter.mpr ⟨List.mem_of_getElem? (i := 208) rfl, rfl⟩
theorem tw_209 : Cond.selects "CustomerNotices" y_C_wish y_C_wish ∈ vv_wds := List.mem_filter.mpr ⟨List.mem_of_getElem? (i := 209) rfl, rfl⟩
theorem tw_210 : Cond.code y_C_wish b_C_wish 6 (some FieldType.int) ∈ vv_wds := List.mem_filter.mpr ⟨List.mem_of_getElem? (i := 210) rfl, rfl⟩
theorem tw_211 : Cond.methodLink "CustomerNotices" 63 y_C_findCustomer ∈ vv_wds := List.mem_filter.mpr ⟨List.mem_of_getElem? (i := 211) rfl, rfl⟩
theorem tw_213 : Cond.instanceMethod y_C_findCustomer ∈ vv_wds := List.mem_filter.mpr ⟨List.mem_of_getElem? (i := 213) rfl, rfl⟩
theorem tw_214 : Cond.code y_C_findCustomer b_C_findCustomer 2 (some (FieldType.object "CustomerNotices$Customer")) ∈ vv_wds := List.mem_filter.mpr ⟨List.mem_of_getElem? (i := 214) rfl, rfl⟩
theorem tw_215 : Cond.methodLink "CustomerNotices" 160 y_AL_get ∈ vv_wds := List.mem_filter.mpr ⟨List.mem_of_getElem? (i := 215) rfl, rfl⟩
theorem tw_216 : Cond.instanceMethod y_AL_get ∈ vv_wds := List.mem_filter.mpr ⟨List.mem_of_getElem? (i := 216) rfl, rfl⟩
theorem tw_217 : Cond.selects "java/util/ArrayList" y_AL_get y_AL_get ∈ vv_wds := List.mem_filter.mpr ⟨List.mem_of_getElem? (i := 217) rfl, rfl⟩
theorem tw_218 : Cond.code y_AL_get b_AL_get 2 (some (FieldType.object "java/lang/Object")) ∈ vv_wds := List.mem_filter.mpr ⟨List.mem_of_getElem? (i := 218) rfl, rfl⟩
theorem tw_219 : Cond.methodLink "java/util/ArrayList" 118 y_Ob_checkIndex ∈ vv_wds := List.mem_filter.mpr ⟨List.mem_of_getElem? (i := 219) rfl, rfl⟩
theorem tw_220 : Cond.static y_Ob_checkIndex ∈ vv_wds := List.mem_filter.mpr ⟨List.mem_of_getElem? (i := 220) rfl, rfl⟩
theorem tw_221 : Cond.code y_Ob_checkIndex b_Ob_checkIndex 2 (some FieldType.int) ∈ vv_wds := List.mem_filter.mpr ⟨List.mem_of_getElem? (i := 221) rfl, rfl⟩
theorem tw_222 : Cond.methodLink "java/util/Objects" 105 y_Pr_checkIndex ∈ vv_wds := List.mem_filter.mpr ⟨List.mem_of_getElem? (i := 222) rfl, rfl⟩
theorem tw_223 : Cond.static y_Pr_checkIndex ∈ vv_wds := List.mem_filter.mpr ⟨List.mem_of_getElem? (i := 223) rfl, rfl⟩
theorem tw_224 : Cond.code y_Pr_checkIndex b_Pr_checkIndex 3 (some FieldType.int) ∈ vv_wds := List.mem_filter.mpr ⟨List.mem_of_getElem? (i := 224) rfl, rfl⟩
theorem tw_225 : Cond.methodLink "java/util/ArrayList" 123 y_AL_elementData ∈ vv_wds := List.mem_filter.mpr ⟨List.mem_of_getElem? (i := 225) rfl, rfl⟩
theorem tw_226 : Cond.instanceMethod y_AL_elementData ∈ vv_wds := List.mem_filter.mpr ⟨List.mem_of_getElem? (i := 226) rfl, rfl⟩
theorem tw_227 : Cond.selects "java/util/ArrayList" y_AL_elementData y_AL_elementData ∈ vv_wds := List.mem_filter.mpr ⟨List.mem_of_getElem? (i := 227) rfl, rfl⟩
theorem tw_228 : Cond.code y_AL_elementData b_AL_elementData 2 (some (FieldType.object "java/lang/Object")) ∈ vv_wds := List.mem_filter.mpr ⟨List.mem_of_getElem? (i := 228) rfl, rfl⟩
theorem tw_229 : Cond.methodLink "CustomerNotices" 67 y_C_isKind ∈ vv_wds := List.mem_filter.mpr ⟨List.mem_of_getElem? (i := 229) rfl, rfl⟩
theorem tw_230 : Cond.static y_C_isKind ∈ vv_wds := List.mem_filter.mpr ⟨List.mem_of_getElem? (i := 230) rfl, rfl⟩
theorem tw_231 : Cond.code y_C_isKind b_C_isKind 1 (some FieldType.boolean) ∈ vv_wds := List.mem_filter.mpr ⟨List.mem_of_getElem? (i := 231) rfl, rfl⟩
theorem tw_232 : Cond.constantLong "CustomerNotices" 216 7 ∈ vv_wds := List.mem_filter.mpr ⟨List.mem_of_getElem? (i := 232) rfl, rfl⟩
theorem tw_233 : Cond.methodLink "CustomerNotices" 71 y_C_isChannel ∈ vv_wds := List.mem_filter.mpr ⟨List.mem_of_getElem? (i := 233) rfl, rfl⟩
theorem tw_234 : Cond.static y_C_isChannel ∈ vv_wds := List.mem_filter.mpr ⟨List.mem_of_getElem? (i := 234) rfl, rfl⟩
theorem tw_235 : Cond.code y_C_isChannel b_C_isChannel 1 (some FieldType.boolean) ∈ vv_wds := List.mem_filter.mpr ⟨List.mem_of_getElem? (i := 235) rfl, rfl⟩
theorem tw_236 : Cond.constantLong "CustomerNotices" 218 3 ∈ vv_wds := List.mem_filter.mpr ⟨List.mem_of_getElem? (i := 236) rfl, rfl⟩
theorem tw_237 : Cond.methodLink "CustomerNotices" 74 y_K_setOrder ∈ vv_wds := List.mem_filter.mpr ⟨List.mem_of_getElem? (i := 237) rfl, rfl⟩
theorem tw_238 : Cond.instanceMethod y_K_setOrder ∈ vv_wds := List.mem_filter.mpr ⟨List.mem_of_getElem? (i := 238) rfl, rfl⟩
theorem tw_239 : Cond.selects "CustomerNotices$Customer" y_K_setOrder y_K_setOrder ∈ vv_wds := List.mem_filter.mpr ⟨List.mem_of_getElem? (i := 239) rfl, rfl⟩
theorem tw_240 : Cond.code y_K_setOrder b_K_setOrder 4 none ∈ vv_wds := List.mem_filter.mpr ⟨List.mem_of_getElem? (i := 240) rfl, rfl⟩
theorem tw_241 : Cond.methodLinkNest "CustomerNotices$Customer" 25 y_C_isKind "CustomerNotices" ∈ vv_wds := List.mem_filter.mpr ⟨List.mem_of_getElem? (i := 241) rfl, rfl⟩
theorem tw_242 : Cond.methodLinkNest "CustomerNotices$Customer" 29 y_C_isChannel "CustomerNotices" ∈ vv_wds := List.mem_filter.mpr ⟨List.mem_of_getElem? (i := 242) rfl, rfl⟩
theorem tw_243 : Cond.methodLink "CustomerNotices" 77 y_K_countWishes ∈ vv_wds := List.mem_filter.mpr ⟨List.mem_of_getElem? (i := 243) rfl, rfl⟩
theorem tw_244 : Cond.instanceMethod y_K_countWishes ∈ vv_wds := List.mem_filter.mpr ⟨List.mem_of_getElem? (i := 244) rfl, rfl⟩
theorem tw_245 : Cond.selects "CustomerNotices$Customer" y_K_countWishes y_K_countWishes ∈ vv_wds := List.mem_filter.mpr ⟨List.mem_of_getElem? (i := 245) rfl, rfl⟩
theorem tw_246 : Cond.code y_K_countWishes b_K_countWishes 4 (some FieldType.int) ∈ vv_wds := List.mem_filter.mpr ⟨List.mem_of_getElem? (i := 246) rfl, rfl⟩
theorem tw_247 : Cond.methodLink "CustomerNotices$Customer" 36 y_K_orderOf ∈ vv_wds := List.mem_filter.mpr ⟨List.mem_of_getElem? (i := 247) rfl, rfl⟩
theorem tw_249 : Cond.instanceMethod y_K_orderOf ∈ vv_wds := List.mem_filter.mpr ⟨List.mem_of_getElem? (i := 249) rfl, rfl⟩
theorem tw_250 : Cond.code y_K_orderOf b_K_orderOf 3 (some FieldType.int) ∈ vv_wds := List.mem_filter.mpr ⟨List.mem_of_getElem? (i := 250) rfl, rfl⟩
theorem tw_251 : Cond.methodLink "CustomerNoticesLaw" 23 y_C_quiet ∈ vv_wds := List.mem_filter.mpr ⟨List.mem_of_getElem? (i := 251) rfl, rfl⟩
theorem tw_252 : Cond.instanceMethod y_C_quiet ∈ vv_wds := List.mem_filter.mpr ⟨List.mem_of_getElem? (i := 252) rfl, rfl⟩
theorem tw_253 : Cond.selects "CustomerNotices" y_C_quiet y_C_quiet ∈ vv_wds := List.mem_filter.mpr ⟨List.mem_of_getElem? (i := 253) rfl, rfl⟩
theorem tw_254 : Cond.code y_C_quiet b_C_quiet 5 (some FieldType.int) ∈ vv_wds := List.mem_filter.mpr ⟨List.mem_of_getElem? (i := 254) rfl, rfl⟩
theorem tw_255 : Cond.methodLink "CustomerNotices" 81 y_C_isMinuteOfDay ∈ vv_wds := List.mem_filter.mpr ⟨List.mem_of_getElem? (i := 255) rfl, rfl⟩
theorem tw_256 : Cond.static y_C_isMinuteOfDay ∈ vv_wds := List.mem_filter.mpr ⟨List.mem_of_getElem? (i := 256) rfl, rfl⟩
theorem tw_257 : Cond.code y_C_isMinuteOfDay b_C_isMinuteOfDay 1 (some FieldType.boolean) ∈ vv_wds := List.mem_filter.mpr ⟨List.mem_of_getElem? (i := 257) rfl, rfl⟩
theorem tw_258 : Cond.constantLong "CustomerNotices" 220 1439 ∈ vv_wds := List.mem_filter.mpr ⟨List.mem_of_getElem? (i := 258) rfl, rfl⟩
theorem tw_259 : Cond.methodLink "CustomerNotices" 90 y_Ma_floorMod ∈ vv_wds := List.mem_filter.mpr ⟨List.mem_of_getElem? (i := 259) rfl, rfl⟩
theorem tw_260 : Cond.static y_Ma_floorMod ∈ vv_wds := List.mem_filter.mpr ⟨List.mem_of_getElem? (i := 260) rfl, rfl⟩
theorem tw_261 : Cond.code y_Ma_floorMod b_Ma_floorMod 3 (some FieldType.int) ∈ vv_wds := List.mem_filter.mpr ⟨List.mem_of_getElem? (i := 261) rfl, rfl⟩
theorem tw_262 : Cond.methodLink "CustomerNoticesLaw" 30 y_C_event ∈ vv_wds := List.mem_filter.mpr ⟨List.mem_of_getElem? (i := 262) rfl, rfl⟩
theorem tw_263 : Cond.instanceMethod y_C_event ∈ vv_wds := List.mem_filter.mpr ⟨List.mem_of_getElem? (i := 263) rfl, rfl⟩
theorem tw_264 : Cond.selects "CustomerNotices" y_C_event y_C_event ∈ vv_wds := List.mem_filter.mpr ⟨List.mem_of_getElem? (i := 264) rfl, rfl⟩
theorem tw_265 : Cond.code y_C_event b_C_event 11 (some FieldType.int) ∈ vv_wds := List.mem_filter.mpr ⟨List.mem_of_getElem? (i := 265) rfl, rfl⟩
theorem tw_266 : Cond.methodLink "CustomerNotices" 96 y_C_isItemNumber ∈ vv_wds := List.mem_filter.mpr ⟨List.mem_of_getElem? (i := 266) rfl, rfl⟩
theorem tw_267 : Cond.static y_C_isItemNumber ∈ vv_wds := List.mem_filter.mpr ⟨List.mem_of_getElem? (i := 267) rfl, rfl⟩
theorem tw_268 : Cond.code y_C_isItemNumber b_C_isItemNumber 1 (some FieldType.boolean) ∈ vv_wds := List.mem_filter.mpr ⟨List.mem_of_getElem? (i := 268) rfl, rfl⟩
theorem tw_269 : Cond.constantLong "CustomerNotices" 222 9999 ∈ vv_wds := List.mem_filter.mpr ⟨List.mem_of_getElem? (i := 269) rfl, rfl⟩
theorem tw_270 : Cond.methodLink "CustomerNotices" 99 y_C_isTimeFromNow ∈ vv_wds := List.mem_filter.mpr ⟨List.mem_of_getElem? (i := 270) rfl, rfl⟩
theorem tw_272 : Cond.instanceMethod y_C_isTimeFromNow ∈ vv_wds := List.mem_filter.mpr ⟨List.mem_of_getElem? (i := 272) rfl, rfl⟩
theorem tw_273 : Cond.code y_C_isTimeFromNow b_C_isTimeFromNow 3 (some FieldType.boolean) ∈ vv_wds := List.mem_filter.mpr ⟨List.mem_of_getElem? (i := 273) rfl, rfl⟩
theorem tw_274 : Cond.constantLong "CustomerNotices" 135 1000000000 ∈ vv_wds := List.mem_filter.mpr ⟨List.mem_of_getElem? (i := 274) rfl, rfl⟩
theorem tw_275 : Cond.methodLink "CustomerNotices" 103 y_C_findItem ∈ vv_wds := List.mem_filter.mpr ⟨List.mem_of_getElem? (i := 275) rfl, rfl⟩
theorem tw_277 : Cond.instanceMethod y_C_findItem ∈ vv_wds := List.mem_filter.mpr ⟨List.mem_of_getElem? (i := 277) rfl, rfl⟩
theorem tw_278 : Cond.code y_C_findItem b_C_findItem 5 (some (FieldType.object "CustomerNotices$Item")) ∈ vv_wds := List.mem_filter.mpr ⟨List.mem_of_getElem? (i := 278) rfl, rfl⟩
theorem tw_279 : Cond.classLink "CustomerNotices" 108 "CustomerNotices$Item" ∈ vv_wds := List.mem_filter.mpr ⟨List.mem_of_getElem? (i := 279) rfl, rfl⟩
theorem tw_280 : Cond.methodLink "CustomerNotices" 113 y_C_isEnd ∈ vv_wds := List.mem_filter.mpr ⟨List.mem_of_getElem? (i := 280) rfl, rfl⟩
theorem tw_281 : Cond.static y_C_isEnd ∈ vv_wds := List.mem_filter.mpr ⟨List.mem_of_getElem? (i := 281) rfl, rfl⟩
theorem tw_282 : Cond.code y_C_isEnd b_C_isEnd 1 (some FieldType.boolean) ∈ vv_wds := List.mem_filter.mpr ⟨List.mem_of_getElem? (i := 282) rfl, rfl⟩
theorem tw_283 : Cond.methodLink "CustomerNotices" 116 y_C_noticesAreFull ∈ vv_wds := List.mem_filter.mpr ⟨List.mem_of_getElem? (i := 283) rfl, rfl⟩
theorem tw_285 : Cond.instanceMethod y_C_noticesAreFull ∈ vv_wds := List.mem_filter.mpr ⟨List.mem_of_getElem? (i := 285) rfl, rfl⟩
theorem tw_286 : Cond.code y_C_noticesAreFull b_C_noticesAreFull 1 (some FieldType.boolean) ∈ vv_wds := List.mem_filter.mpr ⟨List.mem_of_getElem? (i := 286) rfl, rfl⟩
theorem tw_287 : Cond.methodLink "CustomerNotices" 120 y_C_itemsAreFull ∈ vv_wds := List.mem_filter.mpr ⟨List.mem_of_getElem? (i := 287) rfl, rfl⟩
theorem tw_289 : Cond.instanceMethod y_C_itemsAreFull ∈ vv_wds := List.mem_filter.mpr ⟨List.mem_of_getElem? (i := 289) rfl, rfl⟩
theorem tw_290 : Cond.code y_C_itemsAreFull b_C_itemsAreFull 1 (some FieldType.boolean) ∈ vv_wds := List.mem_filter.mpr ⟨List.mem_of_getElem? (i := 290) rfl, rfl⟩
theorem tw_291 : Cond.methodLink "CustomerNotices" 123 y_C_addItem ∈ vv_wds := List.mem_filter.mpr ⟨List.mem_of_getElem? (i := 291) rfl, rfl⟩
theorem tw_293 : Cond.instanceMethod y_C_addItem ∈ vv_wds := List.mem_filter.mpr ⟨List.mem_of_getElem? (i := 293) rfl, rfl⟩
theorem tw_294 : Cond.code y_C_addItem b_C_addItem 4 (some (FieldType.object "CustomerNotices$Item")) ∈ vv_wds := List.mem_filter.mpr ⟨List.mem_of_getElem? (i := 294) rfl, rfl⟩
theorem tw_295 : Cond.instantiable "CustomerNotices$Item" 4 ∈ vv_wds := List.mem_filter.mpr ⟨List.mem_of_getElem? (i := 295) rfl, rfl⟩
theorem tw_296 : Cond.methodLink "CustomerNotices" 230 y_I_init ∈ vv_wds := List.mem_filter.mpr ⟨List.mem_of_getElem? (i := 296) rfl, rfl⟩
theorem tw_297 : Cond.instanceMethod y_I_init ∈ vv_wds := List.mem_filter.mpr ⟨List.mem_of_getElem? (i := 297) rfl, rfl⟩
theorem tw_298 : Cond.code y_I_init b_I_init 3 none ∈ vv_wds := List.mem_filter.mpr ⟨List.mem_of_getElem? (i := 298) rfl, rfl⟩
theorem tw_299 : Cond.methodLink "CustomerNotices$Item" 1 y_Oj_init ∈ vv_wds := List.mem_filter.mpr ⟨List.mem_of_getElem? (i := 299) rfl, rfl⟩
theorem tw_300 : Cond.fieldLink "CustomerNotices$Item" 7 "CustomerNotices$Item" "customerNumber" "I" ∈ vv_wds := List.mem_filter.mpr ⟨List.mem_of_getElem? (i := 300) rfl, rfl⟩
set_option maxRecDepth 20000 in
theorem tw_301 : Cond.fieldLink "CustomerNotices" 224 "CustomerNotices$Item" "customerNumber" "I" ∈ vv_wds := List.mem_filter.mpr ⟨List.mem_of_getElem? (i := 301) rfl, rfl⟩
set_option maxRecDepth 20000 in
theorem tw_302 : Cond.fieldLink "CustomerNotices$Item" 13 "CustomerNotices$Item" "itemNumber" "I" ∈ vv_wds := List.mem_filter.mpr ⟨List.mem_of_getElem? (i := 302) rfl, rfl⟩
set_option maxRecDepth 20000 in
theorem tw_303 : Cond.fieldLink "CustomerNotices" 227 "CustomerNotices$Item" "itemNumber" "I" ∈ vv_wds := List.mem_filter.mpr ⟨List.mem_of_getElem? (i := 303) rfl, rfl⟩
set_option maxRecDepth 20000 in
theorem tw_304 : Cond.fieldLink "CustomerNotices" 107 "CustomerNotices$Item" "ended" "Z" ∈ vv_wds := List.mem_filter.mpr ⟨List.mem_of_getElem? (i := 304) rfl, rfl⟩
set_option maxRecDepth 20000 in
theorem tw_305 : Cond.fieldLink "CustomerNotices" 139 "CustomerNotices$Item" "latestPromise" "LCustomerNotices$Notice;" ∈ vv_wds := List.mem_filter.mpr ⟨List.mem_of_getElem? (i := 305) rfl, rfl⟩
set_option maxRecDepth 20000 in
theorem tw_306 : Cond.laysFinal "CustomerNotices$Item" "CustomerNotices$Item" "customerNumber" "I" ∈ vv_wds := List.mem_filter.mpr ⟨List.mem_of_getElem? (i := 306) rfl, rfl⟩
set_option maxRecDepth 20000 in
theorem tw_308 : Cond.laysFinal "CustomerNotices$Item" "CustomerNotices$Item" "itemNumber" "I" ∈ vv_wds := List.mem_filter.mpr ⟨List.mem_of_getElem? (i := 308) rfl, rfl⟩
set_option maxRecDepth 20000 in
theorem tw_310 : Cond.lays "CustomerNotices$Item" "CustomerNotices$Item" "ended" "Z" ∈ vv_wds := List.mem_filter.mpr ⟨List.mem_of_getElem? (i := 310) rfl, rfl⟩
set_option maxRecDepth 20000 in
theorem tw_312 : Cond.lays "CustomerNotices$Item" "CustomerNotices$Item" "latestPromise" "LCustomerNotices$Notice;" ∈ vv_wds := List.mem_filter.mpr ⟨List.mem_of_getElem? (i := 312) rfl, rfl⟩
set_option maxRecDepth 20000 in
theorem tw_315 : Cond.methodLink "CustomerNotices" 126 y_C_addNotice ∈ vv_wds := List.mem_filter.mpr ⟨List.mem_of_getElem? (i := 315) rfl, rfl⟩
set_option maxRecDepth 20000 in
theorem tw_317 : Cond.instanceMethod y_C_addNotice ∈ vv_wds := List.mem_filter.mpr ⟨List.mem_of_getElem? (i := 317) rfl, rfl⟩
set_option maxRecDepth 20000 in
theorem tw_318 : Cond.code y_C_addNotice b_C_addNotice 7 (some (FieldType.object "CustomerNotices$Notice")) ∈ vv_wds := List.mem_filter.mpr ⟨List.mem_of_getElem? (i := 318) rfl, rfl⟩
set_option maxRecDepth 20000 in
theorem tw_319 : Cond.classLink "CustomerNotices" 131 "CustomerNotices$Notice" ∈ vv_wds := List.mem_filter.mpr ⟨List.mem_of_getElem? (i := 319) rfl, rfl⟩
set_option maxRecDepth 20000 in
theorem tw_320 : Cond.instantiable "CustomerNotices$Notice" 12 ∈ vv_wds := List.mem_filter.mpr ⟨List.mem_of_getElem? (i := 320) rfl, rfl⟩
set_option maxRecDepth 20000 in
theorem tw_321 : Cond.methodLink "CustomerNotices" 232 y_N_init ∈ vv_wds := List.mem_filter.mpr ⟨List.mem_of_getElem? (i := 321) rfl, rfl⟩
set_option maxRecDepth 20000 in
theorem tw_322 : Cond.instanceMethod y_N_init ∈ vv_wds := List.mem_filter.mpr ⟨List.mem_of_getElem? (i := 322) rfl, rfl⟩
set_option maxRecDepth 20000 in
theorem tw_323 : Cond.code y_N_init b_N_init 7 none ∈ vv_wds := List.mem_filter.mpr ⟨List.mem_of_getElem? (i := 323) rfl, rfl⟩
set_option maxRecDepth 20000 in
theorem tw_324 : Cond.methodLink "CustomerNotices$Notice" 3 y_Oj_init ∈ vv_wds := List.mem_filter.mpr ⟨List.mem_of_getElem? (i := 324) rfl, rfl⟩
set_option maxRecDepth 20000 in
theorem tw_325 : Cond.constantLong "CustomerNotices$Notice" 32 (-1) ∈ vv_wds := List.mem_filter.mpr ⟨List.mem_of_getElem? (i := 325) rfl, rfl⟩
set_option maxRecDepth 20000 in
theorem tw_326 : Cond.fieldLink "CustomerNotices$Notice" 9 "CustomerNotices$Notice" "number" "I" ∈ vv_wds := List.mem_filter.mpr ⟨List.mem_of_getElem? (i := 326) rfl, rfl⟩
set_option maxRecDepth 20000 in
theorem tw_327 : Cond.fieldLink "CustomerNotices" 130 "CustomerNotices$Notice" "number" "I" ∈ vv_wds := List.mem_filter.mpr ⟨List.mem_of_getElem? (i := 327) rfl, rfl⟩
set_option maxRecDepth 20000 in
theorem tw_328 : Cond.fieldLink "CustomerNotices$Notice" 15 "CustomerNotices$Notice" "owner" "LCustomerNotices$Customer;" ∈ vv_wds := List.mem_filter.mpr ⟨List.mem_of_getElem? (i := 328) rfl, rfl⟩
set_option maxRecDepth 20000 in
theorem tw_329 : Cond.fieldLink "CustomerNotices" 185 "CustomerNotices$Notice" "owner" "LCustomerNotices$Customer;" ∈ vv_wds := List.mem_filter.mpr ⟨List.mem_of_getElem? (i := 329) rfl, rfl⟩
set_option maxRecDepth 20000 in
theorem tw_330 : Cond.fieldLink "CustomerNotices$Notice" 19 "CustomerNotices$Notice" "item" "I" ∈ vv_wds := List.mem_filter.mpr ⟨List.mem_of_getElem? (i := 330) rfl, rfl⟩
set_option maxRecDepth 20000 in
theorem tw_331 : Cond.fieldLink "CustomerNotices" 200 "CustomerNotices$Notice" "item" "I" ∈ vv_wds := List.mem_filter.mpr ⟨List.mem_of_getElem? (i := 331) rfl, rfl⟩
set_option maxRecDepth 20000 in
theorem tw_332 : Cond.fieldLink "CustomerNotices$Notice" 22 "CustomerNotices$Notice" "kind" "I" ∈ vv_wds := List.mem_filter.mpr ⟨List.mem_of_getElem? (i := 332) rfl, rfl⟩
set_option maxRecDepth 20000 in
theorem tw_333 : Cond.fieldLink "CustomerNotices" 190 "CustomerNotices$Notice" "kind" "I" ∈ vv_wds := List.mem_filter.mpr ⟨List.mem_of_getElem? (i := 333) rfl, rfl⟩
set_option maxRecDepth 20000 in
theorem tw_334 : Cond.fieldLink "CustomerNotices$Notice" 25 "CustomerNotices$Notice" "time" "J" ∈ vv_wds := List.mem_filter.mpr ⟨List.mem_of_getElem? (i := 334) rfl, rfl⟩
set_option maxRecDepth 20000 in
theorem tw_335 : Cond.fieldLink "CustomerNotices" 247 "CustomerNotices$Notice" "time" "J" ∈ vv_wds := List.mem_filter.mpr ⟨List.mem_of_getElem? (i := 335) rfl, rfl⟩
set_option maxRecDepth 20000 in
theorem tw_336 : Cond.fieldLink "CustomerNotices$Notice" 29 "CustomerNotices$Notice" "state" "I" ∈ vv_wds := List.mem_filter.mpr ⟨List.mem_of_getElem? (i := 336) rfl, rfl⟩
set_option maxRecDepth 20000 in
theorem tw_337 : Cond.fieldLink "CustomerNotices" 154 "CustomerNotices$Notice" "state" "I" ∈ vv_wds := List.mem_filter.mpr ⟨List.mem_of_getElem? (i := 337) rfl, rfl⟩
set_option maxRecDepth 20000 in
theorem tw_338 : Cond.fieldLink "CustomerNotices$Notice" 34 "CustomerNotices$Notice" "promisedTime" "J" ∈ vv_wds := List.mem_filter.mpr ⟨List.mem_of_getElem? (i := 338) rfl, rfl⟩
set_option maxRecDepth 20000 in
theorem tw_339 : Cond.fieldLink "CustomerNotices" 147 "CustomerNotices$Notice" "promisedTime" "J" ∈ vv_wds := List.mem_filter.mpr ⟨List.mem_of_getElem? (i := 339) rfl, rfl⟩
set_option maxRecDepth 20000 in
theorem tw_340 : Cond.fieldLink "CustomerNotices$Notice" 41 "CustomerNotices$Notice" "isCorrection" "Z" ∈ vv_wds := List.mem_filter.mpr ⟨List.mem_of_getElem? (i := 340) rfl, rfl⟩
set_option maxRecDepth 20000 in
theorem tw_341 : Cond.fieldLink "CustomerNotices" 235 "CustomerNotices$Notice" "isCorrection" "Z" ∈ vv_wds := List.mem_filter.mpr ⟨List.mem_of_getElem? (i := 341) rfl, rfl⟩
set_option maxRecDepth 20000 in
theorem tw_342 : Cond.fieldLink "CustomerNotices$Notice" 37 "CustomerNotices$Notice" "corrected" "Z" ∈ vv_wds := List.mem_filter.mpr ⟨List.mem_of_getElem? (i := 342) rfl, rfl⟩
set_option maxRecDepth 20000 in
theorem tw_343 : Cond.fieldLink "CustomerNotices" 207 "CustomerNotices$Notice" "corrected" "Z" ∈ vv_wds := List.mem_filter.mpr ⟨List.mem_of_getElem? (i := 343) rfl, rfl⟩
set_option maxRecDepth 20000 in
theorem tw_344 : Cond.fieldLink "CustomerNotices" 261 "CustomerNotices$Notice" "channel" "I" ∈ vv_wds := List.mem_filter.mpr ⟨List.mem_of_getElem? (i := 344) rfl, rfl⟩
set_option maxRecDepth 20000 in
theorem tw_345 : Cond.fieldLink "CustomerNotices" 264 "CustomerNotices$Notice" "message" "I" ∈ vv_wds := List.mem_filter.mpr ⟨List.mem_of_getElem? (i := 345) rfl, rfl⟩
set_option maxRecDepth 20000 in
theorem tw_346 : Cond.fieldLink "CustomerNotices" 267 "CustomerNotices$Notice" "sentTime" "J" ∈ vv_wds := List.mem_filter.mpr ⟨List.mem_of_getElem? (i := 346) rfl, rfl⟩
set_option maxRecDepth 20000 in
theorem tw_347 : Cond.laysFinal "CustomerNotices$Notice" "CustomerNotices$Notice" "number" "I" ∈ vv_wds := List.mem_filter.mpr ⟨List.mem_of_getElem? (i := 347) rfl, rfl⟩
set_option maxRecDepth 20000 in
theorem tw_349 : Cond.laysFinal "CustomerNotices$Notice" "CustomerNotices$Notice" "owner" "LCustomerNotices$Customer;" ∈ vv_wds := List.mem_filter.mpr ⟨List.mem_of_getElem? (i := 349) rfl, rfl⟩
set_option maxRecDepth 20000 in
theorem tw_351 : Cond.laysFinal "CustomerNotices$Notice" "CustomerNotices$Notice" "item" "I" ∈ vv_wds := List.mem_filter.mpr ⟨List.mem_of_getElem? (i := 351) rfl, rfl⟩
set_option maxRecDepth 20000 in
theorem tw_353 : Cond.laysFinal "CustomerNotices$Notice" "CustomerNotices$Notice" "kind" "I" ∈ vv_wds := List.mem_filter.mpr ⟨List.mem_of_getElem? (i := 353) rfl, rfl⟩
set_option maxRecDepth 20000 in
theorem tw_355 : Cond.laysFinal "CustomerNotices$Notice" "CustomerNotices$Notice" "time" "J" ∈ vv_wds := List.mem_filter.mpr ⟨List.mem_of_getElem? (i := 355) rfl, rfl⟩
set_option maxRecDepth 20000 in
theorem tw_357 : Cond.lays "CustomerNotices$Notice" "CustomerNotices$Notice" "state" "I" ∈ vv_wds := List.mem_filter.mpr ⟨List.mem_of_getElem? (i := 357) rfl, rfl⟩
set_option maxRecDepth 20000 in
theorem tw_359 : Cond.lays "CustomerNotices$Notice" "CustomerNotices$Notice" "promisedTime" "J" ∈ vv_wds := List.mem_filter.mpr ⟨List.mem_of_getElem? (i := 359) rfl, rfl⟩
set_option maxRecDepth 20000 in
theorem tw_361 : Cond.lays "CustomerNotices$Notice" "CustomerNotices$Notice" "isCorrection" "Z" ∈ vv_wds := List.mem_filter.mpr ⟨List.mem_of_getElem? (i := 361) rfl, rfl⟩
set_option maxRecDepth 20000 in
theorem tw_363 : Cond.lays "CustomerNotices$Notice" "CustomerNotices$Notice" "corrected" "Z" ∈ vv_wds := List.mem_filter.mpr ⟨List.mem_of_getElem? (i := 363) rfl, rfl⟩
set_option maxRecDepth 20000 in
theorem tw_365 : Cond.lays "CustomerNotices$Notice" "CustomerNotices$Notice" "channel" "I" ∈ vv_wds := List.mem_filter.mpr ⟨List.mem_of_getElem? (i := 365) rfl, rfl⟩
set_option maxRecDepth 20000 in
theorem tw_367 : Cond.lays "CustomerNotices$Notice" "CustomerNotices$Notice" "message" "I" ∈ vv_wds := List.mem_filter.mpr ⟨List.mem_of_getElem? (i := 367) rfl, rfl⟩
set_option maxRecDepth 20000 in
theorem tw_369 : Cond.lays "CustomerNotices$Notice" "CustomerNotices$Notice" "sentTime" "J" ∈ vv_wds := List.mem_filter.mpr ⟨List.mem_of_getElem? (i := 369) rfl, rfl⟩
set_option maxRecDepth 20000 in
theorem tw_372 : Cond.methodLink "CustomerNoticesLaw" 35 y_C_promise ∈ vv_wds := List.mem_filter.mpr ⟨List.mem_of_getElem? (i := 372) rfl, rfl⟩
set_option maxRecDepth 20000 in
theorem tw_373 : Cond.instanceMethod y_C_promise ∈ vv_wds := List.mem_filter.mpr ⟨List.mem_of_getElem? (i := 373) rfl, rfl⟩
set_option maxRecDepth 20000 in
theorem tw_374 : Cond.selects "CustomerNotices" y_C_promise y_C_promise ∈ vv_wds := List.mem_filter.mpr ⟨List.mem_of_getElem? (i := 374) rfl, rfl⟩
set_option maxRecDepth 20000 in
theorem tw_375 : Cond.code y_C_promise b_C_promise 10 (some FieldType.int) ∈ vv_wds := List.mem_filter.mpr ⟨List.mem_of_getElem? (i := 375) rfl, rfl⟩
set_option maxRecDepth 20000 in
theorem tw_376 : Cond.constantLong "CustomerNotices" 137 1000000 ∈ vv_wds := List.mem_filter.mpr ⟨List.mem_of_getElem? (i := 376) rfl, rfl⟩
set_option maxRecDepth 20000 in
theorem tw_377 : Cond.methodLink "CustomerNotices" 143 y_C_addPromise ∈ vv_wds := List.mem_filter.mpr ⟨List.mem_of_getElem? (i := 377) rfl, rfl⟩
set_option maxRecDepth 20000 in
theorem tw_379 : Cond.instanceMethod y_C_addPromise ∈ vv_wds := List.mem_filter.mpr ⟨List.mem_of_getElem? (i := 379) rfl, rfl⟩
set_option maxRecDepth 20000 in
theorem tw_380 : Cond.code y_C_addPromise b_C_addPromise 8 (some FieldType.int) ∈ vv_wds := List.mem_filter.mpr ⟨List.mem_of_getElem? (i := 380) rfl, rfl⟩
set_option maxRecDepth 20000 in
theorem tw_381 : Cond.methodLink "CustomerNotices" 150 y_Ma_abs ∈ vv_wds := List.mem_filter.mpr ⟨List.mem_of_getElem? (i := 381) rfl, rfl⟩
set_option maxRecDepth 20000 in
theorem tw_382 : Cond.static y_Ma_abs ∈ vv_wds := List.mem_filter.mpr ⟨List.mem_of_getElem? (i := 382) rfl, rfl⟩
set_option maxRecDepth 20000 in
theorem tw_383 : Cond.code y_Ma_abs b_Ma_abs 2 (some FieldType.long) ∈ vv_wds := List.mem_filter.mpr ⟨List.mem_of_getElem? (i := 383) rfl, rfl⟩
set_option maxRecDepth 20000 in
theorem tw_384 : Cond.methodLink "CustomerNoticesLaw" 40 y_C_tick ∈ vv_wds := List.mem_filter.mpr ⟨List.mem_of_getElem? (i := 384) rfl, rfl⟩
set_option maxRecDepth 20000 in
theorem tw_385 : Cond.instanceMethod y_C_tick ∈ vv_wds := List.mem_filter.mpr ⟨List.mem_of_getElem? (i := 385) rfl, rfl⟩
set_option maxRecDepth 20000 in
theorem tw_386 : Cond.selects "CustomerNotices" y_C_tick y_C_tick ∈ vv_wds := List.mem_filter.mpr ⟨List.mem_of_getElem? (i := 386) rfl, rfl⟩
set_option maxRecDepth 20000 in
theorem tw_387 : Cond.code y_C_tick b_C_tick 6 (some FieldType.int) ∈ vv_wds := List.mem_filter.mpr ⟨List.mem_of_getElem? (i := 387) rfl, rfl⟩
set_option maxRecDepth 20000 in
theorem tw_388 : Cond.methodLink "CustomerNotices" 157 y_C_prepareCustomersForTick ∈ vv_wds := List.mem_filter.mpr ⟨List.mem_of_getElem? (i := 388) rfl, rfl⟩
set_option maxRecDepth 20000 in
theorem tw_390 : Cond.instanceMethod y_C_prepareCustomersForTick ∈ vv_wds := List.mem_filter.mpr ⟨List.mem_of_getElem? (i := 390) rfl, rfl⟩
set_option maxRecDepth 20000 in
theorem tw_391 : Cond.code y_C_prepareCustomersForTick b_C_prepareCustomersForTick 4 none ∈ vv_wds := List.mem_filter.mpr ⟨List.mem_of_getElem? (i := 391) rfl, rfl⟩
set_option maxRecDepth 20000 in
theorem tw_392 : Cond.methodLink "CustomerNotices" 244 y_N_isMarked ∈ vv_wds := List.mem_filter.mpr ⟨List.mem_of_getElem? (i := 392) rfl, rfl⟩
set_option maxRecDepth 20000 in
theorem tw_393 : Cond.instanceMethod y_N_isMarked ∈ vv_wds := List.mem_filter.mpr ⟨List.mem_of_getElem? (i := 393) rfl, rfl⟩
set_option maxRecDepth 20000 in
theorem tw_394 : Cond.selects "CustomerNotices$Notice" y_N_isMarked y_N_isMarked ∈ vv_wds := List.mem_filter.mpr ⟨List.mem_of_getElem? (i := 394) rfl, rfl⟩
set_option maxRecDepth 20000 in
theorem tw_395 : Cond.code y_N_isMarked b_N_isMarked 1 (some FieldType.boolean) ∈ vv_wds := List.mem_filter.mpr ⟨List.mem_of_getElem? (i := 395) rfl, rfl⟩
set_option maxRecDepth 20000 in
theorem tw_396 : Cond.methodLink "CustomerNotices" 250 y_Ma_min_JJJ ∈ vv_wds := List.mem_filter.mpr ⟨List.mem_of_getElem? (i := 396) rfl, rfl⟩
set_option maxRecDepth 20000 in
theorem tw_397 : Cond.static y_Ma_min_JJJ ∈ vv_wds := List.mem_filter.mpr ⟨List.mem_of_getElem? (i := 397) rfl, rfl⟩
set_option maxRecDepth 20000 in
theorem tw_398 : Cond.code y_Ma_min_JJJ b_Ma_min_JJJ 4 (some FieldType.long) ∈ vv_wds := List.mem_filter.mpr ⟨List.mem_of_getElem? (i := 398) rfl, rfl⟩
set_option maxRecDepth 20000 in
theorem tw_399 : Cond.methodLink "CustomerNotices" 164 y_C_isDue ∈ vv_wds := List.mem_filter.mpr ⟨List.mem_of_getElem? (i := 399) rfl, rfl⟩
set_option maxRecDepth 20000 in
theorem tw_401 : Cond.instanceMethod y_C_isDue ∈ vv_wds := List.mem_filter.mpr ⟨List.mem_of_getElem? (i := 401) rfl, rfl⟩
set_option maxRecDepth 20000 in
theorem tw_402 : Cond.code y_C_isDue b_C_isDue 2 (some FieldType.boolean) ∈ vv_wds := List.mem_filter.mpr ⟨List.mem_of_getElem? (i := 402) rfl, rfl⟩
set_option maxRecDepth 20000 in
theorem tw_403 : Cond.methodLink "CustomerNotices" 168 y_C_isHeldByQuiet ∈ vv_wds := List.mem_filter.mpr ⟨List.mem_of_getElem? (i := 403) rfl, rfl⟩
set_option maxRecDepth 20000 in
theorem tw_405 : Cond.instanceMethod y_C_isHeldByQuiet ∈ vv_wds := List.mem_filter.mpr ⟨List.mem_of_getElem? (i := 405) rfl, rfl⟩
set_option maxRecDepth 20000 in
theorem tw_406 : Cond.code y_C_isHeldByQuiet b_C_isHeldByQuiet 2 (some FieldType.boolean) ∈ vv_wds := List.mem_filter.mpr ⟨List.mem_of_getElem? (i := 406) rfl, rfl⟩
set_option maxRecDepth 20000 in
theorem tw_407 : Cond.methodLink "CustomerNotices" 254 y_K_isQuietAt ∈ vv_wds := List.mem_filter.mpr ⟨List.mem_of_getElem? (i := 407) rfl, rfl⟩
set_option maxRecDepth 20000 in
theorem tw_408 : Cond.instanceMethod y_K_isQuietAt ∈ vv_wds := List.mem_filter.mpr ⟨List.mem_of_getElem? (i := 408) rfl, rfl⟩
set_option maxRecDepth 20000 in
theorem tw_409 : Cond.selects "CustomerNotices$Customer" y_K_isQuietAt y_K_isQuietAt ∈ vv_wds := List.mem_filter.mpr ⟨List.mem_of_getElem? (i := 409) rfl, rfl⟩
set_option maxRecDepth 20000 in
theorem tw_410 : Cond.code y_K_isQuietAt b_K_isQuietAt 5 (some FieldType.boolean) ∈ vv_wds := List.mem_filter.mpr ⟨List.mem_of_getElem? (i := 410) rfl, rfl⟩
set_option maxRecDepth 20000 in
theorem tw_411 : Cond.constantLong "CustomerNotices$Customer" 40 1440 ∈ vv_wds := List.mem_filter.mpr ⟨List.mem_of_getElem? (i := 411) rfl, rfl⟩
set_option maxRecDepth 20000 in
theorem tw_412 : Cond.methodLink "CustomerNotices$Customer" 42 y_Ma_floorMod_JJJ ∈ vv_wds := List.mem_filter.mpr ⟨List.mem_of_getElem? (i := 412) rfl, rfl⟩
set_option maxRecDepth 20000 in
theorem tw_413 : Cond.static y_Ma_floorMod_JJJ ∈ vv_wds := List.mem_filter.mpr ⟨List.mem_of_getElem? (i := 413) rfl, rfl⟩
set_option maxRecDepth 20000 in
theorem tw_414 : Cond.code y_Ma_floorMod_JJJ b_Ma_floorMod_JJJ 6 (some FieldType.long) ∈ vv_wds := List.mem_filter.mpr ⟨List.mem_of_getElem? (i := 414) rfl, rfl⟩
set_option maxRecDepth 20000 in
theorem tw_415 : Cond.methodLink "CustomerNotices" 171 y_C_deliver ∈ vv_wds := List.mem_filter.mpr ⟨List.mem_of_getElem? (i := 415) rfl, rfl⟩
set_option maxRecDepth 20000 in
theorem tw_417 : Cond.instanceMethod y_C_deliver ∈ vv_wds := List.mem_filter.mpr ⟨List.mem_of_getElem? (i := 417) rfl, rfl⟩
set_option maxRecDepth 20000 in
theorem tw_418 : Cond.code y_C_deliver b_C_deliver 4 none ∈ vv_wds := List.mem_filter.mpr ⟨List.mem_of_getElem? (i := 418) rfl, rfl⟩
set_option maxRecDepth 20000 in
theorem tw_419 : Cond.methodLink "CustomerNotices" 257 y_K_firstWorkingChannel ∈ vv_wds := List.mem_filter.mpr ⟨List.mem_of_getElem? (i := 419) rfl, rfl⟩
set_option maxRecDepth 20000 in
theorem tw_420 : Cond.instanceMethod y_K_firstWorkingChannel ∈ vv_wds := List.mem_filter.mpr ⟨List.mem_of_getElem? (i := 420) rfl, rfl⟩
set_option maxRecDepth 20000 in
theorem tw_421 : Cond.selects "CustomerNotices$Customer" y_K_firstWorkingChannel y_K_firstWorkingChannel ∈ vv_wds := List.mem_filter.mpr ⟨List.mem_of_getElem? (i := 421) rfl, rfl⟩
set_option maxRecDepth 20000 in
theorem tw_422 : Cond.code y_K_firstWorkingChannel b_K_firstWorkingChannel 7 (some FieldType.int) ∈ vv_wds := List.mem_filter.mpr ⟨List.mem_of_getElem? (i := 422) rfl, rfl⟩
set_option maxRecDepth 20000 in
theorem tw_423 : Cond.methodLink "CustomerNoticesLaw" 45 y_C_sent ∈ vv_wds := List.mem_filter.mpr ⟨List.mem_of_getElem? (i := 423) rfl, rfl⟩
set_option maxRecDepth 20000 in
theorem tw_424 : Cond.instanceMethod y_C_sent ∈ vv_wds := List.mem_filter.mpr ⟨List.mem_of_getElem? (i := 424) rfl, rfl⟩
set_option maxRecDepth 20000 in
theorem tw_425 : Cond.selects "CustomerNotices" y_C_sent y_C_sent ∈ vv_wds := List.mem_filter.mpr ⟨List.mem_of_getElem? (i := 425) rfl, rfl⟩
set_option maxRecDepth 20000 in
theorem tw_426 : Cond.code y_C_sent b_C_sent 3 (some FieldType.int) ∈ vv_wds := List.mem_filter.mpr ⟨List.mem_of_getElem? (i := 426) rfl, rfl⟩
set_option maxRecDepth 20000 in
theorem tw_427 : Cond.constantLong "CustomerNotices" 175 8 ∈ vv_wds := List.mem_filter.mpr ⟨List.mem_of_getElem? (i := 427) rfl, rfl⟩
set_option maxRecDepth 20000 in
theorem tw_428 : Cond.methodLink "CustomerNotices" 177 y_C_detail ∈ vv_wds := List.mem_filter.mpr ⟨List.mem_of_getElem? (i := 428) rfl, rfl⟩
set_option maxRecDepth 20000 in
theorem tw_429 : Cond.static y_C_detail ∈ vv_wds := List.mem_filter.mpr ⟨List.mem_of_getElem? (i := 429) rfl, rfl⟩
set_option maxRecDepth 20000 in
theorem tw_430 : Cond.code y_C_detail b_C_detail 2 (some FieldType.int) ∈ vv_wds := List.mem_filter.mpr ⟨List.mem_of_getElem? (i := 430) rfl, rfl⟩
set_option maxRecDepth 20000 in
theorem tw_431 : Cond.methodLink "CustomerNotices" 270 y_N_text ∈ vv_wds := List.mem_filter.mpr ⟨List.mem_of_getElem? (i := 431) rfl, rfl⟩
set_option maxRecDepth 20000 in
theorem tw_432 : Cond.instanceMethod y_N_text ∈ vv_wds := List.mem_filter.mpr ⟨List.mem_of_getElem? (i := 432) rfl, rfl⟩
set_option maxRecDepth 20000 in
theorem tw_433 : Cond.selects "CustomerNotices$Notice" y_N_text y_N_text ∈ vv_wds := List.mem_filter.mpr ⟨List.mem_of_getElem? (i := 433) rfl, rfl⟩
set_option maxRecDepth 20000 in
theorem tw_434 : Cond.code y_N_text b_N_text 1 (some FieldType.int) ∈ vv_wds := List.mem_filter.mpr ⟨List.mem_of_getElem? (i := 434) rfl, rfl⟩
set_option maxRecDepth 20000 in
theorem tw_435 : Cond.methodLink "CustomerNoticesLaw" 49 y_C_works ∈ vv_wds := List.mem_filter.mpr ⟨List.mem_of_getElem? (i := 435) rfl, rfl⟩
set_option maxRecDepth 20000 in
theorem tw_436 : Cond.instanceMethod y_C_works ∈ vv_wds := List.mem_filter.mpr ⟨List.mem_of_getElem? (i := 436) rfl, rfl⟩
set_option maxRecDepth 20000 in
theorem tw_437 : Cond.selects "CustomerNotices" y_C_works y_C_works ∈ vv_wds := List.mem_filter.mpr ⟨List.mem_of_getElem? (i := 437) rfl, rfl⟩
set_option maxRecDepth 20000 in
theorem tw_438 : Cond.code y_C_works b_C_works 4 (some FieldType.boolean) ∈ vv_wds := List.mem_filter.mpr ⟨List.mem_of_getElem? (i := 438) rfl, rfl⟩
set_option maxRecDepth 20000 in
theorem tw_439 : Cond.methodLink "CustomerNoticesLaw" 54 y_C_out ∈ vv_wds := List.mem_filter.mpr ⟨List.mem_of_getElem? (i := 439) rfl, rfl⟩
set_option maxRecDepth 20000 in
theorem tw_440 : Cond.instanceMethod y_C_out ∈ vv_wds := List.mem_filter.mpr ⟨List.mem_of_getElem? (i := 440) rfl, rfl⟩
set_option maxRecDepth 20000 in
theorem tw_441 : Cond.selects "CustomerNotices" y_C_out y_C_out ∈ vv_wds := List.mem_filter.mpr ⟨List.mem_of_getElem? (i := 441) rfl, rfl⟩
set_option maxRecDepth 20000 in
theorem tw_442 : Cond.code y_C_out b_C_out 7 (some FieldType.int) ∈ vv_wds := List.mem_filter.mpr ⟨List.mem_of_getElem? (i := 442) rfl, rfl⟩
set_option maxRecDepth 20000 in
theorem tw_443 : Cond.methodLink "CustomerNotices" 181 y_K_clearWishes ∈ vv_wds := List.mem_filter.mpr ⟨List.mem_of_getElem? (i := 443) rfl, rfl⟩
set_option maxRecDepth 20000 in
theorem tw_444 : Cond.instanceMethod y_K_clearWishes ∈ vv_wds := List.mem_filter.mpr ⟨List.mem_of_getElem? (i := 444) rfl, rfl⟩
set_option maxRecDepth 20000 in
theorem tw_445 : Cond.selects "CustomerNotices$Customer" y_K_clearWishes y_K_clearWishes ∈ vv_wds := List.mem_filter.mpr ⟨List.mem_of_getElem? (i := 445) rfl, rfl⟩
set_option maxRecDepth 20000 in
theorem tw_446 : Cond.code y_K_clearWishes b_K_clearWishes 3 none ∈ vv_wds := List.mem_filter.mpr ⟨List.mem_of_getElem? (i := 446) rfl, rfl⟩
set_option maxRecDepth 20000 in
theorem tw_447 : Cond.methodLink "CustomerNotices$Customer" 32 y_K_setOrder ∈ vv_wds := List.mem_filter.mpr ⟨List.mem_of_getElem? (i := 447) rfl, rfl⟩
set_option maxRecDepth 20000 in
theorem tw_448 : Cond.methodLink "CustomerNoticesLaw" 58 y_C_failed ∈ vv_wds := List.mem_filter.mpr ⟨List.mem_of_getElem? (i := 448) rfl, rfl⟩
set_option maxRecDepth 20000 in
theorem tw_449 : Cond.instanceMethod y_C_failed ∈ vv_wds := List.mem_filter.mpr ⟨List.mem_of_getElem? (i := 449) rfl, rfl⟩
set_option maxRecDepth 20000 in
theorem tw_450 : Cond.selects "CustomerNotices" y_C_failed y_C_failed ∈ vv_wds := List.mem_filter.mpr ⟨List.mem_of_getElem? (i := 450) rfl, rfl⟩
set_option maxRecDepth 20000 in
theorem tw_451 : Cond.code y_C_failed b_C_failed 2 (some FieldType.int) ∈ vv_wds := List.mem_filter.mpr ⟨List.mem_of_getElem? (i := 451) rfl, rfl⟩
set_option maxRecDepth 20000 in
theorem tw_452 : Cond.methodLink "CustomerNoticesLaw" 63 y_C_correct ∈ vv_wds := List.mem_filter.mpr ⟨List.mem_of_getElem? (i := 452) rfl, rfl⟩
set_option maxRecDepth 20000 in
theorem tw_453 : Cond.instanceMethod y_C_correct ∈ vv_wds := List.mem_filter.mpr ⟨List.mem_of_getElem? (i := 453) rfl, rfl⟩
set_option maxRecDepth 20000 in
theorem tw_454 : Cond.selects "CustomerNotices" y_C_correct y_C_correct ∈ vv_wds := List.mem_filter.mpr ⟨List.mem_of_getElem? (i := 454) rfl, rfl⟩
set_option maxRecDepth 20000 in
theorem tw_455 : Cond.code y_C_correct b_C_correct 6 (some FieldType.int) ∈ vv_wds := List.mem_filter.mpr ⟨List.mem_of_getElem? (i := 455) rfl, rfl⟩
set_option maxRecDepth 20000 in
theorem tw_456 : Cond.methodLink "CustomerNotices" 193 y_C_findNotice ∈ vv_wds := List.mem_filter.mpr ⟨List.mem_of_getElem? (i := 456) rfl, rfl⟩
set_option maxRecDepth 20000 in
theorem tw_458 : Cond.instanceMethod y_C_findNotice ∈ vv_wds := List.mem_filter.mpr ⟨List.mem_of_getElem? (i := 458) rfl, rfl⟩
set_option maxRecDepth 20000 in
theorem tw_459 : Cond.code y_C_findNotice b_C_findNotice 2 (some (FieldType.object "CustomerNotices$Notice")) ∈ vv_wds := List.mem_filter.mpr ⟨List.mem_of_getElem? (i := 459) rfl, rfl⟩
set_option maxRecDepth 20000 in
theorem tw_460 : Cond.methodLink "CustomerNotices" 197 y_N_canBeCorrected ∈ vv_wds := List.mem_filter.mpr ⟨List.mem_of_getElem? (i := 460) rfl, rfl⟩
set_option maxRecDepth 20000 in
theorem tw_461 : Cond.instanceMethod y_N_canBeCorrected ∈ vv_wds := List.mem_filter.mpr ⟨List.mem_of_getElem? (i := 461) rfl, rfl⟩
set_option maxRecDepth 20000 in
theorem tw_462 : Cond.selects "CustomerNotices$Notice" y_N_canBeCorrected y_N_canBeCorrected ∈ vv_wds := List.mem_filter.mpr ⟨List.mem_of_getElem? (i := 462) rfl, rfl⟩
set_option maxRecDepth 20000 in
theorem tw_463 : Cond.code y_N_canBeCorrected b_N_canBeCorrected 1 (some FieldType.boolean) ∈ vv_wds := List.mem_filter.mpr ⟨List.mem_of_getElem? (i := 463) rfl, rfl⟩
set_option maxRecDepth 20000 in
theorem tw_464 : Cond.methodLink "CustomerNotices" 203 y_C_reopenItem ∈ vv_wds := List.mem_filter.mpr ⟨List.mem_of_getElem? (i := 464) rfl, rfl⟩
set_option maxRecDepth 20000 in
theorem tw_466 : Cond.instanceMethod y_C_reopenItem ∈ vv_wds := List.mem_filter.mpr ⟨List.mem_of_getElem? (i := 466) rfl, rfl⟩
set_option maxRecDepth 20000 in
theorem tw_467 : Cond.code y_C_reopenItem b_C_reopenItem 4 none ∈ vv_wds := List.mem_filter.mpr ⟨List.mem_of_getElem? (i := 467) rfl, rfl⟩
set_option maxRecDepth 20000 in
theorem tw_468 : Cond.methodLink "CustomerNotices" 210 y_C_addCorrection ∈ vv_wds := List.mem_filter.mpr ⟨List.mem_of_getElem? (i := 468) rfl, rfl⟩
set_option maxRecDepth 20000 in
theorem tw_470 : Cond.instanceMethod y_C_addCorrection ∈ vv_wds := List.mem_filter.mpr ⟨List.mem_of_getElem? (i := 470) rfl, rfl⟩
set_option maxRecDepth 20000 in
theorem tw_471 : Cond.code y_C_addCorrection b_C_addCorrection 5 (some FieldType.int) ∈ vv_wds := List.mem_filter.mpr ⟨List.mem_of_getElem? (i := 471) rfl, rfl⟩
set_option maxRecDepth 20000 in
theorem tw_472 : Cond.methodLink "CustomerNoticesLaw" 68 y_C_join ∈ vv_wds := List.mem_filter.mpr ⟨List.mem_of_getElem? (i := 472) rfl, rfl⟩
set_option maxRecDepth 20000 in
theorem tw_473 : Cond.instanceMethod y_C_join ∈ vv_wds := List.mem_filter.mpr ⟨List.mem_of_getElem? (i := 473) rfl, rfl⟩
set_option maxRecDepth 20000 in
theorem tw_474 : Cond.selects "CustomerNotices" y_C_join y_C_join ∈ vv_wds := List.mem_filter.mpr ⟨List.mem_of_getElem? (i := 474) rfl, rfl⟩
set_option maxRecDepth 20000 in
theorem tw_475 : Cond.code y_C_join b_C_join 3 (some FieldType.int) ∈ vv_wds := List.mem_filter.mpr ⟨List.mem_of_getElem? (i := 475) rfl, rfl⟩
set_option maxRecDepth 20000 in
theorem tw_476 : Cond.constantLong "CustomerNotices" 214 1440 ∈ vv_wds := List.mem_filter.mpr ⟨List.mem_of_getElem? (i := 476) rfl, rfl⟩
set_option maxRecDepth 20000 in
theorem tw_477 : Cond.classLink "CustomerNoticesLaw" 10 "CustomerNoticesModel" ∈ vv_wds := List.mem_filter.mpr ⟨List.mem_of_getElem? (i := 477) rfl, rfl⟩
set_option maxRecDepth 20000 in
theorem tw_478 : Cond.instantiable "CustomerNoticesModel" 32 ∈ vv_wds := List.mem_filter.mpr ⟨List.mem_of_getElem? (i := 478) rfl, rfl⟩
set_option maxRecDepth 20000 in
theorem tw_479 : Cond.methodLink "CustomerNoticesLaw" 12 y_M_init ∈ vv_wds := List.mem_filter.mpr ⟨List.mem_of_getElem? (i := 479) rfl, rfl⟩
set_option maxRecDepth 20000 in
theorem tw_480 : Cond.instanceMethod y_M_init ∈ vv_wds := List.mem_filter.mpr ⟨List.mem_of_getElem? (i := 480) rfl, rfl⟩
set_option maxRecDepth 20000 in
theorem tw_481 : Cond.code y_M_init b_M_init 1 none ∈ vv_wds := List.mem_filter.mpr ⟨List.mem_of_getElem? (i := 481) rfl, rfl⟩
set_option maxRecDepth 20000 in
theorem tw_482 : Cond.methodLink "CustomerNoticesModel" 1 y_Oj_init ∈ vv_wds := List.mem_filter.mpr ⟨List.mem_of_getElem? (i := 482) rfl, rfl⟩
set_option maxRecDepth 20000 in
theorem tw_483 : Cond.fieldLink "CustomerNoticesModel" 95 "CustomerNoticesModel" "clock" "J" ∈ vv_wds := List.mem_filter.mpr ⟨List.mem_of_getElem? (i := 483) rfl, rfl⟩
set_option maxRecDepth 20000 in
theorem tw_484 : Cond.fieldLink "CustomerNoticesModel" 149 "CustomerNoticesModel" "joined" "I" ∈ vv_wds := List.mem_filter.mpr ⟨List.mem_of_getElem? (i := 484) rfl, rfl⟩
set_option maxRecDepth 20000 in
theorem tw_485 : Cond.fieldLink "CustomerNoticesModel" 7 "CustomerNoticesModel" "broken" "[Z" ∈ vv_wds := List.mem_filter.mpr ⟨List.mem_of_getElem? (i := 485) rfl, rfl⟩
set_option maxRecDepth 20000 in
theorem tw_486 : Cond.fieldLink "CustomerNoticesModel" 87 "CustomerNoticesModel" "customers" "I" ∈ vv_wds := List.mem_filter.mpr ⟨List.mem_of_getElem? (i := 486) rfl, rfl⟩
set_option maxRecDepth 20000 in
theorem tw_487 : Cond.fieldLink "CustomerNoticesModel" 13 "CustomerNoticesModel" "languages" "[I" ∈ vv_wds := List.mem_filter.mpr ⟨List.mem_of_getElem? (i := 487) rfl, rfl⟩
set_option maxRecDepth 20000 in
theorem tw_488 : Cond.fieldLink "CustomerNoticesModel" 17 "CustomerNoticesModel" "zones" "[I" ∈ vv_wds := List.mem_filter.mpr ⟨List.mem_of_getElem? (i := 488) rfl, rfl⟩
set_option maxRecDepth 20000 in
theorem tw_489 : Cond.fieldLink "CustomerNoticesModel" 20 "CustomerNoticesModel" "quietFrom" "[I" ∈ vv_wds := List.mem_filter.mpr ⟨List.mem_of_getElem? (i := 489) rfl, rfl⟩
set_option maxRecDepth 20000 in
theorem tw_490 : Cond.fieldLink "CustomerNoticesModel" 23 "CustomerNoticesModel" "quietTo" "[I" ∈ vv_wds := List.mem_filter.mpr ⟨List.mem_of_getElem? (i := 490) rfl, rfl⟩
set_option maxRecDepth 20000 in
theorem tw_491 : Cond.fieldLink "CustomerNoticesModel" 26 "CustomerNoticesModel" "wishes" "[I" ∈ vv_wds := List.mem_filter.mpr ⟨List.mem_of_getElem? (i := 491) rfl, rfl⟩
set_option maxRecDepth 20000 in
theorem tw_492 : Cond.fieldLink "CustomerNoticesModel" 129 "CustomerNoticesModel" "notices" "I" ∈ vv_wds := List.mem_filter.mpr ⟨List.mem_of_getElem? (i := 492) rfl, rfl⟩
set_option maxRecDepth 20000 in
theorem tw_493 : Cond.fieldLink "CustomerNoticesModel" 29 "CustomerNoticesModel" "owner" "[I" ∈ vv_wds := List.mem_filter.mpr ⟨List.mem_of_getElem? (i := 493) rfl, rfl⟩
set_option maxRecDepth 20000 in
theorem tw_494 : Cond.fieldLink "CustomerNoticesModel" 32 "CustomerNoticesModel" "items" "[I" ∈ vv_wds := List.mem_filter.mpr ⟨List.mem_of_getElem? (i := 494) rfl, rfl⟩
set_option maxRecDepth 20000 in
theorem tw_495 : Cond.fieldLink "CustomerNoticesModel" 35 "CustomerNoticesModel" "kinds" "[I" ∈ vv_wds := List.mem_filter.mpr ⟨List.mem_of_getElem? (i := 495) rfl, rfl⟩
set_option maxRecDepth 20000 in
theorem tw_496 : Cond.fieldLink "CustomerNoticesModel" 38 "CustomerNoticesModel" "times" "[J" ∈ vv_wds := List.mem_filter.mpr ⟨List.mem_of_getElem? (i := 496) rfl, rfl⟩
set_option maxRecDepth 20000 in
theorem tw_497 : Cond.fieldLink "CustomerNoticesModel" 42 "CustomerNoticesModel" "promised" "[J" ∈ vv_wds := List.mem_filter.mpr ⟨List.mem_of_getElem? (i := 497) rfl, rfl⟩
set_option maxRecDepth 20000 in
theorem tw_498 : Cond.fieldLink "CustomerNoticesModel" 45 "CustomerNoticesModel" "states" "[I" ∈ vv_wds := List.mem_filter.mpr ⟨List.mem_of_getElem? (i := 498) rfl, rfl⟩
set_option maxRecDepth 20000 in
theorem tw_499 : Cond.fieldLink "CustomerNoticesModel" 48 "CustomerNoticesModel" "correction" "[Z" ∈ vv_wds := List.mem_filter.mpr ⟨List.mem_of_getElem? (i := 499) rfl, rfl⟩
set_option maxRecDepth 20000 in
theorem tw_500 : Cond.fieldLink "CustomerNoticesModel" 51 "CustomerNoticesModel" "corrected" "[Z" ∈ vv_wds := List.mem_filter.mpr ⟨List.mem_of_getElem? (i := 500) rfl, rfl⟩
set_option maxRecDepth 20000 in
theorem tw_501 : Cond.fieldLink "CustomerNoticesModel" 123 "CustomerNoticesModel" "pairs" "I" ∈ vv_wds := List.mem_filter.mpr ⟨List.mem_of_getElem? (i := 501) rfl, rfl⟩
set_option maxRecDepth 20000 in
theorem tw_502 : Cond.fieldLink "CustomerNoticesModel" 54 "CustomerNoticesModel" "pairCustomer" "[I" ∈ vv_wds := List.mem_filter.mpr ⟨List.mem_of_getElem? (i := 502) rfl, rfl⟩
set_option maxRecDepth 20000 in
theorem tw_503 : Cond.fieldLink "CustomerNoticesModel" 57 "CustomerNoticesModel" "pairItem" "[I" ∈ vv_wds := List.mem_filter.mpr ⟨List.mem_of_getElem? (i := 503) rfl, rfl⟩
set_option maxRecDepth 20000 in
theorem tw_504 : Cond.fieldLink "CustomerNoticesModel" 60 "CustomerNoticesModel" "ended" "[Z" ∈ vv_wds := List.mem_filter.mpr ⟨List.mem_of_getElem? (i := 504) rfl, rfl⟩
set_option maxRecDepth 20000 in
theorem tw_505 : Cond.fieldLink "CustomerNoticesModel" 63 "CustomerNoticesModel" "latest" "[I" ∈ vv_wds := List.mem_filter.mpr ⟨List.mem_of_getElem? (i := 505) rfl, rfl⟩
set_option maxRecDepth 20000 in
theorem tw_506 : Cond.fieldLink "CustomerNoticesModel" 167 "CustomerNoticesModel" "sentCount" "I" ∈ vv_wds := List.mem_filter.mpr ⟨List.mem_of_getElem? (i := 506) rfl, rfl⟩
set_option maxRecDepth 20000 in
theorem tw_507 : Cond.fieldLink "CustomerNoticesModel" 66 "CustomerNoticesModel" "sentNotice" "[I" ∈ vv_wds := List.mem_filter.mpr ⟨List.mem_of_getElem? (i := 507) rfl, rfl⟩
set_option maxRecDepth 20000 in
theorem tw_508 : Cond.fieldLink "CustomerNoticesModel" 69 "CustomerNoticesModel" "sentChannel" "[I" ∈ vv_wds := List.mem_filter.mpr ⟨List.mem_of_getElem? (i := 508) rfl, rfl⟩
set_option maxRecDepth 20000 in
theorem tw_509 : Cond.fieldLink "CustomerNoticesModel" 72 "CustomerNoticesModel" "sentMessage" "[I" ∈ vv_wds := List.mem_filter.mpr ⟨List.mem_of_getElem? (i := 509) rfl, rfl⟩
set_option maxRecDepth 20000 in
theorem tw_510 : Cond.fieldLink "CustomerNoticesModel" 75 "CustomerNoticesModel" "sentClock" "[J" ∈ vv_wds := List.mem_filter.mpr ⟨List.mem_of_getElem? (i := 510) rfl, rfl⟩
set_option maxRecDepth 20000 in
theorem tw_511 : Cond.fieldLink "CustomerNoticesModel" 164 "CustomerNoticesModel" "failedCount" "I" ∈ vv_wds := List.mem_filter.mpr ⟨List.mem_of_getElem? (i := 511) rfl, rfl⟩
set_option maxRecDepth 20000 in
theorem tw_512 : Cond.fieldLink "CustomerNoticesModel" 78 "CustomerNoticesModel" "failedNotice" "[I" ∈ vv_wds := List.mem_filter.mpr ⟨List.mem_of_getElem? (i := 512) rfl, rfl⟩
set_option maxRecDepth 20000 in
theorem tw_513 : Cond.fieldLink "CustomerNoticesModel" 81 "CustomerNoticesModel" "least" "[J" ∈ vv_wds := List.mem_filter.mpr ⟨List.mem_of_getElem? (i := 513) rfl, rfl⟩
set_option maxRecDepth 20000 in
theorem tw_514 : Cond.fieldLink "CustomerNoticesModel" 84 "CustomerNoticesModel" "firsts" "[I" ∈ vv_wds := List.mem_filter.mpr ⟨List.mem_of_getElem? (i := 514) rfl, rfl⟩
set_option maxRecDepth 20000 in
theorem tw_515 : Cond.lays "CustomerNoticesModel" "CustomerNoticesModel" "clock" "J" ∈ vv_wds := List.mem_filter.mpr ⟨List.mem_of_getElem? (i := 515) rfl, rfl⟩
set_option maxRecDepth 20000 in
theorem tw_517 : Cond.lays "CustomerNoticesModel" "CustomerNoticesModel" "joined" "I" ∈ vv_wds := List.mem_filter.mpr ⟨List.mem_of_getElem? (i := 517) rfl, rfl⟩
set_option maxRecDepth 20000 in
theorem tw_519 : Cond.laysFinal "CustomerNoticesModel" "CustomerNoticesModel" "broken" "[Z" ∈ vv_wds := List.mem_filter.mpr ⟨List.mem_of_getElem? (i := 519) rfl, rfl⟩
set_option maxRecDepth 20000 in
theorem tw_521 : Cond.lays "CustomerNoticesModel" "CustomerNoticesModel" "customers" "I" ∈ vv_wds := List.mem_filter.mpr ⟨List.mem_of_getElem? (i := 521) rfl, rfl⟩
set_option maxRecDepth 20000 in
theorem tw_523 : Cond.laysFinal "CustomerNoticesModel" "CustomerNoticesModel" "languages" "[I" ∈ vv_wds := List.mem_filter.mpr ⟨List.mem_of_getElem? (i := 523) rfl, rfl⟩
set_option maxRecDepth 20000 in
theorem tw_525 : Cond.laysFinal "CustomerNoticesModel" "CustomerNoticesModel" "zones" "[I" ∈ vv_wds := List.mem_filter.mpr ⟨List.mem_of_getElem? (i := 525) rfl, rfl⟩
set_option maxRecDepth 20000 in
theorem tw_527 : Cond.laysFinal "CustomerNoticesModel" "CustomerNoticesModel" "quietFrom" "[I" ∈ vv_wds := List.mem_filter.mpr ⟨List.mem_of_getElem? (i := 527) rfl, rfl⟩
set_option maxRecDepth 20000 in
theorem tw_529 : Cond.laysFinal "CustomerNoticesModel" "CustomerNoticesModel" "quietTo" "[I" ∈ vv_wds := List.mem_filter.mpr ⟨List.mem_of_getElem? (i := 529) rfl, rfl⟩
set_option maxRecDepth 20000 in
theorem tw_531 : Cond.laysFinal "CustomerNoticesModel" "CustomerNoticesModel" "wishes" "[I" ∈ vv_wds := List.mem_filter.mpr ⟨List.mem_of_getElem? (i := 531) rfl, rfl⟩
set_option maxRecDepth 20000 in
theorem tw_533 : Cond.lays "CustomerNoticesModel" "CustomerNoticesModel" "notices" "I" ∈ vv_wds := List.mem_filter.mpr ⟨List.mem_of_getElem? (i := 533) rfl, rfl⟩
set_option maxRecDepth 20000 in
theorem tw_535 : Cond.laysFinal "CustomerNoticesModel" "CustomerNoticesModel" "owner" "[I" ∈ vv_wds := List.mem_filter.mpr ⟨List.mem_of_getElem? (i := 535) rfl, rfl⟩
set_option maxRecDepth 20000 in
theorem tw_537 : Cond.laysFinal "CustomerNoticesModel" "CustomerNoticesModel" "items" "[I" ∈ vv_wds := List.mem_filter.mpr ⟨List.mem_of_getElem? (i := 537) rfl, rfl⟩
set_option maxRecDepth 20000 in
theorem tw_539 : Cond.laysFinal "CustomerNoticesModel" "CustomerNoticesModel" "kinds" "[I" ∈ vv_wds := List.mem_filter.mpr ⟨List.mem_of_getElem? (i := 539) rfl, rfl⟩
set_option maxRecDepth 20000 in
theorem tw_541 : Cond.laysFinal "CustomerNoticesModel" "CustomerNoticesModel" "times" "[J" ∈ vv_wds := List.mem_filter.mpr ⟨List.mem_of_getElem? (i := 541) rfl, rfl⟩
set_option maxRecDepth 20000 in
theorem tw_543 : Cond.laysFinal "CustomerNoticesModel" "CustomerNoticesModel" "promised" "[J" ∈ vv_wds := List.mem_filter.mpr ⟨List.mem_of_getElem? (i := 543) rfl, rfl⟩
set_option maxRecDepth 20000 in
theorem tw_545 : Cond.laysFinal "CustomerNoticesModel" "CustomerNoticesModel" "states" "[I" ∈ vv_wds := List.mem_filter.mpr ⟨List.mem_of_getElem? (i := 545) rfl, rfl⟩
set_option maxRecDepth 20000 in
theorem tw_547 : Cond.laysFinal "CustomerNoticesModel" "CustomerNoticesModel" "correction" "[Z" ∈ vv_wds := List.mem_filter.mpr ⟨List.mem_of_getElem? (i := 547) rfl, rfl⟩
set_option maxRecDepth 20000 in
theorem tw_549 : Cond.laysFinal "CustomerNoticesModel" "CustomerNoticesModel" "corrected" "[Z" ∈ vv_wds := List.mem_filter.mpr ⟨List.mem_of_getElem? (i := 549) rfl, rfl⟩
set_option maxRecDepth 20000 in
theorem tw_551 : Cond.lays "CustomerNoticesModel" "CustomerNoticesModel" "pairs" "I" ∈ vv_wds := List.mem_filter.mpr ⟨List.mem_of_getElem? (i := 551) rfl, rfl⟩
set_option maxRecDepth 20000 in
theorem tw_553 : Cond.laysFinal "CustomerNoticesModel" "CustomerNoticesModel" "pairCustomer" "[I" ∈ vv_wds := List.mem_filter.mpr ⟨List.mem_of_getElem? (i := 553) rfl, rfl⟩
set_option maxRecDepth 20000 in
theorem tw_555 : Cond.laysFinal "CustomerNoticesModel" "CustomerNoticesModel" "pairItem" "[I" ∈ vv_wds := List.mem_filter.mpr ⟨List.mem_of_getElem? (i := 555) rfl, rfl⟩
set_option maxRecDepth 20000 in
theorem tw_557 : Cond.laysFinal "CustomerNoticesModel" "CustomerNoticesModel" "ended" "[Z" ∈ vv_wds := List.mem_filter.mpr ⟨List.mem_of_getElem? (i := 557) rfl, rfl⟩
set_option maxRecDepth 20000 in
theorem tw_559 : Cond.laysFinal "CustomerNoticesModel" "CustomerNoticesModel" "latest" "[I" ∈ vv_wds := List.mem_filter.mpr ⟨List.mem_of_getElem? (i := 559) rfl, rfl⟩
set_option maxRecDepth 20000 in
theorem tw_561 : Cond.lays "CustomerNoticesModel" "CustomerNoticesModel" "sentCount" "I" ∈ vv_wds := List.mem_filter.mpr ⟨List.mem_of_getElem? (i := 561) rfl, rfl⟩
set_option maxRecDepth 20000 in
theorem tw_563 : Cond.laysFinal "CustomerNoticesModel" "CustomerNoticesModel" "sentNotice" "[I" ∈ vv_wds := List.mem_filter.mpr ⟨List.mem_of_getElem? (i := 563) rfl, rfl⟩
set_option maxRecDepth 20000 in
theorem tw_565 : Cond.laysFinal "CustomerNoticesModel" "CustomerNoticesModel" "sentChannel" "[I" ∈ vv_wds := List.mem_filter.mpr ⟨List.mem_of_getElem? (i := 565) rfl, rfl⟩
set_option maxRecDepth 20000 in
theorem tw_567 : Cond.laysFinal "CustomerNoticesModel" "CustomerNoticesModel" "sentMessage" "[I" ∈ vv_wds := List.mem_filter.mpr ⟨List.mem_of_getElem? (i := 567) rfl, rfl⟩
set_option maxRecDepth 20000 in
theorem tw_569 : Cond.laysFinal "CustomerNoticesModel" "CustomerNoticesModel" "sentClock" "[J" ∈ vv_wds := List.mem_filter.mpr ⟨List.mem_of_getElem? (i := 569) rfl, rfl⟩
set_option maxRecDepth 20000 in
theorem tw_571 : Cond.lays "CustomerNoticesModel" "CustomerNoticesModel" "failedCount" "I" ∈ vv_wds := List.mem_filter.mpr ⟨List.mem_of_getElem? (i := 571) rfl, rfl⟩
set_option maxRecDepth 20000 in
theorem tw_573 : Cond.laysFinal "CustomerNoticesModel" "CustomerNoticesModel" "failedNotice" "[I" ∈ vv_wds := List.mem_filter.mpr ⟨List.mem_of_getElem? (i := 573) rfl, rfl⟩
set_option maxRecDepth 20000 in
theorem tw_575 : Cond.laysFinal "CustomerNoticesModel" "CustomerNoticesModel" "least" "[J" ∈ vv_wds := List.mem_filter.mpr ⟨List.mem_of_getElem? (i := 575) rfl, rfl⟩
set_option maxRecDepth 20000 in
theorem tw_577 : Cond.laysFinal "CustomerNoticesModel" "CustomerNoticesModel" "firsts" "[I" ∈ vv_wds := List.mem_filter.mpr ⟨List.mem_of_getElem? (i := 577) rfl, rfl⟩
set_option maxRecDepth 20000 in
theorem tw_581 : Cond.methodLink "CustomerNoticesLaw" 17 y_M_customer ∈ vv_wds := List.mem_filter.mpr ⟨List.mem_of_getElem? (i := 581) rfl, rfl⟩
set_option maxRecDepth 20000 in
theorem tw_582 : Cond.instanceMethod y_M_customer ∈ vv_wds := List.mem_filter.mpr ⟨List.mem_of_getElem? (i := 582) rfl, rfl⟩
set_option maxRecDepth 20000 in
theorem tw_583 : Cond.selects "CustomerNoticesModel" y_M_customer y_M_customer ∈ vv_wds := List.mem_filter.mpr ⟨List.mem_of_getElem? (i := 583) rfl, rfl⟩
set_option maxRecDepth 20000 in
theorem tw_584 : Cond.code y_M_customer b_M_customer 3 (some FieldType.int) ∈ vv_wds := List.mem_filter.mpr ⟨List.mem_of_getElem? (i := 584) rfl, rfl⟩
set_option maxRecDepth 20000 in
theorem tw_585 : Cond.constantLong "CustomerNoticesModel" 101 9 ∈ vv_wds := List.mem_filter.mpr ⟨List.mem_of_getElem? (i := 585) rfl, rfl⟩
set_option maxRecDepth 20000 in
theorem tw_586 : Cond.methodLink "CustomerNoticesModel" 91 y_M_isIn ∈ vv_wds := List.mem_filter.mpr ⟨List.mem_of_getElem? (i := 586) rfl, rfl⟩
set_option maxRecDepth 20000 in
theorem tw_587 : Cond.static y_M_isIn ∈ vv_wds := List.mem_filter.mpr ⟨List.mem_of_getElem? (i := 587) rfl, rfl⟩
set_option maxRecDepth 20000 in
theorem tw_588 : Cond.code y_M_isIn b_M_isIn 6 (some FieldType.boolean) ∈ vv_wds := List.mem_filter.mpr ⟨List.mem_of_getElem? (i := 588) rfl, rfl⟩
set_option maxRecDepth 20000 in
theorem tw_589 : Cond.constantLong "CustomerNoticesModel" 103 (-12) ∈ vv_wds := List.mem_filter.mpr ⟨List.mem_of_getElem? (i := 589) rfl, rfl⟩
set_option maxRecDepth 20000 in
theorem tw_590 : Cond.constantLong "CustomerNoticesModel" 105 14 ∈ vv_wds := List.mem_filter.mpr ⟨List.mem_of_getElem? (i := 590) rfl, rfl⟩
set_option maxRecDepth 20000 in
theorem tw_591 : Cond.methodLink "CustomerNoticesLaw" 22 y_M_wish ∈ vv_wds := List.mem_filter.mpr ⟨List.mem_of_getElem? (i := 591) rfl, rfl⟩
set_option maxRecDepth 20000 in
theorem tw_592 : Cond.instanceMethod y_M_wish ∈ vv_wds := List.mem_filter.mpr ⟨List.mem_of_getElem? (i := 592) rfl, rfl⟩
set_option maxRecDepth 20000 in
theorem tw_593 : Cond.selects "CustomerNoticesModel" y_M_wish y_M_wish ∈ vv_wds := List.mem_filter.mpr ⟨List.mem_of_getElem? (i := 593) rfl, rfl⟩
set_option maxRecDepth 20000 in
theorem tw_594 : Cond.code y_M_wish b_M_wish 5 (some FieldType.int) ∈ vv_wds := List.mem_filter.mpr ⟨List.mem_of_getElem? (i := 594) rfl, rfl⟩
set_option maxRecDepth 20000 in
theorem tw_595 : Cond.methodLink "CustomerNoticesModel" 107 y_M_isCustomer ∈ vv_wds := List.mem_filter.mpr ⟨List.mem_of_getElem? (i := 595) rfl, rfl⟩
set_option maxRecDepth 20000 in
theorem tw_597 : Cond.instanceMethod y_M_isCustomer ∈ vv_wds := List.mem_filter.mpr ⟨List.mem_of_getElem? (i := 597) rfl, rfl⟩
set_option maxRecDepth 20000 in
theorem tw_598 : Cond.code y_M_isCustomer b_M_isCustomer 2 (some FieldType.boolean) ∈ vv_wds := List.mem_filter.mpr ⟨List.mem_of_getElem? (i := 598) rfl, rfl⟩
set_option maxRecDepth 20000 in
theorem tw_599 : Cond.constantLong "CustomerNoticesModel" 111 7 ∈ vv_wds := List.mem_filter.mpr ⟨List.mem_of_getElem? (i := 599) rfl, rfl⟩
set_option maxRecDepth 20000 in
theorem tw_600 : Cond.constantLong "CustomerNoticesModel" 113 3 ∈ vv_wds := List.mem_filter.mpr ⟨List.mem_of_getElem? (i := 600) rfl, rfl⟩
set_option maxRecDepth 20000 in
theorem tw_601 : Cond.methodLink "CustomerNoticesModel" 115 y_M_wished ∈ vv_wds := List.mem_filter.mpr ⟨List.mem_of_getElem? (i := 601) rfl, rfl⟩
set_option maxRecDepth 20000 in
theorem tw_603 : Cond.instanceMethod y_M_wished ∈ vv_wds := List.mem_filter.mpr ⟨List.mem_of_getElem? (i := 603) rfl, rfl⟩
set_option maxRecDepth 20000 in
theorem tw_604 : Cond.code y_M_wished b_M_wished 5 (some FieldType.int) ∈ vv_wds := List.mem_filter.mpr ⟨List.mem_of_getElem? (i := 604) rfl, rfl⟩
set_option maxRecDepth 20000 in
theorem tw_605 : Cond.methodLink "CustomerNoticesLaw" 27 y_M_quiet ∈ vv_wds := List.mem_filter.mpr ⟨List.mem_of_getElem? (i := 605) rfl, rfl⟩
set_option maxRecDepth 20000 in
theorem tw_606 : Cond.instanceMethod y_M_quiet ∈ vv_wds := List.mem_filter.mpr ⟨List.mem_of_getElem? (i := 606) rfl, rfl⟩
set_option maxRecDepth 20000 in
theorem tw_607 : Cond.selects "CustomerNoticesModel" y_M_quiet y_M_quiet ∈ vv_wds := List.mem_filter.mpr ⟨List.mem_of_getElem? (i := 607) rfl, rfl⟩
set_option maxRecDepth 20000 in
theorem tw_608 : Cond.code y_M_quiet b_M_quiet 4 (some FieldType.int) ∈ vv_wds := List.mem_filter.mpr ⟨List.mem_of_getElem? (i := 608) rfl, rfl⟩
set_option maxRecDepth 20000 in
theorem tw_609 : Cond.constantLong "CustomerNoticesModel" 119 1439 ∈ vv_wds := List.mem_filter.mpr ⟨List.mem_of_getElem? (i := 609) rfl, rfl⟩
set_option maxRecDepth 20000 in
theorem tw_610 : Cond.methodLink "CustomerNoticesLaw" 34 y_M_event ∈ vv_wds := List.mem_filter.mpr ⟨List.mem_of_getElem? (i := 610) rfl, rfl⟩
set_option maxRecDepth 20000 in
theorem tw_611 : Cond.instanceMethod y_M_event ∈ vv_wds := List.mem_filter.mpr ⟨List.mem_of_getElem? (i := 611) rfl, rfl⟩
set_option maxRecDepth 20000 in
theorem tw_612 : Cond.selects "CustomerNoticesModel" y_M_event y_M_event ∈ vv_wds := List.mem_filter.mpr ⟨List.mem_of_getElem? (i := 612) rfl, rfl⟩
set_option maxRecDepth 20000 in
theorem tw_613 : Cond.code y_M_event b_M_event 9 (some FieldType.int) ∈ vv_wds := List.mem_filter.mpr ⟨List.mem_of_getElem? (i := 613) rfl, rfl⟩
set_option maxRecDepth 20000 in
theorem tw_614 : Cond.constantLong "CustomerNoticesModel" 132 9999 ∈ vv_wds := List.mem_filter.mpr ⟨List.mem_of_getElem? (i := 614) rfl, rfl⟩
set_option maxRecDepth 20000 in
theorem tw_615 : Cond.methodLink "CustomerNoticesModel" 134 y_M_isTime ∈ vv_wds := List.mem_filter.mpr ⟨List.mem_of_getElem? (i := 615) rfl, rfl⟩
set_option maxRecDepth 20000 in
theorem tw_617 : Cond.instanceMethod y_M_isTime ∈ vv_wds := List.mem_filter.mpr ⟨List.mem_of_getElem? (i := 617) rfl, rfl⟩
set_option maxRecDepth 20000 in
theorem tw_618 : Cond.code y_M_isTime b_M_isTime 3 (some FieldType.boolean) ∈ vv_wds := List.mem_filter.mpr ⟨List.mem_of_getElem? (i := 618) rfl, rfl⟩
set_option maxRecDepth 20000 in
theorem tw_619 : Cond.constantLong "CustomerNoticesModel" 99 1000000000 ∈ vv_wds := List.mem_filter.mpr ⟨List.mem_of_getElem? (i := 619) rfl, rfl⟩
set_option maxRecDepth 20000 in
theorem tw_620 : Cond.methodLink "CustomerNoticesModel" 126 y_M_pairOf ∈ vv_wds := List.mem_filter.mpr ⟨List.mem_of_getElem? (i := 620) rfl, rfl⟩
set_option maxRecDepth 20000 in
theorem tw_622 : Cond.instanceMethod y_M_pairOf ∈ vv_wds := List.mem_filter.mpr ⟨List.mem_of_getElem? (i := 622) rfl, rfl⟩
set_option maxRecDepth 20000 in
theorem tw_623 : Cond.code y_M_pairOf b_M_pairOf 5 (some FieldType.int) ∈ vv_wds := List.mem_filter.mpr ⟨List.mem_of_getElem? (i := 623) rfl, rfl⟩
set_option maxRecDepth 20000 in
theorem tw_624 : Cond.methodLink "CustomerNoticesModel" 138 y_M_keep ∈ vv_wds := List.mem_filter.mpr ⟨List.mem_of_getElem? (i := 624) rfl, rfl⟩
set_option maxRecDepth 20000 in
theorem tw_626 : Cond.instanceMethod y_M_keep ∈ vv_wds := List.mem_filter.mpr ⟨List.mem_of_getElem? (i := 626) rfl, rfl⟩
set_option maxRecDepth 20000 in
theorem tw_627 : Cond.code y_M_keep b_M_keep 4 (some FieldType.int) ∈ vv_wds := List.mem_filter.mpr ⟨List.mem_of_getElem? (i := 627) rfl, rfl⟩
set_option maxRecDepth 20000 in
theorem tw_628 : Cond.constantLong "CustomerNoticesModel" 141 (-1) ∈ vv_wds := List.mem_filter.mpr ⟨List.mem_of_getElem? (i := 628) rfl, rfl⟩
set_option maxRecDepth 20000 in
theorem tw_629 : Cond.methodLink "CustomerNoticesModel" 143 y_M_put ∈ vv_wds := List.mem_filter.mpr ⟨List.mem_of_getElem? (i := 629) rfl, rfl⟩
set_option maxRecDepth 20000 in
theorem tw_631 : Cond.instanceMethod y_M_put ∈ vv_wds := List.mem_filter.mpr ⟨List.mem_of_getElem? (i := 631) rfl, rfl⟩
set_option maxRecDepth 20000 in
theorem tw_632 : Cond.code y_M_put b_M_put 9 (some FieldType.int) ∈ vv_wds := List.mem_filter.mpr ⟨List.mem_of_getElem? (i := 632) rfl, rfl⟩
set_option maxRecDepth 20000 in
theorem tw_633 : Cond.methodLink "CustomerNoticesLaw" 39 y_M_promise ∈ vv_wds := List.mem_filter.mpr ⟨List.mem_of_getElem? (i := 633) rfl, rfl⟩
set_option maxRecDepth 20000 in
theorem tw_634 : Cond.instanceMethod y_M_promise ∈ vv_wds := List.mem_filter.mpr ⟨List.mem_of_getElem? (i := 634) rfl, rfl⟩
set_option maxRecDepth 20000 in
theorem tw_635 : Cond.selects "CustomerNoticesModel" y_M_promise y_M_promise ∈ vv_wds := List.mem_filter.mpr ⟨List.mem_of_getElem? (i := 635) rfl, rfl⟩
set_option maxRecDepth 20000 in
theorem tw_636 : Cond.code y_M_promise b_M_promise 11 (some FieldType.int) ∈ vv_wds := List.mem_filter.mpr ⟨List.mem_of_getElem? (i := 636) rfl, rfl⟩
set_option maxRecDepth 20000 in
theorem tw_637 : Cond.constantLong "CustomerNoticesModel" 147 1000000 ∈ vv_wds := List.mem_filter.mpr ⟨List.mem_of_getElem? (i := 637) rfl, rfl⟩
set_option maxRecDepth 20000 in
theorem tw_638 : Cond.methodLink "CustomerNoticesLaw" 44 y_M_tick ∈ vv_wds := List.mem_filter.mpr ⟨List.mem_of_getElem? (i := 638) rfl, rfl⟩
set_option maxRecDepth 20000 in
theorem tw_639 : Cond.instanceMethod y_M_tick ∈ vv_wds := List.mem_filter.mpr ⟨List.mem_of_getElem? (i := 639) rfl, rfl⟩
set_option maxRecDepth 20000 in
theorem tw_640 : Cond.selects "CustomerNoticesModel" y_M_tick y_M_tick ∈ vv_wds := List.mem_filter.mpr ⟨List.mem_of_getElem? (i := 640) rfl, rfl⟩
set_option maxRecDepth 20000 in
theorem tw_641 : Cond.code y_M_tick b_M_tick 6 (some FieldType.int) ∈ vv_wds := List.mem_filter.mpr ⟨List.mem_of_getElem? (i := 641) rfl, rfl⟩
set_option maxRecDepth 20000 in
theorem tw_642 : Cond.constantLong "CustomerNoticesModel" 155 1000000001 ∈ vv_wds := List.mem_filter.mpr ⟨List.mem_of_getElem? (i := 642) rfl, rfl⟩
set_option maxRecDepth 20000 in
theorem tw_643 : Cond.methodLink "CustomerNoticesModel" 157 y_M_isDue ∈ vv_wds := List.mem_filter.mpr ⟨List.mem_of_getElem? (i := 643) rfl, rfl⟩
set_option maxRecDepth 20000 in
theorem tw_645 : Cond.instanceMethod y_M_isDue ∈ vv_wds := List.mem_filter.mpr ⟨List.mem_of_getElem? (i := 645) rfl, rfl⟩
set_option maxRecDepth 20000 in
theorem tw_646 : Cond.code y_M_isDue b_M_isDue 4 (some FieldType.boolean) ∈ vv_wds := List.mem_filter.mpr ⟨List.mem_of_getElem? (i := 646) rfl, rfl⟩
set_option maxRecDepth 20000 in
theorem tw_647 : Cond.methodLink "CustomerNoticesModel" 152 y_M_isQuiet ∈ vv_wds := List.mem_filter.mpr ⟨List.mem_of_getElem? (i := 647) rfl, rfl⟩
set_option maxRecDepth 20000 in
theorem tw_649 : Cond.instanceMethod y_M_isQuiet ∈ vv_wds := List.mem_filter.mpr ⟨List.mem_of_getElem? (i := 649) rfl, rfl⟩
set_option maxRecDepth 20000 in
theorem tw_650 : Cond.code y_M_isQuiet b_M_isQuiet 5 (some FieldType.boolean) ∈ vv_wds := List.mem_filter.mpr ⟨List.mem_of_getElem? (i := 650) rfl, rfl⟩
set_option maxRecDepth 20000 in
theorem tw_651 : Cond.constantLong "CustomerNoticesModel" 121 1440 ∈ vv_wds := List.mem_filter.mpr ⟨List.mem_of_getElem? (i := 651) rfl, rfl⟩
set_option maxRecDepth 20000 in
theorem tw_652 : Cond.methodLink "CustomerNoticesModel" 160 y_M_channelOf ∈ vv_wds := List.mem_filter.mpr ⟨List.mem_of_getElem? (i := 652) rfl, rfl⟩
set_option maxRecDepth 20000 in
theorem tw_654 : Cond.instanceMethod y_M_channelOf ∈ vv_wds := List.mem_filter.mpr ⟨List.mem_of_getElem? (i := 654) rfl, rfl⟩
set_option maxRecDepth 20000 in
theorem tw_655 : Cond.code y_M_channelOf b_M_channelOf 6 (some FieldType.int) ∈ vv_wds := List.mem_filter.mpr ⟨List.mem_of_getElem? (i := 655) rfl, rfl⟩
set_option maxRecDepth 20000 in
theorem tw_656 : Cond.methodLink "CustomerNoticesLaw" 48 y_M_sent ∈ vv_wds := List.mem_filter.mpr ⟨List.mem_of_getElem? (i := 656) rfl, rfl⟩
set_option maxRecDepth 20000 in
theorem tw_657 : Cond.instanceMethod y_M_sent ∈ vv_wds := List.mem_filter.mpr ⟨List.mem_of_getElem? (i := 657) rfl, rfl⟩
set_option maxRecDepth 20000 in
theorem tw_658 : Cond.selects "CustomerNoticesModel" y_M_sent y_M_sent ∈ vv_wds := List.mem_filter.mpr ⟨List.mem_of_getElem? (i := 658) rfl, rfl⟩
set_option maxRecDepth 20000 in
theorem tw_659 : Cond.code y_M_sent b_M_sent 4 (some FieldType.int) ∈ vv_wds := List.mem_filter.mpr ⟨List.mem_of_getElem? (i := 659) rfl, rfl⟩
set_option maxRecDepth 20000 in
theorem tw_660 : Cond.constantLong "CustomerNoticesModel" 170 8 ∈ vv_wds := List.mem_filter.mpr ⟨List.mem_of_getElem? (i := 660) rfl, rfl⟩
set_option maxRecDepth 20000 in
theorem tw_661 : Cond.methodLink "CustomerNoticesLaw" 53 y_M_works ∈ vv_wds := List.mem_filter.mpr ⟨List.mem_of_getElem? (i := 661) rfl, rfl⟩
set_option maxRecDepth 20000 in
theorem tw_662 : Cond.instanceMethod y_M_works ∈ vv_wds := List.mem_filter.mpr ⟨List.mem_of_getElem? (i := 662) rfl, rfl⟩
set_option maxRecDepth 20000 in
theorem tw_663 : Cond.selects "CustomerNoticesModel" y_M_works y_M_works ∈ vv_wds := List.mem_filter.mpr ⟨List.mem_of_getElem? (i := 663) rfl, rfl⟩
set_option maxRecDepth 20000 in
theorem tw_664 : Cond.code y_M_works b_M_works 4 (some FieldType.boolean) ∈ vv_wds := List.mem_filter.mpr ⟨List.mem_of_getElem? (i := 664) rfl, rfl⟩
set_option maxRecDepth 20000 in
theorem tw_665 : Cond.methodLink "CustomerNoticesLaw" 57 y_M_out ∈ vv_wds := List.mem_filter.mpr ⟨List.mem_of_getElem? (i := 665) rfl, rfl⟩
set_option maxRecDepth 20000 in
theorem tw_666 : Cond.instanceMethod y_M_out ∈ vv_wds := List.mem_filter.mpr ⟨List.mem_of_getElem? (i := 666) rfl, rfl⟩
set_option maxRecDepth 20000 in
theorem tw_667 : Cond.selects "CustomerNoticesModel" y_M_out y_M_out ∈ vv_wds := List.mem_filter.mpr ⟨List.mem_of_getElem? (i := 667) rfl, rfl⟩
set_option maxRecDepth 20000 in
theorem tw_668 : Cond.code y_M_out b_M_out 5 (some FieldType.int) ∈ vv_wds := List.mem_filter.mpr ⟨List.mem_of_getElem? (i := 668) rfl, rfl⟩
set_option maxRecDepth 20000 in
theorem tw_669 : Cond.methodLink "CustomerNoticesLaw" 62 y_M_failed ∈ vv_wds := List.mem_filter.mpr ⟨List.mem_of_getElem? (i := 669) rfl, rfl⟩
set_option maxRecDepth 20000 in
theorem tw_670 : Cond.instanceMethod y_M_failed ∈ vv_wds := List.mem_filter.mpr ⟨List.mem_of_getElem? (i := 670) rfl, rfl⟩
set_option maxRecDepth 20000 in
theorem tw_671 : Cond.selects "CustomerNoticesModel" y_M_failed y_M_failed ∈ vv_wds := List.mem_filter.mpr ⟨List.mem_of_getElem? (i := 671) rfl, rfl⟩
set_option maxRecDepth 20000 in
theorem tw_672 : Cond.code y_M_failed b_M_failed 2 (some FieldType.int) ∈ vv_wds := List.mem_filter.mpr ⟨List.mem_of_getElem? (i := 672) rfl, rfl⟩
set_option maxRecDepth 20000 in
theorem tw_673 : Cond.methodLink "CustomerNoticesLaw" 67 y_M_correct ∈ vv_wds := List.mem_filter.mpr ⟨List.mem_of_getElem? (i := 673) rfl, rfl⟩
set_option maxRecDepth 20000 in
theorem tw_674 : Cond.instanceMethod y_M_correct ∈ vv_wds := List.mem_filter.mpr ⟨List.mem_of_getElem? (i := 674) rfl, rfl⟩
set_option maxRecDepth 20000 in
theorem tw_675 : Cond.selects "CustomerNoticesModel" y_M_correct y_M_correct ∈ vv_wds := List.mem_filter.mpr ⟨List.mem_of_getElem? (i := 675) rfl, rfl⟩
set_option maxRecDepth 20000 in
theorem tw_676 : Cond.code y_M_correct b_M_correct 5 (some FieldType.int) ∈ vv_wds := List.mem_filter.mpr ⟨List.mem_of_getElem? (i := 676) rfl, rfl⟩
set_option maxRecDepth 20000 in
theorem tw_677 : Cond.methodLink "CustomerNoticesModel" 172 y_M_undo ∈ vv_wds := List.mem_filter.mpr ⟨List.mem_of_getElem? (i := 677) rfl, rfl⟩
set_option maxRecDepth 20000 in
theorem tw_679 : Cond.instanceMethod y_M_undo ∈ vv_wds := List.mem_filter.mpr ⟨List.mem_of_getElem? (i := 679) rfl, rfl⟩
set_option maxRecDepth 20000 in
theorem tw_680 : Cond.code y_M_undo b_M_undo 2 none ∈ vv_wds := List.mem_filter.mpr ⟨List.mem_of_getElem? (i := 680) rfl, rfl⟩
set_option maxRecDepth 20000 in
theorem tw_681 : Cond.methodLink "CustomerNoticesLaw" 71 y_M_join ∈ vv_wds := List.mem_filter.mpr ⟨List.mem_of_getElem? (i := 681) rfl, rfl⟩
set_option maxRecDepth 20000 in
theorem tw_682 : Cond.instanceMethod y_M_join ∈ vv_wds := List.mem_filter.mpr ⟨List.mem_of_getElem? (i := 682) rfl, rfl⟩
set_option maxRecDepth 20000 in
theorem tw_683 : Cond.selects "CustomerNoticesModel" y_M_join y_M_join ∈ vv_wds := List.mem_filter.mpr ⟨List.mem_of_getElem? (i := 683) rfl, rfl⟩
set_option maxRecDepth 20000 in
theorem tw_684 : Cond.code y_M_join b_M_join 3 (some FieldType.int) ∈ vv_wds := List.mem_filter.mpr ⟨List.mem_of_getElem? (i := 684) rfl, rfl⟩
set_option maxRecDepth 20000 in
theorem tw_685 : Cond.constantLong "CustomerNoticesLaw" 28 4294967295 ∈ vv_wds := List.mem_filter.mpr ⟨List.mem_of_getElem? (i := 685) rfl, rfl⟩
set_option maxRecDepth 20000 in
theorem tw_686 : Cond.castable "CustomerNotices$Customer" "CustomerNotices$Customer" ∈ vv_wds := List.mem_filter.mpr ⟨List.mem_of_getElem? (i := 686) rfl, rfl⟩
set_option maxRecDepth 20000 in
theorem tw_687 : Cond.castable "CustomerNotices$Item" "CustomerNotices$Item" ∈ vv_wds := List.mem_filter.mpr ⟨List.mem_of_getElem? (i := 687) rfl, rfl⟩
set_option maxRecDepth 20000 in
theorem tw_688 : Cond.castable "CustomerNotices$Notice" "CustomerNotices$Notice" ∈ vv_wds := List.mem_filter.mpr ⟨List.mem_of_getElem? (i := 688) rfl, rfl⟩
set_option maxRecDepth 20000 in
theorem tw_690 : Cond.selects "[Ljava/lang/Object;" (⟨"java/lang/Object", "getClass", "()Ljava/lang/Class;"⟩) (⟨"java/lang/Object", "getClass", "()Ljava/lang/Class;"⟩) ∈ vv_wds := List.mem_filter.mpr ⟨List.mem_of_getElem? (i := 690) rfl, rfl⟩
set_option maxRecDepth 20000 in
theorem tw_691 : Cond.declares (⟨"java/lang/Object", "getClass", "()Ljava/lang/Class;"⟩) ∈ vv_wds := List.mem_filter.mpr ⟨List.mem_of_getElem? (i := 691) rfl, rfl⟩
set_option maxRecDepth 20000 in
theorem tw_692 : Cond.castable "CustomerNotices" "java/lang/Object" ∈ vv_wds := List.mem_filter.mpr ⟨List.mem_of_getElem? (i := 692) rfl, rfl⟩
set_option maxRecDepth 20000 in
theorem tw_693 : Cond.castable "CustomerNoticesModel" "java/lang/Object" ∈ vv_wds := List.mem_filter.mpr ⟨List.mem_of_getElem? (i := 693) rfl, rfl⟩
set_option maxRecDepth 20000 in
theorem tw_694 : Cond.castable "CustomerNotices$Customer" "java/lang/Object" ∈ vv_wds := List.mem_filter.mpr ⟨List.mem_of_getElem? (i := 694) rfl, rfl⟩
set_option maxRecDepth 20000 in
theorem tw_695 : Cond.castable "CustomerNotices$Item" "java/lang/Object" ∈ vv_wds := List.mem_filter.mpr ⟨List.mem_of_getElem? (i := 695) rfl, rfl⟩
set_option maxRecDepth 20000 in
theorem tw_696 : Cond.castable "CustomerNotices$Notice" "java/lang/Object" ∈ vv_wds := List.mem_filter.mpr ⟨List.mem_of_getElem? (i := 696) rfl, rfl⟩
theorem k_K : vv_cl 0 "CustomerNotices$Customer" T_K 8 t_K := ⟨rfl, by decide, (show ∀ w ∈ [Cond.laysFinal "CustomerNotices$Customer" "CustomerNotices$Customer" "number" "I", Cond.laysFinal "CustomerNotices$Customer" "CustomerNotices$Customer" "language" "I", Cond.laysFinal "CustomerNotices$Customer" "CustomerNotices$Customer" "zone" "I", Cond.lays "CustomerNotices$Customer" "CustomerNotices$Customer" "quietFrom" "I", Cond.lays "CustomerNotices$Customer" "CustomerNotices$Customer" "quietUntil" "I", Cond.lays "CustomerNotices$Customer" "CustomerNotices$Customer" "leastWaitingTime" "J", Cond.lays "CustomerNotices$Customer" "CustomerNotices$Customer" "messageOfTick" "I", Cond.laysFinal "CustomerNotices$Customer" "CustomerNotices$Customer" "orders" "[I"], w ∈ vv_wds from List.forall_mem_cons.mpr ⟨tw_136, List.forall_mem_cons.mpr ⟨tw_138, List.forall_mem_cons.mpr ⟨tw_140, List.forall_mem_cons.mpr ⟨tw_142, List.forall_mem_cons.mpr ⟨tw_144, List.forall_mem_cons.mpr ⟨tw_146, List.forall_mem_cons.mpr ⟨tw_148, List.forall_mem_cons.mpr ⟨tw_150, fun _ h => absurd h List.not_mem_nil⟩⟩⟩⟩⟩⟩⟩⟩), by decide +kernel, by decide +kernel⟩
theorem k_I : vv_cl 1 "CustomerNotices$Item" T_I 4 t_I := ⟨rfl, by decide, (show ∀ w ∈ [Cond.laysFinal "CustomerNotices$Item" "CustomerNotices$Item" "customerNumber" "I", Cond.laysFinal "CustomerNotices$Item" "CustomerNotices$Item" "itemNumber" "I", Cond.lays "CustomerNotices$Item" "CustomerNotices$Item" "ended" "Z", Cond.lays "CustomerNotices$Item" "CustomerNotices$Item" "latestPromise" "LCustomerNotices$Notice;"], w ∈ vv_wds from List.forall_mem_cons.mpr ⟨tw_306, List.forall_mem_cons.mpr ⟨tw_308, List.forall_mem_cons.mpr ⟨tw_310, List.forall_mem_cons.mpr ⟨tw_312, fun _ h => absurd h List.not_mem_nil⟩⟩⟩⟩), by decide +kernel, by decide +kernel⟩
theorem k_N : vv_cl 2 "CustomerNotices$Notice" T_N 12 t_N := ⟨rfl, by decide, (show ∀ w ∈ [Cond.laysFinal "CustomerNotices$Notice" "CustomerNotices$Notice" "number" "I", Cond.laysFinal "CustomerNotices$Notice" "CustomerNotices$Notice" "owner" "LCustomerNotices$Customer;", Cond.laysFinal "CustomerNotices$Notice" "CustomerNotices$Notice" "item" "I", Cond.laysFinal "CustomerNotices$Notice" "CustomerNotices$Notice" "kind" "I", Cond.laysFinal "CustomerNotices$Notice" "CustomerNotices$Notice" "time" "J", Cond.lays "CustomerNotices$Notice" "CustomerNotices$Notice" "state" "I", Cond.lays "CustomerNotices$Notice" "CustomerNotices$Notice" "promisedTime" "J", Cond.lays "CustomerNotices$Notice" "CustomerNotices$Notice" "isCorrection" "Z", Cond.lays "CustomerNotices$Notice" "CustomerNotices$Notice" "corrected" "Z", Cond.lays "CustomerNotices$Notice" "CustomerNotices$Notice" "channel" "I", Cond.lays "CustomerNotices$Notice" "CustomerNotices$Notice" "message" "I", Cond.lays "CustomerNotices$Notice" "CustomerNotices$Notice" "sentTime" "J"], w ∈ vv_wds from List.forall_mem_cons.mpr ⟨tw_347, List.forall_mem_cons.mpr ⟨tw_349, List.forall_mem_cons.mpr ⟨tw_351, List.forall_mem_cons.mpr ⟨tw_353, List.forall_mem_cons.mpr ⟨tw_355, List.forall_mem_cons.mpr ⟨tw_357, List.forall_mem_cons.mpr ⟨tw_359, List.forall_mem_cons.mpr ⟨tw_361, List.forall_mem_cons.mpr ⟨tw_363, List.forall_mem_cons.mpr ⟨tw_365, List.forall_mem_cons.mpr ⟨tw_367, List.forall_mem_cons.mpr ⟨tw_369, fun _ h => absurd h List.not_mem_nil⟩⟩⟩⟩⟩⟩⟩⟩⟩⟩⟩⟩), by decide +kernel, by decide +kernel⟩
theorem k_C : vv_cl 3 "CustomerNotices" T_C 8 t_C := ⟨rfl, by decide, (show ∀ w ∈ [Cond.laysFinal "CustomerNotices" "CustomerNotices" "customers" "Ljava/util/ArrayList;", Cond.laysFinal "CustomerNotices" "CustomerNotices" "notices" "Ljava/util/ArrayList;", Cond.laysFinal "CustomerNotices" "CustomerNotices" "items" "Ljava/util/ArrayList;", Cond.laysFinal "CustomerNotices" "CustomerNotices" "sentNotices" "Ljava/util/ArrayList;", Cond.laysFinal "CustomerNotices" "CustomerNotices" "failedNotices" "Ljava/util/ArrayList;", Cond.laysFinal "CustomerNotices" "CustomerNotices" "channelWorks" "[Z", Cond.lays "CustomerNotices" "CustomerNotices" "clock" "J", Cond.lays "CustomerNotices" "CustomerNotices" "joinMinutes" "I"], w ∈ vv_wds from List.forall_mem_cons.mpr ⟨tw_86, List.forall_mem_cons.mpr ⟨tw_88, List.forall_mem_cons.mpr ⟨tw_90, List.forall_mem_cons.mpr ⟨tw_92, List.forall_mem_cons.mpr ⟨tw_94, List.forall_mem_cons.mpr ⟨tw_96, List.forall_mem_cons.mpr ⟨tw_98, List.forall_mem_cons.mpr ⟨tw_100, fun _ h => absurd h List.not_mem_nil⟩⟩⟩⟩⟩⟩⟩⟩), by decide +kernel, by decide +kernel⟩
theorem k_M : vv_cl 4 "CustomerNoticesModel" T_M 32 t_M := ⟨rfl, by decide, (show ∀ w ∈ [Cond.lays "CustomerNoticesModel" "CustomerNoticesModel" "clock" "J", Cond.lays "CustomerNoticesModel" "CustomerNoticesModel" "joined" "I", Cond.laysFinal "CustomerNoticesModel" "CustomerNoticesModel" "broken" "[Z", Cond.lays "CustomerNoticesModel" "CustomerNoticesModel" "customers" "I", Cond.laysFinal "CustomerNoticesModel" "CustomerNoticesModel" "languages" "[I", Cond.laysFinal "CustomerNoticesModel" "CustomerNoticesModel" "zones" "[I", Cond.laysFinal "CustomerNoticesModel" "CustomerNoticesModel" "quietFrom" "[I", Cond.laysFinal "CustomerNoticesModel" "CustomerNoticesModel" "quietTo" "[I", Cond.laysFinal "CustomerNoticesModel" "CustomerNoticesModel" "wishes" "[I", Cond.lays "CustomerNoticesModel" "CustomerNoticesModel" "notices" "I", Cond.laysFinal "CustomerNoticesModel" "CustomerNoticesModel" "owner" "[I", Cond.laysFinal "CustomerNoticesModel" "CustomerNoticesModel" "items" "[I", Cond.laysFinal "CustomerNoticesModel" "CustomerNoticesModel" "kinds" "[I", Cond.laysFinal "CustomerNoticesModel" "CustomerNoticesModel" "times" "[J", Cond.laysFinal "CustomerNoticesModel" "CustomerNoticesModel" "promised" "[J", Cond.laysFinal "CustomerNoticesModel" "CustomerNoticesModel" "states" "[I", Cond.laysFinal "CustomerNoticesModel" "CustomerNoticesModel" "correction" "[Z", Cond.laysFinal "CustomerNoticesModel" "CustomerNoticesModel" "corrected" "[Z", Cond.lays "CustomerNoticesModel" "CustomerNoticesModel" "pairs" "I", Cond.laysFinal "CustomerNoticesModel" "CustomerNoticesModel" "pairCustomer" "[I", Cond.laysFinal "CustomerNoticesModel" "CustomerNoticesModel" "pairItem" "[I", Cond.laysFinal "CustomerNoticesModel" "CustomerNoticesModel" "ended" "[Z", Cond.laysFinal "CustomerNoticesModel" "CustomerNoticesModel" "latest" "[I", Cond.lays "CustomerNoticesModel" "CustomerNoticesModel" "sentCount" "I", Cond.laysFinal "CustomerNoticesModel" "CustomerNoticesModel" "sentNotice" "[I", Cond.laysFinal "CustomerNoticesModel" "CustomerNoticesModel" "sentChannel" "[I", Cond.laysFinal "CustomerNoticesModel" "CustomerNoticesModel" "sentMessage" "[I", Cond.laysFinal "CustomerNoticesModel" "CustomerNoticesModel" "sentClock" "[J", Cond.lays "CustomerNoticesModel" "CustomerNoticesModel" "failedCount" "I", Cond.laysFinal "CustomerNoticesModel" "CustomerNoticesModel" "failedNotice" "[I", Cond.laysFinal "CustomerNoticesModel" "CustomerNoticesModel" "least" "[J", Cond.laysFinal "CustomerNoticesModel" "CustomerNoticesModel" "firsts" "[I"], w ∈ vv_wds from List.forall_mem_cons.mpr ⟨tw_515, List.forall_mem_cons.mpr ⟨tw_517, List.forall_mem_cons.mpr ⟨tw_519, List.forall_mem_cons.mpr ⟨tw_521, List.forall_mem_cons.mpr ⟨tw_523, List.forall_mem_cons.mpr ⟨tw_525, List.forall_mem_cons.mpr ⟨tw_527, List.forall_mem_cons.mpr ⟨tw_529, List.forall_mem_cons.mpr ⟨tw_531, List.forall_mem_cons.mpr ⟨tw_533, List.forall_mem_cons.mpr ⟨tw_535, List.forall_mem_cons.mpr ⟨tw_537, List.forall_mem_cons.mpr ⟨tw_539, List.forall_mem_cons.mpr ⟨tw_541, List.forall_mem_cons.mpr ⟨tw_543, List.forall_mem_cons.mpr ⟨tw_545, List.forall_mem_cons.mpr ⟨tw_547, List.forall_mem_cons.mpr ⟨tw_549, List.forall_mem_cons.mpr ⟨tw_551, List.forall_mem_cons.mpr ⟨tw_553, List.forall_mem_cons.mpr ⟨tw_555, List.forall_mem_cons.mpr ⟨tw_557, List.forall_mem_cons.mpr ⟨tw_559, List.forall_mem_cons.mpr ⟨tw_561, List.forall_mem_cons.mpr ⟨tw_563, List.forall_mem_cons.mpr ⟨tw_565, List.forall_mem_cons.mpr ⟨tw_567, List.forall_mem_cons.mpr ⟨tw_569, List.forall_mem_cons.mpr ⟨tw_571, List.forall_mem_cons.mpr ⟨tw_573, List.forall_mem_cons.mpr ⟨tw_575, List.forall_mem_cons.mpr ⟨tw_577, fun _ h => absurd h List.not_mem_nil⟩⟩⟩⟩⟩⟩⟩⟩⟩⟩⟩⟩⟩⟩⟩⟩⟩⟩⟩⟩⟩⟩⟩⟩⟩⟩⟩⟩⟩⟩⟩⟩), by decide +kernel, by decide +kernel⟩
theorem k_AL : vv_cl 5 "java/util/ArrayList" T_AL 3 t_AL := ⟨rfl, by decide, (show ∀ w ∈ [Cond.lays "java/util/ArrayList" "java/util/ArrayList" "elementData" "[Ljava/lang/Object;", Cond.lays "java/util/ArrayList" "java/util/ArrayList" "size" "I", Cond.lays "java/util/ArrayList" "java/util/AbstractList" "modCount" "I"], w ∈ vv_wds from List.forall_mem_cons.mpr ⟨tw_71, List.forall_mem_cons.mpr ⟨tw_73, List.forall_mem_cons.mpr ⟨tw_75, fun _ h => absurd h List.not_mem_nil⟩⟩⟩), by decide +kernel, by decide +kernel⟩
