section
-- ===== PART A: goes FIRST, ahead of the names: the tables' words, and 'selects' of the private methods out of them =====
/-- a private method of a class that the tables say can be made, by its rows of tables_1 -/
def lw_okq (q : MethodName × Nat) : Prop := (q.1.cls ≠ "java/lang/invoke/MethodHandle" ∧ q.1.cls ≠ "java/lang/invoke/VarHandle") ∧ Cond.instantiable q.1.cls q.2 ∈ tables_1 ∧ Cond.privateMethod q.1 ∈ tables_1 ∧ Cond.instanceMethod q.1 ∈ tables_1
theorem lw_p0 : lw_okq (⟨"java/util/ArrayList", "add", "(Ljava/lang/Object;[Ljava/lang/Object;I)V"⟩, 3) := ⟨⟨by decide +kernel, by decide +kernel⟩, List.mem_of_getElem? (i := 24) (by decide +kernel), List.mem_of_getElem? (i := 130) (by decide +kernel), List.mem_of_getElem? (i := 131) (by decide +kernel)⟩
theorem lw_p1 : lw_okq (⟨"java/util/ArrayList", "grow", "()[Ljava/lang/Object;"⟩, 3) := ⟨⟨by decide +kernel, by decide +kernel⟩, List.mem_of_getElem? (i := 24) (by decide +kernel), List.mem_of_getElem? (i := 134) (by decide +kernel), List.mem_of_getElem? (i := 135) (by decide +kernel)⟩
theorem lw_p2 : lw_okq (⟨"java/util/ArrayList", "grow", "(I)[Ljava/lang/Object;"⟩, 3) := ⟨⟨by decide +kernel, by decide +kernel⟩, List.mem_of_getElem? (i := 24) (by decide +kernel), List.mem_of_getElem? (i := 138) (by decide +kernel), List.mem_of_getElem? (i := 139) (by decide +kernel)⟩
theorem lw_p3 : lw_okq (⟨"CustomerNotices", "findCustomer", "(I)LCustomerNotices$Customer;"⟩, 8) := ⟨⟨by decide +kernel, by decide +kernel⟩, List.mem_of_getElem? (i := 16) (by decide +kernel), List.mem_of_getElem? (i := 183) (by decide +kernel), List.mem_of_getElem? (i := 184) (by decide +kernel)⟩
theorem lw_p4 : lw_okq (⟨"CustomerNotices$Customer", "orderOf", "(II)I"⟩, 8) := ⟨⟨by decide +kernel, by decide +kernel⟩, List.mem_of_getElem? (i := 90) (by decide +kernel), List.mem_of_getElem? (i := 219) (by decide +kernel), List.mem_of_getElem? (i := 220) (by decide +kernel)⟩
theorem lw_p5 : lw_okq (⟨"CustomerNotices", "isTimeFromNow", "(J)Z"⟩, 8) := ⟨⟨by decide +kernel, by decide +kernel⟩, List.mem_of_getElem? (i := 16) (by decide +kernel), List.mem_of_getElem? (i := 242) (by decide +kernel), List.mem_of_getElem? (i := 243) (by decide +kernel)⟩
theorem lw_p6 : lw_okq (⟨"CustomerNotices", "findItem", "(II)LCustomerNotices$Item;"⟩, 8) := ⟨⟨by decide +kernel, by decide +kernel⟩, List.mem_of_getElem? (i := 16) (by decide +kernel), List.mem_of_getElem? (i := 247) (by decide +kernel), List.mem_of_getElem? (i := 248) (by decide +kernel)⟩
theorem lw_p7 : lw_okq (⟨"CustomerNotices", "noticesAreFull", "()Z"⟩, 8) := ⟨⟨by decide +kernel, by decide +kernel⟩, List.mem_of_getElem? (i := 16) (by decide +kernel), List.mem_of_getElem? (i := 255) (by decide +kernel), List.mem_of_getElem? (i := 256) (by decide +kernel)⟩
theorem lw_p8 : lw_okq (⟨"CustomerNotices", "itemsAreFull", "()Z"⟩, 8) := ⟨⟨by decide +kernel, by decide +kernel⟩, List.mem_of_getElem? (i := 16) (by decide +kernel), List.mem_of_getElem? (i := 259) (by decide +kernel), List.mem_of_getElem? (i := 260) (by decide +kernel)⟩
theorem lw_p9 : lw_okq (⟨"CustomerNotices", "addItem", "(II)LCustomerNotices$Item;"⟩, 8) := ⟨⟨by decide +kernel, by decide +kernel⟩, List.mem_of_getElem? (i := 16) (by decide +kernel), List.mem_of_getElem? (i := 263) (by decide +kernel), List.mem_of_getElem? (i := 264) (by decide +kernel)⟩
theorem lw_p10 : lw_okq (⟨"CustomerNotices", "addNotice", "(LCustomerNotices$Customer;IIJ)LCustomerNotices$Notice;"⟩, 8) := ⟨⟨by decide +kernel, by decide +kernel⟩, List.mem_of_getElem? (i := 16) (by decide +kernel), List.mem_of_getElem? (i := 287) (by decide +kernel), List.mem_of_getElem? (i := 288) (by decide +kernel)⟩
theorem lw_p11 : lw_okq (⟨"CustomerNotices", "addPromise", "(LCustomerNotices$Customer;ILCustomerNotices$Item;J)I"⟩, 8) := ⟨⟨by decide +kernel, by decide +kernel⟩, List.mem_of_getElem? (i := 16) (by decide +kernel), List.mem_of_getElem? (i := 349) (by decide +kernel), List.mem_of_getElem? (i := 350) (by decide +kernel)⟩
theorem lw_p12 : lw_okq (⟨"CustomerNotices", "prepareCustomersForTick", "()V"⟩, 8) := ⟨⟨by decide +kernel, by decide +kernel⟩, List.mem_of_getElem? (i := 16) (by decide +kernel), List.mem_of_getElem? (i := 360) (by decide +kernel), List.mem_of_getElem? (i := 361) (by decide +kernel)⟩
theorem lw_p13 : lw_okq (⟨"CustomerNotices", "isDue", "(LCustomerNotices$Notice;)Z"⟩, 8) := ⟨⟨by decide +kernel, by decide +kernel⟩, List.mem_of_getElem? (i := 16) (by decide +kernel), List.mem_of_getElem? (i := 371) (by decide +kernel), List.mem_of_getElem? (i := 372) (by decide +kernel)⟩
theorem lw_p14 : lw_okq (⟨"CustomerNotices", "isHeldByQuiet", "(LCustomerNotices$Notice;)Z"⟩, 8) := ⟨⟨by decide +kernel, by decide +kernel⟩, List.mem_of_getElem? (i := 16) (by decide +kernel), List.mem_of_getElem? (i := 375) (by decide +kernel), List.mem_of_getElem? (i := 376) (by decide +kernel)⟩
theorem lw_p15 : lw_okq (⟨"CustomerNotices", "deliver", "(LCustomerNotices$Notice;)V"⟩, 8) := ⟨⟨by decide +kernel, by decide +kernel⟩, List.mem_of_getElem? (i := 16) (by decide +kernel), List.mem_of_getElem? (i := 387) (by decide +kernel), List.mem_of_getElem? (i := 388) (by decide +kernel)⟩
def lw_privs_1 : List (MethodName × Nat) := [(⟨"java/util/ArrayList", "add", "(Ljava/lang/Object;[Ljava/lang/Object;I)V"⟩, 3), (⟨"java/util/ArrayList", "grow", "()[Ljava/lang/Object;"⟩, 3), (⟨"java/util/ArrayList", "grow", "(I)[Ljava/lang/Object;"⟩, 3), (⟨"CustomerNotices", "findCustomer", "(I)LCustomerNotices$Customer;"⟩, 8), (⟨"CustomerNotices$Customer", "orderOf", "(II)I"⟩, 8), (⟨"CustomerNotices", "isTimeFromNow", "(J)Z"⟩, 8), (⟨"CustomerNotices", "findItem", "(II)LCustomerNotices$Item;"⟩, 8), (⟨"CustomerNotices", "noticesAreFull", "()Z"⟩, 8), (⟨"CustomerNotices", "itemsAreFull", "()Z"⟩, 8), (⟨"CustomerNotices", "addItem", "(II)LCustomerNotices$Item;"⟩, 8), (⟨"CustomerNotices", "addNotice", "(LCustomerNotices$Customer;IIJ)LCustomerNotices$Notice;"⟩, 8), (⟨"CustomerNotices", "addPromise", "(LCustomerNotices$Customer;ILCustomerNotices$Item;J)I"⟩, 8), (⟨"CustomerNotices", "prepareCustomersForTick", "()V"⟩, 8), (⟨"CustomerNotices", "isDue", "(LCustomerNotices$Notice;)Z"⟩, 8), (⟨"CustomerNotices", "isHeldByQuiet", "(LCustomerNotices$Notice;)Z"⟩, 8), (⟨"CustomerNotices", "deliver", "(LCustomerNotices$Notice;)V"⟩, 8)]
theorem lw_r1 : ∀ q ∈ lw_privs_1, lw_okq q := List.forall_mem_cons.mpr ⟨lw_p0, List.forall_mem_cons.mpr ⟨lw_p1, List.forall_mem_cons.mpr ⟨lw_p2, List.forall_mem_cons.mpr ⟨lw_p3, List.forall_mem_cons.mpr ⟨lw_p4, List.forall_mem_cons.mpr ⟨lw_p5, List.forall_mem_cons.mpr ⟨lw_p6, List.forall_mem_cons.mpr ⟨lw_p7, List.forall_mem_cons.mpr ⟨lw_p8, List.forall_mem_cons.mpr ⟨lw_p9, List.forall_mem_cons.mpr ⟨lw_p10, List.forall_mem_cons.mpr ⟨lw_p11, List.forall_mem_cons.mpr ⟨lw_p12, List.forall_mem_cons.mpr ⟨lw_p13, List.forall_mem_cons.mpr ⟨lw_p14, List.forall_mem_cons.mpr ⟨lw_p15, fun _ h => absurd h List.not_mem_nil⟩⟩⟩⟩⟩⟩⟩⟩⟩⟩⟩⟩⟩⟩⟩⟩
theorem lw_p16 : lw_okq (⟨"CustomerNotices", "findNotice", "(I)LCustomerNotices$Notice;"⟩, 8) := ⟨⟨by decide +kernel, by decide +kernel⟩, List.mem_of_getElem? (i := 16) (by decide +kernel), List.mem_of_getElem? (i := 428) (by decide +kernel), List.mem_of_getElem? (i := 429) (by decide +kernel)⟩
theorem lw_p17 : lw_okq (⟨"CustomerNotices", "reopenItem", "(II)V"⟩, 8) := ⟨⟨by decide +kernel, by decide +kernel⟩, List.mem_of_getElem? (i := 16) (by decide +kernel), List.mem_of_getElem? (i := 436) (by decide +kernel), List.mem_of_getElem? (i := 437) (by decide +kernel)⟩
theorem lw_p18 : lw_okq (⟨"CustomerNotices", "addCorrection", "(LCustomerNotices$Notice;J)I"⟩, 8) := ⟨⟨by decide +kernel, by decide +kernel⟩, List.mem_of_getElem? (i := 16) (by decide +kernel), List.mem_of_getElem? (i := 440) (by decide +kernel), List.mem_of_getElem? (i := 441) (by decide +kernel)⟩
theorem lw_p19 : lw_okq (⟨"CustomerNoticesModel", "isCustomer", "(I)Z"⟩, 32) := ⟨⟨by decide +kernel, by decide +kernel⟩, List.mem_of_getElem? (i := 449) (by decide +kernel), List.mem_of_getElem? (i := 567) (by decide +kernel), List.mem_of_getElem? (i := 568) (by decide +kernel)⟩
theorem lw_p20 : lw_okq (⟨"CustomerNoticesModel", "wished", "(II)I"⟩, 32) := ⟨⟨by decide +kernel, by decide +kernel⟩, List.mem_of_getElem? (i := 449) (by decide +kernel), List.mem_of_getElem? (i := 573) (by decide +kernel), List.mem_of_getElem? (i := 574) (by decide +kernel)⟩
theorem lw_p21 : lw_okq (⟨"CustomerNoticesModel", "isTime", "(J)Z"⟩, 32) := ⟨⟨by decide +kernel, by decide +kernel⟩, List.mem_of_getElem? (i := 449) (by decide +kernel), List.mem_of_getElem? (i := 587) (by decide +kernel), List.mem_of_getElem? (i := 588) (by decide +kernel)⟩
theorem lw_p22 : lw_okq (⟨"CustomerNoticesModel", "pairOf", "(II)I"⟩, 32) := ⟨⟨by decide +kernel, by decide +kernel⟩, List.mem_of_getElem? (i := 449) (by decide +kernel), List.mem_of_getElem? (i := 592) (by decide +kernel), List.mem_of_getElem? (i := 593) (by decide +kernel)⟩
theorem lw_p23 : lw_okq (⟨"CustomerNoticesModel", "keep", "(II)I"⟩, 32) := ⟨⟨by decide +kernel, by decide +kernel⟩, List.mem_of_getElem? (i := 449) (by decide +kernel), List.mem_of_getElem? (i := 596) (by decide +kernel), List.mem_of_getElem? (i := 597) (by decide +kernel)⟩
theorem lw_p24 : lw_okq (⟨"CustomerNoticesModel", "put", "(IIIJJZ)I"⟩, 32) := ⟨⟨by decide +kernel, by decide +kernel⟩, List.mem_of_getElem? (i := 449) (by decide +kernel), List.mem_of_getElem? (i := 601) (by decide +kernel), List.mem_of_getElem? (i := 602) (by decide +kernel)⟩
theorem lw_p25 : lw_okq (⟨"CustomerNoticesModel", "isDue", "(I)Z"⟩, 32) := ⟨⟨by decide +kernel, by decide +kernel⟩, List.mem_of_getElem? (i := 449) (by decide +kernel), List.mem_of_getElem? (i := 615) (by decide +kernel), List.mem_of_getElem? (i := 616) (by decide +kernel)⟩
theorem lw_p26 : lw_okq (⟨"CustomerNoticesModel", "isQuiet", "(I)Z"⟩, 32) := ⟨⟨by decide +kernel, by decide +kernel⟩, List.mem_of_getElem? (i := 449) (by decide +kernel), List.mem_of_getElem? (i := 619) (by decide +kernel), List.mem_of_getElem? (i := 620) (by decide +kernel)⟩
theorem lw_p27 : lw_okq (⟨"CustomerNoticesModel", "channelOf", "(I)I"⟩, 32) := ⟨⟨by decide +kernel, by decide +kernel⟩, List.mem_of_getElem? (i := 449) (by decide +kernel), List.mem_of_getElem? (i := 624) (by decide +kernel), List.mem_of_getElem? (i := 625) (by decide +kernel)⟩
theorem lw_p28 : lw_okq (⟨"CustomerNoticesModel", "undo", "(I)V"⟩, 32) := ⟨⟨by decide +kernel, by decide +kernel⟩, List.mem_of_getElem? (i := 449) (by decide +kernel), List.mem_of_getElem? (i := 649) (by decide +kernel), List.mem_of_getElem? (i := 650) (by decide +kernel)⟩
def lw_privs_2 : List (MethodName × Nat) := [(⟨"CustomerNotices", "findNotice", "(I)LCustomerNotices$Notice;"⟩, 8), (⟨"CustomerNotices", "reopenItem", "(II)V"⟩, 8), (⟨"CustomerNotices", "addCorrection", "(LCustomerNotices$Notice;J)I"⟩, 8), (⟨"CustomerNoticesModel", "isCustomer", "(I)Z"⟩, 32), (⟨"CustomerNoticesModel", "wished", "(II)I"⟩, 32), (⟨"CustomerNoticesModel", "isTime", "(J)Z"⟩, 32), (⟨"CustomerNoticesModel", "pairOf", "(II)I"⟩, 32), (⟨"CustomerNoticesModel", "keep", "(II)I"⟩, 32), (⟨"CustomerNoticesModel", "put", "(IIIJJZ)I"⟩, 32), (⟨"CustomerNoticesModel", "isDue", "(I)Z"⟩, 32), (⟨"CustomerNoticesModel", "isQuiet", "(I)Z"⟩, 32), (⟨"CustomerNoticesModel", "channelOf", "(I)I"⟩, 32), (⟨"CustomerNoticesModel", "undo", "(I)V"⟩, 32)]
theorem lw_r2 : ∀ q ∈ lw_privs_2, lw_okq q := List.forall_mem_cons.mpr ⟨lw_p16, List.forall_mem_cons.mpr ⟨lw_p17, List.forall_mem_cons.mpr ⟨lw_p18, List.forall_mem_cons.mpr ⟨lw_p19, List.forall_mem_cons.mpr ⟨lw_p20, List.forall_mem_cons.mpr ⟨lw_p21, List.forall_mem_cons.mpr ⟨lw_p22, List.forall_mem_cons.mpr ⟨lw_p23, List.forall_mem_cons.mpr ⟨lw_p24, List.forall_mem_cons.mpr ⟨lw_p25, List.forall_mem_cons.mpr ⟨lw_p26, List.forall_mem_cons.mpr ⟨lw_p27, List.forall_mem_cons.mpr ⟨lw_p28, fun _ h => absurd h List.not_mem_nil⟩⟩⟩⟩⟩⟩⟩⟩⟩⟩⟩⟩⟩
def lw_privs : List (MethodName × Nat) := lw_privs_1 ++ (lw_privs_2)
def lw_tbl : List Cond := k2_sels lw_privs ++ tables_1
theorem lw_privs_ok : ∀ q ∈ lw_privs, lw_okq q := by
  show ∀ q ∈ lw_privs_1 ++ (lw_privs_2), lw_okq q
  exact List.forall_mem_append.mpr ⟨lw_r1, lw_r2⟩
end
section
def y_C_init : MethodName := ⟨"CustomerNotices", "<init>", "()V"⟩
abbrev b_C_init : ByteArray := prog_1_method_1_code
def y_Oj_init : MethodName := ⟨"java/lang/Object", "<init>", "()V"⟩
abbrev b_Oj_init : ByteArray := object_method_1_code
def y_AL_init : MethodName := ⟨"java/util/ArrayList", "<init>", "()V"⟩
abbrev b_AL_init : ByteArray := prog_14_method_2_code
def y_AbL_init : MethodName := ⟨"java/util/AbstractList", "<init>", "()V"⟩
abbrev b_AbL_init : ByteArray := prog_13_method_1_code
def y_AbC_init : MethodName := ⟨"java/util/AbstractCollection", "<init>", "()V"⟩
abbrev b_AbC_init : ByteArray := prog_12_method_1_code
def y_C_customer : MethodName := ⟨"CustomerNotices", "customer", "(II)I"⟩
abbrev b_C_customer : ByteArray := prog_1_method_2_code
def y_C_isWithin : MethodName := ⟨"CustomerNotices", "isWithin", "(JJJ)Z"⟩
abbrev b_C_isWithin : ByteArray := prog_1_method_14_code
def y_AL_size : MethodName := ⟨"java/util/ArrayList", "size", "()I"⟩
abbrev b_AL_size : ByteArray := prog_14_method_8_code
def y_K_init : MethodName := ⟨"CustomerNotices$Customer", "<init>", "(III)V"⟩
abbrev b_K_init : ByteArray := prog_2_method_1_code
def y_AL_add : MethodName := ⟨"java/util/ArrayList", "add", "(Ljava/lang/Object;)Z"⟩
abbrev b_AL_add : ByteArray := prog_14_method_25_code
def y_AL_add_LObjectALObjectIV : MethodName := ⟨"java/util/ArrayList", "add", "(Ljava/lang/Object;[Ljava/lang/Object;I)V"⟩
abbrev b_AL_add_LObjectALObjectIV : ByteArray := prog_14_method_24_code
def y_AL_grow : MethodName := ⟨"java/util/ArrayList", "grow", "()[Ljava/lang/Object;"⟩
abbrev b_AL_grow : ByteArray := prog_14_method_7_code
def y_AL_grow_IALObject : MethodName := ⟨"java/util/ArrayList", "grow", "(I)[Ljava/lang/Object;"⟩
abbrev b_AL_grow_IALObject : ByteArray := prog_14_method_6_code
def y_AS_newLength : MethodName := ⟨"jdk/internal/util/ArraysSupport", "newLength", "(III)I"⟩
abbrev b_AS_newLength : ByteArray := prog_21_method_27_code
def y_Ma_max : MethodName := ⟨"java/lang/Math", "max", "(II)I"⟩
abbrev b_Ma_max : ByteArray := prog_10_method_65_code
def y_AS_hugeLength : MethodName := ⟨"jdk/internal/util/ArraysSupport", "hugeLength", "(II)I"⟩
abbrev b_AS_hugeLength : ByteArray := prog_21_method_28_code
def y_Ar_copyOf : MethodName := ⟨"java/util/Arrays", "copyOf", "([Ljava/lang/Object;I)[Ljava/lang/Object;"⟩
abbrev b_Ar_copyOf : ByteArray := prog_15_method_119_code
def y_Ar_copyOf_ALObjectILClassALObject : MethodName := ⟨"java/util/Arrays", "copyOf", "([Ljava/lang/Object;ILjava/lang/Class;)[Ljava/lang/Object;"⟩
abbrev b_Ar_copyOf_ALObjectILClassALObject : ByteArray := prog_15_method_120_code
def y_Ma_min : MethodName := ⟨"java/lang/Math", "min", "(II)I"⟩
abbrev b_Ma_min : ByteArray := prog_10_method_69_code
def y_C_wish : MethodName := ⟨"CustomerNotices", "wish", "(IIII)I"⟩
abbrev b_C_wish : ByteArray := prog_1_method_3_code
def y_C_findCustomer : MethodName := ⟨"CustomerNotices", "findCustomer", "(I)LCustomerNotices$Customer;"⟩
abbrev b_C_findCustomer : ByteArray := prog_1_method_23_code
def y_AL_get : MethodName := ⟨"java/util/ArrayList", "get", "(I)Ljava/lang/Object;"⟩
abbrev b_AL_get : ByteArray := prog_14_method_20_code
def y_Ob_checkIndex : MethodName := ⟨"java/util/Objects", "checkIndex", "(II)I"⟩
abbrev b_Ob_checkIndex : ByteArray := prog_18_method_17_code
def y_Pr_checkIndex : MethodName := ⟨"jdk/internal/util/Preconditions", "checkIndex", "(IILjava/util/function/BiFunction;)I"⟩
abbrev b_Pr_checkIndex : ByteArray := prog_22_method_11_code
def y_AL_elementData : MethodName := ⟨"java/util/ArrayList", "elementData", "(I)Ljava/lang/Object;"⟩
abbrev b_AL_elementData : ByteArray := prog_14_method_18_code
def y_C_isKind : MethodName := ⟨"CustomerNotices", "isKind", "(I)Z"⟩
abbrev b_C_isKind : ByteArray := prog_1_method_15_code
def y_C_isChannel : MethodName := ⟨"CustomerNotices", "isChannel", "(I)Z"⟩
abbrev b_C_isChannel : ByteArray := prog_1_method_17_code
def y_K_setOrder : MethodName := ⟨"CustomerNotices$Customer", "setOrder", "(III)V"⟩
abbrev b_K_setOrder : ByteArray := prog_2_method_3_code
def y_K_countWishes : MethodName := ⟨"CustomerNotices$Customer", "countWishes", "(I)I"⟩
abbrev b_K_countWishes : ByteArray := prog_2_method_5_code
def y_K_orderOf : MethodName := ⟨"CustomerNotices$Customer", "orderOf", "(II)I"⟩
abbrev b_K_orderOf : ByteArray := prog_2_method_2_code
def y_C_quiet : MethodName := ⟨"CustomerNotices", "quiet", "(III)I"⟩
abbrev b_C_quiet : ByteArray := prog_1_method_4_code
def y_C_isMinuteOfDay : MethodName := ⟨"CustomerNotices", "isMinuteOfDay", "(I)Z"⟩
abbrev b_C_isMinuteOfDay : ByteArray := prog_1_method_18_code
def y_Ma_floorMod : MethodName := ⟨"java/lang/Math", "floorMod", "(II)I"⟩
abbrev b_Ma_floorMod : ByteArray := prog_10_method_50_code
def y_C_event : MethodName := ⟨"CustomerNotices", "event", "(IIIJ)I"⟩
abbrev b_C_event : ByteArray := prog_1_method_5_code
def y_C_isItemNumber : MethodName := ⟨"CustomerNotices", "isItemNumber", "(I)Z"⟩
abbrev b_C_isItemNumber : ByteArray := prog_1_method_19_code
def y_C_isTimeFromNow : MethodName := ⟨"CustomerNotices", "isTimeFromNow", "(J)Z"⟩
abbrev b_C_isTimeFromNow : ByteArray := prog_1_method_20_code
def y_C_findItem : MethodName := ⟨"CustomerNotices", "findItem", "(II)LCustomerNotices$Item;"⟩
abbrev b_C_findItem : ByteArray := prog_1_method_25_code
def y_C_isEnd : MethodName := ⟨"CustomerNotices", "isEnd", "(I)Z"⟩
abbrev b_C_isEnd : ByteArray := prog_1_method_16_code
def y_C_noticesAreFull : MethodName := ⟨"CustomerNotices", "noticesAreFull", "()Z"⟩
abbrev b_C_noticesAreFull : ByteArray := prog_1_method_21_code
def y_C_itemsAreFull : MethodName := ⟨"CustomerNotices", "itemsAreFull", "()Z"⟩
abbrev b_C_itemsAreFull : ByteArray := prog_1_method_22_code
def y_C_addItem : MethodName := ⟨"CustomerNotices", "addItem", "(II)LCustomerNotices$Item;"⟩
abbrev b_C_addItem : ByteArray := prog_1_method_26_code
def y_I_init : MethodName := ⟨"CustomerNotices$Item", "<init>", "(II)V"⟩
abbrev b_I_init : ByteArray := prog_3_method_1_code
def y_C_addNotice : MethodName := ⟨"CustomerNotices", "addNotice", "(LCustomerNotices$Customer;IIJ)LCustomerNotices$Notice;"⟩
abbrev b_C_addNotice : ByteArray := prog_1_method_28_code
def y_N_init : MethodName := ⟨"CustomerNotices$Notice", "<init>", "(ILCustomerNotices$Customer;IIJ)V"⟩
abbrev b_N_init : ByteArray := prog_4_method_1_code
def y_C_promise : MethodName := ⟨"CustomerNotices", "promise", "(IIJJ)I"⟩
abbrev b_C_promise : ByteArray := prog_1_method_6_code
def y_C_addPromise : MethodName := ⟨"CustomerNotices", "addPromise", "(LCustomerNotices$Customer;ILCustomerNotices$Item;J)I"⟩
abbrev b_C_addPromise : ByteArray := prog_1_method_29_code
def y_Ma_abs : MethodName := ⟨"java/lang/Math", "abs", "(J)J"⟩
abbrev b_Ma_abs : ByteArray := prog_10_method_61_code
def y_C_tick : MethodName := ⟨"CustomerNotices", "tick", "(J)I"⟩
abbrev b_C_tick : ByteArray := prog_1_method_7_code
def y_C_prepareCustomersForTick : MethodName := ⟨"CustomerNotices", "prepareCustomersForTick", "()V"⟩
abbrev b_C_prepareCustomersForTick : ByteArray := prog_1_method_31_code
def y_N_isMarked : MethodName := ⟨"CustomerNotices$Notice", "isMarked", "()Z"⟩
abbrev b_N_isMarked : ByteArray := prog_4_method_2_code
def y_Ma_min_JJJ : MethodName := ⟨"java/lang/Math", "min", "(JJ)J"⟩
abbrev b_Ma_min_JJJ : ByteArray := prog_10_method_70_code
def y_C_isDue : MethodName := ⟨"CustomerNotices", "isDue", "(LCustomerNotices$Notice;)Z"⟩
abbrev b_C_isDue : ByteArray := prog_1_method_32_code
def y_C_isHeldByQuiet : MethodName := ⟨"CustomerNotices", "isHeldByQuiet", "(LCustomerNotices$Notice;)Z"⟩
abbrev b_C_isHeldByQuiet : ByteArray := prog_1_method_33_code
def y_K_isQuietAt : MethodName := ⟨"CustomerNotices$Customer", "isQuietAt", "(J)Z"⟩
abbrev b_K_isQuietAt : ByteArray := prog_2_method_7_code
def y_Ma_floorMod_JJJ : MethodName := ⟨"java/lang/Math", "floorMod", "(JJ)J"⟩
abbrev b_Ma_floorMod_JJJ : ByteArray := prog_10_method_52_code
def y_C_deliver : MethodName := ⟨"CustomerNotices", "deliver", "(LCustomerNotices$Notice;)V"⟩
abbrev b_C_deliver : ByteArray := prog_1_method_34_code
def y_K_firstWorkingChannel : MethodName := ⟨"CustomerNotices$Customer", "firstWorkingChannel", "(I[Z)I"⟩
abbrev b_K_firstWorkingChannel : ByteArray := prog_2_method_6_code
def y_C_sent : MethodName := ⟨"CustomerNotices", "sent", "(II)I"⟩
abbrev b_C_sent : ByteArray := prog_1_method_8_code
def y_C_detail : MethodName := ⟨"CustomerNotices", "detail", "(LCustomerNotices$Notice;I)I"⟩
abbrev b_C_detail : ByteArray := prog_1_method_35_code
def y_N_text : MethodName := ⟨"CustomerNotices$Notice", "text", "()I"⟩
abbrev b_N_text : ByteArray := prog_4_method_4_code
def y_C_works : MethodName := ⟨"CustomerNotices", "works", "(IZ)Z"⟩
abbrev b_C_works : ByteArray := prog_1_method_9_code
def y_C_out : MethodName := ⟨"CustomerNotices", "out", "(II)I"⟩
abbrev b_C_out : ByteArray := prog_1_method_10_code
def y_K_clearWishes : MethodName := ⟨"CustomerNotices$Customer", "clearWishes", "(I)V"⟩
abbrev b_K_clearWishes : ByteArray := prog_2_method_4_code
def y_C_failed : MethodName := ⟨"CustomerNotices", "failed", "(I)I"⟩
abbrev b_C_failed : ByteArray := prog_1_method_11_code
def y_C_correct : MethodName := ⟨"CustomerNotices", "correct", "(IJ)I"⟩
abbrev b_C_correct : ByteArray := prog_1_method_12_code
def y_C_findNotice : MethodName := ⟨"CustomerNotices", "findNotice", "(I)LCustomerNotices$Notice;"⟩
abbrev b_C_findNotice : ByteArray := prog_1_method_24_code
def y_N_canBeCorrected : MethodName := ⟨"CustomerNotices$Notice", "canBeCorrected", "()Z"⟩
abbrev b_N_canBeCorrected : ByteArray := prog_4_method_3_code
def y_C_reopenItem : MethodName := ⟨"CustomerNotices", "reopenItem", "(II)V"⟩
abbrev b_C_reopenItem : ByteArray := prog_1_method_27_code
def y_C_addCorrection : MethodName := ⟨"CustomerNotices", "addCorrection", "(LCustomerNotices$Notice;J)I"⟩
abbrev b_C_addCorrection : ByteArray := prog_1_method_30_code
def y_C_join : MethodName := ⟨"CustomerNotices", "join", "(I)I"⟩
abbrev b_C_join : ByteArray := prog_1_method_13_code
def y_M_init : MethodName := ⟨"CustomerNoticesModel", "<init>", "()V"⟩
abbrev b_M_init : ByteArray := prog_6_method_1_code
def y_M_customer : MethodName := ⟨"CustomerNoticesModel", "customer", "(II)I"⟩
abbrev b_M_customer : ByteArray := prog_6_method_6_code
def y_M_isIn : MethodName := ⟨"CustomerNoticesModel", "isIn", "(JJJ)Z"⟩
abbrev b_M_isIn : ByteArray := prog_6_method_3_code
def y_M_wish : MethodName := ⟨"CustomerNoticesModel", "wish", "(IIII)I"⟩
abbrev b_M_wish : ByteArray := prog_6_method_8_code
def y_M_isCustomer : MethodName := ⟨"CustomerNoticesModel", "isCustomer", "(I)Z"⟩
abbrev b_M_isCustomer : ByteArray := prog_6_method_4_code
def y_M_wished : MethodName := ⟨"CustomerNoticesModel", "wished", "(II)I"⟩
abbrev b_M_wished : ByteArray := prog_6_method_7_code
def y_M_quiet : MethodName := ⟨"CustomerNoticesModel", "quiet", "(III)I"⟩
abbrev b_M_quiet : ByteArray := prog_6_method_9_code
def y_M_event : MethodName := ⟨"CustomerNoticesModel", "event", "(IIIJ)I"⟩
abbrev b_M_event : ByteArray := prog_6_method_14_code
def y_M_isTime : MethodName := ⟨"CustomerNoticesModel", "isTime", "(J)Z"⟩
abbrev b_M_isTime : ByteArray := prog_6_method_5_code
def y_M_pairOf : MethodName := ⟨"CustomerNoticesModel", "pairOf", "(II)I"⟩
abbrev b_M_pairOf : ByteArray := prog_6_method_11_code
def y_M_keep : MethodName := ⟨"CustomerNoticesModel", "keep", "(II)I"⟩
abbrev b_M_keep : ByteArray := prog_6_method_12_code
def y_M_put : MethodName := ⟨"CustomerNoticesModel", "put", "(IIIJJZ)I"⟩
abbrev b_M_put : ByteArray := prog_6_method_13_code
def y_M_promise : MethodName := ⟨"CustomerNoticesModel", "promise", "(IIJJ)I"⟩
abbrev b_M_promise : ByteArray := prog_6_method_15_code
def y_M_tick : MethodName := ⟨"CustomerNoticesModel", "tick", "(J)I"⟩
abbrev b_M_tick : ByteArray := prog_6_method_18_code
def y_M_isDue : MethodName := ⟨"CustomerNoticesModel", "isDue", "(I)Z"⟩
abbrev b_M_isDue : ByteArray := prog_6_method_16_code
def y_M_isQuiet : MethodName := ⟨"CustomerNoticesModel", "isQuiet", "(I)Z"⟩
abbrev b_M_isQuiet : ByteArray := prog_6_method_10_code
def y_M_channelOf : MethodName := ⟨"CustomerNoticesModel", "channelOf", "(I)I"⟩
abbrev b_M_channelOf : ByteArray := prog_6_method_17_code
def y_M_sent : MethodName := ⟨"CustomerNoticesModel", "sent", "(II)I"⟩
abbrev b_M_sent : ByteArray := prog_6_method_19_code
def y_M_works : MethodName := ⟨"CustomerNoticesModel", "works", "(IZ)Z"⟩
abbrev b_M_works : ByteArray := prog_6_method_20_code
def y_M_out : MethodName := ⟨"CustomerNoticesModel", "out", "(II)I"⟩
abbrev b_M_out : ByteArray := prog_6_method_21_code
def y_M_failed : MethodName := ⟨"CustomerNoticesModel", "failed", "(I)I"⟩
abbrev b_M_failed : ByteArray := prog_6_method_22_code
def y_M_correct : MethodName := ⟨"CustomerNoticesModel", "correct", "(IJ)I"⟩
abbrev b_M_correct : ByteArray := prog_6_method_24_code
def y_M_undo : MethodName := ⟨"CustomerNoticesModel", "undo", "(I)V"⟩
abbrev b_M_undo : ByteArray := prog_6_method_23_code
def y_M_join : MethodName := ⟨"CustomerNoticesModel", "join", "(I)I"⟩
abbrev b_M_join : ByteArray := prog_6_method_25_code
def T_K : u_T := fun k => match k with
  | 0 => ("CustomerNotices$Customer", "number", "I", true)
  | 1 => ("CustomerNotices$Customer", "language", "I", true)
  | 2 => ("CustomerNotices$Customer", "zone", "I", true)
  | 3 => ("CustomerNotices$Customer", "quietFrom", "I", false)
  | 4 => ("CustomerNotices$Customer", "quietUntil", "I", false)
  | 5 => ("CustomerNotices$Customer", "leastWaitingTime", "J", false)
  | 6 => ("CustomerNotices$Customer", "messageOfTick", "I", false)
  | _ => ("CustomerNotices$Customer", "orders", "[I", true)
def t_K : Nat → FieldType := fun k => match k with
  | 0 => .int
  | 1 => .int
  | 2 => .int
  | 3 => .int
  | 4 => .int
  | 5 => .long
  | 6 => .int
  | _ => .array .int
def T_I : u_T := fun k => match k with
  | 0 => ("CustomerNotices$Item", "customerNumber", "I", true)
  | 1 => ("CustomerNotices$Item", "itemNumber", "I", true)
  | 2 => ("CustomerNotices$Item", "ended", "Z", false)
  | _ => ("CustomerNotices$Item", "latestPromise", "LCustomerNotices$Notice;", false)
def t_I : Nat → FieldType := fun k => match k with
  | 0 => .int
  | 1 => .int
  | 2 => .boolean
  | _ => .object "CustomerNotices$Notice"
def T_N : u_T := fun k => match k with
  | 0 => ("CustomerNotices$Notice", "number", "I", true)
  | 1 => ("CustomerNotices$Notice", "owner", "LCustomerNotices$Customer;", true)
  | 2 => ("CustomerNotices$Notice", "item", "I", true)
  | 3 => ("CustomerNotices$Notice", "kind", "I", true)
  | 4 => ("CustomerNotices$Notice", "time", "J", true)
  | 5 => ("CustomerNotices$Notice", "state", "I", false)
  | 6 => ("CustomerNotices$Notice", "promisedTime", "J", false)
  | 7 => ("CustomerNotices$Notice", "isCorrection", "Z", false)
  | 8 => ("CustomerNotices$Notice", "corrected", "Z", false)
  | 9 => ("CustomerNotices$Notice", "channel", "I", false)
  | 10 => ("CustomerNotices$Notice", "message", "I", false)
  | _ => ("CustomerNotices$Notice", "sentTime", "J", false)
def t_N : Nat → FieldType := fun k => match k with
  | 0 => .int
  | 1 => .object "CustomerNotices$Customer"
  | 2 => .int
  | 3 => .int
  | 4 => .long
  | 5 => .int
  | 6 => .long
  | 7 => .boolean
  | 8 => .boolean
  | 9 => .int
  | 10 => .int
  | _ => .long
def T_C : u_T := fun k => match k with
  | 0 => ("CustomerNotices", "customers", "Ljava/util/ArrayList;", true)
  | 1 => ("CustomerNotices", "notices", "Ljava/util/ArrayList;", true)
  | 2 => ("CustomerNotices", "items", "Ljava/util/ArrayList;", true)
  | 3 => ("CustomerNotices", "sentNotices", "Ljava/util/ArrayList;", true)
  | 4 => ("CustomerNotices", "failedNotices", "Ljava/util/ArrayList;", true)
  | 5 => ("CustomerNotices", "channelWorks", "[Z", true)
  | 6 => ("CustomerNotices", "clock", "J", false)
  | _ => ("CustomerNotices", "joinMinutes", "I", false)
def t_C : Nat → FieldType := fun k => match k with
  | 0 => .object "java/util/ArrayList"
  | 1 => .object "java/util/ArrayList"
  | 2 => .object "java/util/ArrayList"
  | 3 => .object "java/util/ArrayList"
  | 4 => .object "java/util/ArrayList"
  | 5 => .array .boolean
  | 6 => .long
  | _ => .int
def T_M : u_T := fun k => match k with
  | 0 => ("CustomerNoticesModel", "clock", "J", false)
  | 1 => ("CustomerNoticesModel", "joined", "I", false)
  | 2 => ("CustomerNoticesModel", "broken", "[Z", true)
  | 3 => ("CustomerNoticesModel", "customers", "I", false)
  | 4 => ("CustomerNoticesModel", "languages", "[I", true)
  | 5 => ("CustomerNoticesModel", "zones", "[I", true)
  | 6 => ("CustomerNoticesModel", "quietFrom", "[I", true)
  | 7 => ("CustomerNoticesModel", "quietTo", "[I", true)
  | 8 => ("CustomerNoticesModel", "wishes", "[I", true)
  | 9 => ("CustomerNoticesModel", "notices", "I", false)
  | 10 => ("CustomerNoticesModel", "owner", "[I", true)
  | 11 => ("CustomerNoticesModel", "items", "[I", true)
  | 12 => ("CustomerNoticesModel", "kinds", "[I", true)
  | 13 => ("CustomerNoticesModel", "times", "[J", true)
  | 14 => ("CustomerNoticesModel", "promised", "[J", true)
  | 15 => ("CustomerNoticesModel", "states", "[I", true)
  | 16 => ("CustomerNoticesModel", "correction", "[Z", true)
  | 17 => ("CustomerNoticesModel", "corrected", "[Z", true)
  | 18 => ("CustomerNoticesModel", "pairs", "I", false)
  | 19 => ("CustomerNoticesModel", "pairCustomer", "[I", true)
  | 20 => ("CustomerNoticesModel", "pairItem", "[I", true)
  | 21 => ("CustomerNoticesModel", "ended", "[Z", true)
  | 22 => ("CustomerNoticesModel", "latest", "[I", true)
  | 23 => ("CustomerNoticesModel", "sentCount", "I", false)
  | 24 => ("CustomerNoticesModel", "sentNotice", "[I", true)
  | 25 => ("CustomerNoticesModel", "sentChannel", "[I", true)
  | 26 => ("CustomerNoticesModel", "sentMessage", "[I", true)
  | 27 => ("CustomerNoticesModel", "sentClock", "[J", true)
  | 28 => ("CustomerNoticesModel", "failedCount", "I", false)
  | 29 => ("CustomerNoticesModel", "failedNotice", "[I", true)
  | 30 => ("CustomerNoticesModel", "least", "[J", true)
  | _ => ("CustomerNoticesModel", "firsts", "[I", true)
def t_M : Nat → FieldType := fun k => match k with
  | 0 => .long
  | 1 => .int
  | 2 => .array .boolean
  | 3 => .int
  | 4 => .array .int
  | 5 => .array .int
  | 6 => .array .int
  | 7 => .array .int
  | 8 => .array .int
  | 9 => .int
  | 10 => .array .int
  | 11 => .array .int
  | 12 => .array .int
  | 13 => .array .long
  | 14 => .array .long
  | 15 => .array .int
  | 16 => .array .boolean
  | 17 => .array .boolean
  | 18 => .int
  | 19 => .array .int
  | 20 => .array .int
  | 21 => .array .boolean
  | 22 => .array .int
  | 23 => .int
  | 24 => .array .int
  | 25 => .array .int
  | 26 => .array .int
  | 27 => .array .long
  | 28 => .int
  | 29 => .array .int
  | 30 => .array .long
  | _ => .array .int
def T_AL : u_T := fun k => match k with
  | 0 => ("java/util/ArrayList", "elementData", "[Ljava/lang/Object;", false)
  | 1 => ("java/util/ArrayList", "size", "I", false)
  | _ => ("java/util/AbstractList", "modCount", "I", false)
def t_AL : Nat → FieldType := fun k => match k with
  | 0 => .array (.object "java/lang/Object")
  | 1 => .int
  | _ => .int
abbrev vwCl : List vw_C := [("CustomerNotices$Customer", T_K, 8), ("CustomerNotices$Item", T_I, 4), ("CustomerNotices$Notice", T_N, 12), ("CustomerNotices", T_C, 8), ("CustomerNoticesModel", T_M, 32), ("java/util/ArrayList", T_AL, 3)]
end
section
/-! A TYPED VIEW OF THE HEAP. A view v says of a kind k and an address a what stands there: objects of class k of the list (k below 50), arrays of type t (k = 50 + t), 99: arrays of the start that nobody writes. A method's contract speaks of the whole view that its caller has: so the frame is in the words of the new view. -/
abbrev vv_V : Type := Nat → Nat → Option va_E
def vv_up (v : vv_V) (k a : Nat) (e : va_E) : vv_V := fun k' a' => if k' = k then (if a' = a then some e else v k' a') else v k' a'
theorem vv_up_s (v : vv_V) (k a : Nat) (e : va_E) : vv_up v k a e k a = some e := by simp [vv_up]
theorem vv_up_k (v : vv_V) {k k' : Nat} (a a' : Nat) (e : va_E) (h : k' ≠ k) : vv_up v k a e k' a' = v k' a' := by simp [vv_up, h]
theorem vv_up_a (v : vv_V) (k k' : Nat) {a a' : Nat} (e : va_E) (h : a' ≠ a) : vv_up v k a e k' a' = v k' a' := by simp [vv_up, h]
theorem vv_up_uu (v : vv_V) (k a : Nat) (e e' : va_E) : vv_up (vv_up v k a e) k a e' = vv_up v k a e' := by
  funext k' a'
  unfold vv_up
  by_cases h1 : k' = k
  · by_cases h2 : a' = a
    · simp [h1, h2]
    · simp [h1, h2]
  · simp [h1]
/-- D (classes, slots), b0 (the heap's size at the law's start), the empty array of ArrayList, the mirror of Object[], the array classes -/
abbrev vv_G : Type := va_G × Nat × Nat × Nat × (Nat → ClassId)
def vv_tys (G : vv_G) : List (ClassId × FieldType) := [(G.2.2.2.2 0, .int), (G.2.2.2.2 1, .boolean), (G.2.2.2.2 2, .long), (G.2.2.2.2 3, .object "java/lang/Object")]
def vv_P (G : vv_G) (v : vv_V) (H : Heap) : Prop := (∀ (k a : Nat) (e : va_E), v k a = some e → va_at G.1 vwCl (a, e) H ∧ (k ≠ 99 → G.2.1 ≤ a) ∧ (k = 99 → a < G.2.1)) ∧ ∀ (k k' a : Nat) (e e' : va_E), v k a = some e → v k' a = some e' → k = k'
theorem vv_P.lt {G : vv_G} {v : vv_V} {H : Heap} {k a : Nat} {e : va_E} (h : vv_P G v H) (hk : v k a = some e) : a < H.size := (h.1 k a e hk).1.lt
/-- the view as a list of cells, the old ones left out -/
def vv_L (v : vv_V) (ws : va_W) : Prop := (∀ (k a : Nat) (e : va_E), k ≠ 99 → v k a = some e → ∃ i : Nat, ws[i]? = some (a, e)) ∧ (∀ (i a : Nat) (e : va_E), ws[i]? = some (a, e) → ∃ k, k ≠ 99 ∧ v k a = some e) ∧ ∀ (i j : Nat) (x y : Nat × va_E), ws[i]? = some x → ws[j]? = some y → x.1 = y.1 → i = j
theorem vv_ls {G : vv_G} {v : vv_V} {H : Heap} (h : vv_P G v H) : ∃ ws, vv_L v ws := by
  have key : ∀ n : Nat, ∃ ws : va_W, (∀ (k a : Nat) (e : va_E), a < n → k ≠ 99 → v k a = some e → ∃ i : Nat, ws[i]? = some (a, e)) ∧ (∀ (i a : Nat) (e : va_E), ws[i]? = some (a, e) → a < n ∧ ∃ k, k ≠ 99 ∧ v k a = some e) ∧ ∀ (i j : Nat) (x y : Nat × va_E), ws[i]? = some x → ws[j]? = some y → x.1 = y.1 → i = j := by
    intro n
    induction n with
    | zero => exact ⟨[], fun k a e h1 => absurd h1 (Nat.not_lt_zero _), fun i a e h1 => by simp at h1, fun i j x y h1 => by simp at h1⟩
    | succ n ih =>
      obtain ⟨ws, g1, g2, g3⟩ := ih
      by_cases hx : ∃ (k : Nat) (e : va_E), k ≠ 99 ∧ v k n = some e
      · obtain ⟨k0, e0, hk0, hv0⟩ := hx
        have split : ∀ (i : Nat) (x : Nat × va_E), (ws ++ [(n, e0)])[i]? = some x → (i < ws.length ∧ ws[i]? = some x) ∨ (i = ws.length ∧ x = (n, e0)) := by
          intro i x hi
          by_cases hl : i < ws.length
          · rw [List.getElem?_append_left hl] at hi
            exact Or.inl ⟨hl, hi⟩
          · rw [List.getElem?_append_right (by omega)] at hi
            have hz : i - ws.length < 1 := (List.getElem?_eq_some_iff.mp hi).1
            have h0 : i = ws.length := by omega
            subst h0
            rw [Nat.sub_self] at hi
            exact Or.inr ⟨rfl, (Option.some.inj hi).symm⟩
        refine ⟨ws ++ [(n, e0)], fun k a e h1 h2 h3 => ?_, fun i a e hi => ?_, fun i j x y hi hj hxy => ?_⟩
        · by_cases ha : a = n
          · subst ha
            have hkk := h.2 k k0 a e e0 h3 hv0
            subst hkk
            rw [h3] at hv0
            cases hv0
            exact ⟨ws.length, by simp⟩
          · obtain ⟨i, hi⟩ := g1 k a e (by omega) h2 h3
            exact ⟨i, by rw [List.getElem?_append_left (List.getElem?_eq_some_iff.mp hi).1]; exact hi⟩
        · rcases split i _ hi with ⟨-, r⟩ | ⟨-, r⟩
          · obtain ⟨r1, r2⟩ := g2 i a e r
            exact ⟨by omega, r2⟩
          · cases r
            exact ⟨by omega, k0, hk0, hv0⟩
        · rcases split i _ hi with ⟨l1, r⟩ | ⟨l1, r⟩ <;> rcases split j _ hj with ⟨l2, r'⟩ | ⟨l2, r'⟩
          · exact g3 i j x y r r' hxy
          · have := (g2 i x.1 x.2 r).1
            rw [r'] at hxy
            simp only at hxy
            omega
          · have := (g2 j y.1 y.2 r').1
            rw [r] at hxy
            simp only at hxy
            omega
          · omega
      · refine ⟨ws, fun k a e h1 h2 h3 => ?_, fun i a e hi => ⟨Nat.lt_succ_of_lt (g2 i a e hi).1, (g2 i a e hi).2⟩, g3⟩
        by_cases ha : a = n
        · subst ha
          exact absurd ⟨k, e, h2, h3⟩ hx
        · exact g1 k a e (by omega) h2 h3
  obtain ⟨ws, g1, g2, g3⟩ := key H.size
  exact ⟨ws, fun k a e h1 h2 => g1 k a e (h.lt h2) h1 h2, fun i a e hi => (g2 i a e hi).2, g3⟩
theorem vv_L.P {G : vv_G} {v : vv_V} {H : Heap} {ws : va_W} (hL : vv_L v ws) (h : vv_P G v H) : va_P G.1 vwCl ws H := by
  intro i x hi
  obtain ⟨k, -, hk⟩ := hL.2.1 i x.1 x.2 hi
  exact (h.1 k x.1 x.2 hk).1
theorem vv_L.D {G : vv_G} {v : vv_V} {H : Heap} {ws : va_W} (hL : vv_L v ws) (h : vv_P G v H) : va_D (fun q => G.2.1 ≤ q) ws :=
  ⟨hL.2.2, fun i x hi => by
    obtain ⟨k, h1, hk⟩ := hL.2.1 i x.1 x.2 hi
    exact (h.1 k x.1 x.2 hk).2.1 h1⟩
/-- old cells stay -/
theorem vv_old {G : vv_G} {v : vv_V} {H0 H H1 : Heap} {l0 l1 : List Loc} (h : vv_P G v H) (hb : G.2.1 ≤ H0.size) (hS : va_S (fun q => G.2.1 ≤ q) H0 H l0) (hS1 : va_S (fun q => G.2.1 ≤ q) H0 H1 l1) {a : Nat} {e : va_E} (ha : v 99 a = some e) : va_at G.1 vwCl (a, e) H1 := by
  have hlt := (h.1 99 a e ha).2.2 rfl
  refine (h.1 99 a e ha).1.kept ?_
  rw [hS1.2.1 a (Nat.lt_of_lt_of_le hlt hb) (Nat.not_le.mpr hlt), hS.2.1 a (Nat.lt_of_lt_of_le hlt hb) (Nat.not_le.mpr hlt)]
theorem vv_set {G : vv_G} {v : vv_V} {H0 H H1 : Heap} {l0 l1 : List Loc} {ws : va_W} {k a q0 : Nat} {e e' : va_E} (h : vv_P G v H) (hL : vv_L v ws) (h99 : k ≠ 99) (hk : v k a = some e) (hq : ws[q0]? = some (a, e)) (hb : G.2.1 ≤ H0.size) (hS : va_S (fun q => G.2.1 ≤ q) H0 H l0) (hS1 : va_S (fun q => G.2.1 ≤ q) H0 H1 l1) (hP1 : va_P G.1 vwCl (ws.set q0 (a, e')) H1) : vv_P G (vv_up v k a e') H1 := by
  have hl := (List.getElem?_eq_some_iff.mp hq).1
  have key : ∀ (k1 a1 : Nat) (e1 : va_E), vv_up v k a e' k1 a1 = some e1 → (k1 = k ∧ a1 = a ∧ e1 = e') ∨ (¬ (k1 = k ∧ a1 = a) ∧ v k1 a1 = some e1) := by
    intro k1 a1 e1 h1
    unfold vv_up at h1
    by_cases c1 : k1 = k
    · by_cases c2 : a1 = a
      · rw [if_pos c1, if_pos c2] at h1
        exact Or.inl ⟨c1, c2, (Option.some.inj h1).symm⟩
      · rw [if_pos c1, if_neg c2] at h1
        exact Or.inr ⟨fun z => c2 z.2, h1⟩
    · rw [if_neg c1] at h1
      exact Or.inr ⟨fun z => c1 z.1, h1⟩
  have dom : ∀ (k1 a1 : Nat) (e1 : va_E), vv_up v k a e' k1 a1 = some e1 → ∃ e2, v k1 a1 = some e2 := by
    intro k1 a1 e1 h1
    rcases key k1 a1 e1 h1 with ⟨r1, r2, -⟩ | ⟨-, r⟩
    · exact ⟨e, by rw [r1, r2]; exact hk⟩
    · exact ⟨e1, r⟩
  refine ⟨fun k1 a1 e1 h1 => ?_, fun k1 k2 a1 e1 e2 h1 h2 => ?_⟩
  · rcases key k1 a1 e1 h1 with ⟨r1, r2, r3⟩ | ⟨r0, r⟩
    · subst r1 r2 r3
      exact ⟨hP1 q0 _ (List.getElem?_set_self hl), (h.1 _ _ _ hk).2⟩
    · refine ⟨?_, (h.1 _ _ _ r).2⟩
      by_cases c9 : k1 = 99
      · subst c9
        exact vv_old h hb hS hS1 r
      · obtain ⟨i, hi⟩ := hL.1 k1 a1 e1 c9 r
        have hne : q0 ≠ i := fun z => by
          subst z
          rw [hq] at hi
          cases hi
          exact r0 ⟨h.2 k1 k a e e r hk, rfl⟩
        exact hP1 i _ (by rw [List.getElem?_set_ne hne]; exact hi)
  · obtain ⟨x1, g1⟩ := dom k1 a1 e1 h1
    obtain ⟨x2, g2⟩ := dom k2 a1 e2 h2
    exact h.2 k1 k2 a1 x1 x2 g1 g2
theorem vv_push {G : vv_G} {v : vv_V} {H0 H H1 : Heap} {l0 l1 : List Loc} {ws : va_W} {k q : Nat} {e : va_E} (h : vv_P G v H) (hL : vv_L v ws) (h99 : k ≠ 99) (hb : G.2.1 ≤ H0.size) (hS : va_S (fun q => G.2.1 ≤ q) H0 H l0) (hS1 : va_S (fun q => G.2.1 ≤ q) H0 H1 l1) (hP1 : va_P G.1 vwCl (ws ++ [(q, e)]) H1) (hD1 : va_D (fun q => G.2.1 ≤ q) (ws ++ [(q, e)])) : (∀ k', v k' q = none) ∧ vv_P G (vv_up v k q e) H1 := by
  have hend : (ws ++ [(q, e)])[ws.length]? = some (q, e) := by simp
  have hfr : ∀ k', v k' q = none := by
    intro k'
    cases hv : v k' q with
    | none => rfl
    | some e1 =>
      exfalso
      by_cases c9 : k' = 99
      · have h1 := (h.1 k' q e1 hv).2.2 c9
        have h2 : G.2.1 ≤ q := hD1.2 _ _ hend
        omega
      · obtain ⟨i, hi⟩ := hL.1 k' q e1 c9 hv
        have hlt := (List.getElem?_eq_some_iff.mp hi).1
        have := hD1.1 i ws.length (q, e1) (q, e) (by rw [List.getElem?_append_left hlt]; exact hi) hend rfl
        omega
  have key : ∀ (k1 a1 : Nat) (e1 : va_E), vv_up v k q e k1 a1 = some e1 → (k1 = k ∧ a1 = q ∧ e1 = e) ∨ (a1 ≠ q ∧ v k1 a1 = some e1) := by
    intro k1 a1 e1 h1
    by_cases c2 : a1 = q
    · subst c2
      unfold vv_up at h1
      by_cases c1 : k1 = k
      · rw [if_pos c1, if_pos rfl] at h1
        exact Or.inl ⟨c1, rfl, (Option.some.inj h1).symm⟩
      · rw [if_neg c1, hfr k1] at h1
        cases h1
    · rw [vv_up_a _ _ _ _ c2] at h1
      exact Or.inr ⟨c2, h1⟩
  refine ⟨hfr, fun k1 a1 e1 h1 => ?_, fun k1 k2 a1 e1 e2 h1 h2 => ?_⟩
  · rcases key k1 a1 e1 h1 with ⟨r1, r2, r3⟩ | ⟨r0, r⟩
    · subst r1 r2 r3
      exact ⟨hP1 _ _ hend, fun _ => hD1.2 _ _ hend, fun z => absurd z h99⟩
    · refine ⟨?_, (h.1 _ _ _ r).2⟩
      by_cases c9 : k1 = 99
      · subst c9
        exact vv_old h hb hS hS1 r
      · obtain ⟨i, hi⟩ := hL.1 k1 a1 e1 c9 r
        exact hP1 i _ (by rw [List.getElem?_append_left (List.getElem?_eq_some_iff.mp hi).1]; exact hi)
  · rcases key k1 a1 e1 h1 with ⟨r1, r2, -⟩ | ⟨r0, r⟩ <;> rcases key k2 a1 e2 h2 with ⟨s1, s2, -⟩ | ⟨s0, s⟩
    · rw [r1, s1]
    · exact absurd r2 s0
    · exact absurd s2 r0
    · exact h.2 k1 k2 a1 e1 e2 r s
theorem vv_P.one {G : vv_G} {v : vv_V} {H : Heap} {k a : Nat} {e : va_E} (h : vv_P G v H) (hk : v k a = some e) : va_P G.1 vwCl [(a, e)] H := by
  intro i q hq
  cases i with
  | zero => cases hq; exact (h.1 k a e hk).1
  | succ i => simp at hq
/-- words of the tables that stay true as the machine warms up -/
def vv_okW : Cond → Bool
  | .arrayClass _ => true
  | .fieldLinkNest _ _ _ _ _ _ => true
  | .methodLinkNest _ _ _ _ => true
  | .declares _ => true
  | .castable _ _ => true
  | w => w.onTables && w.keeps
def vv_wds : List Cond := lw_tbl.filter (fun w => vv_okW w && w.onTables)
theorem vv_warm {w : Cond} {s U : State} (hw : (vv_okW w && w.onTables) = true) (hW : s.WarmedH U.vm) (h : va_Nw w s) : va_Nw w U := by
  obtain ⟨h1, h2⟩ := Bool.and_eq_true_iff.mp hw
  cases w <;> first
    | exact va_Nw.warmF hW h
    | exact va_Nw.warmM hW h
    | exact va_Nw.warmD hW h
    | exact va_Nw.warmC hW h
    | exact word_at hW (Or.inr ⟨_, rfl⟩) h
    | exact word_at hW (Or.inl h1) h
/-- what a method finds of the machine: tables, classes, the statics of ArrayList -/
def vv_E (G : vv_G) (U : State) : Prop := va_K G.1 vwCl (vv_tys G) U ∧ (∀ w ∈ vv_wds, va_Nw w U) ∧ va_Z "java/util/ArrayList" "DEFAULTCAPACITY_EMPTY_ELEMENTDATA" "[Ljava/lang/Object;" (.ref G.2.2.1) (fun q => G.2.1 ≤ q) U U.heap ∧ (va_Mi "[Ljava/lang/Object;" G.2.2.2.1 U ∧ va_AO "java/lang/Object" U ∧ ∀ ty : FieldType, (ty = .int ∨ ty = .boolean ∨ ty = .long) → (Cond.arrayClass ty).before #[] U = true) ∧ G.2.1 ≤ U.heap.size
theorem vv_E.at {G : vv_G} {s U : State} {H : Heap} {locs : List Loc} (h : vv_E G s) (hS : va_S (fun q => G.2.1 ≤ q) s.heap H locs) (hU : U.heap = H) (hW : s.WarmedH U.vm) : vv_E G U := by
  obtain ⟨h1, h2, h3, h4, h5⟩ := h
  refine ⟨va_K.moved hW.alike h1, fun w hw => vv_warm (List.mem_filter.mp hw).2 hW (h2 w hw), ?_, ⟨va_Mi.moved hW.alike h4.1, va_AO.moved hW.alike h4.2.1, fun ty hty => word_at hW (Or.inr ⟨_, rfl⟩) (h4.2.2 ty hty)⟩, ?_⟩
  · rw [hU]
    exact (h3.kept (fun a ha hn => hS.2.1 a ha hn)).moved hW.alike
  · rw [hU]
    exact Nat.le_trans h5 hS.1
theorem vv_E.calling {G : vv_G} {U : State} {g : JFrame} {mk : MethodId} {a : Array Value} (h : vv_E G U) : vv_E G (U.calling g mk a) := by
  obtain ⟨h1, h2, h3, h4, h5⟩ := h
  exact ⟨va_K.moved (u := U) (U := U.calling g mk a) (Vm.Alike.refl U.vm) h1, fun w hw => va_Nw.same (u := U) (U := U.calling g mk a) (Bool.and_eq_true_iff.mp (List.mem_filter.mp hw).2).2 rfl (h2 w hw), va_Z.moved (u := U) (U := U.calling g mk a) (Vm.Alike.refl U.vm) h3, ⟨va_Mi.moved (u := U) (U := U.calling g mk a) (Vm.Alike.refl U.vm) h4.1, va_AO.moved (u := U) (U := U.calling g mk a) (Vm.Alike.refl U.vm) h4.2.1, fun ty hty => word_at (s := U) (U := U.calling g mk a) (State.WarmedH.refl U) (Or.inr ⟨_, rfl⟩) (h4.2.2 ty hty)⟩, h5⟩
def vv_pre (G : vv_G) (v : vv_V) (U : State) : Prop := vv_P G v U.heap ∧ vv_E G U
def vv_Q (G : vv_G) (post : Option Value → vv_V → Prop) : Array Value → State → Outcome → State → Prop := fun _ st oc t => (∃ (r : Option Value) (v' : vv_V), oc = .returned r ∧ post r v' ∧ vv_P G v' t.heap) ∧ va_F (fun q => G.2.1 ≤ q) st t
/-- A CONTRACT: on a heap with view v, called with As, the method returns, and 'post answer newview'; mc cells of ms slots at most are made; frames f, locals lo -/
abbrev Mv (l : Launch) (y : MethodName) (cc : ByteArray) (maxL : Nat) (ret : Option FieldType) (f lo : Nat) (G : vv_G) (v : vv_V) (As : List Value) (post : Option Value → vv_V → Prop) (mc ms : Nat) : Prop :=
  Met l y [Cond.code y cc maxL ret] { frames := f, cells := mc, slots := ms, locals := lo } (va_Pc As (vv_pre G v)) (vv_Q G post) mc ms (fun q => G.2.1 ≤ q)
/-- what stays fixed in a method's walk -/
def vC (p : Program) (s : State) (m : MethodId) (args : Array Value) (meth : Method) (c : Code) (cc : ByteArray) (nL : Nat) (ret : Option FieldType) (own : String) (G : vv_G) : Prop :=
  p.tables.exec = Jvm.exec ∧ c.code = cc ∧ c.maxLocals = nL ∧ s.vm.findClass own = some m.cls ∧ vv_E G s ∧ meth.sig.returnType = ret ∧ meth.locks = false
theorem vC.w {p : Program} {s : State} {m : MethodId} {args : Array Value} {meth : Method} {c : Code} {cc : ByteArray} {nL : Nat} {ret : Option FieldType} {own : String} {G : vv_G} (C : vC p s m args meth c cc nL ret own G) : ∀ w ∈ vv_wds, w.before args s = true := fun w hw => va_Nw.use (Bool.and_eq_true_iff.mp (List.mem_filter.mp hw).2).2 (C.2.2.2.2.1.2.1 w hw)
/-- THE WALK'S JUDGEMENT: at pc, with locals lv, operands st, view v, kc cells and ks slots made so far, the machine comes to Q -/
def vV (p : Program) (l : Launch) (e : Env) (R : Room) (s : State) (m : MethodId) (args : Array Value) (below : List Frame) (meth : Method) (c : Code) (Q : State → Prop) (G : vv_G) (nL : Nat) (v : vv_V) (kc ks pc : Nat) (lv : List (Nat × Value)) (st : List Value) : Prop :=
  ∀ (H : Heap) (locs : List Loc) (ls : Array Slot), vv_P G v H → va_S (fun q => G.2.1 ≤ q) s.heap H locs → lv_has ls nL lv → W p l e R s m args below meth c H locs kc ks Q (F0 m pc ls st)
theorem vv_met {l : Launch} {y : MethodName} {cc : ByteArray} {maxL : Nat} {ret : Option FieldType} {f lo : Nat} {G : vv_G} {v : vv_V} {As : List Value} {post : Option Value → vv_V → Prop} {mc ms : Nat} {own nm : String} (hy : plainName y.cls = true) (hown : y.cls = own) (hnm : y.name = nm) (hlen : (lg_sl As).length ≤ maxL)
    (body : ∀ (p : Program) (e : Env) (s : State) (m : MethodId) (below : List Frame) (meth : Method) (c : Code), vC p s m As.toArray meth c cc maxL ret own G → meth.name = nm →
      vV p l e { frames := f, cells := mc, slots := ms, locals := lo } s m As.toArray below meth c (MQ below (vv_Q G post) As.toArray s mc ms (fun q => G.2.1 ≤ q)) G maxL v 0 0 0 (lv_args 0 As) []) : Mv l y cc maxL ret f lo G v As post mc ms := by
  refine Met.ofW (cc := cc) (maxL := maxL) (ret := ret) hy rfl ?_
  intro p e s m args below meth c s₁ B hml hv
  obtain ⟨rfl, hP, hE⟩ := hv
  rw [lg_entry_eq]
  exact body p e s m below meth c ⟨B.exec, B.bytes, hml, by rw [← hown]; exact findClass_of_methodNamed B.named, hE, B.returns, B.notSynchronized⟩ (by rw [← hnm]; exact (name_of_methodNamed B.named B.method).1) s.heap [] _ hP va_S.rf (lv_entry As hlen)
theorem vv_blind {G : vv_G} {v : vv_V} {As : List Value} : FrameBlind (va_Pc As (vv_pre G v)) := fun a U g mk q => ⟨q.1, q.2.1, q.2.2.calling⟩
section VV
variable {p : Program} {l : Launch} {e : Env} {R : Room} {s : State} {m : MethodId} {args : Array Value} {below : List Frame} {meth : Method} {c : Code} {Q : State → Prop} {G : vv_G} {cc : ByteArray} {nL : Nat} {ret : Option FieldType} {own : String} {v : vv_V} {kc ks pc : Nat} {lv : List (Nat × Value)} {st : List Value}
theorem v_iconst (C : vC p s m args meth c cc nL ret own G) {n : Int} {x : Int32} (hd : decode cc pc = .ok (.iconst n, 1)) (hx : Int32.ofInt n = x) (k : vV p l e R s m args below meth c Q G nL v kc ks (pc + 1) lv (.int x :: st)) : vV p l e R s m args below meth c Q G nL v kc ks pc lv (st) := fun H locs ls hP hS hl => lv_iconst C.1 C.2.1 hd hx (k H locs ls hP hS hl)
theorem v_bipush (C : vC p s m args meth c cc nL ret own G) {n : Int} {x : Int32} (hd : decode cc pc = .ok (.bipush n, 2)) (hx : (Int8.ofInt n).toInt32 = x) (k : vV p l e R s m args below meth c Q G nL v kc ks (pc + 2) lv (.int x :: st)) : vV p l e R s m args below meth c Q G nL v kc ks pc lv (st) := fun H locs ls hP hS hl => lv_bipush C.1 C.2.1 hd hx (k H locs ls hP hS hl)
theorem v_sipush (C : vC p s m args meth c cc nL ret own G) {n : Int} {x : Int32} (hd : decode cc pc = .ok (.sipush n, 3)) (hx : (Int16.ofInt n).toInt32 = x) (k : vV p l e R s m args below meth c Q G nL v kc ks (pc + 3) lv (.int x :: st)) : vV p l e R s m args below meth c Q G nL v kc ks pc lv (st) := fun H locs ls hP hS hl => lv_sipush C.1 C.2.1 hd hx (k H locs ls hP hS hl)
theorem v_lconst (C : vC p s m args meth c cc nL ret own G) {n : Fin 2} {x : Int64} (hd : decode cc pc = .ok (.lconst n, 1)) (hx : Int64.ofNat (n : Nat) = x) (k : vV p l e R s m args below meth c Q G nL v kc ks (pc + 1) lv (.long x :: st)) : vV p l e R s m args below meth c Q G nL v kc ks pc lv (st) := fun H locs ls hP hS hl => lv_lconst C.1 C.2.1 hd hx (k H locs ls hP hS hl)
theorem v_null (C : vC p s m args meth c cc nL ret own G)  (hd : decode cc pc = .ok (.aconst_null, 1)) (k : vV p l e R s m args below meth c Q G nL v kc ks (pc + 1) lv (.null :: st)) : vV p l e R s m args below meth c Q G nL v kc ks pc lv (st) := fun H locs ls hP hS hl => lv_null C.1 C.2.1 hd (k H locs ls hP hS hl)
theorem v_ldc (C : vC p s m args meth c cc nL ret own G) {index : Nat} {x : Int32} (hd : decode cc pc = .ok (.ldc index, 2)) (hc : (Cond.constant own index x) ∈ vv_wds) (k : vV p l e R s m args below meth c Q G nL v kc ks (pc + 2) lv (.int x :: st)) : vV p l e R s m args below meth c Q G nL v kc ks pc lv (st) := fun H locs ls hP hS hl => lv_ldc C.1 C.2.1 C.2.2.2.1 (C.w _ hc) hd (k H locs ls hP hS hl)
theorem v_ldc2 (C : vC p s m args meth c cc nL ret own G) {index : Nat} {x : Int64} (hd : decode cc pc = .ok (.ldc2_w index, 3)) (hc : (Cond.constantLong own index x) ∈ vv_wds) (k : vV p l e R s m args below meth c Q G nL v kc ks (pc + 3) lv (.long x :: st)) : vV p l e R s m args below meth c Q G nL v kc ks pc lv (st) := fun H locs ls hP hS hl => lv_ldc2 C.1 C.2.1 C.2.2.2.1 (C.w _ hc) hd (k H locs ls hP hS hl)
theorem v_iload_n (C : vC p s m args meth c cc nL ret own G) {j : Fin 4} {i : Nat} {x : Int32} (q : Nat) (hd : decode cc pc = .ok (.iload_n j, 1)) (hi : (j : Nat) = i) (hq : lv[q]? = some (i, .int x)) (k : vV p l e R s m args below meth c Q G nL v kc ks (pc + 1) lv (.int x :: st)) : vV p l e R s m args below meth c Q G nL v kc ks pc lv (st) := fun H locs ls hP hS hl => lv_iload_n C.1 C.2.1 hd hi (lv_at hl q hq) (k H locs ls hP hS hl)
theorem v_iload (C : vC p s m args meth c cc nL ret own G) {i : Nat} {x : Int32} (q : Nat) (hd : decode cc pc = .ok (.iload i, 2)) (hq : lv[q]? = some (i, .int x)) (k : vV p l e R s m args below meth c Q G nL v kc ks (pc + 2) lv (.int x :: st)) : vV p l e R s m args below meth c Q G nL v kc ks pc lv (st) := fun H locs ls hP hS hl => lv_iload C.1 C.2.1 hd (lv_at hl q hq) (k H locs ls hP hS hl)
theorem v_lload_n (C : vC p s m args meth c cc nL ret own G) {j : Fin 4} {i : Nat} {x : Int64} (q : Nat) (hd : decode cc pc = .ok (.lload_n j, 1)) (hi : (j : Nat) = i) (hq : lv[q]? = some (i, .long x)) (k : vV p l e R s m args below meth c Q G nL v kc ks (pc + 1) lv (.long x :: st)) : vV p l e R s m args below meth c Q G nL v kc ks pc lv (st) := fun H locs ls hP hS hl => lv_lload_n C.1 C.2.1 hd hi (lv_at hl q hq) (k H locs ls hP hS hl)
theorem v_lload (C : vC p s m args meth c cc nL ret own G) {i : Nat} {x : Int64} (q : Nat) (hd : decode cc pc = .ok (.lload i, 2)) (hq : lv[q]? = some (i, .long x)) (k : vV p l e R s m args below meth c Q G nL v kc ks (pc + 2) lv (.long x :: st)) : vV p l e R s m args below meth c Q G nL v kc ks pc lv (st) := fun H locs ls hP hS hl => lv_lload C.1 C.2.1 hd (lv_at hl q hq) (k H locs ls hP hS hl)
theorem v_aload_n (C : vC p s m args meth c cc nL ret own G) {j : Fin 4} {i : Nat} {x : Nat} (q : Nat) (hd : decode cc pc = .ok (.aload_n j, 1)) (hi : (j : Nat) = i) (hq : lv[q]? = some (i, .ref x)) (k : vV p l e R s m args below meth c Q G nL v kc ks (pc + 1) lv (.ref x :: st)) : vV p l e R s m args below meth c Q G nL v kc ks pc lv (st) := fun H locs ls hP hS hl => lv_aload_n C.1 C.2.1 hd hi (lv_at hl q hq) (k H locs ls hP hS hl)
theorem v_aload (C : vC p s m args meth c cc nL ret own G) {i : Nat} {x : Nat} (q : Nat) (hd : decode cc pc = .ok (.aload i, 2)) (hq : lv[q]? = some (i, .ref x)) (k : vV p l e R s m args below meth c Q G nL v kc ks (pc + 2) lv (.ref x :: st)) : vV p l e R s m args below meth c Q G nL v kc ks pc lv (st) := fun H locs ls hP hS hl => lv_aload C.1 C.2.1 hd (lv_at hl q hq) (k H locs ls hP hS hl)
theorem v_aload_nN (C : vC p s m args meth c cc nL ret own G) {j : Fin 4} {i : Nat} (q : Nat) (hd : decode cc pc = .ok (.aload_n j, 1)) (hi : (j : Nat) = i) (hq : lv[q]? = some (i, .null)) (k : vV p l e R s m args below meth c Q G nL v kc ks (pc + 1) lv (.null :: st)) : vV p l e R s m args below meth c Q G nL v kc ks pc lv (st) := fun H locs ls hP hS hl => lv_aload_nN C.1 C.2.1 hd hi (lv_at hl q hq) (k H locs ls hP hS hl)
theorem v_aloadN (C : vC p s m args meth c cc nL ret own G) {i : Nat} (q : Nat) (hd : decode cc pc = .ok (.aload i, 2)) (hq : lv[q]? = some (i, .null)) (k : vV p l e R s m args below meth c Q G nL v kc ks (pc + 2) lv (.null :: st)) : vV p l e R s m args below meth c Q G nL v kc ks pc lv (st) := fun H locs ls hP hS hl => lv_aloadN C.1 C.2.1 hd (lv_at hl q hq) (k H locs ls hP hS hl)
theorem v_istore_n (C : vC p s m args meth c cc nL ret own G) {j : Fin 4} {i : Nat} {x : Int32} {lv' : List (Nat × Value)} (hd : decode cc pc = .ok (.istore_n j, 1)) (hi : (j : Nat) = i) (hn : i < nL) (hv : (i, Value.int x) :: lv.filter (fun q => !(q.1 == i) && !(q.1 + 1 == i && q.2.category == 2)) = lv') (k : vV p l e R s m args below meth c Q G nL v kc ks (pc + 1) lv' st) : vV p l e R s m args below meth c Q G nL v kc ks pc lv (Value.int x :: st) := fun H locs ls hP hS hl => lv_istore_n C.1 C.2.1 hd hi hl hn hv (fun ls' hl' => k H locs ls' hP hS hl')
theorem v_istore (C : vC p s m args meth c cc nL ret own G) {i : Nat} {x : Int32} {lv' : List (Nat × Value)} (hd : decode cc pc = .ok (.istore i, 2)) (hn : i < nL) (hv : (i, Value.int x) :: lv.filter (fun q => !(q.1 == i) && !(q.1 + 1 == i && q.2.category == 2)) = lv') (k : vV p l e R s m args below meth c Q G nL v kc ks (pc + 2) lv' st) : vV p l e R s m args below meth c Q G nL v kc ks pc lv (Value.int x :: st) := fun H locs ls hP hS hl => lv_istore C.1 C.2.1 hd hl hn hv (fun ls' hl' => k H locs ls' hP hS hl')
theorem v_lstore_n (C : vC p s m args meth c cc nL ret own G) {j : Fin 4} {i : Nat} {x : Int64} {lv' : List (Nat × Value)} (hd : decode cc pc = .ok (.lstore_n j, 1)) (hi : (j : Nat) = i) (hn : i + 1 < nL) (hv : (i, Value.long x) :: lv.filter (fun q => !(q.1 == i) && (!(q.1 == i + 1) && !(q.1 + 1 == i && q.2.category == 2))) = lv') (k : vV p l e R s m args below meth c Q G nL v kc ks (pc + 1) lv' st) : vV p l e R s m args below meth c Q G nL v kc ks pc lv (Value.long x :: st) := fun H locs ls hP hS hl => lv_lstore_n C.1 C.2.1 hd hi hl hn hv (fun ls' hl' => k H locs ls' hP hS hl')
theorem v_lstore (C : vC p s m args meth c cc nL ret own G) {i : Nat} {x : Int64} {lv' : List (Nat × Value)} (hd : decode cc pc = .ok (.lstore i, 2)) (hn : i + 1 < nL) (hv : (i, Value.long x) :: lv.filter (fun q => !(q.1 == i) && (!(q.1 == i + 1) && !(q.1 + 1 == i && q.2.category == 2))) = lv') (k : vV p l e R s m args below meth c Q G nL v kc ks (pc + 2) lv' st) : vV p l e R s m args below meth c Q G nL v kc ks pc lv (Value.long x :: st) := fun H locs ls hP hS hl => lv_lstore C.1 C.2.1 hd hl hn hv (fun ls' hl' => k H locs ls' hP hS hl')
theorem v_astore_n (C : vC p s m args meth c cc nL ret own G) {j : Fin 4} {i : Nat} {x : Nat} {lv' : List (Nat × Value)} (hd : decode cc pc = .ok (.astore_n j, 1)) (hi : (j : Nat) = i) (hn : i < nL) (hv : (i, Value.ref x) :: lv.filter (fun q => !(q.1 == i) && !(q.1 + 1 == i && q.2.category == 2)) = lv') (k : vV p l e R s m args below meth c Q G nL v kc ks (pc + 1) lv' st) : vV p l e R s m args below meth c Q G nL v kc ks pc lv (Value.ref x :: st) := fun H locs ls hP hS hl => lv_astore_n C.1 C.2.1 hd hi hl hn hv (fun ls' hl' => k H locs ls' hP hS hl')
theorem v_astore (C : vC p s m args meth c cc nL ret own G) {i : Nat} {x : Nat} {lv' : List (Nat × Value)} (hd : decode cc pc = .ok (.astore i, 2)) (hn : i < nL) (hv : (i, Value.ref x) :: lv.filter (fun q => !(q.1 == i) && !(q.1 + 1 == i && q.2.category == 2)) = lv') (k : vV p l e R s m args below meth c Q G nL v kc ks (pc + 2) lv' st) : vV p l e R s m args below meth c Q G nL v kc ks pc lv (Value.ref x :: st) := fun H locs ls hP hS hl => lv_astore C.1 C.2.1 hd hl hn hv (fun ls' hl' => k H locs ls' hP hS hl')
theorem v_astore_nN (C : vC p s m args meth c cc nL ret own G) {j : Fin 4} {i : Nat} {lv' : List (Nat × Value)} (hd : decode cc pc = .ok (.astore_n j, 1)) (hi : (j : Nat) = i) (hn : i < nL) (hv : (i, Value.null) :: lv.filter (fun q => !(q.1 == i) && !(q.1 + 1 == i && q.2.category == 2)) = lv') (k : vV p l e R s m args below meth c Q G nL v kc ks (pc + 1) lv' st) : vV p l e R s m args below meth c Q G nL v kc ks pc lv (Value.null :: st) := fun H locs ls hP hS hl => lv_astore_nN C.1 C.2.1 hd hi hl hn hv (fun ls' hl' => k H locs ls' hP hS hl')
theorem v_astoreN (C : vC p s m args meth c cc nL ret own G) {i : Nat} {lv' : List (Nat × Value)} (hd : decode cc pc = .ok (.astore i, 2)) (hn : i < nL) (hv : (i, Value.null) :: lv.filter (fun q => !(q.1 == i) && !(q.1 + 1 == i && q.2.category == 2)) = lv') (k : vV p l e R s m args below meth c Q G nL v kc ks (pc + 2) lv' st) : vV p l e R s m args below meth c Q G nL v kc ks pc lv (Value.null :: st) := fun H locs ls hP hS hl => lv_astoreN C.1 C.2.1 hd hl hn hv (fun ls' hl' => k H locs ls' hP hS hl')
theorem v_iinc (C : vC p s m args meth c cc nL ret own G) {i : Nat} {n : Int} {x y : Int32} (q : Nat) {lv' : List (Nat × Value)} (hd : decode cc pc = .ok (.iinc i n, 3)) (hq : lv[q]? = some (i, .int x)) (hy : x + Int32.ofInt n = y) (hn : i < nL) (hv : (i, Value.int y) :: lv.filter (fun q => !(q.1 == i) && !(q.1 + 1 == i && q.2.category == 2)) = lv') (k : vV p l e R s m args below meth c Q G nL v kc ks (pc + 3) lv' st) : vV p l e R s m args below meth c Q G nL v kc ks pc lv st := fun H locs ls hP hS hl => lv_iinc C.1 C.2.1 hd hl hq hy hn hv (fun ls' hl' => k H locs ls' hP hS hl')
theorem v_iadd (C : vC p s m args meth c cc nL ret own G) {x y : Int32} (hd : decode cc pc = .ok (.iadd, 1)) (k : vV p l e R s m args below meth c Q G nL v kc ks (pc + 1) lv (.int (x + y) :: st)) : vV p l e R s m args below meth c Q G nL v kc ks pc lv (.int y :: .int x :: st) := fun H locs ls hP hS hl => lv_iadd C.1 C.2.1 hd (k H locs ls hP hS hl)
theorem v_isub (C : vC p s m args meth c cc nL ret own G) {x y : Int32} (hd : decode cc pc = .ok (.isub, 1)) (k : vV p l e R s m args below meth c Q G nL v kc ks (pc + 1) lv (.int (x - y) :: st)) : vV p l e R s m args below meth c Q G nL v kc ks pc lv (.int y :: .int x :: st) := fun H locs ls hP hS hl => lv_isub C.1 C.2.1 hd (k H locs ls hP hS hl)
theorem v_imul (C : vC p s m args meth c cc nL ret own G) {x y : Int32} (hd : decode cc pc = .ok (.imul, 1)) (k : vV p l e R s m args below meth c Q G nL v kc ks (pc + 1) lv (.int (x * y) :: st)) : vV p l e R s m args below meth c Q G nL v kc ks pc lv (.int y :: .int x :: st) := fun H locs ls hP hS hl => lv_imul C.1 C.2.1 hd (k H locs ls hP hS hl)
theorem v_iand (C : vC p s m args meth c cc nL ret own G) {x y : Int32} (hd : decode cc pc = .ok (.iand, 1)) (k : vV p l e R s m args below meth c Q G nL v kc ks (pc + 1) lv (.int (x &&& y) :: st)) : vV p l e R s m args below meth c Q G nL v kc ks pc lv (.int y :: .int x :: st) := fun H locs ls hP hS hl => lv_iand C.1 C.2.1 hd (k H locs ls hP hS hl)
theorem v_ior (C : vC p s m args meth c cc nL ret own G) {x y : Int32} (hd : decode cc pc = .ok (.ior, 1)) (k : vV p l e R s m args below meth c Q G nL v kc ks (pc + 1) lv (.int (x ||| y) :: st)) : vV p l e R s m args below meth c Q G nL v kc ks pc lv (.int y :: .int x :: st) := fun H locs ls hP hS hl => lv_ior C.1 C.2.1 hd (k H locs ls hP hS hl)
theorem v_ixor (C : vC p s m args meth c cc nL ret own G) {x y : Int32} (hd : decode cc pc = .ok (.ixor, 1)) (k : vV p l e R s m args below meth c Q G nL v kc ks (pc + 1) lv (.int (x ^^^ y) :: st)) : vV p l e R s m args below meth c Q G nL v kc ks pc lv (.int y :: .int x :: st) := fun H locs ls hP hS hl => lv_ixor C.1 C.2.1 hd (k H locs ls hP hS hl)
theorem v_ladd (C : vC p s m args meth c cc nL ret own G) {x y : Int64} (hd : decode cc pc = .ok (.ladd, 1)) (k : vV p l e R s m args below meth c Q G nL v kc ks (pc + 1) lv (.long (x + y) :: st)) : vV p l e R s m args below meth c Q G nL v kc ks pc lv (.long y :: .long x :: st) := fun H locs ls hP hS hl => lv_ladd C.1 C.2.1 hd (k H locs ls hP hS hl)
theorem v_lsub (C : vC p s m args meth c cc nL ret own G) {x y : Int64} (hd : decode cc pc = .ok (.lsub, 1)) (k : vV p l e R s m args below meth c Q G nL v kc ks (pc + 1) lv (.long (x - y) :: st)) : vV p l e R s m args below meth c Q G nL v kc ks pc lv (.long y :: .long x :: st) := fun H locs ls hP hS hl => lv_lsub C.1 C.2.1 hd (k H locs ls hP hS hl)
theorem v_lmul (C : vC p s m args meth c cc nL ret own G) {x y : Int64} (hd : decode cc pc = .ok (.lmul, 1)) (k : vV p l e R s m args below meth c Q G nL v kc ks (pc + 1) lv (.long (x * y) :: st)) : vV p l e R s m args below meth c Q G nL v kc ks pc lv (.long y :: .long x :: st) := fun H locs ls hP hS hl => lv_lmul C.1 C.2.1 hd (k H locs ls hP hS hl)
theorem v_land (C : vC p s m args meth c cc nL ret own G) {x y : Int64} (hd : decode cc pc = .ok (.land, 1)) (k : vV p l e R s m args below meth c Q G nL v kc ks (pc + 1) lv (.long (x &&& y) :: st)) : vV p l e R s m args below meth c Q G nL v kc ks pc lv (.long y :: .long x :: st) := fun H locs ls hP hS hl => lv_land C.1 C.2.1 hd (k H locs ls hP hS hl)
theorem v_lor (C : vC p s m args meth c cc nL ret own G) {x y : Int64} (hd : decode cc pc = .ok (.lor, 1)) (k : vV p l e R s m args below meth c Q G nL v kc ks (pc + 1) lv (.long (x ||| y) :: st)) : vV p l e R s m args below meth c Q G nL v kc ks pc lv (.long y :: .long x :: st) := fun H locs ls hP hS hl => lv_lor C.1 C.2.1 hd (k H locs ls hP hS hl)
theorem v_lxor (C : vC p s m args meth c cc nL ret own G) {x y : Int64} (hd : decode cc pc = .ok (.lxor, 1)) (k : vV p l e R s m args below meth c Q G nL v kc ks (pc + 1) lv (.long (x ^^^ y) :: st)) : vV p l e R s m args below meth c Q G nL v kc ks pc lv (.long y :: .long x :: st) := fun H locs ls hP hS hl => lv_lxor C.1 C.2.1 hd (k H locs ls hP hS hl)
theorem v_ineg (C : vC p s m args meth c cc nL ret own G) {x : Int32} (hd : decode cc pc = .ok (.ineg, 1)) (k : vV p l e R s m args below meth c Q G nL v kc ks (pc + 1) lv (.int (-x) :: st)) : vV p l e R s m args below meth c Q G nL v kc ks pc lv (.int x :: st) := fun H locs ls hP hS hl => lv_ineg C.1 C.2.1 hd (k H locs ls hP hS hl)
theorem v_lneg (C : vC p s m args meth c cc nL ret own G) {x : Int64} (hd : decode cc pc = .ok (.lneg, 1)) (k : vV p l e R s m args below meth c Q G nL v kc ks (pc + 1) lv (.long (-x) :: st)) : vV p l e R s m args below meth c Q G nL v kc ks pc lv (.long x :: st) := fun H locs ls hP hS hl => lv_lneg C.1 C.2.1 hd (k H locs ls hP hS hl)
theorem v_i2l (C : vC p s m args meth c cc nL ret own G) {x : Int32} {y : Int64} (hd : decode cc pc = .ok (.i2l, 1)) (hx : x.toInt64 = y) (k : vV p l e R s m args below meth c Q G nL v kc ks (pc + 1) lv (.long y :: st)) : vV p l e R s m args below meth c Q G nL v kc ks pc lv (.int x :: st) := fun H locs ls hP hS hl => lv_i2l C.1 C.2.1 hd hx (k H locs ls hP hS hl)
theorem v_l2i (C : vC p s m args meth c cc nL ret own G) {x : Int64} {y : Int32} (hd : decode cc pc = .ok (.l2i, 1)) (hx : x.toInt32 = y) (k : vV p l e R s m args below meth c Q G nL v kc ks (pc + 1) lv (.int y :: st)) : vV p l e R s m args below meth c Q G nL v kc ks pc lv (.long x :: st) := fun H locs ls hP hS hl => lv_l2i C.1 C.2.1 hd hx (k H locs ls hP hS hl)
theorem v_lcmp (C : vC p s m args meth c cc nL ret own G) {x y : Int64} (hd : decode cc pc = .ok (.lcmp, 1)) (k : vV p l e R s m args below meth c Q G nL v kc ks (pc + 1) lv (.int (lg_cmp x y) :: st)) : vV p l e R s m args below meth c Q G nL v kc ks pc lv (.long y :: .long x :: st) := fun H locs ls hP hS hl => W.lcmp C.1 C.2.1 hd (k H locs ls hP hS hl)
theorem v_dup (C : vC p s m args meth c cc nL ret own G) {x : Value} (hd : decode cc pc = .ok (.dup, 1)) (hx : x.category = 1) (k : vV p l e R s m args below meth c Q G nL v kc ks (pc + 1) lv (x :: x :: st)) : vV p l e R s m args below meth c Q G nL v kc ks pc lv (x :: st) := fun H locs ls hP hS hl => lv_dup C.1 C.2.1 hd hx (k H locs ls hP hS hl)
theorem v_pop (C : vC p s m args meth c cc nL ret own G) {x : Value} (hd : decode cc pc = .ok (.pop, 1)) (hx : x.category = 1) (k : vV p l e R s m args below meth c Q G nL v kc ks (pc + 1) lv (st)) : vV p l e R s m args below meth c Q G nL v kc ks pc lv (x :: st) := fun H locs ls hP hS hl => lv_pop C.1 C.2.1 hd hx (k H locs ls hP hS hl)
theorem v_dup_x1 (C : vC p s m args meth c cc nL ret own G) {x y : Value} (hd : decode cc pc = .ok (.dup_x1, 1)) (hx : x.category = 1) (hy : y.category = 1) (k : vV p l e R s m args below meth c Q G nL v kc ks (pc + 1) lv (x :: y :: x :: st)) : vV p l e R s m args below meth c Q G nL v kc ks pc lv (x :: y :: st) := fun H locs ls hP hS hl => lv_dup_x1 C.1 C.2.1 hd hx hy (k H locs ls hP hS hl)
theorem v_dup2_11 (C : vC p s m args meth c cc nL ret own G) {x y : Value} (hd : decode cc pc = .ok (.dup2, 1)) (hx : x.category = 1) (hy : y.category = 1) (k : vV p l e R s m args below meth c Q G nL v kc ks (pc + 1) lv (x :: y :: x :: y :: st)) : vV p l e R s m args below meth c Q G nL v kc ks pc lv (x :: y :: st) := fun H locs ls hP hS hl => lv_dup2_11 C.1 C.2.1 hd hx hy (k H locs ls hP hS hl)
theorem v_dup2_2 (C : vC p s m args meth c cc nL ret own G) {x : Value} (hd : decode cc pc = .ok (.dup2, 1)) (hx : x.category = 2) (k : vV p l e R s m args below meth c Q G nL v kc ks (pc + 1) lv (x :: x :: st)) : vV p l e R s m args below meth c Q G nL v kc ks pc lv (x :: st) := fun H locs ls hP hS hl => lv_dup2_2 C.1 C.2.1 hd hx (k H locs ls hP hS hl)
theorem v_dup_x2 (C : vC p s m args meth c cc nL ret own G) {x y z : Value} (hd : decode cc pc = .ok (.dup_x2, 1)) (hx : x.category = 1) (hy : y.category = 1) (hz : z.category = 1) (k : vV p l e R s m args below meth c Q G nL v kc ks (pc + 1) lv (x :: y :: z :: x :: st)) : vV p l e R s m args below meth c Q G nL v kc ks pc lv (x :: y :: z :: st) := fun H locs ls hP hS hl => lv_dup_x2 C.1 C.2.1 hd hx hy hz (k H locs ls hP hS hl)
theorem v_pop2_2 (C : vC p s m args meth c cc nL ret own G) {x : Value} (hd : decode cc pc = .ok (.pop2, 1)) (hx : x.category = 2) (k : vV p l e R s m args below meth c Q G nL v kc ks (pc + 1) lv (st)) : vV p l e R s m args below meth c Q G nL v kc ks pc lv (x :: st) := fun H locs ls hP hS hl => lv_pop2_2 C.1 C.2.1 hd hx (k H locs ls hP hS hl)
theorem v_dup2_x1_2 (C : vC p s m args meth c cc nL ret own G) {x y : Value} (hd : decode cc pc = .ok (.dup2_x1, 1)) (hx : x.category = 2) (hy : y.category = 1) (k : vV p l e R s m args below meth c Q G nL v kc ks (pc + 1) lv (x :: y :: x :: st)) : vV p l e R s m args below meth c Q G nL v kc ks pc lv (x :: y :: st) := fun H locs ls hP hS hl => lv_dup2_x1_2 C.1 C.2.1 hd hx hy (k H locs ls hP hS hl)
theorem v_if_eq (C : vC p s m args meth c cc nL ret own G) {x : Int32} {off : Int} (tgt : Nat) (hd : decode cc pc = .ok (.ifCond .eq off, 3)) (ht : (pc : Int) + off = (tgt : Int)) (kt : x = 0 → vV p l e R s m args below meth c Q G nL v kc ks tgt lv st) (kf : ¬ x = 0 → vV p l e R s m args below meth c Q G nL v kc ks (pc + 3) lv st) : vV p l e R s m args below meth c Q G nL v kc ks pc lv (.int x :: st) := fun H locs ls hP hS hl => lv_if_eq C.1 C.2.1 hd ht (fun z => kt z H locs ls hP hS hl) (fun z => kf z H locs ls hP hS hl)
theorem v_icmp_eq (C : vC p s m args meth c cc nL ret own G) {x y : Int32} {off : Int} (tgt : Nat) (hd : decode cc pc = .ok (.if_icmp .eq off, 3)) (ht : (pc : Int) + off = (tgt : Int)) (kt : x = y → vV p l e R s m args below meth c Q G nL v kc ks tgt lv st) (kf : ¬ x = y → vV p l e R s m args below meth c Q G nL v kc ks (pc + 3) lv st) : vV p l e R s m args below meth c Q G nL v kc ks pc lv (.int y :: .int x :: st) := fun H locs ls hP hS hl => lv_icmp_eq C.1 C.2.1 hd ht (fun z => kt z H locs ls hP hS hl) (fun z => kf z H locs ls hP hS hl)
theorem v_if_ne (C : vC p s m args meth c cc nL ret own G) {x : Int32} {off : Int} (tgt : Nat) (hd : decode cc pc = .ok (.ifCond .ne off, 3)) (ht : (pc : Int) + off = (tgt : Int)) (kt : ¬ x = 0 → vV p l e R s m args below meth c Q G nL v kc ks tgt lv st) (kf : x = 0 → vV p l e R s m args below meth c Q G nL v kc ks (pc + 3) lv st) : vV p l e R s m args below meth c Q G nL v kc ks pc lv (.int x :: st) := fun H locs ls hP hS hl => lv_if_ne C.1 C.2.1 hd ht (fun z => kt z H locs ls hP hS hl) (fun z => kf z H locs ls hP hS hl)
theorem v_icmp_ne (C : vC p s m args meth c cc nL ret own G) {x y : Int32} {off : Int} (tgt : Nat) (hd : decode cc pc = .ok (.if_icmp .ne off, 3)) (ht : (pc : Int) + off = (tgt : Int)) (kt : ¬ x = y → vV p l e R s m args below meth c Q G nL v kc ks tgt lv st) (kf : x = y → vV p l e R s m args below meth c Q G nL v kc ks (pc + 3) lv st) : vV p l e R s m args below meth c Q G nL v kc ks pc lv (.int y :: .int x :: st) := fun H locs ls hP hS hl => lv_icmp_ne C.1 C.2.1 hd ht (fun z => kt z H locs ls hP hS hl) (fun z => kf z H locs ls hP hS hl)
theorem v_if_lt (C : vC p s m args meth c cc nL ret own G) {x : Int32} {off : Int} (tgt : Nat) (hd : decode cc pc = .ok (.ifCond .lt off, 3)) (ht : (pc : Int) + off = (tgt : Int)) (kt : x < 0 → vV p l e R s m args below meth c Q G nL v kc ks tgt lv st) (kf : ¬ x < 0 → vV p l e R s m args below meth c Q G nL v kc ks (pc + 3) lv st) : vV p l e R s m args below meth c Q G nL v kc ks pc lv (.int x :: st) := fun H locs ls hP hS hl => lv_if_lt C.1 C.2.1 hd ht (fun z => kt z H locs ls hP hS hl) (fun z => kf z H locs ls hP hS hl)
theorem v_icmp_lt (C : vC p s m args meth c cc nL ret own G) {x y : Int32} {off : Int} (tgt : Nat) (hd : decode cc pc = .ok (.if_icmp .lt off, 3)) (ht : (pc : Int) + off = (tgt : Int)) (kt : x < y → vV p l e R s m args below meth c Q G nL v kc ks tgt lv st) (kf : ¬ x < y → vV p l e R s m args below meth c Q G nL v kc ks (pc + 3) lv st) : vV p l e R s m args below meth c Q G nL v kc ks pc lv (.int y :: .int x :: st) := fun H locs ls hP hS hl => lv_icmp_lt C.1 C.2.1 hd ht (fun z => kt z H locs ls hP hS hl) (fun z => kf z H locs ls hP hS hl)
theorem v_if_ge (C : vC p s m args meth c cc nL ret own G) {x : Int32} {off : Int} (tgt : Nat) (hd : decode cc pc = .ok (.ifCond .ge off, 3)) (ht : (pc : Int) + off = (tgt : Int)) (kt : 0 ≤ x → vV p l e R s m args below meth c Q G nL v kc ks tgt lv st) (kf : ¬ 0 ≤ x → vV p l e R s m args below meth c Q G nL v kc ks (pc + 3) lv st) : vV p l e R s m args below meth c Q G nL v kc ks pc lv (.int x :: st) := fun H locs ls hP hS hl => lv_if_ge C.1 C.2.1 hd ht (fun z => kt z H locs ls hP hS hl) (fun z => kf z H locs ls hP hS hl)
theorem v_icmp_ge (C : vC p s m args meth c cc nL ret own G) {x y : Int32} {off : Int} (tgt : Nat) (hd : decode cc pc = .ok (.if_icmp .ge off, 3)) (ht : (pc : Int) + off = (tgt : Int)) (kt : y ≤ x → vV p l e R s m args below meth c Q G nL v kc ks tgt lv st) (kf : ¬ y ≤ x → vV p l e R s m args below meth c Q G nL v kc ks (pc + 3) lv st) : vV p l e R s m args below meth c Q G nL v kc ks pc lv (.int y :: .int x :: st) := fun H locs ls hP hS hl => lv_icmp_ge C.1 C.2.1 hd ht (fun z => kt z H locs ls hP hS hl) (fun z => kf z H locs ls hP hS hl)
theorem v_if_gt (C : vC p s m args meth c cc nL ret own G) {x : Int32} {off : Int} (tgt : Nat) (hd : decode cc pc = .ok (.ifCond .gt off, 3)) (ht : (pc : Int) + off = (tgt : Int)) (kt : 0 < x → vV p l e R s m args below meth c Q G nL v kc ks tgt lv st) (kf : ¬ 0 < x → vV p l e R s m args below meth c Q G nL v kc ks (pc + 3) lv st) : vV p l e R s m args below meth c Q G nL v kc ks pc lv (.int x :: st) := fun H locs ls hP hS hl => lv_if_gt C.1 C.2.1 hd ht (fun z => kt z H locs ls hP hS hl) (fun z => kf z H locs ls hP hS hl)
theorem v_icmp_gt (C : vC p s m args meth c cc nL ret own G) {x y : Int32} {off : Int} (tgt : Nat) (hd : decode cc pc = .ok (.if_icmp .gt off, 3)) (ht : (pc : Int) + off = (tgt : Int)) (kt : y < x → vV p l e R s m args below meth c Q G nL v kc ks tgt lv st) (kf : ¬ y < x → vV p l e R s m args below meth c Q G nL v kc ks (pc + 3) lv st) : vV p l e R s m args below meth c Q G nL v kc ks pc lv (.int y :: .int x :: st) := fun H locs ls hP hS hl => lv_icmp_gt C.1 C.2.1 hd ht (fun z => kt z H locs ls hP hS hl) (fun z => kf z H locs ls hP hS hl)
theorem v_if_le (C : vC p s m args meth c cc nL ret own G) {x : Int32} {off : Int} (tgt : Nat) (hd : decode cc pc = .ok (.ifCond .le off, 3)) (ht : (pc : Int) + off = (tgt : Int)) (kt : x ≤ 0 → vV p l e R s m args below meth c Q G nL v kc ks tgt lv st) (kf : ¬ x ≤ 0 → vV p l e R s m args below meth c Q G nL v kc ks (pc + 3) lv st) : vV p l e R s m args below meth c Q G nL v kc ks pc lv (.int x :: st) := fun H locs ls hP hS hl => lv_if_le C.1 C.2.1 hd ht (fun z => kt z H locs ls hP hS hl) (fun z => kf z H locs ls hP hS hl)
theorem v_icmp_le (C : vC p s m args meth c cc nL ret own G) {x y : Int32} {off : Int} (tgt : Nat) (hd : decode cc pc = .ok (.if_icmp .le off, 3)) (ht : (pc : Int) + off = (tgt : Int)) (kt : x ≤ y → vV p l e R s m args below meth c Q G nL v kc ks tgt lv st) (kf : ¬ x ≤ y → vV p l e R s m args below meth c Q G nL v kc ks (pc + 3) lv st) : vV p l e R s m args below meth c Q G nL v kc ks pc lv (.int y :: .int x :: st) := fun H locs ls hP hS hl => lv_icmp_le C.1 C.2.1 hd ht (fun z => kt z H locs ls hP hS hl) (fun z => kf z H locs ls hP hS hl)
theorem v_goto (C : vC p s m args meth c cc nL ret own G) {off : Int} (tgt : Nat) (hd : decode cc pc = .ok (.goto off, 3)) (ht : (pc : Int) + off = (tgt : Int)) (k : vV p l e R s m args below meth c Q G nL v kc ks tgt lv st) : vV p l e R s m args below meth c Q G nL v kc ks pc lv st := fun H locs ls hP hS hl => lv_goto C.1 C.2.1 hd ht (k H locs ls hP hS hl)
theorem v_ifnull (C : vC p s m args meth c cc nL ret own G) {x : Nat} {off : Int} (hd : decode cc pc = .ok (.ifnull off, 3)) (k : vV p l e R s m args below meth c Q G nL v kc ks (pc + 3) lv st) : vV p l e R s m args below meth c Q G nL v kc ks pc lv (.ref x :: st) := fun H locs ls hP hS hl => lv_ifnull C.1 C.2.1 hd (k H locs ls hP hS hl)
theorem v_ifnullN (C : vC p s m args meth c cc nL ret own G) {off : Int} (tgt : Nat) (hd : decode cc pc = .ok (.ifnull off, 3)) (ht : (pc : Int) + off = (tgt : Int)) (k : vV p l e R s m args below meth c Q G nL v kc ks tgt lv st) : vV p l e R s m args below meth c Q G nL v kc ks pc lv (.null :: st) := fun H locs ls hP hS hl => lv_ifnullN C.1 C.2.1 hd ht (k H locs ls hP hS hl)
theorem v_ifnonnull (C : vC p s m args meth c cc nL ret own G) {x : Nat} {off : Int} (tgt : Nat) (hd : decode cc pc = .ok (.ifnonnull off, 3)) (ht : (pc : Int) + off = (tgt : Int)) (k : vV p l e R s m args below meth c Q G nL v kc ks tgt lv st) : vV p l e R s m args below meth c Q G nL v kc ks pc lv (.ref x :: st) := fun H locs ls hP hS hl => lv_ifnonnull C.1 C.2.1 hd ht (k H locs ls hP hS hl)
theorem v_ifnonnullN (C : vC p s m args meth c cc nL ret own G) {off : Int} (hd : decode cc pc = .ok (.ifnonnull off, 3)) (k : vV p l e R s m args below meth c Q G nL v kc ks (pc + 3) lv st) : vV p l e R s m args below meth c Q G nL v kc ks pc lv (.null :: st) := fun H locs ls hP hS hl => lv_ifnonnullN C.1 C.2.1 hd (k H locs ls hP hS hl)
theorem v_topi {x : Int32} (k : ∀ y : Int32, y = x → vV p l e R s m args below meth c Q G nL v kc ks pc lv (.int y :: st)) : vV p l e R s m args below meth c Q G nL v kc ks pc lv (.int x :: st) := k x rfl
theorem v_topl {x : Int64} (k : ∀ y : Int64, y = x → vV p l e R s m args below meth c Q G nL v kc ks pc lv (.long y :: st)) : vV p l e R s m args below meth c Q G nL v kc ks pc lv (.long x :: st) := k x rfl
theorem v_sub (is : List Nat) {lv' : List (Nat × Value)} (hv : lv_pick lv is = lv') (k : vV p l e R s m args below meth c Q G nL v kc ks pc lv' st) : vV p l e R s m args below meth c Q G nL v kc ks pc lv st := fun H locs ls hP hS hl => k H locs ls hP hS (lv_sub hl is hv)
theorem v_widen {kc' ks' : Nat} (h1 : kc ≤ kc') (h2 : ks ≤ ks') (k : vV p l e R s m args below meth c Q G nL v kc' ks' pc lv st) : vV p l e R s m args below meth c Q G nL v kc ks pc lv st := fun H locs ls hP hS hl => W.widen h1 h2 (k H locs ls hP hS hl)
end VV
section VH
variable {p : Program} {l : Launch} {e : Env} {R : Room} {s : State} {m : MethodId} {args : Array Value} {below : List Frame} {meth : Method} {c : Code} {Q : State → Prop} {G : vv_G} {cc : ByteArray} {nL : Nat} {ret : Option FieldType} {own : String} {v : vv_V} {kc ks pc : Nat} {lv : List (Nat × Value)} {st : List Value}
-- answers
variable {post : Option Value → vv_V → Prop} {mc ms : Nat}
theorem v_iret {x : Int32} (C : vC p s m args meth c cc nL (some .int) own G) (hd : decode cc pc = .ok (.ireturn, 1)) (hc : kc ≤ mc) (hs : ks ≤ ms) (hp : post (some (.int x)) v) : vV p l e R s m args below meth c (MQ below (vv_Q G post) args s mc ms (fun q => G.2.1 ≤ q)) G nL v kc ks pc lv [.int x] :=
  fun H locs ls hP hS hl => W.widen hc hs (W.iret C.1 C.2.1 C.2.2.2.2.2.1 (fun t ht hW => ⟨⟨_, v, rfl, hp, by rw [ht]; exact hP⟩, hS.F ht⟩) hS.2.2 hd (hlocks := C.2.2.2.2.2.2))
theorem v_zret {x : Int32} (C : vC p s m args meth c cc nL (some .boolean) own G) (hd : decode cc pc = .ok (.ireturn, 1)) (hc : kc ≤ mc) (hs : ks ≤ ms) (hn : narrow .boolean (.int x) = .int x) (hp : post (some (.int x)) v) : vV p l e R s m args below meth c (MQ below (vv_Q G post) args s mc ms (fun q => G.2.1 ≤ q)) G nL v kc ks pc lv [.int x] :=
  fun H locs ls hP hS hl => W.widen hc hs (W.zret C.1 C.2.1 C.2.2.2.2.2.1 hn (fun t ht hW => ⟨⟨_, v, rfl, hp, by rw [ht]; exact hP⟩, hS.F ht⟩) hS.2.2 hd (hlocks := C.2.2.2.2.2.2))
theorem v_lret {x : Int64} (C : vC p s m args meth c cc nL (some .long) own G) (hd : decode cc pc = .ok (.lreturn, 1)) (hc : kc ≤ mc) (hs : ks ≤ ms) (hp : post (some (.long x)) v) : vV p l e R s m args below meth c (MQ below (vv_Q G post) args s mc ms (fun q => G.2.1 ≤ q)) G nL v kc ks pc lv [.long x] :=
  fun H locs ls hP hS hl => W.widen hc hs (W.lret C.1 C.2.1 C.2.2.2.2.2.1 (fun t ht hW => ⟨⟨_, v, rfl, hp, by rw [ht]; exact hP⟩, hS.F ht⟩) hS.2.2 hd (hlocks := C.2.2.2.2.2.2))
theorem v_vret (C : vC p s m args meth c cc nL none own G) (hd : decode cc pc = .ok (.return_, 1)) (hc : kc ≤ mc) (hs : ks ≤ ms) (hp : post none v) : vV p l e R s m args below meth c (MQ below (vv_Q G post) args s mc ms (fun q => G.2.1 ≤ q)) G nL v kc ks pc lv [] :=
  fun H locs ls hP hS hl => W.widen hc hs (W.vret C.1 C.2.1 C.2.2.2.2.2.1 (fun t ht hW => ⟨⟨_, v, rfl, hp, by rw [ht]; exact hP⟩, hS.F ht⟩) hS.2.2 hd (hlocks := C.2.2.2.2.2.2))
theorem v_aret {x : Value} {rt : FieldType} (C : vC p s m args meth c cc nL (some rt) own G) (hrt : (∃ n, rt = .object n) ∨ ∃ t, rt = .array t) (hx : x = .null ∨ ∃ a, x = .ref a) (hd : decode cc pc = .ok (.areturn, 1)) (hc : kc ≤ mc) (hs : ks ≤ ms) (hp : post (some x) v) : vV p l e R s m args below meth c (MQ below (vv_Q G post) args s mc ms (fun q => G.2.1 ≤ q)) G nL v kc ks pc lv [x] :=
  fun H locs ls hP hS hl => W.widen hc hs (W.aret C.1 C.2.1 C.2.2.2.2.2.1 hrt hx (fun t ht hW => ⟨⟨_, v, rfl, hp, by rw [ht]; exact hP⟩, hS.F ht⟩) hS.2.2 hd (hlocks := C.2.2.2.2.2.2))
-- fields
variable {ref Cn : String} {T : u_T} {N ci index a : Nat} {fs : List Value} {x : Value}
/-- what the tables say of class ci: its fields are laid out; their names differ; their types -/
def vv_cl (ci : Nat) (Cn : String) (T : u_T) (N : Nat) (ty : Nat → FieldType) : Prop := vwCl[ci]? = some (Cn, T, N) ∧ ci ≠ 99 ∧ (∀ w ∈ u_ws Cn T N, w ∈ vv_wds) ∧ (∀ k, k < N → parseFieldDescriptor (T k).2.2.1 = some (ty k)) ∧ (∀ a, a < N → ∀ b, b < N → a ≠ b → (T a).2.1 ≠ (T b).2.1)
theorem v_get {ty : Nat → FieldType} (C : vC p s m args meth c cc nL ret own G) (hcl : vv_cl ci Cn T N ty) (he : v ci a = some (.inr (ci, fs))) (k0 : Nat) (hk : k0 < N) (hlink : Cond.fieldLink own index ref (T k0).2.1 (T k0).2.2.1 ∈ vv_wds) (hsame : ∀ x, s.fieldFound? (T k0).1 (T k0).2.1 (T k0).2.2.1 = some x → s.fieldFound? ref (T k0).2.1 (T k0).2.2.1 = some x) (hx : fs[k0]? = some x) (hd : decode cc pc = .ok (.getfield index, 3))
    (k : vV p l e R s m args below meth c Q G nL v kc ks (pc + 3) lv (x :: st)) : vV p l e R s m args below meth c Q G nL v kc ks pc lv (.ref a :: st) :=
  fun H locs ls hP hS hl => va_get C.1 C.2.1 C.w hcl.2.2.1 C.2.2.2.1 C.2.2.2.2.1.1 (hP.one he) 0 rfl hcl.1 k0 hk (C.w _ hlink) hsame hx hd (k H locs ls hP hS hl)
theorem v_getN {ty : Nat → FieldType} {host : String} (C : vC p s m args meth c cc nL ret own G) (hcl : vv_cl ci Cn T N ty) (he : v ci a = some (.inr (ci, fs))) (k0 : Nat) (hk : k0 < N) (hlink : Cond.fieldLinkNest own index ref (T k0).2.1 (T k0).2.2.1 host ∈ vv_wds) (hsame : ∀ x, s.fieldFound? (T k0).1 (T k0).2.1 (T k0).2.2.1 = some x → s.fieldFound? ref (T k0).2.1 (T k0).2.2.1 = some x) (hx : fs[k0]? = some x) (hd : decode cc pc = .ok (.getfield index, 3))
    (k : vV p l e R s m args below meth c Q G nL v kc ks (pc + 3) lv (x :: st)) : vV p l e R s m args below meth c Q G nL v kc ks pc lv (.ref a :: st) :=
  fun H locs ls hP hS hl => va_getN C.1 C.2.1 C.w hcl.2.2.1 C.2.2.2.1 C.2.2.2.2.1.1 (hP.one he) 0 rfl hcl.1 k0 hk (C.w _ hlink) hsame hx hd (k H locs ls hP hS hl)
theorem v_put {ty : Nat → FieldType} (C : vC p s m args meth c cc nL ret own G) (hcl : vv_cl ci Cn T N ty) (he : v ci a = some (.inr (ci, fs))) (k0 : Nat) (hk : k0 < N) (hlink : Cond.fieldLink own index ref (T k0).2.1 (T k0).2.2.1 ∈ vv_wds) (hsame : ∀ x, s.fieldFound? (T k0).1 (T k0).2.1 (T k0).2.2.1 = some x → s.fieldFound? ref (T k0).2.1 (T k0).2.2.1 = some x) (hfin : (T k0).2.2.2 = false) (hn : narrow (ty k0) x = x) (hfit : fits (ty k0) x = true) (hl0 : k0 < fs.length) (hd : decode cc pc = .ok (.putfield index, 3))
    (k : vV p l e R s m args below meth c Q G nL (vv_up v ci a (.inr (ci, fs.set k0 x))) kc ks (pc + 3) lv st) : vV p l e R s m args below meth c Q G nL v kc ks pc lv (x :: .ref a :: st) := by
  intro H locs ls hP hS hl
  obtain ⟨ws, hL⟩ := vv_ls hP
  obtain ⟨q0, hq⟩ := hL.1 ci a _ hcl.2.1 he
  exact va_put C.1 C.2.1 C.w hcl.2.2.1 ty hcl.2.2.2.1 hcl.2.2.2.2 C.2.2.2.1 C.2.2.2.2.1.1 (hL.P hP) (hL.D hP) hS q0 hq hcl.1 k0 hk (C.w _ hlink) hsame hfin (hcl.2.2.2.1 k0 hk) hn hfit hl0 hd (fun H1 locs1 hP1 _ hS1 => k H1 locs1 ls (vv_set hP hL hcl.2.1 he hq C.2.2.2.2.1.2.2.2.2 hS hS1 hP1) hS1 hl)
theorem v_putN {ty : Nat → FieldType} {host : String} (C : vC p s m args meth c cc nL ret own G) (hcl : vv_cl ci Cn T N ty) (he : v ci a = some (.inr (ci, fs))) (k0 : Nat) (hk : k0 < N) (hlink : Cond.fieldLinkNest own index ref (T k0).2.1 (T k0).2.2.1 host ∈ vv_wds) (hsame : ∀ x, s.fieldFound? (T k0).1 (T k0).2.1 (T k0).2.2.1 = some x → s.fieldFound? ref (T k0).2.1 (T k0).2.2.1 = some x) (hfin : (T k0).2.2.2 = false) (hn : narrow (ty k0) x = x) (hfit : fits (ty k0) x = true) (hl0 : k0 < fs.length) (hd : decode cc pc = .ok (.putfield index, 3))
    (k : vV p l e R s m args below meth c Q G nL (vv_up v ci a (.inr (ci, fs.set k0 x))) kc ks (pc + 3) lv st) : vV p l e R s m args below meth c Q G nL v kc ks pc lv (x :: .ref a :: st) := by
  intro H locs ls hP hS hl
  obtain ⟨ws, hL⟩ := vv_ls hP
  obtain ⟨q0, hq⟩ := hL.1 ci a _ hcl.2.1 he
  exact va_putN C.1 C.2.1 C.w hcl.2.2.1 ty hcl.2.2.2.1 hcl.2.2.2.2 C.2.2.2.1 C.2.2.2.2.1.1 (hL.P hP) (hL.D hP) hS q0 hq hcl.1 k0 hk (C.w _ hlink) hsame hfin (hcl.2.2.2.1 k0 hk) hn hfit hl0 hd (fun H1 locs1 hP1 _ hS1 => k H1 locs1 ls (vv_set hP hL hcl.2.1 he hq C.2.2.2.2.1.2.2.2.2 hS hS1 hP1) hS1 hl)
theorem v_putF {ty : Nat → FieldType} (C : vC p s m args meth c cc nL ret own G) (hin2 : meth.name = "<init>") (hcl : vv_cl ci Cn T N ty) (he : v ci a = some (.inr (ci, fs))) (k0 : Nat) (hk : k0 < N) (hlink : Cond.fieldLink own index ref (T k0).2.1 (T k0).2.2.1 ∈ vv_wds) (hsame : ∀ x, s.fieldFound? (T k0).1 (T k0).2.1 (T k0).2.2.1 = some x → s.fieldFound? ref (T k0).2.1 (T k0).2.2.1 = some x) (hfin : (T k0).2.2.2 = true) (hdecl : (T k0).1 = own) (hn : narrow (ty k0) x = x) (hfit : fits (ty k0) x = true) (hl0 : k0 < fs.length) (hd : decode cc pc = .ok (.putfield index, 3))
    (k : vV p l e R s m args below meth c Q G nL (vv_up v ci a (.inr (ci, fs.set k0 x))) kc ks (pc + 3) lv st) : vV p l e R s m args below meth c Q G nL v kc ks pc lv (x :: .ref a :: st) := by
  intro H locs ls hP hS hl
  obtain ⟨ws, hL⟩ := vv_ls hP
  obtain ⟨q0, hq⟩ := hL.1 ci a _ hcl.2.1 he
  exact va_putF C.1 C.2.1 C.w hcl.2.2.1 ty hcl.2.2.2.1 hcl.2.2.2.2 C.2.2.2.1 C.2.2.2.2.1.1 (hL.P hP) (hL.D hP) hS q0 hq hcl.1 k0 hk (C.w _ hlink) hsame hfin hin2 hdecl (hcl.2.2.2.1 k0 hk) hn hfit hl0 hd (fun H1 locs1 hP1 _ hS1 => k H1 locs1 ls (vv_set hP hL hcl.2.1 he hq C.2.2.2.2.1.2.2.2.2 hS hS1 hP1) hS1 hl)
-- arrays
variable {n : Nat} {f : Nat → Int32} {fl : Nat → Int64} {fq : Nat → Option Nat} {i : Int32}
theorem v_iald (C : vC p s m args meth c cc nL ret own G) (he : v 50 a = some (.inl (G.2.2.2.2 0, n, .inl f))) (hi : vp_in i n) (hd : decode cc pc = .ok (.iaload, 1))
    (k : vV p l e R s m args below meth c Q G nL v kc ks (pc + 1) lv (.int (f i.toNatClampNeg) :: st)) : vV p l e R s m args below meth c Q G nL v kc ks pc lv (.int i :: .ref a :: st) :=
  fun H locs ls hP hS hl => va_iald C.1 C.2.1 C.2.2.2.2.1.1 (hP.one he) 0 0 rfl rfl hi hd (k H locs ls hP hS hl)
theorem v_zald (C : vC p s m args meth c cc nL ret own G) (he : v 51 a = some (.inl (G.2.2.2.2 1, n, .inl f))) (hi : vp_in i n) (hd : decode cc pc = .ok (.baload, 1))
    (k : vV p l e R s m args below meth c Q G nL v kc ks (pc + 1) lv (.int (f i.toNatClampNeg) :: st)) : vV p l e R s m args below meth c Q G nL v kc ks pc lv (.int i :: .ref a :: st) :=
  fun H locs ls hP hS hl => va_zald C.1 C.2.1 C.2.2.2.2.1.1 (hP.one he) 0 1 rfl rfl hi hd (k H locs ls hP hS hl)
theorem v_lald (C : vC p s m args meth c cc nL ret own G) (he : v 52 a = some (.inl (G.2.2.2.2 2, n, .inr (.inl fl)))) (hi : vp_in i n) (hd : decode cc pc = .ok (.laload, 1))
    (k : vV p l e R s m args below meth c Q G nL v kc ks (pc + 1) lv (.long (fl i.toNatClampNeg) :: st)) : vV p l e R s m args below meth c Q G nL v kc ks pc lv (.int i :: .ref a :: st) :=
  fun H locs ls hP hS hl => va_lald C.1 C.2.1 C.2.2.2.2.1.1 (hP.one he) 0 2 rfl rfl hi hd (k H locs ls hP hS hl)
theorem v_aald (C : vC p s m args meth c cc nL ret own G) (he : v 53 a = some (.inl (G.2.2.2.2 3, n, .inr (.inr (.inr (.inr fq)))))) (hi : vp_in i n) (hd : decode cc pc = .ok (.aaload, 1))
    (k : vV p l e R s m args below meth c Q G nL v kc ks (pc + 1) lv (va_rf (fq i.toNatClampNeg) :: st)) : vV p l e R s m args below meth c Q G nL v kc ks pc lv (.int i :: .ref a :: st) :=
  fun H locs ls hP hS hl => va_aldq C.1 C.2.1 C.2.2.2.2.1.1 (hP.one he) 0 3 rfl rfl hi hd (k H locs ls hP hS hl)
theorem v_alen (C : vC p s m args meth c cc nL ret own G) (K t0 : Nat) {y : vp_A} {ty : FieldType} {z : Int32} (he : v K a = some (.inl (G.2.2.2.2 t0, y))) (ht : (vv_tys G)[t0]? = some (G.2.2.2.2 t0, ty)) (hz : Int32.ofNat y.1 = z) (hd : decode cc pc = .ok (.arraylength, 1))
    (k : vV p l e R s m args below meth c Q G nL v kc ks (pc + 1) lv (.int z :: st)) : vV p l e R s m args below meth c Q G nL v kc ks pc lv (.ref a :: st) :=
  fun H locs ls hP hS hl => va_alen C.1 C.2.1 C.2.2.2.2.1.1 (hP.one he) 0 t0 rfl ht hz hd (k H locs ls hP hS hl)
theorem v_iast {x : Int32} (C : vC p s m args meth c cc nL ret own G) (he : v 50 a = some (.inl (G.2.2.2.2 0, n, .inl f))) (hi : vp_in i n) (hd : decode cc pc = .ok (.iastore, 1))
    (k : vV p l e R s m args below meth c Q G nL (vv_up v 50 a (.inl (G.2.2.2.2 0, n, .inl (upd f i.toNatClampNeg x)))) kc ks (pc + 1) lv st) : vV p l e R s m args below meth c Q G nL v kc ks pc lv (.int x :: .int i :: .ref a :: st) := by
  intro H locs ls hP hS hl
  obtain ⟨ws, hL⟩ := vv_ls hP
  obtain ⟨q0, hq⟩ := hL.1 50 a _ (by decide) he
  exact va_iast C.1 C.2.1 C.2.2.2.2.1.1 (hL.P hP) (hL.D hP) hS q0 0 hq rfl hi hd (fun H1 locs1 hP1 _ hS1 => k H1 locs1 ls (vv_set hP hL (by decide) he hq C.2.2.2.2.1.2.2.2.2 hS hS1 hP1) hS1 hl)
theorem v_zast {x : Int32} (C : vC p s m args meth c cc nL ret own G) (he : v 51 a = some (.inl (G.2.2.2.2 1, n, .inl f))) (hi : vp_in i n) (hd : decode cc pc = .ok (.bastore, 1))
    (k : vV p l e R s m args below meth c Q G nL (vv_up v 51 a (.inl (G.2.2.2.2 1, n, .inl (upd f i.toNatClampNeg (vp_nar .boolean x))))) kc ks (pc + 1) lv st) : vV p l e R s m args below meth c Q G nL v kc ks pc lv (.int x :: .int i :: .ref a :: st) := by
  intro H locs ls hP hS hl
  obtain ⟨ws, hL⟩ := vv_ls hP
  obtain ⟨q0, hq⟩ := hL.1 51 a _ (by decide) he
  exact va_zast C.1 C.2.1 C.2.2.2.2.1.1 (hL.P hP) (hL.D hP) hS q0 1 hq rfl hi hd (fun H1 locs1 hP1 _ hS1 => k H1 locs1 ls (vv_set hP hL (by decide) he hq C.2.2.2.2.1.2.2.2.2 hS hS1 hP1) hS1 hl)
theorem v_last {x : Int64} (C : vC p s m args meth c cc nL ret own G) (he : v 52 a = some (.inl (G.2.2.2.2 2, n, .inr (.inl fl)))) (hi : vp_in i n) (hd : decode cc pc = .ok (.lastore, 1))
    (k : vV p l e R s m args below meth c Q G nL (vv_up v 52 a (.inl (G.2.2.2.2 2, n, .inr (.inl (vp_updL fl i.toNatClampNeg x))))) kc ks (pc + 1) lv st) : vV p l e R s m args below meth c Q G nL v kc ks pc lv (.long x :: .int i :: .ref a :: st) := by
  intro H locs ls hP hS hl
  obtain ⟨ws, hL⟩ := vv_ls hP
  obtain ⟨q0, hq⟩ := hL.1 52 a _ (by decide) he
  exact va_last C.1 C.2.1 C.2.2.2.2.1.1 (hL.P hP) (hL.D hP) hS q0 2 hq rfl hi hd (fun H1 locs1 hP1 _ hS1 => k H1 locs1 ls (vv_set hP hL (by decide) he hq C.2.2.2.2.1.2.2.2.2 hS hS1 hP1) hS1 hl)
/-- an object of class ci laid into an Object[] -/
theorem v_aast {b cj : Nat} {vs : List Value} {Cj : String} {Tj : u_T} {Nj : Nat} (C : vC p s m args meth c cc nL ret own G) (he : v 53 a = some (.inl (G.2.2.2.2 3, n, .inr (.inr (.inr (.inr fq)))))) (h9 : cj ≠ 99) (hj : v cj b = some (.inr (cj, vs))) (hcj : vwCl[cj]? = some (Cj, Tj, Nj)) (hca : Cond.castable Cj "java/lang/Object" ∈ vv_wds) (hi : vp_in i n) (hd : decode cc pc = .ok (.aastore, 1))
    (k : vV p l e R s m args below meth c Q G nL (vv_up v 53 a (.inl (G.2.2.2.2 3, n, .inr (.inr (.inr (.inr (va_up fq i.toNatClampNeg (some b)))))))) kc ks (pc + 1) lv st) : vV p l e R s m args below meth c Q G nL v kc ks pc lv (.ref b :: .int i :: .ref a :: st) := by
  intro H locs ls hP hS hl
  obtain ⟨ws, hL⟩ := vv_ls hP
  obtain ⟨q0, hq⟩ := hL.1 53 a _ (by decide) he
  obtain ⟨q1, hq1⟩ := hL.1 cj b _ h9 hj
  exact va_astqO C.1 C.2.1 C.2.2.2.2.1.1 (hL.P hP) (hL.D hP) hS q0 3 q1 cj (r := (Cj, Tj, Nj)) hq rfl (va_Nw.of rfl (C.w _ hca)) hq1 hcj hi hd (fun H1 locs1 hP1 _ hS1 => k H1 locs1 ls (vv_set hP hL (by decide) he hq C.2.2.2.2.1.2.2.2.2 hS hS1 hP1) hS1 hl)
-- new cells
theorem v_new {ty : Nat → FieldType} {fs : List Value} (C : vC p s m args meth c cc nL ret own G) (hcl : vv_cl ci Cn T N ty) (hlink : Cond.classLink own index Cn ∈ vv_wds) (hinst : Cond.instantiable Cn N ∈ vv_wds) (hini : Cond.initialized Cn ∈ vv_wds) (hfs : ∀ j, j < N → defaultValue (ty j) = vp_V fs j) (hcells : kc + 1 ≤ R.cells) (hslots : ks + N ≤ R.slots) (hd : decode cc pc = .ok (.new index, 3))
    (k : ∀ q : Nat, (∀ k', v k' q = none) → vV p l e R s m args below meth c Q G nL (vv_up v ci q (.inr (ci, fs))) (kc + 1) (ks + N) (pc + 3) lv (.ref q :: st)) : vV p l e R s m args below meth c Q G nL v kc ks pc lv st := by
  intro H locs ls hP hS hl
  obtain ⟨ws, hL⟩ := vv_ls hP
  refine va_new C.1 C.2.1 C.w hcl.2.2.1 ty hcl.2.2.2.1 C.2.2.2.1 (C.w _ hlink) (C.w _ hinst) (C.w _ hini) C.2.2.2.2.1.1 (hL.P hP) (hL.D hP) hS (fun q h => Nat.le_trans C.2.2.2.2.1.2.2.2.2 h) hcl.1 hfs hcells hslots hd (fun q H1 hP1 hD1 hS1 => ?_)
  obtain ⟨g1, g2⟩ := vv_push hP hL hcl.2.1 C.2.2.2.2.1.2.2.2.2 hS hS1 hP1 hD1
  exact k q g1 H1 locs ls g2 hS1 hl
theorem v_newai {z : Int32} (C : vC p s m args meth c cc nL ret own G) (hz : ¬ z < 0) (hn : z.toNatClampNeg = n) (hby : n ≤ 100000) (hcells : kc + 1 ≤ R.cells) (hslots : ks + n ≤ R.slots) (hd : decode cc pc = .ok (.newarray .int, 2))
    (k : ∀ q : Nat, (∀ k', v k' q = none) → vV p l e R s m args below meth c Q G nL (vv_up v 50 q (.inl (G.2.2.2.2 0, n, .inl (fun _ => 0)))) (kc + 1) (ks + n) (pc + 2) lv (.ref q :: st)) : vV p l e R s m args below meth c Q G nL v kc ks pc lv (.int z :: st) := by
  intro H locs ls hP hS hl
  obtain ⟨ws, hL⟩ := vv_ls hP
  refine va_newa C.1 C.2.1 (atype := .int) (ty := .int) (a0 := (n, .inl (fun _ => 0))) (word_at (State.WarmedH.refl s) (Or.inr ⟨_, rfl⟩) (C.2.2.2.2.1.2.2.2.1.2.2 .int (by simp))) rfl C.2.2.2.2.1.1 (hL.P hP) (hL.D hP) hS (fun q h => Nat.le_trans C.2.2.2.2.1.2.2.2.2 h) (fun cA => rfl) hz hn (by show n * 4 ≤ _; omega) hcells hslots hd (fun q cA H1 hK1 hP1 hD1 hS1 => ?_)
  have hcA : cA = G.2.2.2.2 0 := Option.some.inj ((hK1.2 4 (cA, .int) rfl).2.symm.trans (C.2.2.2.2.1.1.2 0 _ rfl).2)
  subst hcA
  obtain ⟨g1, g2⟩ := vv_push (k := 50) hP hL (by decide) C.2.2.2.2.1.2.2.2.2 hS hS1 hP1 hD1
  exact k q g1 H1 locs ls g2 hS1 hl
theorem v_newaz {z : Int32} (C : vC p s m args meth c cc nL ret own G) (hz : ¬ z < 0) (hn : z.toNatClampNeg = n) (hby : n ≤ 100000) (hcells : kc + 1 ≤ R.cells) (hslots : ks + n ≤ R.slots) (hd : decode cc pc = .ok (.newarray .boolean, 2))
    (k : ∀ q : Nat, (∀ k', v k' q = none) → vV p l e R s m args below meth c Q G nL (vv_up v 51 q (.inl (G.2.2.2.2 1, n, .inl (fun _ => 0)))) (kc + 1) (ks + n) (pc + 2) lv (.ref q :: st)) : vV p l e R s m args below meth c Q G nL v kc ks pc lv (.int z :: st) := by
  intro H locs ls hP hS hl
  obtain ⟨ws, hL⟩ := vv_ls hP
  refine va_newa C.1 C.2.1 (atype := .boolean) (ty := .boolean) (a0 := (n, .inl (fun _ => 0))) (word_at (State.WarmedH.refl s) (Or.inr ⟨_, rfl⟩) (C.2.2.2.2.1.2.2.2.1.2.2 .boolean (by simp))) rfl C.2.2.2.2.1.1 (hL.P hP) (hL.D hP) hS (fun q h => Nat.le_trans C.2.2.2.2.1.2.2.2.2 h) (fun cA => rfl) hz hn (by show n * 1 ≤ _; omega) hcells hslots hd (fun q cA H1 hK1 hP1 hD1 hS1 => ?_)
  have hcA : cA = G.2.2.2.2 1 := Option.some.inj ((hK1.2 4 (cA, .boolean) rfl).2.symm.trans (C.2.2.2.2.1.1.2 1 _ rfl).2)
  subst hcA
  obtain ⟨g1, g2⟩ := vv_push (k := 51) hP hL (by decide) C.2.2.2.2.1.2.2.2.2 hS hS1 hP1 hD1
  exact k q g1 H1 locs ls g2 hS1 hl
theorem v_newal {z : Int32} (C : vC p s m args meth c cc nL ret own G) (hz : ¬ z < 0) (hn : z.toNatClampNeg = n) (hby : n ≤ 100000) (hcells : kc + 1 ≤ R.cells) (hslots : ks + n ≤ R.slots) (hd : decode cc pc = .ok (.newarray .long, 2))
    (k : ∀ q : Nat, (∀ k', v k' q = none) → vV p l e R s m args below meth c Q G nL (vv_up v 52 q (.inl (G.2.2.2.2 2, n, .inr (.inl (fun _ => 0))))) (kc + 1) (ks + n) (pc + 2) lv (.ref q :: st)) : vV p l e R s m args below meth c Q G nL v kc ks pc lv (.int z :: st) := by
  intro H locs ls hP hS hl
  obtain ⟨ws, hL⟩ := vv_ls hP
  refine va_newa C.1 C.2.1 (atype := .long) (ty := .long) (a0 := (n, .inr (.inl (fun _ => 0)))) (word_at (State.WarmedH.refl s) (Or.inr ⟨_, rfl⟩) (C.2.2.2.2.1.2.2.2.1.2.2 .long (by simp))) rfl C.2.2.2.2.1.1 (hL.P hP) (hL.D hP) hS (fun q h => Nat.le_trans C.2.2.2.2.1.2.2.2.2 h) (fun cA => rfl) hz hn (by show n * 8 ≤ _; omega) hcells hslots hd (fun q cA H1 hK1 hP1 hD1 hS1 => ?_)
  have hcA : cA = G.2.2.2.2 2 := Option.some.inj ((hK1.2 4 (cA, .long) rfl).2.symm.trans (C.2.2.2.2.1.1.2 2 _ rfl).2)
  subst hcA
  obtain ⟨g1, g2⟩ := vv_push (k := 52) hP hL (by decide) C.2.2.2.2.1.2.2.2.2 hS hS1 hP1 hD1
  exact k q g1 H1 locs ls g2 hS1 hl
theorem v_newaq {z : Int32} (C : vC p s m args meth c cc nL ret own G) (hlink : Cond.classLink own index "java/lang/Object" ∈ vv_wds) (hz : ¬ z < 0) (hn : z.toNatClampNeg = n) (hby : n ≤ 100000) (hcells : kc + 1 ≤ R.cells) (hslots : ks + n ≤ R.slots) (hd : decode cc pc = .ok (.anewarray index, 3))
    (k : ∀ q : Nat, (∀ k', v k' q = none) → vV p l e R s m args below meth c Q G nL (vv_up v 53 q (.inl (G.2.2.2.2 3, n, .inr (.inr (.inr (.inr (fun _ => none))))))) (kc + 1) (ks + n) (pc + 3) lv (.ref q :: st)) : vV p l e R s m args below meth c Q G nL v kc ks pc lv (.int z :: st) := by
  intro H locs ls hP hS hl
  obtain ⟨ws, hL⟩ := vv_ls hP
  refine va_newq C.1 C.2.1 C.2.2.2.1 (C.w _ hlink) C.2.2.2.2.1.2.2.2.1.2.1 C.2.2.2.2.1.1 (hL.P hP) (hL.D hP) hS (fun q h => Nat.le_trans C.2.2.2.2.1.2.2.2.2 h) hz hn (by omega) hcells hslots hd (fun q cA H1 hK1 hP1 hD1 hS1 => ?_)
  have hcA : cA = G.2.2.2.2 3 := Option.some.inj ((va_nmO (hK1.2 4 (cA, .object "java/lang/Object") rfl).2 rfl).symm.trans (va_nmO (C.2.2.2.2.1.1.2 3 _ rfl).2 rfl))
  subst hcA
  obtain ⟨g1, g2⟩ := vv_push (k := 53) hP hL (by decide) C.2.2.2.2.1.2.2.2.2 hS hS1 hP1 hD1
  exact k q g1 H1 locs ls g2 hS1 hl
theorem v_objInit (C : vC p s m args meth c cc nL ret own G) (hlink : Cond.methodLink own index objectInit ∈ vv_wds) (hinst : Cond.instanceMethod objectInit ∈ vv_wds) (hcode : Cond.code objectInit ⟨#[0xb1]⟩ 1 none ∈ vv_wds) (hd : decode cc pc = .ok (.invokespecial index, 3)) (hfr : 1 ≤ R.frames) (hlo : (st.map fun v => v.category).sum + 12 ≤ R.locals)
    (k : vV p l e R s m args below meth c Q G nL v kc ks (pc + 3) lv st) : vV p l e R s m args below meth c Q G nL v kc ks pc lv (.ref a :: st) :=
  fun H locs ls hP hS hl => W.objInit C.1 C.2.1 C.2.2.2.1 (C.w _ hlink) (C.w _ hinst) (C.w _ hcode) rfl (hl.1.trans C.2.2.1.symm) rfl hd hfr (by show 2 * 0 + _ + 12 ≤ _; omega) (k H locs ls hP hS hl)
-- calls
variable {y : MethodName} {bytes : ByteArray} {maxL f0 lo0 np mc0 ms0 : Nat} {ret0 : Option FieldType} {As rest : List Value} {post0 : Option Value → vv_V → Prop} {b : Nat}
theorem vv_cb (ht : ∀ w ∈ vv_wds, w.before args s = true) (hcode : Cond.code y bytes maxL ret0 ∈ vv_wds) (hini : Cond.initialized y.cls ∈ vv_wds) (hl : Cond.methodLink own index y ∈ vv_wds) (hd : y.cls ≠ "java/lang/invoke/MethodHandle" ∧ y.cls ≠ "java/lang/invoke/VarHandle" ∧ (parseMethodDescriptor y.desc).map (fun d => d.parameters.length) = some np) (hR : f0 + 1 ≤ R.frames ∧ 8 + (maxL + 11) + lo0 ≤ R.locals) :
    CallB R s args own index y bytes maxL ret0 [Cond.code y bytes maxL ret0] { frames := f0, cells := mc0, slots := ms0, locals := lo0 } mc0 ms0 np :=
  callB_of np ht (fun w h => by rw [List.mem_singleton] at h; subst h; exact ⟨hcode, good_of_word rfl⟩) rfl rfl rfl (ht _ hini) (ht _ hl) hd hR
/-- what comes behind a call -/
theorem vv_back {free : Addr → Prop} (hE : vv_E G s) {H : Heap} {locs : List Loc} {ls : Array Slot} (hS : va_S (fun q => G.2.1 ≤ q) s.heap H locs) (hl : lv_has ls nL lv) {a0 : Array Value} (hr : va_Run p l e R s m args below meth c H locs kc ks mc0 ms0 (F0 m pc ls st) rest (vv_Q G post0 a0) free) (hf : ∀ q, free q → G.2.1 ≤ q)
    (k : ∀ (r : Option Value) (v' : vv_V), post0 r v' → vV p l e R s m args below meth c Q G nL v' (kc + mc0) (ks + ms0) (pc + 3) lv (r.toList ++ rest)) : W p l e R s m args below meth c H locs kc ks Q (F0 m pc ls st) := by
  intro T hT X
  obtain ⟨w, st₀, t, T', L, h0, X', hL, e1, e2, ⟨⟨r, v', hv, hp, hPv⟩, hz, hk⟩, stp⟩ := hr T hT X
  cases hv
  rw [h0] at hz hk
  obtain ⟨t2, a1, b1⟩ := k w v' hp T'.heap (locs ++ L) ls (by rw [e1]; exact hPv)
    ⟨Nat.le_trans hS.1 (by rw [e1]; exact hz), fun q h1 h2 => by rw [e1, hk q (Nat.lt_of_lt_of_le h1 hS.1) h2]; exact hS.2.1 q h1 h2, fun q hq => by
      rcases List.mem_append.mp hq with h | h
      · exact hS.2.2 q h
      · exact hf _ (hL q h)⟩ hl T' rfl X'
  exact ⟨t2, stp t2 a1, b1⟩
theorem vv_recv {H : Heap} (hE : vv_E G s) (hP : vv_P G v H) (he : v ci b = some (.inr (ci, fs))) (hc : vwCl[ci]? = some (Cn, T, N)) : ∃ cell : Cell, H[b]? = some cell ∧ cell.vm.isStatics = false ∧ s.vm.findClass Cn = some cell.cls :=
  va_recv (q := (Cn, T, N)) hE.1 (hP.one he) hc (q0 := 0) rfl
theorem vv_preS {H : Heap} {locs : List Loc} (hE : vv_E G s) (hP : vv_P G v H) (hS : va_S (fun q => G.2.1 ≤ q) s.heap H locs) : PreS s H (va_Pc As (vv_pre G v)) As :=
  ⟨vv_blind, fun U hU hW => ⟨rfl, by rw [hU]; exact hP, hE.at hS hU hW⟩⟩
/-- invokevirtual -/
theorem v_callV (C : vC p s m args meth c cc nL ret own G) (hM : Mv l y bytes maxL ret0 f0 lo0 G v (.ref b :: As) post0 mc0 ms0) (hcode : Cond.code y bytes maxL ret0 ∈ vv_wds) (hini : Cond.initialized y.cls ∈ vv_wds) (hlink : Cond.methodLink own index y ∈ vv_wds) (hinst : Cond.instanceMethod y ∈ vv_wds) (hsel : Cond.selects Cn y y ∈ vv_wds) (hmn : y.cls ≠ "java/lang/invoke/MethodHandle" ∧ y.cls ≠ "java/lang/invoke/VarHandle" ∧ (parseMethodDescriptor y.desc).map (fun d => d.parameters.length) = some np) (he : v ci b = some (.inr (ci, fs))) (hc : vwCl[ci]? = some (Cn, T, N))
    (hR : f0 + 1 ≤ R.frames ∧ 8 + (maxL + 11) + lo0 ≤ R.locals) (hn : As.length = np) (hst : st = As.reverse ++ .ref b :: rest) (hW : (rest.map fun v => v.category).sum ≤ 8) (hd : decode cc pc = .ok (.invokevirtual index, 3)) (hf : kc + mc0 ≤ R.cells ∧ ks + ms0 ≤ R.slots)
    (k : ∀ (r : Option Value) (v' : vv_V), post0 r v' → vV p l e R s m args below meth c Q G nL v' (kc + mc0) (ks + ms0) (pc + 3) lv (r.toList ++ rest)) : vV p l e R s m args below meth c Q G nL v kc ks pc lv st :=
  fun H locs ls hP hS hl => vv_back C.2.2.2.2.1 hS hl (va_runV (C := Cn) ⟨C.1, C.2.1, C.2.2.1, C.2.2.2.1, C.w⟩ hM ⟨vv_cb C.w hcode hini hlink hmn hR, C.w _ hinst, C.w _ hsel⟩ ⟨vv_blind, vv_recv C.2.2.2.2.1 hP he hc, (vv_preS C.2.2.2.2.1 hP hS).2⟩ rfl hn hl.1 hst (lv_room hW) hd hf) (fun _ h => h) k
/-- invokestatic -/
theorem v_callS (C : vC p s m args meth c cc nL ret own G) (hM : Mv l y bytes maxL ret0 f0 lo0 G v As post0 mc0 ms0) (hcode : Cond.code y bytes maxL ret0 ∈ vv_wds) (hini : Cond.initialized y.cls ∈ vv_wds) (hlink : Cond.methodLink own index y ∈ vv_wds) (hstat : Cond.static y ∈ vv_wds) (hmn : y.cls ≠ "java/lang/invoke/MethodHandle" ∧ y.cls ≠ "java/lang/invoke/VarHandle" ∧ (parseMethodDescriptor y.desc).map (fun d => d.parameters.length) = some np)
    (hR : f0 + 1 ≤ R.frames ∧ 8 + (maxL + 11) + lo0 ≤ R.locals) (hn : As.length = np) (hst : st = As.reverse ++ rest) (hW : (rest.map fun v => v.category).sum ≤ 8) (hd : decode cc pc = .ok (.invokestatic index, 3)) (hf : kc + mc0 ≤ R.cells ∧ ks + ms0 ≤ R.slots)
    (k : ∀ (r : Option Value) (v' : vv_V), post0 r v' → vV p l e R s m args below meth c Q G nL v' (kc + mc0) (ks + ms0) (pc + 3) lv (r.toList ++ rest)) : vV p l e R s m args below meth c Q G nL v kc ks pc lv st :=
  fun H locs ls hP hS hl => vv_back C.2.2.2.2.1 hS hl (va_runS ⟨C.1, C.2.1, C.2.2.1, C.2.2.2.1, C.w⟩ hM ⟨vv_cb C.w hcode hini hlink hmn hR, C.w _ hstat⟩ (vv_preS C.2.2.2.2.1 hP hS) rfl hn hl.1 hst (lv_room hW) hd hf) (fun _ h => h) k
/-- invokespecial <init> -/
theorem v_callI (C : vC p s m args meth c cc nL ret own G) (hM : Mv l y bytes maxL none f0 lo0 G v (.ref b :: As) post0 mc0 ms0) (hcode : Cond.code y bytes maxL none ∈ vv_wds) (hini : Cond.initialized y.cls ∈ vv_wds) (hlink : Cond.methodLink own index y ∈ vv_wds) (hinst : Cond.instanceMethod y ∈ vv_wds) (hy1 : y.name = "<init>") (hmn : y.cls ≠ "java/lang/invoke/MethodHandle" ∧ y.cls ≠ "java/lang/invoke/VarHandle" ∧ (parseMethodDescriptor y.desc).map (fun d => d.parameters.length) = some np)
    (hR : f0 + 1 ≤ R.frames ∧ 8 + (maxL + 11) + lo0 ≤ R.locals) (hn : As.length = np) (hst : st = As.reverse ++ .ref b :: rest) (hW : (rest.map fun v => v.category).sum ≤ 8) (hd : decode cc pc = .ok (.invokespecial index, 3)) (hf : kc + mc0 ≤ R.cells ∧ ks + ms0 ≤ R.slots)
    (k : ∀ (r : Option Value) (v' : vv_V), post0 r v' → vV p l e R s m args below meth c Q G nL v' (kc + mc0) (ks + ms0) (pc + 3) lv (r.toList ++ rest)) : vV p l e R s m args below meth c Q G nL v kc ks pc lv st :=
  fun H locs ls hP hS hl => vv_back C.2.2.2.2.1 hS hl (va_runI ⟨C.1, C.2.1, C.2.2.1, C.2.2.2.1, C.w⟩ hM ⟨vv_cb C.w hcode hini hlink hmn hR, hy1, C.w _ hinst⟩ (vv_preS C.2.2.2.2.1 hP hS) rfl hn hl.1 hst (lv_room hW) hd hf) (fun _ h => h) k
theorem vv_cn {host : String} (ht : ∀ w ∈ vv_wds, w.before args s = true) (hcode : Cond.code y bytes maxL ret0 ∈ vv_wds) (hini : Cond.initialized y.cls ∈ vv_wds) (hl : Cond.methodLinkNest own index y host ∈ vv_wds) (hd : y.cls ≠ "java/lang/invoke/MethodHandle" ∧ y.cls ≠ "java/lang/invoke/VarHandle" ∧ (parseMethodDescriptor y.desc).map (fun d => d.parameters.length) = some np) (hR : f0 + 1 ≤ R.frames ∧ 8 + (maxL + 11) + lo0 ≤ R.locals) :
    va_CN R s args own index y host bytes maxL ret0 [Cond.code y bytes maxL ret0] { frames := f0, cells := mc0, slots := ms0, locals := lo0 } mc0 ms0 np :=
  va_cnB np ht (fun w h => by rw [List.mem_singleton] at h; subst h; exact ⟨hcode, good_of_word rfl⟩) rfl rfl rfl (va_Nw.of rfl (ht _ hl)) (ht _ hini) hd hR
/-- invokestatic of a nest mate's private method -/
theorem v_callSN {host : String} (C : vC p s m args meth c cc nL ret own G) (hM : Mv l y bytes maxL ret0 f0 lo0 G v As post0 mc0 ms0) (hcode : Cond.code y bytes maxL ret0 ∈ vv_wds) (hini : Cond.initialized y.cls ∈ vv_wds) (hlink : Cond.methodLinkNest own index y host ∈ vv_wds) (hstat : Cond.static y ∈ vv_wds) (hmn : y.cls ≠ "java/lang/invoke/MethodHandle" ∧ y.cls ≠ "java/lang/invoke/VarHandle" ∧ (parseMethodDescriptor y.desc).map (fun d => d.parameters.length) = some np)
    (hR : f0 + 1 ≤ R.frames ∧ 8 + (maxL + 11) + lo0 ≤ R.locals) (hn : As.length = np) (hst : st = As.reverse ++ rest) (hW : (rest.map fun v => v.category).sum ≤ 8) (hd : decode cc pc = .ok (.invokestatic index, 3)) (hf : kc + mc0 ≤ R.cells ∧ ks + ms0 ≤ R.slots)
    (k : ∀ (r : Option Value) (v' : vv_V), post0 r v' → vV p l e R s m args below meth c Q G nL v' (kc + mc0) (ks + ms0) (pc + 3) lv (r.toList ++ rest)) : vV p l e R s m args below meth c Q G nL v kc ks pc lv st :=
  fun H locs ls hP hS hl => vv_back C.2.2.2.2.1 hS hl (va_runSN ⟨C.1, C.2.1, C.2.2.1, C.2.2.2.1, C.w⟩ hM ⟨vv_cn C.w hcode hini hlink hmn hR, C.w _ hstat, trivial⟩ (vv_preS C.2.2.2.2.1 hP hS) rfl hn hl.1 hst (lv_room hW) hd hf) (fun _ h => h) k
theorem v_callVN {host : String} (C : vC p s m args meth c cc nL ret own G) (hM : Mv l y bytes maxL ret0 f0 lo0 G v (.ref b :: As) post0 mc0 ms0) (hcode : Cond.code y bytes maxL ret0 ∈ vv_wds) (hini : Cond.initialized y.cls ∈ vv_wds) (hlink : Cond.methodLinkNest own index y host ∈ vv_wds) (hinst : Cond.instanceMethod y ∈ vv_wds) (hsel : Cond.selects Cn y y ∈ vv_wds) (hmn : y.cls ≠ "java/lang/invoke/MethodHandle" ∧ y.cls ≠ "java/lang/invoke/VarHandle" ∧ (parseMethodDescriptor y.desc).map (fun d => d.parameters.length) = some np) (he : v ci b = some (.inr (ci, fs))) (hc : vwCl[ci]? = some (Cn, T, N))
    (hR : f0 + 1 ≤ R.frames ∧ 8 + (maxL + 11) + lo0 ≤ R.locals) (hn : As.length = np) (hst : st = As.reverse ++ .ref b :: rest) (hW : (rest.map fun v => v.category).sum ≤ 8) (hd : decode cc pc = .ok (.invokevirtual index, 3)) (hf : kc + mc0 ≤ R.cells ∧ ks + ms0 ≤ R.slots)
    (k : ∀ (r : Option Value) (v' : vv_V), post0 r v' → vV p l e R s m args below meth c Q G nL v' (kc + mc0) (ks + ms0) (pc + 3) lv (r.toList ++ rest)) : vV p l e R s m args below meth c Q G nL v kc ks pc lv st :=
  fun H locs ls hP hS hl => vv_back C.2.2.2.2.1 hS hl (va_runVN (C := Cn) ⟨C.1, C.2.1, C.2.2.1, C.2.2.2.1, C.w⟩ hM ⟨vv_cn C.w hcode hini hlink hmn hR, C.w _ hinst, C.w _ hsel⟩ ⟨vv_blind, vv_recv C.2.2.2.2.1 hP he hc, (vv_preS C.2.2.2.2.1 hP hS).2⟩ rfl hn hl.1 hst (lv_room hW) hd hf) (fun _ h => h) k
end VH
end
section
theorem tw_0 : Cond.selects "java/util/ArrayList" y_AL_add_LObjectALObjectIV y_AL_add_LObjectALObjectIV ∈ vv_wds := List.mem_filter.mpr ⟨List.mem_of_getElem? (i := 0) rfl, rfl⟩
theorem tw_1 : Cond.selects "java/util/ArrayList" y_AL_grow y_AL_grow ∈ vv_wds := List.mem_filter.mpr ⟨List.mem_of_getElem? (i := 1) rfl, rfl⟩
theorem tw_2 : Cond.selects "java/util/ArrayList" y_AL_grow_IALObject y_AL_grow_IALObject ∈ vv_wds := List.mem_filter.mpr ⟨List.mem_of_getElem? (i := 2) rfl, rfl⟩
theorem tw_3 : Cond.selects "CustomerNotices" y_C_findCustomer y_C_findCustomer ∈ vv_wds := List.mem_filter.mpr ⟨List.mem_of_getElem? (i := 3) rfl, rfl⟩
theorem tw_4 : Cond.selects "CustomerNotices$Customer" y_K_orderOf y_K_orderOf ∈ vv_wds := List.mem_filter.mpr ⟨List.mem_of_getElem? (i := 4) rfl, rfl⟩
theorem tw_5 : Cond.selects "CustomerNotices" y_C_isTimeFromNow y_C_isTimeFromNow ∈ vv_wds := List.mem_filter.mpr ⟨List.mem_of_getElem? (i := 5) rfl, rfl⟩
theorem tw_6 : Cond.selects "CustomerNotices" y_C_findItem y_C_findItem ∈ vv_wds := List.mem_filter.mpr ⟨List.mem_of_getElem? (i := 6) rfl, rfl⟩
theorem tw_7 : Cond.selects "CustomerNotices" y_C_noticesAreFull y_C_noticesAreFull ∈ vv_wds := List.mem_filter.mpr ⟨List.mem_of_getElem? (i := 7) rfl, rfl⟩
theorem tw_8 : Cond.selects "CustomerNotices" y_C_itemsAreFull y_C_itemsAreFull ∈ vv_wds := List.mem_filter.mpr ⟨List.mem_of_getElem? (i := 8) rfl, rfl⟩
theorem tw_9 : Cond.selects "CustomerNotices" y_C_addItem y_C_addItem ∈ vv_wds := List.mem_filter.mpr ⟨List.mem_of_getElem? (i := 9) rfl, rfl⟩
theorem tw_10 : Cond.selects "CustomerNotices" y_C_addNotice y_C_addNotice ∈ vv_wds := List.mem_filter.mpr ⟨List.mem_of_getElem? (i := 10) rfl, rfl⟩
theorem tw_11 : Cond.selects "CustomerNotices" y_C_addPromise y_C_addPromise ∈ vv_wds := List.mem_filter.mpr ⟨List.mem_of_getElem? (i := 11) rfl, rfl⟩
theorem tw_12 : Cond.selects "CustomerNotices" y_C_prepareCustomersForTick y_C_prepareCustomersForTick ∈ vv_wds := List.mem_filter.mpr ⟨List.mem_of_getElem? (i := 12) rfl, rfl⟩
theorem tw_13 : Cond.selects "CustomerNotices" y_C_isDue y_C_isDue ∈ vv_wds := List.mem_filter.mpr ⟨List.mem_of_getElem? (i := 13) rfl, rfl⟩
theorem tw_14 : Cond.selects "CustomerNotices" y_C_isHeldByQuiet y_C_isHeldByQuiet ∈ vv_wds := List.mem_filter.mpr ⟨List.mem_of_getElem? (i := 14) rfl, rfl⟩
theorem tw_15 : Cond.selects "CustomerNotices" y_C_deliver y_C_deliver ∈ vv_wds := List.mem_filter.mpr ⟨List.mem_of_getElem? (i := 15) rfl, rfl⟩
theorem tw_16 : Cond.selects "CustomerNotices" y_C_findNotice y_C_findNotice ∈ vv_wds := List.mem_filter.mpr ⟨List.mem_of_getElem? (i := 16) rfl, rfl⟩
theorem tw_17 : Cond.selects "CustomerNotices" y_C_reopenItem y_C_reopenItem ∈ vv_wds := List.mem_filter.mpr ⟨List.mem_of_getElem? (i := 17) rfl, rfl⟩
theorem tw_18 : Cond.selects "CustomerNotices" y_C_addCorrection y_C_addCorrection ∈ vv_wds := List.mem_filter.mpr ⟨List.mem_of_getElem? (i := 18) rfl, rfl⟩
theorem tw_19 : Cond.selects "CustomerNoticesModel" y_M_isCustomer y_M_isCustomer ∈ vv_wds := List.mem_filter.mpr ⟨List.mem_of_getElem? (i := 19) rfl, rfl⟩
theorem tw_20 : Cond.selects "CustomerNoticesModel" y_M_wished y_M_wished ∈ vv_wds := List.mem_filter.mpr ⟨List.mem_of_getElem? (i := 20) rfl, rfl⟩
theorem tw_21 : Cond.selects "CustomerNoticesModel" y_M_isTime y_M_isTime ∈ vv_wds := List.mem_filter.mpr ⟨List.mem_of_getElem? (i := 21) rfl, rfl⟩
theorem tw_22 : Cond.selects "CustomerNoticesModel" y_M_pairOf y_M_pairOf ∈ vv_wds := List.mem_filter.mpr ⟨List.mem_of_getElem? (i := 22) rfl, rfl⟩
theorem tw_23 : Cond.selects "CustomerNoticesModel" y_M_keep y_M_keep ∈ vv_wds := List.mem_filter.mpr ⟨List.mem_of_getElem? (i := 23) rfl, rfl⟩
theorem tw_24 : Cond.selects "CustomerNoticesModel" y_M_put y_M_put ∈ vv_wds := List.mem_filter.mpr ⟨List.mem_of_getElem? (i := 24) rfl, rfl⟩
theorem tw_25 : Cond.selects "CustomerNoticesModel" y_M_isDue y_M_isDue ∈ vv_wds := List.mem_filter.mpr ⟨List.mem_of_getElem? (i := 25) rfl, rfl⟩
theorem tw_26 : Cond.selects "CustomerNoticesModel" y_M_isQuiet y_M_isQuiet ∈ vv_wds := List.mem_filter.mpr ⟨List.mem_of_getElem? (i := 26) rfl, rfl⟩
theorem tw_27 : Cond.selects "CustomerNoticesModel" y_M_channelOf y_M_channelOf ∈ vv_wds := List.mem_filter.mpr ⟨List.mem_of_getElem? (i := 27) rfl, rfl⟩
theorem tw_28 : Cond.selects "CustomerNoticesModel" y_M_undo y_M_undo ∈ vv_wds := List.mem_filter.mpr ⟨List.mem_of_getElem? (i := 28) rfl, rfl⟩
theorem tw_29 : Cond.initialized "CustomerNoticesLaw" ∈ vv_wds := List.mem_filter.mpr ⟨List.mem_of_getElem? (i := 29) rfl, rfl⟩
theorem tw_30 : Cond.initialized "CustomerNotices" ∈ vv_wds := List.mem_filter.mpr ⟨List.mem_of_getElem? (i := 30) rfl, rfl⟩
theorem tw_31 : Cond.initialized "java/util/AbstractCollection" ∈ vv_wds := List.mem_filter.mpr ⟨List.mem_of_getElem? (i := 31) rfl, rfl⟩
theorem tw_32 : Cond.initialized "java/util/AbstractList" ∈ vv_wds := List.mem_filter.mpr ⟨List.mem_of_getElem? (i := 32) rfl, rfl⟩
theorem tw_33 : Cond.initialized "java/util/ArrayList" ∈ vv_wds := List.mem_filter.mpr ⟨List.mem_of_getElem? (i := 33) rfl, rfl⟩
theorem tw_34 : Cond.initialized "CustomerNoticesModel" ∈ vv_wds := List.mem_filter.mpr ⟨List.mem_of_getElem? (i := 34) rfl, rfl⟩
theorem tw_35 : Cond.initialized "CustomerNotices$Customer" ∈ vv_wds := List.mem_filter.mpr ⟨List.mem_of_getElem? (i := 35) rfl, rfl⟩
theorem tw_36 : Cond.initialized "jdk/internal/util/ArraysSupport" ∈ vv_wds := List.mem_filter.mpr ⟨List.mem_of_getElem? (i := 36) rfl, rfl⟩
theorem tw_37 : Cond.initialized "java/lang/Math" ∈ vv_wds := List.mem_filter.mpr ⟨List.mem_of_getElem? (i := 37) rfl, rfl⟩
theorem tw_38 : Cond.initialized "java/util/Arrays" ∈ vv_wds := List.mem_filter.mpr ⟨List.mem_of_getElem? (i := 38) rfl, rfl⟩
theorem tw_39 : Cond.initialized "java/lang/System" ∈ vv_wds := List.mem_filter.mpr ⟨List.mem_of_getElem? (i := 39) rfl, rfl⟩
theorem tw_40 : Cond.initialized "java/util/Objects" ∈ vv_wds := List.mem_filter.mpr ⟨List.mem_of_getElem? (i := 40) rfl, rfl⟩
theorem tw_41 : Cond.initialized "jdk/internal/util/Preconditions" ∈ vv_wds := List.mem_filter.mpr ⟨List.mem_of_getElem? (i := 41) rfl, rfl⟩
theorem tw_42 : Cond.initialized "CustomerNotices$Item" ∈ vv_wds := List.mem_filter.mpr ⟨List.mem_of_getElem? (i := 42) rfl, rfl⟩
theorem tw_43 : Cond.initialized "CustomerNotices$Notice" ∈ vv_wds := List.mem_filter.mpr ⟨List.mem_of_getElem? (i := 43) rfl, rfl⟩
theorem tw_44 : Cond.classLink "CustomerNoticesLaw" 7 "CustomerNotices" ∈ vv_wds := List.mem_filter.mpr ⟨List.mem_of_getElem? (i := 44) rfl, rfl⟩
theorem tw_45 : Cond.instantiable "CustomerNotices" 8 ∈ vv_wds := List.mem_filter.mpr ⟨List.mem_of_getElem? (i := 45) rfl, rfl⟩
theorem tw_46 : Cond.methodLink "CustomerNoticesLaw" 9 y_C_init ∈ vv_wds := List.mem_filter.mpr ⟨List.mem_of_getElem? (i := 46) rfl, rfl⟩
theorem tw_47 : Cond.instanceMethod y_C_init ∈ vv_wds := List.mem_filter.mpr ⟨List.mem_of_getElem? (i := 47) rfl, rfl⟩
theorem tw_48 : Cond.code y_C_init b_C_init 2 none ∈ vv_wds := List.mem_filter.mpr ⟨List.mem_of_getElem? (i := 48) rfl, rfl⟩
theorem tw_49 : Cond.methodLink "CustomerNotices" 1 y_Oj_init ∈ vv_wds := List.mem_filter.mpr ⟨List.mem_of_getElem? (i := 49) rfl, rfl⟩
theorem tw_50 : Cond.instanceMethod y_Oj_init ∈ vv_wds := List.mem_filter.mpr ⟨List.mem_of_getElem? (i := 50) rfl, rfl⟩
theorem tw_51 : Cond.code y_Oj_init b_Oj_init 1 none ∈ vv_wds := List.mem_filter.mpr ⟨List.mem_of_getElem? (i := 51) rfl, rfl⟩
theorem tw_52 : Cond.classLink "CustomerNotices" 7 "java/util/ArrayList" ∈ vv_wds := List.mem_filter.mpr ⟨List.mem_of_getElem? (i := 52) rfl, rfl⟩
theorem tw_53 : Cond.instantiable "java/util/ArrayList" 3 ∈ vv_wds := List.mem_filter.mpr ⟨List.mem_of_getElem? (i := 53) rfl, rfl⟩
theorem tw_54 : Cond.methodLink "CustomerNotices" 9 y_AL_init ∈ vv_wds := List.mem_filter.mpr ⟨List.mem_of_getElem? (i := 54) rfl, rfl⟩
theorem tw_55 : Cond.instanceMethod y_AL_init ∈ vv_wds := List.mem_filter.mpr ⟨List.mem_of_getElem? (i := 55) rfl, rfl⟩
theorem tw_56 : Cond.code y_AL_init b_AL_init 1 none ∈ vv_wds := List.mem_filter.mpr ⟨List.mem_of_getElem? (i := 56) rfl, rfl⟩
theorem tw_57 : Cond.methodLink "java/util/ArrayList" 1 y_AbL_init ∈ vv_wds := List.mem_filter.mpr ⟨List.mem_of_getElem? (i := 57) rfl, rfl⟩
theorem tw_58 : Cond.instanceMethod y_AbL_init ∈ vv_wds := List.mem_filter.mpr ⟨List.mem_of_getElem? (i := 58) rfl, rfl⟩
theorem tw_59 : Cond.code y_AbL_init b_AbL_init 1 none ∈ vv_wds := List.mem_filter.mpr ⟨List.mem_of_getElem? (i := 59) rfl, rfl⟩
theorem tw_60 : Cond.methodLink "java/util/AbstractList" 1 y_AbC_init ∈ vv_wds := List.mem_filter.mpr ⟨List.mem_of_getElem? (i := 60) rfl, rfl⟩
theorem tw_61 : Cond.instanceMethod y_AbC_init ∈ vv_wds := List.mem_filter.mpr ⟨List.mem_of_getElem? (i := 61) rfl, rfl⟩
theorem tw_62 : Cond.code y_AbC_init b_AbC_init 1 none ∈ vv_wds := List.mem_filter.mpr ⟨List.mem_of_getElem? (i := 62) rfl, rfl⟩
theorem tw_63 : Cond.methodLink "java/util/AbstractCollection" 1 y_Oj_init ∈ vv_wds := List.mem_filter.mpr ⟨List.mem_of_getElem? (i := 63) rfl, rfl⟩
theorem tw_64 : Cond.fieldLink "java/util/ArrayList" 39 "java/util/ArrayList" "DEFAULTCAPACITY_EMPTY_ELEMENTDATA" "[Ljava/lang/Object;" ∈ vv_wds := List.mem_filter.mpr ⟨List.mem_of_getElem? (i := 64) rfl, rfl⟩
theorem tw_66 : Cond.fieldLink "java/util/ArrayList" 9 "java/util/ArrayList" "elementData" "[Ljava/lang/Object;" ∈ vv_wds := List.mem_filter.mpr ⟨List.mem_of_getElem? (i := 66) rfl, rfl⟩
theorem tw_67 : Cond.fieldLink "java/util/ArrayList" 48 "java/util/ArrayList" "size" "I" ∈ vv_wds := List.mem_filter.mpr ⟨List.mem_of_getElem? (i := 67) rfl, rfl⟩
theorem tw_68 : Cond.fieldLink "java/util/AbstractList" 7 "java/util/AbstractList" "modCount" "I" ∈ vv_wds := List.mem_filter.mpr ⟨List.mem_of_getElem? (i := 68) rfl, rfl⟩
theorem tw_69 : Cond.fieldLink "java/util/ArrayList" 63 "java/util/ArrayList" "modCount" "I" ∈ vv_wds := List.mem_filter.mpr ⟨List.mem_of_getElem? (i := 69) rfl, rfl⟩
theorem tw_70 : Cond.sameField "java/util/ArrayList" "java/util/AbstractList" "modCount" "I" ∈ vv_wds := List.mem_filter.mpr ⟨List.mem_of_getElem? (i := 70) rfl, rfl⟩
theorem tw_71 : Cond.lays "java/util/ArrayList" "java/util/ArrayList" "elementData" "[Ljava/lang/Object;" ∈ vv_wds := List.mem_filter.mpr ⟨List.mem_of_getElem? (i := 71) rfl, rfl⟩
theorem tw_73 : Cond.lays "java/util/ArrayList" "java/util/ArrayList" "size" "I" ∈ vv_wds := List.mem_filter.mpr ⟨List.mem_of_getElem? (i := 73) rfl, rfl⟩
theorem tw_75 : Cond.lays "java/util/ArrayList" "java/util/AbstractList" "modCount" "I" ∈ vv_wds := List.mem_filter.mpr ⟨List.mem_of_getElem? (i := 75) rfl, rfl⟩
theorem tw_78 : Cond.fieldLink "CustomerNotices" 10 "CustomerNotices" "customers" "Ljava/util/ArrayList;" ∈ vv_wds := List.mem_filter.mpr ⟨List.mem_of_getElem? (i := 78) rfl, rfl⟩
theorem tw_79 : Cond.fieldLink "CustomerNotices" 16 "CustomerNotices" "notices" "Ljava/util/ArrayList;" ∈ vv_wds := List.mem_filter.mpr ⟨List.mem_of_getElem? (i := 79) rfl, rfl⟩
theorem tw_80 : Cond.fieldLink "CustomerNotices" 19 "CustomerNotices" "items" "Ljava/util/ArrayList;" ∈ vv_wds := List.mem_filter.mpr ⟨List.mem_of_getElem? (i := 80) rfl, rfl⟩
theorem tw_81 : Cond.fieldLink "CustomerNotices" 22 "CustomerNotices" "sentNotices" "Ljava/util/ArrayList;" ∈ vv_wds := List.mem_filter.mpr ⟨List.mem_of_getElem? (i := 81) rfl, rfl⟩
theorem tw_82 : Cond.fieldLink "CustomerNotices" 25 "CustomerNotices" "failedNotices" "Ljava/util/ArrayList;" ∈ vv_wds := List.mem_filter.mpr ⟨List.mem_of_getElem? (i := 82) rfl, rfl⟩
theorem tw_83 : Cond.fieldLink "CustomerNotices" 28 "CustomerNotices" "channelWorks" "[Z" ∈ vv_wds := List.mem_filter.mpr ⟨List.mem_of_getElem? (i := 83) rfl, rfl⟩
theorem tw_84 : Cond.fieldLink "CustomerNotices" 32 "CustomerNotices" "clock" "J" ∈ vv_wds := List.mem_filter.mpr ⟨List.mem_of_getElem? (i := 84) rfl, rfl⟩
theorem tw_85 : Cond.fieldLink "CustomerNotices" 36 "CustomerNotices" "joinMinutes" "I" ∈ vv_wds := List.mem_filter.mpr ⟨List.mem_of_getElem? (i := 85) rfl, rfl⟩
theorem tw_86 : Cond.laysFinal "CustomerNotices" "CustomerNotices" "customers" "Ljava/util/ArrayList;" ∈ vv_wds := List.mem_filter.mpr ⟨List.mem_of_getElem? (i := 86) rfl, rfl⟩
theorem tw_88 : Cond.laysFinal "CustomerNotices" "CustomerNotices" "notices" "Ljava/util/ArrayList;" ∈ vv_wds := List.mem_filter.mpr ⟨List.mem_of_getElem? (i := 88) rfl, rfl⟩
theorem tw_90 : Cond.laysFinal "CustomerNotices" "CustomerNotices" "items" "Ljava/util/ArrayList;" ∈ vv_wds := List.mem_filter.mpr ⟨List.mem_of_getElem? (i := 90) rfl, rfl⟩
theorem tw_92 : Cond.laysFinal "CustomerNotices" "CustomerNotices" "sentNotices" "Ljava/util/ArrayList;" ∈ vv_wds := List.mem_filter.mpr ⟨List.mem_of_getElem? (i := 92) rfl, rfl⟩
theorem tw_94 : Cond.laysFinal "CustomerNotices" "CustomerNotices" "failedNotices" "Ljava/util/ArrayList;" ∈ vv_wds := List.mem_filter.mpr ⟨List.mem_of_getElem? (i := 94) rfl, rfl⟩
theorem tw_96 : Cond.laysFinal "CustomerNotices" "CustomerNotices" "channelWorks" "[Z" ∈ vv_wds := List.mem_filter.mpr ⟨List.mem_of_getElem? (i := 96) rfl, rfl⟩
theorem tw_98 : Cond.lays "CustomerNotices" "CustomerNotices" "clock" "J" ∈ vv_wds := List.mem_filter.mpr ⟨List.mem_of_getElem? (i := 98) rfl, rfl⟩
theorem tw_100 : Cond.lays "CustomerNotices" "CustomerNotices" "joinMinutes" "I" ∈ vv_wds := List.mem_filter.mpr ⟨List.mem_of_getElem? (i := 100) rfl, rfl⟩
theorem tw_104 : Cond.methodLink "CustomerNoticesLaw" 13 y_C_customer ∈ vv_wds := List.mem_filter.mpr ⟨List.mem_of_getElem? (i := 104) rfl, rfl⟩
theorem tw_105 : Cond.instanceMethod y_C_customer ∈ vv_wds := List.mem_filter.mpr ⟨List.mem_of_getElem? (i := 105) rfl, rfl⟩
theorem tw_106 : Cond.selects "CustomerNotices" y_C_customer y_C_customer ∈ vv_wds := List.mem_filter.mpr ⟨List.mem_of_getElem? (i := 106) rfl, rfl⟩
theorem tw_107 : Cond.code y_C_customer b_C_customer 4 (some FieldType.int) ∈ vv_wds := List.mem_filter.mpr ⟨List.mem_of_getElem? (i := 107) rfl, rfl⟩
theorem tw_108 : Cond.constantLong "CustomerNotices" 40 9 ∈ vv_wds := List.mem_filter.mpr ⟨List.mem_of_getElem? (i := 108) rfl, rfl⟩
theorem tw_109 : Cond.methodLink "CustomerNotices" 42 y_C_isWithin ∈ vv_wds := List.mem_filter.mpr ⟨List.mem_of_getElem? (i := 109) rfl, rfl⟩
theorem tw_110 : Cond.static y_C_isWithin ∈ vv_wds := List.mem_filter.mpr ⟨List.mem_of_getElem? (i := 110) rfl, rfl⟩
theorem tw_111 : Cond.code y_C_isWithin b_C_isWithin 6 (some FieldType.boolean) ∈ vv_wds := List.mem_filter.mpr ⟨List.mem_of_getElem? (i := 111) rfl, rfl⟩
theorem tw_112 : Cond.constantLong "CustomerNotices" 46 (-12) ∈ vv_wds := List.mem_filter.mpr ⟨List.mem_of_getElem? (i := 112) rfl, rfl⟩
theorem tw_113 : Cond.constantLong "CustomerNotices" 48 14 ∈ vv_wds := List.mem_filter.mpr ⟨List.mem_of_getElem? (i := 113) rfl, rfl⟩
theorem tw_114 : Cond.methodLink "CustomerNotices" 50 y_AL_size ∈ vv_wds := List.mem_filter.mpr ⟨List.mem_of_getElem? (i := 114) rfl, rfl⟩
theorem tw_115 : Cond.instanceMethod y_AL_size ∈ vv_wds := List.mem_filter.mpr ⟨List.mem_of_getElem? (i := 115) rfl, rfl⟩
theorem tw_116 : Cond.selects "java/util/ArrayList" y_AL_size y_AL_size ∈ vv_wds := List.mem_filter.mpr ⟨List.mem_of_getElem? (i := 116) rfl, rfl⟩
theorem tw_117 : Cond.code y_AL_size b_AL_size 1 (some FieldType.int) ∈ vv_wds := List.mem_filter.mpr ⟨List.mem_of_getElem? (i := 117) rfl, rfl⟩
theorem tw_118 : Cond.classLink "CustomerNotices" 54 "CustomerNotices$Customer" ∈ vv_wds := List.mem_filter.mpr ⟨List.mem_of_getElem? (i := 118) rfl, rfl⟩
theorem tw_119 : Cond.instantiable "CustomerNotices$Customer" 8 ∈ vv_wds := List.mem_filter.mpr ⟨List.mem_of_getElem? (i := 119) rfl, rfl⟩
theorem tw_120 : Cond.methodLink "CustomerNotices" 56 y_K_init ∈ vv_wds := List.mem_filter.mpr ⟨List.mem_of_getElem? (i := 120) rfl, rfl⟩
theorem tw_121 : Cond.instanceMethod y_K_init ∈ vv_wds := List.mem_filter.mpr ⟨List.mem_of_getElem? (i := 121) rfl, rfl⟩
theorem tw_122 : Cond.code y_K_init b_K_init 5 none ∈ vv_wds := List.mem_filter.mpr ⟨List.mem_of_getElem? (i := 122) rfl, rfl⟩
theorem tw_123 : Cond.methodLink "CustomerNotices$Customer" 3 y_Oj_init ∈ vv_wds := List.mem_filter.mpr ⟨List.mem_of_getElem? (i := 123) rfl, rfl⟩
theorem tw_124 : Cond.fieldLink "CustomerNotices$Customer" 9 "CustomerNotices$Customer" "number" "I" ∈ vv_wds := List.mem_filter.mpr ⟨List.mem_of_getElem? (i := 124) rfl, rfl⟩
theorem tw_125 : Cond.fieldLink "CustomerNotices" 189 "CustomerNotices$Customer" "number" "I" ∈ vv_wds := List.mem_filter.mpr ⟨List.mem_of_getElem? (i := 125) rfl, rfl⟩
theorem tw_126 : Cond.fieldLink "CustomerNotices$Customer" 15 "CustomerNotices$Customer" "language" "I" ∈ vv_wds := List.mem_filter.mpr ⟨List.mem_of_getElem? (i := 126) rfl, rfl⟩
theorem tw_127 : Cond.fieldLink "CustomerNotices$Notice" 44 "CustomerNotices$Customer" "language" "I" ∈ vv_wds := List.mem_filter.mpr ⟨List.mem_of_getElem? (i := 127) rfl, rfl⟩
theorem tw_128 : Cond.fieldLink "CustomerNotices$Customer" 18 "CustomerNotices$Customer" "zone" "I" ∈ vv_wds := List.mem_filter.mpr ⟨List.mem_of_getElem? (i := 128) rfl, rfl⟩
theorem tw_129 : Cond.fieldLink "CustomerNotices" 84 "CustomerNotices$Customer" "quietFrom" "I" ∈ vv_wds := List.mem_filter.mpr ⟨List.mem_of_getElem? (i := 129) rfl, rfl⟩
theorem tw_130 : Cond.fieldLink "CustomerNotices$Customer" 48 "CustomerNotices$Customer" "quietFrom" "I" ∈ vv_wds := List.mem_filter.mpr ⟨List.mem_of_getElem? (i := 130) rfl, rfl⟩
theorem tw_131 : Cond.fieldLink "CustomerNotices" 87 "CustomerNotices$Customer" "quietUntil" "I" ∈ vv_wds := List.mem_filter.mpr ⟨List.mem_of_getElem? (i := 131) rfl, rfl⟩
theorem tw_132 : Cond.fieldLink "CustomerNotices$Customer" 51 "CustomerNotices$Customer" "quietUntil" "I" ∈ vv_wds := List.mem_filter.mpr ⟨List.mem_of_getElem? (i := 132) rfl, rfl⟩
theorem tw_133 : Cond.fieldLink "CustomerNotices" 238 "CustomerNotices$Customer" "leastWaitingTime" "J" ∈ vv_wds := List.mem_filter.mpr ⟨List.mem_of_getElem? (i := 133) rfl, rfl⟩
theorem tw_134 : Cond.fieldLink "CustomerNotices" 241 "CustomerNotices$Customer" "messageOfTick" "I" ∈ vv_wds := List.mem_filter.mpr ⟨List.mem_of_getElem? (i := 134) rfl, rfl⟩
theorem tw_135 : Cond.fieldLink "CustomerNotices$Customer" 21 "CustomerNotices$Customer" "orders" "[I" ∈ vv_wds := List.mem_filter.mpr ⟨List.mem_of_getElem? (i := 135) rfl, rfl⟩
theorem tw_136 : Cond.laysFinal "CustomerNotices$Customer" "CustomerNotices$Customer" "number" "I" ∈ vv_wds := List.mem_filter.mpr ⟨List.mem_of_getElem? (i := 136) rfl, rfl⟩
theorem tw_138 : Cond.laysFinal "CustomerNotices$Customer" "CustomerNotices$Customer" "language" "I" ∈ vv_wds := List.mem_filter.mpr ⟨List.mem_of_getElem? (i := 138) rfl, rfl⟩
theorem tw_140 : Cond.laysFinal "CustomerNotices$Customer" "CustomerNotices$Customer" "zone" "I" ∈ vv_wds := List.mem_filter.mpr ⟨List.mem_of_getElem? (i := 140) rfl, rfl⟩
theorem tw_142 : Cond.lays "CustomerNotices$Customer" "CustomerNotices$Customer" "quietFrom" "I" ∈ vv_wds := List.mem_filter.mpr ⟨List.mem_of_getElem? (i := 142) rfl, rfl⟩
theorem tw_144 : Cond.lays "CustomerNotices$Customer" "CustomerNotices$Customer" "quietUntil" "I" ∈ vv_wds := List.mem_filter.mpr ⟨List.mem_of_getElem? (i := 144) rfl, rfl⟩
theorem tw_146 : Cond.lays "CustomerNotices$Customer" "CustomerNotices$Customer" "leastWaitingTime" "J" ∈ vv_wds := List.mem_filter.mpr ⟨List.mem_of_getElem? (i := 146) rfl, rfl⟩
theorem tw_148 : Cond.lays "CustomerNotices$Customer" "CustomerNotices$Customer" "messageOfTick" "I" ∈ vv_wds := List.mem_filter.mpr ⟨List.mem_of_getElem? (i := 148) rfl, rfl⟩
theorem tw_150 : Cond.laysFinal "CustomerNotices$Customer" "CustomerNotices$Customer" "orders" "[I" ∈ vv_wds := List.mem_filter.mpr ⟨List.mem_of_getElem? (i := 150) rfl, rfl⟩
theorem tw_154 : Cond.methodLink "CustomerNotices" 59 y_AL_add ∈ vv_wds := List.mem_filter.mpr ⟨List.mem_of_getElem? (i := 154) rfl, rfl⟩
theorem tw_155 : Cond.instanceMethod y_AL_add ∈ vv_wds := List.mem_filter.mpr ⟨List.mem_of_getElem? (i := 155) rfl, rfl⟩
theorem tw_156 : Cond.selects "java/util/ArrayList" y_AL_add y_AL_add ∈ vv_wds := List.mem_filter.mpr ⟨List.mem_of_getElem? (i := 156) rfl, rfl⟩
theorem tw_157 : Cond.code y_AL_add b_AL_add 2 (some FieldType.boolean) ∈ vv_wds := List.mem_filter.mpr ⟨List.mem_of_getElem? (i := 157) rfl, rfl⟩
theorem tw_158 : Cond.methodLink "java/util/ArrayList" 131 y_AL_add_LObjectALObjectIV ∈ vv_wds := List.mem_filter.mpr ⟨List.mem_of_getElem? (i := 158) rfl, rfl⟩
theorem tw_160 : Cond.instanceMethod y_AL_add_LObjectALObjectIV ∈ vv_wds := List.mem_filter.mpr ⟨List.mem_of_getElem? (i := 160) rfl, rfl⟩
theorem tw_161 : Cond.code y_AL_add_LObjectALObjectIV b_AL_add_LObjectALObjectIV 4 none ∈ vv_wds := List.mem_filter.mpr ⟨List.mem_of_getElem? (i := 161) rfl, rfl⟩
theorem tw_162 : Cond.methodLink "java/util/ArrayList" 129 y_AL_grow ∈ vv_wds := List.mem_filter.mpr ⟨List.mem_of_getElem? (i := 162) rfl, rfl⟩
theorem tw_164 : Cond.instanceMethod y_AL_grow ∈ vv_wds := List.mem_filter.mpr ⟨List.mem_of_getElem? (i := 164) rfl, rfl⟩
theorem tw_165 : Cond.code y_AL_grow b_AL_grow 1 (some (FieldType.array (FieldType.object "java/lang/Object"))) ∈ vv_wds := List.mem_filter.mpr ⟨List.mem_of_getElem? (i := 165) rfl, rfl⟩
theorem tw_166 : Cond.methodLink "java/util/ArrayList" 69 y_AL_grow_IALObject ∈ vv_wds := List.mem_filter.mpr ⟨List.mem_of_getElem? (i := 166) rfl, rfl⟩
theorem tw_168 : Cond.instanceMethod y_AL_grow_IALObject ∈ vv_wds := List.mem_filter.mpr ⟨List.mem_of_getElem? (i := 168) rfl, rfl⟩
theorem tw_169 : Cond.code y_AL_grow_IALObject b_AL_grow_IALObject 4 (some (FieldType.array (FieldType.object "java/lang/Object"))) ∈ vv_wds := List.mem_filter.mpr ⟨List.mem_of_getElem? (i := 169) rfl, rfl⟩
theorem tw_170 : Cond.methodLink "java/util/ArrayList" 73 y_AS_newLength ∈ vv_wds := List.mem_filter.mpr ⟨List.mem_of_getElem? (i := 170) rfl, rfl⟩
theorem tw_171 : Cond.static y_AS_newLength ∈ vv_wds := List.mem_filter.mpr ⟨List.mem_of_getElem? (i := 171) rfl, rfl⟩
theorem tw_172 : Cond.code y_AS_newLength b_AS_newLength 4 (some FieldType.int) ∈ vv_wds := List.mem_filter.mpr ⟨List.mem_of_getElem? (i := 172) rfl, rfl⟩
theorem tw_173 : Cond.methodLink "jdk/internal/util/ArraysSupport" 194 y_Ma_max ∈ vv_wds := List.mem_filter.mpr ⟨List.mem_of_getElem? (i := 173) rfl, rfl⟩
theorem tw_174 : Cond.static y_Ma_max ∈ vv_wds := List.mem_filter.mpr ⟨List.mem_of_getElem? (i := 174) rfl, rfl⟩
theorem tw_175 : Cond.code y_Ma_max b_Ma_max 2 (some FieldType.int) ∈ vv_wds := List.mem_filter.mpr ⟨List.mem_of_getElem? (i := 175) rfl, rfl⟩
theorem tw_176 : Cond.constant "jdk/internal/util/ArraysSupport" 200 2147483639 ∈ vv_wds := List.mem_filter.mpr ⟨List.mem_of_getElem? (i := 176) rfl, rfl⟩
theorem tw_177 : Cond.methodLink "jdk/internal/util/ArraysSupport" 201 y_AS_hugeLength ∈ vv_wds := List.mem_filter.mpr ⟨List.mem_of_getElem? (i := 177) rfl, rfl⟩
theorem tw_178 : Cond.static y_AS_hugeLength ∈ vv_wds := List.mem_filter.mpr ⟨List.mem_of_getElem? (i := 178) rfl, rfl⟩
theorem tw_179 : Cond.code y_AS_hugeLength b_AS_hugeLength 3 (some FieldType.int) ∈ vv_wds := List.mem_filter.mpr ⟨List.mem_of_getElem? (i := 179) rfl, rfl⟩
theorem tw_180 : Cond.methodLink "java/util/ArrayList" 66 y_Ar_copyOf ∈ vv_wds := List.mem_filter.mpr ⟨List.mem_of_getElem? (i := 180) rfl, rfl⟩
theorem tw_181 : Cond.static y_Ar_copyOf ∈ vv_wds := List.mem_filter.mpr ⟨List.mem_of_getElem? (i := 181) rfl, rfl⟩
theorem tw_182 : Cond.code y_Ar_copyOf b_Ar_copyOf 2 (some (FieldType.array (FieldType.object "java/lang/Object"))) ∈ vv_wds := List.mem_filter.mpr ⟨List.mem_of_getElem? (i := 182) rfl, rfl⟩
theorem tw_183 : Cond.methodLink "java/util/Arrays" 86 (⟨"java/lang/Object", "getClass", "()Ljava/lang/Class;"⟩) ∈ vv_wds := List.mem_filter.mpr ⟨List.mem_of_getElem? (i := 183) rfl, rfl⟩
theorem tw_184 : Cond.instanceMethod (⟨"java/lang/Object", "getClass", "()Ljava/lang/Class;"⟩) ∈ vv_wds := List.mem_filter.mpr ⟨List.mem_of_getElem? (i := 184) rfl, rfl⟩
theorem tw_186 : Cond.selects "CustomerNotices" (⟨"java/lang/Object", "getClass", "()Ljava/lang/Class;"⟩) (⟨"java/lang/Object", "getClass", "()Ljava/lang/Class;"⟩) ∈ vv_wds := List.mem_filter.mpr ⟨List.mem_of_getElem? (i := 186) rfl, rfl⟩
theorem tw_187 : Cond.selects "CustomerNotices$Customer" (⟨"java/lang/Object", "getClass", "()Ljava/lang/Class;"⟩) (⟨"java/lang/Object", "getClass", "()Ljava/lang/Class;"⟩) ∈ vv_wds := List.mem_filter.mpr ⟨List.mem_of_getElem? (i := 187) rfl, rfl⟩
theorem tw_188 : Cond.selects "CustomerNotices$Item" (⟨"java/lang/Object", "getClass", "()Ljava/lang/Class;"⟩) (⟨"java/lang/Object", "getClass", "()Ljava/lang/Class;"⟩) ∈ vv_wds := List.mem_filter.mpr ⟨List.mem_of_getElem? (i := 188) rfl, rfl⟩
theorem tw_189 : Cond.selects "CustomerNotices$Notice" (⟨"java/lang/Object", "getClass", "()Ljava/lang/Class;"⟩) (⟨"java/lang/Object", "getClass", "()Ljava/lang/Class;"⟩) ∈ vv_wds := List.mem_filter.mpr ⟨List.mem_of_getElem? (i := 189) rfl, rfl⟩
theorem tw_190 : Cond.selects "CustomerNoticesModel" (⟨"java/lang/Object", "getClass", "()Ljava/lang/Class;"⟩) (⟨"java/lang/Object", "getClass", "()Ljava/lang/Class;"⟩) ∈ vv_wds := List.mem_filter.mpr ⟨List.mem_of_getElem? (i := 190) rfl, rfl⟩
theorem tw_191 : Cond.selects "java/util/ArrayList" (⟨"java/lang/Object", "getClass", "()Ljava/lang/Class;"⟩) (⟨"java/lang/Object", "getClass", "()Ljava/lang/Class;"⟩) ∈ vv_wds := List.mem_filter.mpr ⟨List.mem_of_getElem? (i := 191) rfl, rfl⟩
theorem tw_192 : Cond.native (⟨"java/lang/Object", "getClass", "()Ljava/lang/Class;"⟩) ∈ vv_wds := List.mem_filter.mpr ⟨List.mem_of_getElem? (i := 192) rfl, rfl⟩
theorem tw_193 : Cond.methodLink "java/util/Arrays" 300 y_Ar_copyOf_ALObjectILClassALObject ∈ vv_wds := List.mem_filter.mpr ⟨List.mem_of_getElem? (i := 193) rfl, rfl⟩
theorem tw_194 : Cond.static y_Ar_copyOf_ALObjectILClassALObject ∈ vv_wds := List.mem_filter.mpr ⟨List.mem_of_getElem? (i := 194) rfl, rfl⟩
theorem tw_195 : Cond.code y_Ar_copyOf_ALObjectILClassALObject b_Ar_copyOf_ALObjectILClassALObject 4 (some (FieldType.array (FieldType.object "java/lang/Object"))) ∈ vv_wds := List.mem_filter.mpr ⟨List.mem_of_getElem? (i := 195) rfl, rfl⟩
theorem tw_196 : Cond.classLink "java/util/Arrays" 110 "[Ljava/lang/Object;" ∈ vv_wds := List.mem_filter.mpr ⟨List.mem_of_getElem? (i := 196) rfl, rfl⟩
theorem tw_198 : Cond.classLink "java/util/Arrays" 2 "java/lang/Object" ∈ vv_wds := List.mem_filter.mpr ⟨List.mem_of_getElem? (i := 198) rfl, rfl⟩
theorem tw_199 : Cond.methodLink "java/util/Arrays" 304 y_Ma_min ∈ vv_wds := List.mem_filter.mpr ⟨List.mem_of_getElem? (i := 199) rfl, rfl⟩
theorem tw_200 : Cond.static y_Ma_min ∈ vv_wds := List.mem_filter.mpr ⟨List.mem_of_getElem? (i := 200) rfl, rfl⟩
theorem tw_201 : Cond.code y_Ma_min b_Ma_min 2 (some FieldType.int) ∈ vv_wds := List.mem_filter.mpr ⟨List.mem_of_getElem? (i := 201) rfl, rfl⟩
theorem tw_202 : Cond.methodLink "java/util/Arrays" 150 (⟨"java/lang/System", "arraycopy", "(Ljava/lang/Object;ILjava/lang/Object;II)V"⟩) ∈ vv_wds := List.mem_filter.mpr ⟨List.mem_of_getElem? (i := 202) rfl, rfl⟩
theorem tw_203 : Cond.static (⟨"java/lang/System", "arraycopy", "(Ljava/lang/Object;ILjava/lang/Object;II)V"⟩) ∈ vv_wds := List.mem_filter.mpr ⟨List.mem_of_getElem? (i := 203) rfl, rfl⟩
theorem tw_204 : Cond.native (⟨"java/lang/System", "arraycopy", "(Ljava/lang/Object;ILjava/lang/Object;II)V"⟩) ∈ vv_wds := List.mem_filter.mpr ⟨List.mem_of_getElem? (i := 204) rfl, rfl⟩
theorem tw_205 : Cond.methodLink "java/util/ArrayList" 79 y_Ma_max ∈ vv_wds := List.mem_filter.mpr ⟨List.mem_of_getElem? (i := 205) rfl, rfl⟩
theorem tw_206 : Cond.classLink "java/util/ArrayList" 7 "java/lang/Object" ∈ vv_wds := List.mem_filter.mpr ⟨List.mem_of_getElem? (i := 206) rfl, rfl⟩
theorem tw_207 : Cond.methodLink "CustomerNoticesLaw" 18 y_C_wish ∈ vv_wds := List.mem_filter.mpr ⟨List.mem_of_getElem? (i := 207) rfl, rfl⟩
theorem tw_208 : Cond.instanceMethod y_C_wish ∈ vv_wds := List.mem_filter.mpr ⟨List.mem_of_getElem? (i := 208) rfl, rfl⟩
theorem tw_209 : Cond.selects "CustomerNotices" y_C_wish y_C_wish ∈ vv_wds := List.mem_filter.mpr ⟨List.mem_of_getElem? (i := 209) rfl, rfl⟩
theorem tw_210 : Cond.code y_C_wish b_C_wish 6 (some FieldType.int) ∈ vv_wds := List.mem_filter.mpr ⟨List.mem_of_getElem? (i := 210) rfl, rfl⟩
theorem tw_211 : Cond.methodLink "CustomerNotices" 63 y_C_findCustomer ∈ vv_wds := List.mem_filter.mpr ⟨List.mem_of_getElem? (i := 211) rfl, rfl⟩
theorem tw_213 : Cond.instanceMethod y_C_findCustomer ∈ vv_wds := List.mem_filter.mpr ⟨List.mem_of_getElem? (i := 213) rfl, rfl⟩
theorem tw_214 : Cond.code y_C_findCustomer b_C_findCustomer 2 (some (FieldType.object "CustomerNotices$Customer")) ∈ vv_wds := List.mem_filter.mpr ⟨List.mem_of_getElem? (i := 214) rfl, rfl⟩
theorem tw_215 : Cond.methodLink "CustomerNotices" 160 y_AL_get ∈ vv_wds := List.mem_filter.mpr ⟨List.mem_of_getElem? (i := 215) rfl, rfl⟩
theorem tw_216 : Cond.instanceMethod y_AL_get ∈ vv_wds := List.mem_filter.mpr ⟨List.mem_of_getElem? (i := 216) rfl, rfl⟩
theorem tw_217 : Cond.selects "java/util/ArrayList" y_AL_get y_AL_get ∈ vv_wds := List.mem_filter.mpr ⟨List.mem_of_getElem? (i := 217) rfl, rfl⟩
theorem tw_218 : Cond.code y_AL_get b_AL_get 2 (some (FieldType.object "java/lang/Object")) ∈ vv_wds := List.mem_filter.mpr ⟨List.mem_of_getElem? (i := 218) rfl, rfl⟩
theorem tw_219 : Cond.methodLink "java/util/ArrayList" 118 y_Ob_checkIndex ∈ vv_wds := List.mem_filter.mpr ⟨List.mem_of_getElem? (i := 219) rfl, rfl⟩
theorem tw_220 : Cond.static y_Ob_checkIndex ∈ vv_wds := List.mem_filter.mpr ⟨List.mem_of_getElem? (i := 220) rfl, rfl⟩
theorem tw_221 : Cond.code y_Ob_checkIndex b_Ob_checkIndex 2 (some FieldType.int) ∈ vv_wds := List.mem_filter.mpr ⟨List.mem_of_getElem? (i := 221) rfl, rfl⟩
theorem tw_222 : Cond.methodLink "java/util/Objects" 105 y_Pr_checkIndex ∈ vv_wds := List.mem_filter.mpr ⟨List.mem_of_getElem? (i := 222) rfl, rfl⟩
theorem tw_223 : Cond.static y_Pr_checkIndex ∈ vv_wds := List.mem_filter.mpr ⟨List.mem_of_getElem? (i := 223) rfl, rfl⟩
theorem tw_224 : Cond.code y_Pr_checkIndex b_Pr_checkIndex 3 (some FieldType.int) ∈ vv_wds := List.mem_filter.mpr ⟨List.mem_of_getElem? (i := 224) rfl, rfl⟩
theorem tw_225 : Cond.methodLink "java/util/ArrayList" 123 y_AL_elementData ∈ vv_wds := List.mem_filter.mpr ⟨List.mem_of_getElem? (i := 225) rfl, rfl⟩
theorem tw_226 : Cond.instanceMethod y_AL_elementData ∈ vv_wds := List.mem_filter.mpr ⟨List.mem_of_getElem? (i := 226) rfl, rfl⟩
theorem tw_227 : Cond.selects "java/util/ArrayList" y_AL_elementData y_AL_elementData ∈ vv_wds := List.mem_filter.mpr ⟨List.mem_of_getElem? (i := 227) rfl, rfl⟩
theorem tw_228 : Cond.code y_AL_elementData b_AL_elementData 2 (some (FieldType.object "java/lang/Object")) ∈ vv_wds := List.mem_filter.mpr ⟨List.mem_of_getElem? (i := 228) rfl, rfl⟩
theorem tw_229 : Cond.methodLink "CustomerNotices" 67 y_C_isKind ∈ vv_wds := List.mem_filter.mpr ⟨List.mem_of_getElem? (i := 229) rfl, rfl⟩
theorem tw_230 : Cond.static y_C_isKind ∈ vv_wds := List.mem_filter.mpr ⟨List.mem_of_getElem? (i := 230) rfl, rfl⟩
theorem tw_231 : Cond.code y_C_isKind b_C_isKind 1 (some FieldType.boolean) ∈ vv_wds := List.mem_filter.mpr ⟨List.mem_of_getElem? (i := 231) rfl, rfl⟩
theorem tw_232 : Cond.constantLong "CustomerNotices" 216 7 ∈ vv_wds := List.mem_filter.mpr ⟨List.mem_of_getElem? (i := 232) rfl, rfl⟩
theorem tw_233 : Cond.methodLink "CustomerNotices" 71 y_C_isChannel ∈ vv_wds := List.mem_filter.mpr ⟨List.mem_of_getElem? (i := 233) rfl, rfl⟩
theorem tw_234 : Cond.static y_C_isChannel ∈ vv_wds := List.mem_filter.mpr ⟨List.mem_of_getElem? (i := 234) rfl, rfl⟩
theorem tw_235 : Cond.code y_C_isChannel b_C_isChannel 1 (some FieldType.boolean) ∈ vv_wds := List.mem_filter.mpr ⟨List.mem_of_getElem? (i := 235) rfl, rfl⟩
theorem tw_236 : Cond.constantLong "CustomerNotices" 218 3 ∈ vv_wds := List.mem_filter.mpr ⟨List.mem_of_getElem? (i := 236) rfl, rfl⟩
theorem tw_237 : Cond.methodLink "CustomerNotices" 74 y_K_setOrder ∈ vv_wds := List.mem_filter.mpr ⟨List.mem_of_getElem? (i := 237) rfl, rfl⟩
theorem tw_238 : Cond.instanceMethod y_K_setOrder ∈ vv_wds := List.mem_filter.mpr ⟨List.mem_of_getElem? (i := 238) rfl, rfl⟩
theorem tw_239 : Cond.selects "CustomerNotices$Customer" y_K_setOrder y_K_setOrder ∈ vv_wds := List.mem_filter.mpr ⟨List.mem_of_getElem? (i := 239) rfl, rfl⟩
theorem tw_240 : Cond.code y_K_setOrder b_K_setOrder 4 none ∈ vv_wds := List.mem_filter.mpr ⟨List.mem_of_getElem? (i := 240) rfl, rfl⟩
theorem tw_241 : Cond.methodLinkNest "CustomerNotices$Customer" 25 y_C_isKind "CustomerNotices" ∈ vv_wds := List.mem_filter.mpr ⟨List.mem_of_getElem? (i := 241) rfl, rfl⟩
theorem tw_242 : Cond.methodLinkNest "CustomerNotices$Customer" 29 y_C_isChannel "CustomerNotices" ∈ vv_wds := List.mem_filter.mpr ⟨List.mem_of_getElem? (i := 242) rfl, rfl⟩
theorem tw_243 : Cond.methodLink "CustomerNotices" 77 y_K_countWishes ∈ vv_wds := List.mem_filter.mpr ⟨List.mem_of_getElem? (i := 243) rfl, rfl⟩
theorem tw_244 : Cond.instanceMethod y_K_countWishes ∈ vv_wds := List.mem_filter.mpr ⟨List.mem_of_getElem? (i := 244) rfl, rfl⟩
theorem tw_245 : Cond.selects "CustomerNotices$Customer" y_K_countWishes y_K_countWishes ∈ vv_wds := List.mem_filter.mpr ⟨List.mem_of_getElem? (i := 245) rfl, rfl⟩
theorem tw_246 : Cond.code y_K_countWishes b_K_countWishes 4 (some FieldType.int) ∈ vv_wds := List.mem_filter.mpr ⟨List.mem_of_getElem? (i := 246) rfl, rfl⟩
theorem tw_247 : Cond.methodLink "CustomerNotices$Customer" 36 y_K_orderOf ∈ vv_wds := List.mem_filter.mpr ⟨List.mem_of_getElem? (i := 247) rfl, rfl⟩
theorem tw_249 : Cond.instanceMethod y_K_orderOf ∈ vv_wds := List.mem_filter.mpr ⟨List.mem_of_getElem? (i := 249) rfl, rfl⟩
theorem tw_250 : Cond.code y_K_orderOf b_K_orderOf 3 (some FieldType.int) ∈ vv_wds := List.mem_filter.mpr ⟨List.mem_of_getElem? (i := 250) rfl, rfl⟩
theorem tw_251 : Cond.methodLink "CustomerNoticesLaw" 23 y_C_quiet ∈ vv_wds := List.mem_filter.mpr ⟨List.mem_of_getElem? (i := 251) rfl, rfl⟩
theorem tw_252 : Cond.instanceMethod y_C_quiet ∈ vv_wds := List.mem_filter.mpr ⟨List.mem_of_getElem? (i := 252) rfl, rfl⟩
theorem tw_253 : Cond.selects "CustomerNotices" y_C_quiet y_C_quiet ∈ vv_wds := List.mem_filter.mpr ⟨List.mem_of_getElem? (i := 253) rfl, rfl⟩
theorem tw_254 : Cond.code y_C_quiet b_C_quiet 5 (some FieldType.int) ∈ vv_wds := List.mem_filter.mpr ⟨List.mem_of_getElem? (i := 254) rfl, rfl⟩
theorem tw_255 : Cond.methodLink "CustomerNotices" 81 y_C_isMinuteOfDay ∈ vv_wds := List.mem_filter.mpr ⟨List.mem_of_getElem? (i := 255) rfl, rfl⟩
theorem tw_256 : Cond.static y_C_isMinuteOfDay ∈ vv_wds := List.mem_filter.mpr ⟨List.mem_of_getElem? (i := 256) rfl, rfl⟩
theorem tw_257 : Cond.code y_C_isMinuteOfDay b_C_isMinuteOfDay 1 (some FieldType.boolean) ∈ vv_wds := List.mem_filter.mpr ⟨List.mem_of_getElem? (i := 257) rfl, rfl⟩
theorem tw_258 : Cond.constantLong "CustomerNotices" 220 1439 ∈ vv_wds := List.mem_filter.mpr ⟨List.mem_of_getElem? (i := 258) rfl, rfl⟩
theorem tw_259 : Cond.methodLink "CustomerNotices" 90 y_Ma_floorMod ∈ vv_wds := List.mem_filter.mpr ⟨List.mem_of_getElem? (i := 259) rfl, rfl⟩
theorem tw_260 : Cond.static y_Ma_floorMod ∈ vv_wds := List.mem_filter.mpr ⟨List.mem_of_getElem? (i := 260) rfl, rfl⟩
theorem tw_261 : Cond.code y_Ma_floorMod b_Ma_floorMod 3 (some FieldType.int) ∈ vv_wds := List.mem_filter.mpr ⟨List.mem_of_getElem? (i := 261) rfl, rfl⟩
theorem tw_262 : Cond.methodLink "CustomerNoticesLaw" 30 y_C_event ∈ vv_wds := List.mem_filter.mpr ⟨List.mem_of_getElem? (i := 262) rfl, rfl⟩
theorem tw_263 : Cond.instanceMethod y_C_event ∈ vv_wds := List.mem_filter.mpr ⟨List.mem_of_getElem? (i := 263) rfl, rfl⟩
theorem tw_264 : Cond.selects "CustomerNotices" y_C_event y_C_event ∈ vv_wds := List.mem_filter.mpr ⟨List.mem_of_getElem? (i := 264) rfl, rfl⟩
theorem tw_265 : Cond.code y_C_event b_C_event 11 (some FieldType.int) ∈ vv_wds := List.mem_filter.mpr ⟨List.mem_of_getElem? (i := 265) rfl, rfl⟩
theorem tw_266 : Cond.methodLink "CustomerNotices" 96 y_C_isItemNumber ∈ vv_wds := List.mem_filter.mpr ⟨List.mem_of_getElem? (i := 266) rfl, rfl⟩
theorem tw_267 : Cond.static y_C_isItemNumber ∈ vv_wds := List.mem_filter.mpr ⟨List.mem_of_getElem? (i := 267) rfl, rfl⟩
theorem tw_268 : Cond.code y_C_isItemNumber b_C_isItemNumber 1 (some FieldType.boolean) ∈ vv_wds := List.mem_filter.mpr ⟨List.mem_of_getElem? (i := 268) rfl, rfl⟩
theorem tw_269 : Cond.constantLong "CustomerNotices" 222 9999 ∈ vv_wds := List.mem_filter.mpr ⟨List.mem_of_getElem? (i := 269) rfl, rfl⟩
theorem tw_270 : Cond.methodLink "CustomerNotices" 99 y_C_isTimeFromNow ∈ vv_wds := List.mem_filter.mpr ⟨List.mem_of_getElem? (i := 270) rfl, rfl⟩
theorem tw_272 : Cond.instanceMethod y_C_isTimeFromNow ∈ vv_wds := List.mem_filter.mpr ⟨List.mem_of_getElem? (i := 272) rfl, rfl⟩
theorem tw_273 : Cond.code y_C_isTimeFromNow b_C_isTimeFromNow 3 (some FieldType.boolean) ∈ vv_wds := List.mem_filter.mpr ⟨List.mem_of_getElem? (i := 273) rfl, rfl⟩
theorem tw_274 : Cond.constantLong "CustomerNotices" 135 1000000000 ∈ vv_wds := List.mem_filter.mpr ⟨List.mem_of_getElem? (i := 274) rfl, rfl⟩
theorem tw_275 : Cond.methodLink "CustomerNotices" 103 y_C_findItem ∈ vv_wds := List.mem_filter.mpr ⟨List.mem_of_getElem? (i := 275) rfl, rfl⟩
theorem tw_277 : Cond.instanceMethod y_C_findItem ∈ vv_wds := List.mem_filter.mpr ⟨List.mem_of_getElem? (i := 277) rfl, rfl⟩
theorem tw_278 : Cond.code y_C_findItem b_C_findItem 5 (some (FieldType.object "CustomerNotices$Item")) ∈ vv_wds := List.mem_filter.mpr ⟨List.mem_of_getElem? (i := 278) rfl, rfl⟩
theorem tw_279 : Cond.classLink "CustomerNotices" 108 "CustomerNotices$Item" ∈ vv_wds := List.mem_filter.mpr ⟨List.mem_of_getElem? (i := 279) rfl, rfl⟩
theorem tw_280 : Cond.methodLink "CustomerNotices" 113 y_C_isEnd ∈ vv_wds := List.mem_filter.mpr ⟨List.mem_of_getElem? (i := 280) rfl, rfl⟩
theorem tw_281 : Cond.static y_C_isEnd ∈ vv_wds := List.mem_filter.mpr ⟨List.mem_of_getElem? (i := 281) rfl, rfl⟩
theorem tw_282 : Cond.code y_C_isEnd b_C_isEnd 1 (some FieldType.boolean) ∈ vv_wds := List.mem_filter.mpr ⟨List.mem_of_getElem? (i := 282) rfl, rfl⟩
theorem tw_283 : Cond.methodLink "CustomerNotices" 116 y_C_noticesAreFull ∈ vv_wds := List.mem_filter.mpr ⟨List.mem_of_getElem? (i := 283) rfl, rfl⟩
theorem tw_285 : Cond.instanceMethod y_C_noticesAreFull ∈ vv_wds := List.mem_filter.mpr ⟨List.mem_of_getElem? (i := 285) rfl, rfl⟩
theorem tw_286 : Cond.code y_C_noticesAreFull b_C_noticesAreFull 1 (some FieldType.boolean) ∈ vv_wds := List.mem_filter.mpr ⟨List.mem_of_getElem? (i := 286) rfl, rfl⟩
theorem tw_287 : Cond.methodLink "CustomerNotices" 120 y_C_itemsAreFull ∈ vv_wds := List.mem_filter.mpr ⟨List.mem_of_getElem? (i := 287) rfl, rfl⟩
theorem tw_289 : Cond.instanceMethod y_C_itemsAreFull ∈ vv_wds := List.mem_filter.mpr ⟨List.mem_of_getElem? (i := 289) rfl, rfl⟩
theorem tw_290 : Cond.code y_C_itemsAreFull b_C_itemsAreFull 1 (some FieldType.boolean) ∈ vv_wds := List.mem_filter.mpr ⟨List.mem_of_getElem? (i := 290) rfl, rfl⟩
theorem tw_291 : Cond.methodLink "CustomerNotices" 123 y_C_addItem ∈ vv_wds := List.mem_filter.mpr ⟨List.mem_of_getElem? (i := 291) rfl, rfl⟩
theorem tw_293 : Cond.instanceMethod y_C_addItem ∈ vv_wds := List.mem_filter.mpr ⟨List.mem_of_getElem? (i := 293) rfl, rfl⟩
theorem tw_294 : Cond.code y_C_addItem b_C_addItem 4 (some (FieldType.object "CustomerNotices$Item")) ∈ vv_wds := List.mem_filter.mpr ⟨List.mem_of_getElem? (i := 294) rfl, rfl⟩
theorem tw_295 : Cond.instantiable "CustomerNotices$Item" 4 ∈ vv_wds := List.mem_filter.mpr ⟨List.mem_of_getElem? (i := 295) rfl, rfl⟩
theorem tw_296 : Cond.methodLink "CustomerNotices" 230 y_I_init ∈ vv_wds := List.mem_filter.mpr ⟨List.mem_of_getElem? (i := 296) rfl, rfl⟩
theorem tw_297 : Cond.instanceMethod y_I_init ∈ vv_wds := List.mem_filter.mpr ⟨List.mem_of_getElem? (i := 297) rfl, rfl⟩
theorem tw_298 : Cond.code y_I_init b_I_init 3 none ∈ vv_wds := List.mem_filter.mpr ⟨List.mem_of_getElem? (i := 298) rfl, rfl⟩
theorem tw_299 : Cond.methodLink "CustomerNotices$Item" 1 y_Oj_init ∈ vv_wds := List.mem_filter.mpr ⟨List.mem_of_getElem? (i := 299) rfl, rfl⟩
theorem tw_300 : Cond.fieldLink "CustomerNotices$Item" 7 "CustomerNotices$Item" "customerNumber" "I" ∈ vv_wds := List.mem_filter.mpr ⟨List.mem_of_getElem? (i := 300) rfl, rfl⟩
set_option maxRecDepth 20000 in
theorem tw_301 : Cond.fieldLink "CustomerNotices" 224 "CustomerNotices$Item" "customerNumber" "I" ∈ vv_wds := List.mem_filter.mpr ⟨List.mem_of_getElem? (i := 301) rfl, rfl⟩
set_option maxRecDepth 20000 in
theorem tw_302 : Cond.fieldLink "CustomerNotices$Item" 13 "CustomerNotices$Item" "itemNumber" "I" ∈ vv_wds := List.mem_filter.mpr ⟨List.mem_of_getElem? (i := 302) rfl, rfl⟩
set_option maxRecDepth 20000 in
theorem tw_303 : Cond.fieldLink "CustomerNotices" 227 "CustomerNotices$Item" "itemNumber" "I" ∈ vv_wds := List.mem_filter.mpr ⟨List.mem_of_getElem? (i := 303) rfl, rfl⟩
set_option maxRecDepth 20000 in
theorem tw_304 : Cond.fieldLink "CustomerNotices" 107 "CustomerNotices$Item" "ended" "Z" ∈ vv_wds := List.mem_filter.mpr ⟨List.mem_of_getElem? (i := 304) rfl, rfl⟩
set_option maxRecDepth 20000 in
theorem tw_305 : Cond.fieldLink "CustomerNotices" 139 "CustomerNotices$Item" "latestPromise" "LCustomerNotices$Notice;" ∈ vv_wds := List.mem_filter.mpr ⟨List.mem_of_getElem? (i := 305) rfl, rfl⟩
set_option maxRecDepth 20000 in
theorem tw_306 : Cond.laysFinal "CustomerNotices$Item" "CustomerNotices$Item" "customerNumber" "I" ∈ vv_wds := List.mem_filter.mpr ⟨List.mem_of_getElem? (i := 306) rfl, rfl⟩
set_option maxRecDepth 20000 in
theorem tw_308 : Cond.laysFinal "CustomerNotices$Item" "CustomerNotices$Item" "itemNumber" "I" ∈ vv_wds := List.mem_filter.mpr ⟨List.mem_of_getElem? (i := 308) rfl, rfl⟩
set_option maxRecDepth 20000 in
theorem tw_310 : Cond.lays "CustomerNotices$Item" "CustomerNotices$Item" "ended" "Z" ∈ vv_wds := List.mem_filter.mpr ⟨List.mem_of_getElem? (i := 310) rfl, rfl⟩
set_option maxRecDepth 20000 in
theorem tw_312 : Cond.lays "CustomerNotices$Item" "CustomerNotices$Item" "latestPromise" "LCustomerNotices$Notice;" ∈ vv_wds := List.mem_filter.mpr ⟨List.mem_of_getElem? (i := 312) rfl, rfl⟩
set_option maxRecDepth 20000 in
theorem tw_315 : Cond.methodLink "CustomerNotices" 126 y_C_addNotice ∈ vv_wds := List.mem_filter.mpr ⟨List.mem_of_getElem? (i := 315) rfl, rfl⟩
set_option maxRecDepth 20000 in
theorem tw_317 : Cond.instanceMethod y_C_addNotice ∈ vv_wds := List.mem_filter.mpr ⟨List.mem_of_getElem? (i := 317) rfl, rfl⟩
set_option maxRecDepth 20000 in
theorem tw_318 : Cond.code y_C_addNotice b_C_addNotice 7 (some (FieldType.object "CustomerNotices$Notice")) ∈ vv_wds := List.mem_filter.mpr ⟨List.mem_of_getElem? (i := 318) rfl, rfl⟩
set_option maxRecDepth 20000 in
theorem tw_319 : Cond.classLink "CustomerNotices" 131 "CustomerNotices$Notice" ∈ vv_wds := List.mem_filter.mpr ⟨List.mem_of_getElem? (i := 319) rfl, rfl⟩
set_option maxRecDepth 20000 in
theorem tw_320 : Cond.instantiable "CustomerNotices$Notice" 12 ∈ vv_wds := List.mem_filter.mpr ⟨List.mem_of_getElem? (i := 320) rfl, rfl⟩
set_option maxRecDepth 20000 in
theorem tw_321 : Cond.methodLink "CustomerNotices" 232 y_N_init ∈ vv_wds := List.mem_filter.mpr ⟨List.mem_of_getElem? (i := 321) rfl, rfl⟩
set_option maxRecDepth 20000 in
theorem tw_322 : Cond.instanceMethod y_N_init ∈ vv_wds := List.mem_filter.mpr ⟨List.mem_of_getElem? (i := 322) rfl, rfl⟩
set_option maxRecDepth 20000 in
theorem tw_323 : Cond.code y_N_init b_N_init 7 none ∈ vv_wds := List.mem_filter.mpr ⟨List.mem_of_getElem? (i := 323) rfl, rfl⟩
set_option maxRecDepth 20000 in
theorem tw_324 : Cond.methodLink "CustomerNotices$Notice" 3 y_Oj_init ∈ vv_wds := List.mem_filter.mpr ⟨List.mem_of_getElem? (i := 324) rfl, rfl⟩
set_option maxRecDepth 20000 in
theorem tw_325 : Cond.constantLong "CustomerNotices$Notice" 32 (-1) ∈ vv_wds := List.mem_filter.mpr ⟨List.mem_of_getElem? (i := 325) rfl, rfl⟩
set_option maxRecDepth 20000 in
theorem tw_326 : Cond.fieldLink "CustomerNotices$Notice" 9 "CustomerNotices$Notice" "number" "I" ∈ vv_wds := List.mem_filter.mpr ⟨List.mem_of_getElem? (i := 326) rfl, rfl⟩
set_option maxRecDepth 20000 in
theorem tw_327 : Cond.fieldLink "CustomerNotices" 130 "CustomerNotices$Notice" "number" "I" ∈ vv_wds := List.mem_filter.mpr ⟨List.mem_of_getElem? (i := 327) rfl, rfl⟩
set_option maxRecDepth 20000 in
theorem tw_328 : Cond.fieldLink "CustomerNotices$Notice" 15 "CustomerNotices$Notice" "owner" "LCustomerNotices$Customer;" ∈ vv_wds := List.mem_filter.mpr ⟨List.mem_of_getElem? (i := 328) rfl, rfl⟩
set_option maxRecDepth 20000 in
theorem tw_329 : Cond.fieldLink "CustomerNotices" 185 "CustomerNotices$Notice" "owner" "LCustomerNotices$Customer;" ∈ vv_wds := List.mem_filter.mpr ⟨List.mem_of_getElem? (i := 329) rfl, rfl⟩
set_option maxRecDepth 20000 in
theorem tw_330 : Cond.fieldLink "CustomerNotices$Notice" 19 "CustomerNotices$Notice" "item" "I" ∈ vv_wds := List.mem_filter.mpr ⟨List.mem_of_getElem? (i := 330) rfl, rfl⟩
set_option maxRecDepth 20000 in
theorem tw_331 : Cond.fieldLink "CustomerNotices" 200 "CustomerNotices$Notice" "item" "I" ∈ vv_wds := List.mem_filter.mpr ⟨List.mem_of_getElem? (i := 331) rfl, rfl⟩
set_option maxRecDepth 20000 in
theorem tw_332 : Cond.fieldLink "CustomerNotices$Notice" 22 "CustomerNotices$Notice" "kind" "I" ∈ vv_wds := List.mem_filter.mpr ⟨List.mem_of_getElem? (i := 332) rfl, rfl⟩
set_option maxRecDepth 20000 in
theorem tw_333 : Cond.fieldLink "CustomerNotices" 190 "CustomerNotices$Notice" "kind" "I" ∈ vv_wds := List.mem_filter.mpr ⟨List.mem_of_getElem? (i := 333) rfl, rfl⟩
set_option maxRecDepth 20000 in
theorem tw_334 : Cond.fieldLink "CustomerNotices$Notice" 25 "CustomerNotices$Notice" "time" "J" ∈ vv_wds := List.mem_filter.mpr ⟨List.mem_of_getElem? (i := 334) rfl, rfl⟩
set_option maxRecDepth 20000 in
theorem tw_335 : Cond.fieldLink "CustomerNotices" 247 "CustomerNotices$Notice" "time" "J" ∈ vv_wds := List.mem_filter.mpr ⟨List.mem_of_getElem? (i := 335) rfl, rfl⟩
set_option maxRecDepth 20000 in
theorem tw_336 : Cond.fieldLink "CustomerNotices$Notice" 29 "CustomerNotices$Notice" "state" "I" ∈ vv_wds := List.mem_filter.mpr ⟨List.mem_of_getElem? (i := 336) rfl, rfl⟩
set_option maxRecDepth 20000 in
theorem tw_337 : Cond.fieldLink "CustomerNotices" 154 "CustomerNotices$Notice" "state" "I" ∈ vv_wds := List.mem_filter.mpr ⟨List.mem_of_getElem? (i := 337) rfl, rfl⟩
set_option maxRecDepth 20000 in
theorem tw_338 : Cond.fieldLink "CustomerNotices$Notice" 34 "CustomerNotices$Notice" "promisedTime" "J" ∈ vv_wds := List.mem_filter.mpr ⟨List.mem_of_getElem? (i := 338) rfl, rfl⟩
set_option maxRecDepth 20000 in
theorem tw_339 : Cond.fieldLink "CustomerNotices" 147 "CustomerNotices$Notice" "promisedTime" "J" ∈ vv_wds := List.mem_filter.mpr ⟨List.mem_of_getElem? (i := 339) rfl, rfl⟩
set_option maxRecDepth 20000 in
theorem tw_340 : Cond.fieldLink "CustomerNotices$Notice" 41 "CustomerNotices$Notice" "isCorrection" "Z" ∈ vv_wds := List.mem_filter.mpr ⟨List.mem_of_getElem? (i := 340) rfl, rfl⟩
set_option maxRecDepth 20000 in
theorem tw_341 : Cond.fieldLink "CustomerNotices" 235 "CustomerNotices$Notice" "isCorrection" "Z" ∈ vv_wds := List.mem_filter.mpr ⟨List.mem_of_getElem? (i := 341) rfl, rfl⟩
set_option maxRecDepth 20000 in
theorem tw_342 : Cond.fieldLink "CustomerNotices$Notice" 37 "CustomerNotices$Notice" "corrected" "Z" ∈ vv_wds := List.mem_filter.mpr ⟨List.mem_of_getElem? (i := 342) rfl, rfl⟩
set_option maxRecDepth 20000 in
theorem tw_343 : Cond.fieldLink "CustomerNotices" 207 "CustomerNotices$Notice" "corrected" "Z" ∈ vv_wds := List.mem_filter.mpr ⟨List.mem_of_getElem? (i := 343) rfl, rfl⟩
set_option maxRecDepth 20000 in
theorem tw_344 : Cond.fieldLink "CustomerNotices" 261 "CustomerNotices$Notice" "channel" "I" ∈ vv_wds := List.mem_filter.mpr ⟨List.mem_of_getElem? (i := 344) rfl, rfl⟩
set_option maxRecDepth 20000 in
theorem tw_345 : Cond.fieldLink "CustomerNotices" 264 "CustomerNotices$Notice" "message" "I" ∈ vv_wds := List.mem_filter.mpr ⟨List.mem_of_getElem? (i := 345) rfl, rfl⟩
set_option maxRecDepth 20000 in
theorem tw_346 : Cond.fieldLink "CustomerNotices" 267 "CustomerNotices$Notice" "sentTime" "J" ∈ vv_wds := List.mem_filter.mpr ⟨List.mem_of_getElem? (i := 346) rfl, rfl⟩
set_option maxRecDepth 20000 in
theorem tw_347 : Cond.laysFinal "CustomerNotices$Notice" "CustomerNotices$Notice" "number" "I" ∈ vv_wds := List.mem_filter.mpr ⟨List.mem_of_getElem? (i := 347) rfl, rfl⟩
set_option maxRecDepth 20000 in
theorem tw_349 : Cond.laysFinal "CustomerNotices$Notice" "CustomerNotices$Notice" "owner" "LCustomerNotices$Customer;" ∈ vv_wds := List.mem_filter.mpr ⟨List.mem_of_getElem? (i := 349) rfl, rfl⟩
set_option maxRecDepth 20000 in
theorem tw_351 : Cond.laysFinal "CustomerNotices$Notice" "CustomerNotices$Notice" "item" "I" ∈ vv_wds := List.mem_filter.mpr ⟨List.mem_of_getElem? (i := 351) rfl, rfl⟩
set_option maxRecDepth 20000 in
theorem tw_353 : Cond.laysFinal "CustomerNotices$Notice" "CustomerNotices$Notice" "kind" "I" ∈ vv_wds := List.mem_filter.mpr ⟨List.mem_of_getElem? (i := 353) rfl, rfl⟩
set_option maxRecDepth 20000 in
theorem tw_355 : Cond.laysFinal "CustomerNotices$Notice" "CustomerNotices$Notice" "time" "J" ∈ vv_wds := List.mem_filter.mpr ⟨List.mem_of_getElem? (i := 355) rfl, rfl⟩
set_option maxRecDepth 20000 in
theorem tw_357 : Cond.lays "CustomerNotices$Notice" "CustomerNotices$Notice" "state" "I" ∈ vv_wds := List.mem_filter.mpr ⟨List.mem_of_getElem? (i := 357) rfl, rfl⟩
set_option maxRecDepth 20000 in
theorem tw_359 : Cond.lays "CustomerNotices$Notice" "CustomerNotices$Notice" "promisedTime" "J" ∈ vv_wds := List.mem_filter.mpr ⟨List.mem_of_getElem? (i := 359) rfl, rfl⟩
set_option maxRecDepth 20000 in
theorem tw_361 : Cond.lays "CustomerNotices$Notice" "CustomerNotices$Notice" "isCorrection" "Z" ∈ vv_wds := List.mem_filter.mpr ⟨List.mem_of_getElem? (i := 361) rfl, rfl⟩
set_option maxRecDepth 20000 in
theorem tw_363 : Cond.lays "CustomerNotices$Notice" "CustomerNotices$Notice" "corrected" "Z" ∈ vv_wds := List.mem_filter.mpr ⟨List.mem_of_getElem? (i := 363) rfl, rfl⟩
set_option maxRecDepth 20000 in
theorem tw_365 : Cond.lays "CustomerNotices$Notice" "CustomerNotices$Notice" "channel" "I" ∈ vv_wds := List.mem_filter.mpr ⟨List.mem_of_getElem? (i := 365) rfl, rfl⟩
set_option maxRecDepth 20000 in
theorem tw_367 : Cond.lays "CustomerNotices$Notice" "CustomerNotices$Notice" "message" "I" ∈ vv_wds := List.mem_filter.mpr ⟨List.mem_of_getElem? (i := 367) rfl, rfl⟩
set_option maxRecDepth 20000 in
theorem tw_369 : Cond.lays "CustomerNotices$Notice" "CustomerNotices$Notice" "sentTime" "J" ∈ vv_wds := List.mem_filter.mpr ⟨List.mem_of_getElem? (i := 369) rfl, rfl⟩
set_option maxRecDepth 20000 in
theorem tw_372 : Cond.methodLink "CustomerNoticesLaw" 35 y_C_promise ∈ vv_wds := List.mem_filter.mpr ⟨List.mem_of_getElem? (i := 372) rfl, rfl⟩
set_option maxRecDepth 20000 in
theorem tw_373 : Cond.instanceMethod y_C_promise ∈ vv_wds := List.mem_filter.mpr ⟨List.mem_of_getElem? (i := 373) rfl, rfl⟩
set_option maxRecDepth 20000 in
theorem tw_374 : Cond.selects "CustomerNotices" y_C_promise y_C_promise ∈ vv_wds := List.mem_filter.mpr ⟨List.mem_of_getElem? (i := 374) rfl, rfl⟩
set_option maxRecDepth 20000 in
theorem tw_375 : Cond.code y_C_promise b_C_promise 10 (some FieldType.int) ∈ vv_wds := List.mem_filter.mpr ⟨List.mem_of_getElem? (i := 375) rfl, rfl⟩
set_option maxRecDepth 20000 in
theorem tw_376 : Cond.constantLong "CustomerNotices" 137 1000000 ∈ vv_wds := List.mem_filter.mpr ⟨List.mem_of_getElem? (i := 376) rfl, rfl⟩
set_option maxRecDepth 20000 in
theorem tw_377 : Cond.methodLink "CustomerNotices" 143 y_C_addPromise ∈ vv_wds := List.mem_filter.mpr ⟨List.mem_of_getElem? (i := 377) rfl, rfl⟩
set_option maxRecDepth 20000 in
theorem tw_379 : Cond.instanceMethod y_C_addPromise ∈ vv_wds := List.mem_filter.mpr ⟨List.mem_of_getElem? (i := 379) rfl, rfl⟩
set_option maxRecDepth 20000 in
theorem tw_380 : Cond.code y_C_addPromise b_C_addPromise 8 (some FieldType.int) ∈ vv_wds := List.mem_filter.mpr ⟨List.mem_of_getElem? (i := 380) rfl, rfl⟩
set_option maxRecDepth 20000 in
theorem tw_381 : Cond.methodLink "CustomerNotices" 150 y_Ma_abs ∈ vv_wds := List.mem_filter.mpr ⟨List.mem_of_getElem? (i := 381) rfl, rfl⟩
set_option maxRecDepth 20000 in
theorem tw_382 : Cond.static y_Ma_abs ∈ vv_wds := List.mem_filter.mpr ⟨List.mem_of_getElem? (i := 382) rfl, rfl⟩
set_option maxRecDepth 20000 in
theorem tw_383 : Cond.code y_Ma_abs b_Ma_abs 2 (some FieldType.long) ∈ vv_wds := List.mem_filter.mpr ⟨List.mem_of_getElem? (i := 383) rfl, rfl⟩
set_option maxRecDepth 20000 in
theorem tw_384 : Cond.methodLink "CustomerNoticesLaw" 40 y_C_tick ∈ vv_wds := List.mem_filter.mpr ⟨List.mem_of_getElem? (i := 384) rfl, rfl⟩
set_option maxRecDepth 20000 in
theorem tw_385 : Cond.instanceMethod y_C_tick ∈ vv_wds := List.mem_filter.mpr ⟨List.mem_of_getElem? (i := 385) rfl, rfl⟩
set_option maxRecDepth 20000 in
theorem tw_386 : Cond.selects "CustomerNotices" y_C_tick y_C_tick ∈ vv_wds := List.mem_filter.mpr ⟨List.mem_of_getElem? (i := 386) rfl, rfl⟩
set_option maxRecDepth 20000 in
theorem tw_387 : Cond.code y_C_tick b_C_tick 6 (some FieldType.int) ∈ vv_wds := List.mem_filter.mpr ⟨List.mem_of_getElem? (i := 387) rfl, rfl⟩
set_option maxRecDepth 20000 in
theorem tw_388 : Cond.methodLink "CustomerNotices" 157 y_C_prepareCustomersForTick ∈ vv_wds := List.mem_filter.mpr ⟨List.mem_of_getElem? (i := 388) rfl, rfl⟩
set_option maxRecDepth 20000 in
theorem tw_390 : Cond.instanceMethod y_C_prepareCustomersForTick ∈ vv_wds := List.mem_filter.mpr ⟨List.mem_of_getElem? (i := 390) rfl, rfl⟩
set_option maxRecDepth 20000 in
theorem tw_391 : Cond.code y_C_prepareCustomersForTick b_C_prepareCustomersForTick 4 none ∈ vv_wds := List.mem_filter.mpr ⟨List.mem_of_getElem? (i := 391) rfl, rfl⟩
set_option maxRecDepth 20000 in
theorem tw_392 : Cond.methodLink "CustomerNotices" 244 y_N_isMarked ∈ vv_wds := List.mem_filter.mpr ⟨List.mem_of_getElem? (i := 392) rfl, rfl⟩
set_option maxRecDepth 20000 in
theorem tw_393 : Cond.instanceMethod y_N_isMarked ∈ vv_wds := List.mem_filter.mpr ⟨List.mem_of_getElem? (i := 393) rfl, rfl⟩
set_option maxRecDepth 20000 in
theorem tw_394 : Cond.selects "CustomerNotices$Notice" y_N_isMarked y_N_isMarked ∈ vv_wds := List.mem_filter.mpr ⟨List.mem_of_getElem? (i := 394) rfl, rfl⟩
set_option maxRecDepth 20000 in
theorem tw_395 : Cond.code y_N_isMarked b_N_isMarked 1 (some FieldType.boolean) ∈ vv_wds := List.mem_filter.mpr ⟨List.mem_of_getElem? (i := 395) rfl, rfl⟩
set_option maxRecDepth 20000 in
theorem tw_396 : Cond.methodLink "CustomerNotices" 250 y_Ma_min_JJJ ∈ vv_wds := List.mem_filter.mpr ⟨List.mem_of_getElem? (i := 396) rfl, rfl⟩
set_option maxRecDepth 20000 in
theorem tw_397 : Cond.static y_Ma_min_JJJ ∈ vv_wds := List.mem_filter.mpr ⟨List.mem_of_getElem? (i := 397) rfl, rfl⟩
set_option maxRecDepth 20000 in
theorem tw_398 : Cond.code y_Ma_min_JJJ b_Ma_min_JJJ 4 (some FieldType.long) ∈ vv_wds := List.mem_filter.mpr ⟨List.mem_of_getElem? (i := 398) rfl, rfl⟩
set_option maxRecDepth 20000 in
theorem tw_399 : Cond.methodLink "CustomerNotices" 164 y_C_isDue ∈ vv_wds := List.mem_filter.mpr ⟨List.mem_of_getElem? (i := 399) rfl, rfl⟩
set_option maxRecDepth 20000 in
theorem tw_401 : Cond.instanceMethod y_C_isDue ∈ vv_wds := List.mem_filter.mpr ⟨List.mem_of_getElem? (i := 401) rfl, rfl⟩
set_option maxRecDepth 20000 in
theorem tw_402 : Cond.code y_C_isDue b_C_isDue 2 (some FieldType.boolean) ∈ vv_wds := List.mem_filter.mpr ⟨List.mem_of_getElem? (i := 402) rfl, rfl⟩
set_option maxRecDepth 20000 in
theorem tw_403 : Cond.methodLink "CustomerNotices" 168 y_C_isHeldByQuiet ∈ vv_wds := List.mem_filter.mpr ⟨List.mem_of_getElem? (i := 403) rfl, rfl⟩
set_option maxRecDepth 20000 in
theorem tw_405 : Cond.instanceMethod y_C_isHeldByQuiet ∈ vv_wds := List.mem_filter.mpr ⟨List.mem_of_getElem? (i := 405) rfl, rfl⟩
set_option maxRecDepth 20000 in
theorem tw_406 : Cond.code y_C_isHeldByQuiet b_C_isHeldByQuiet 2 (some FieldType.boolean) ∈ vv_wds := List.mem_filter.mpr ⟨List.mem_of_getElem? (i := 406) rfl, rfl⟩
set_option maxRecDepth 20000 in
theorem tw_407 : Cond.methodLink "CustomerNotices" 254 y_K_isQuietAt ∈ vv_wds := List.mem_filter.mpr ⟨List.mem_of_getElem? (i := 407) rfl, rfl⟩
set_option maxRecDepth 20000 in
theorem tw_408 : Cond.instanceMethod y_K_isQuietAt ∈ vv_wds := List.mem_filter.mpr ⟨List.mem_of_getElem? (i := 408) rfl, rfl⟩
set_option maxRecDepth 20000 in
theorem tw_409 : Cond.selects "CustomerNotices$Customer" y_K_isQuietAt y_K_isQuietAt ∈ vv_wds := List.mem_filter.mpr ⟨List.mem_of_getElem? (i := 409) rfl, rfl⟩
set_option maxRecDepth 20000 in
theorem tw_410 : Cond.code y_K_isQuietAt b_K_isQuietAt 5 (some FieldType.boolean) ∈ vv_wds := List.mem_filter.mpr ⟨List.mem_of_getElem? (i := 410) rfl, rfl⟩
set_option maxRecDepth 20000 in
theorem tw_411 : Cond.constantLong "CustomerNotices$Customer" 40 1440 ∈ vv_wds := List.mem_filter.mpr ⟨List.mem_of_getElem? (i := 411) rfl, rfl⟩
set_option maxRecDepth 20000 in
theorem tw_412 : Cond.methodLink "CustomerNotices$Customer" 42 y_Ma_floorMod_JJJ ∈ vv_wds := List.mem_filter.mpr ⟨List.mem_of_getElem? (i := 412) rfl, rfl⟩
set_option maxRecDepth 20000 in
theorem tw_413 : Cond.static y_Ma_floorMod_JJJ ∈ vv_wds := List.mem_filter.mpr ⟨List.mem_of_getElem? (i := 413) rfl, rfl⟩
set_option maxRecDepth 20000 in
theorem tw_414 : Cond.code y_Ma_floorMod_JJJ b_Ma_floorMod_JJJ 6 (some FieldType.long) ∈ vv_wds := List.mem_filter.mpr ⟨List.mem_of_getElem? (i := 414) rfl, rfl⟩
set_option maxRecDepth 20000 in
theorem tw_415 : Cond.methodLink "CustomerNotices" 171 y_C_deliver ∈ vv_wds := List.mem_filter.mpr ⟨List.mem_of_getElem? (i := 415) rfl, rfl⟩
set_option maxRecDepth 20000 in
theorem tw_417 : Cond.instanceMethod y_C_deliver ∈ vv_wds := List.mem_filter.mpr ⟨List.mem_of_getElem? (i := 417) rfl, rfl⟩
set_option maxRecDepth 20000 in
theorem tw_418 : Cond.code y_C_deliver b_C_deliver 4 none ∈ vv_wds := List.mem_filter.mpr ⟨List.mem_of_getElem? (i := 418) rfl, rfl⟩
set_option maxRecDepth 20000 in
theorem tw_419 : Cond.methodLink "CustomerNotices" 257 y_K_firstWorkingChannel ∈ vv_wds := List.mem_filter.mpr ⟨List.mem_of_getElem? (i := 419) rfl, rfl⟩
set_option maxRecDepth 20000 in
theorem tw_420 : Cond.instanceMethod y_K_firstWorkingChannel ∈ vv_wds := List.mem_filter.mpr ⟨List.mem_of_getElem? (i := 420) rfl, rfl⟩
set_option maxRecDepth 20000 in
theorem tw_421 : Cond.selects "CustomerNotices$Customer" y_K_firstWorkingChannel y_K_firstWorkingChannel ∈ vv_wds := List.mem_filter.mpr ⟨List.mem_of_getElem? (i := 421) rfl, rfl⟩
set_option maxRecDepth 20000 in
theorem tw_422 : Cond.code y_K_firstWorkingChannel b_K_firstWorkingChannel 7 (some FieldType.int) ∈ vv_wds := List.mem_filter.mpr ⟨List.mem_of_getElem? (i := 422) rfl, rfl⟩
set_option maxRecDepth 20000 in
theorem tw_423 : Cond.methodLink "CustomerNoticesLaw" 45 y_C_sent ∈ vv_wds := List.mem_filter.mpr ⟨List.mem_of_getElem? (i := 423) rfl, rfl⟩
set_option maxRecDepth 20000 in
theorem tw_424 : Cond.instanceMethod y_C_sent ∈ vv_wds := List.mem_filter.mpr ⟨List.mem_of_getElem? (i := 424) rfl, rfl⟩
set_option maxRecDepth 20000 in
theorem tw_425 : Cond.selects "CustomerNotices" y_C_sent y_C_sent ∈ vv_wds := List.mem_filter.mpr ⟨List.mem_of_getElem? (i := 425) rfl, rfl⟩
set_option maxRecDepth 20000 in
theorem tw_426 : Cond.code y_C_sent b_C_sent 3 (some FieldType.int) ∈ vv_wds := List.mem_filter.mpr ⟨List.mem_of_getElem? (i := 426) rfl, rfl⟩
set_option maxRecDepth 20000 in
theorem tw_427 : Cond.constantLong "CustomerNotices" 175 8 ∈ vv_wds := List.mem_filter.mpr ⟨List.mem_of_getElem? (i := 427) rfl, rfl⟩
set_option maxRecDepth 20000 in
theorem tw_428 : Cond.methodLink "CustomerNotices" 177 y_C_detail ∈ vv_wds := List.mem_filter.mpr ⟨List.mem_of_getElem? (i := 428) rfl, rfl⟩
set_option maxRecDepth 20000 in
theorem tw_429 : Cond.static y_C_detail ∈ vv_wds := List.mem_filter.mpr ⟨List.mem_of_getElem? (i := 429) rfl, rfl⟩
set_option maxRecDepth 20000 in
theorem tw_430 : Cond.code y_C_detail b_C_detail 2 (some FieldType.int) ∈ vv_wds := List.mem_filter.mpr ⟨List.mem_of_getElem? (i := 430) rfl, rfl⟩
set_option maxRecDepth 20000 in
theorem tw_431 : Cond.methodLink "CustomerNotices" 270 y_N_text ∈ vv_wds := List.mem_filter.mpr ⟨List.mem_of_getElem? (i := 431) rfl, rfl⟩
set_option maxRecDepth 20000 in
theorem tw_432 : Cond.instanceMethod y_N_text ∈ vv_wds := List.mem_filter.mpr ⟨List.mem_of_getElem? (i := 432) rfl, rfl⟩
set_option maxRecDepth 20000 in
theorem tw_433 : Cond.selects "CustomerNotices$Notice" y_N_text y_N_text ∈ vv_wds := List.mem_filter.mpr ⟨List.mem_of_getElem? (i := 433) rfl, rfl⟩
set_option maxRecDepth 20000 in
theorem tw_434 : Cond.code y_N_text b_N_text 1 (some FieldType.int) ∈ vv_wds := List.mem_filter.mpr ⟨List.mem_of_getElem? (i := 434) rfl, rfl⟩
set_option maxRecDepth 20000 in
theorem tw_435 : Cond.methodLink "CustomerNoticesLaw" 49 y_C_works ∈ vv_wds := List.mem_filter.mpr ⟨List.mem_of_getElem? (i := 435) rfl, rfl⟩
set_option maxRecDepth 20000 in
theorem tw_436 : Cond.instanceMethod y_C_works ∈ vv_wds := List.mem_filter.mpr ⟨List.mem_of_getElem? (i := 436) rfl, rfl⟩
set_option maxRecDepth 20000 in
theorem tw_437 : Cond.selects "CustomerNotices" y_C_works y_C_works ∈ vv_wds := List.mem_filter.mpr ⟨List.mem_of_getElem? (i := 437) rfl, rfl⟩
set_option maxRecDepth 20000 in
theorem tw_438 : Cond.code y_C_works b_C_works 4 (some FieldType.boolean) ∈ vv_wds := List.mem_filter.mpr ⟨List.mem_of_getElem? (i := 438) rfl, rfl⟩
set_option maxRecDepth 20000 in
theorem tw_439 : Cond.methodLink "CustomerNoticesLaw" 54 y_C_out ∈ vv_wds := List.mem_filter.mpr ⟨List.mem_of_getElem? (i := 439) rfl, rfl⟩
set_option maxRecDepth 20000 in
theorem tw_440 : Cond.instanceMethod y_C_out ∈ vv_wds := List.mem_filter.mpr ⟨List.mem_of_getElem? (i := 440) rfl, rfl⟩
set_option maxRecDepth 20000 in
theorem tw_441 : Cond.selects "CustomerNotices" y_C_out y_C_out ∈ vv_wds := List.mem_filter.mpr ⟨List.mem_of_getElem? (i := 441) rfl, rfl⟩
set_option maxRecDepth 20000 in
theorem tw_442 : Cond.code y_C_out b_C_out 7 (some FieldType.int) ∈ vv_wds := List.mem_filter.mpr ⟨List.mem_of_getElem? (i := 442) rfl, rfl⟩
set_option maxRecDepth 20000 in
theorem tw_443 : Cond.methodLink "CustomerNotices" 181 y_K_clearWishes ∈ vv_wds := List.mem_filter.mpr ⟨List.mem_of_getElem? (i := 443) rfl, rfl⟩
set_option maxRecDepth 20000 in
theorem tw_444 : Cond.instanceMethod y_K_clearWishes ∈ vv_wds := List.mem_filter.mpr ⟨List.mem_of_getElem? (i := 444) rfl, rfl⟩
set_option maxRecDepth 20000 in
theorem tw_445 : Cond.selects "CustomerNotices$Customer" y_K_clearWishes y_K_clearWishes ∈ vv_wds := List.mem_filter.mpr ⟨List.mem_of_getElem? (i := 445) rfl, rfl⟩
set_option maxRecDepth 20000 in
theorem tw_446 : Cond.code y_K_clearWishes b_K_clearWishes 3 none ∈ vv_wds := List.mem_filter.mpr ⟨List.mem_of_getElem? (i := 446) rfl, rfl⟩
set_option maxRecDepth 20000 in
theorem tw_447 : Cond.methodLink "CustomerNotices$Customer" 32 y_K_setOrder ∈ vv_wds := List.mem_filter.mpr ⟨List.mem_of_getElem? (i := 447) rfl, rfl⟩
set_option maxRecDepth 20000 in
theorem tw_448 : Cond.methodLink "CustomerNoticesLaw" 58 y_C_failed ∈ vv_wds := List.mem_filter.mpr ⟨List.mem_of_getElem? (i := 448) rfl, rfl⟩
set_option maxRecDepth 20000 in
theorem tw_449 : Cond.instanceMethod y_C_failed ∈ vv_wds := List.mem_filter.mpr ⟨List.mem_of_getElem? (i := 449) rfl, rfl⟩
set_option maxRecDepth 20000 in
theorem tw_450 : Cond.selects "CustomerNotices" y_C_failed y_C_failed ∈ vv_wds := List.mem_filter.mpr ⟨List.mem_of_getElem? (i := 450) rfl, rfl⟩
set_option maxRecDepth 20000 in
theorem tw_451 : Cond.code y_C_failed b_C_failed 2 (some FieldType.int) ∈ vv_wds := List.mem_filter.mpr ⟨List.mem_of_getElem? (i := 451) rfl, rfl⟩
set_option maxRecDepth 20000 in
theorem tw_452 : Cond.methodLink "CustomerNoticesLaw" 63 y_C_correct ∈ vv_wds := List.mem_filter.mpr ⟨List.mem_of_getElem? (i := 452) rfl, rfl⟩
set_option maxRecDepth 20000 in
theorem tw_453 : Cond.instanceMethod y_C_correct ∈ vv_wds := List.mem_filter.mpr ⟨List.mem_of_getElem? (i := 453) rfl, rfl⟩
set_option maxRecDepth 20000 in
theorem tw_454 : Cond.selects "CustomerNotices" y_C_correct y_C_correct ∈ vv_wds := List.mem_filter.mpr ⟨List.mem_of_getElem? (i := 454) rfl, rfl⟩
set_option maxRecDepth 20000 in
theorem tw_455 : Cond.code y_C_correct b_C_correct 6 (some FieldType.int) ∈ vv_wds := List.mem_filter.mpr ⟨List.mem_of_getElem? (i := 455) rfl, rfl⟩
set_option maxRecDepth 20000 in
theorem tw_456 : Cond.methodLink "CustomerNotices" 193 y_C_findNotice ∈ vv_wds := List.mem_filter.mpr ⟨List.mem_of_getElem? (i := 456) rfl, rfl⟩
set_option maxRecDepth 20000 in
theorem tw_458 : Cond.instanceMethod y_C_findNotice ∈ vv_wds := List.mem_filter.mpr ⟨List.mem_of_getElem? (i := 458) rfl, rfl⟩
set_option maxRecDepth 20000 in
theorem tw_459 : Cond.code y_C_findNotice b_C_findNotice 2 (some (FieldType.object "CustomerNotices$Notice")) ∈ vv_wds := List.mem_filter.mpr ⟨List.mem_of_getElem? (i := 459) rfl, rfl⟩
set_option maxRecDepth 20000 in
theorem tw_460 : Cond.methodLink "CustomerNotices" 197 y_N_canBeCorrected ∈ vv_wds := List.mem_filter.mpr ⟨List.mem_of_getElem? (i := 460) rfl, rfl⟩
set_option maxRecDepth 20000 in
theorem tw_461 : Cond.instanceMethod y_N_canBeCorrected ∈ vv_wds := List.mem_filter.mpr ⟨List.mem_of_getElem? (i := 461) rfl, rfl⟩
set_option maxRecDepth 20000 in
theorem tw_462 : Cond.selects "CustomerNotices$Notice" y_N_canBeCorrected y_N_canBeCorrected ∈ vv_wds := List.mem_filter.mpr ⟨List.mem_of_getElem? (i := 462) rfl, rfl⟩
set_option maxRecDepth 20000 in
theorem tw_463 : Cond.code y_N_canBeCorrected b_N_canBeCorrected 1 (some FieldType.boolean) ∈ vv_wds := List.mem_filter.mpr ⟨List.mem_of_getElem? (i := 463) rfl, rfl⟩
set_option maxRecDepth 20000 in
theorem tw_464 : Cond.methodLink "CustomerNotices" 203 y_C_reopenItem ∈ vv_wds := List.mem_filter.mpr ⟨List.mem_of_getElem? (i := 464) rfl, rfl⟩
set_option maxRecDepth 20000 in
theorem tw_466 : Cond.instanceMethod y_C_reopenItem ∈ vv_wds := List.mem_filter.mpr ⟨List.mem_of_getElem? (i := 466) rfl, rfl⟩
set_option maxRecDepth 20000 in
theorem tw_467 : Cond.code y_C_reopenItem b_C_reopenItem 4 none ∈ vv_wds := List.mem_filter.mpr ⟨List.mem_of_getElem? (i := 467) rfl, rfl⟩
set_option maxRecDepth 20000 in
theorem tw_468 : Cond.methodLink "CustomerNotices" 210 y_C_addCorrection ∈ vv_wds := List.mem_filter.mpr ⟨List.mem_of_getElem? (i := 468) rfl, rfl⟩
set_option maxRecDepth 20000 in
theorem tw_470 : Cond.instanceMethod y_C_addCorrection ∈ vv_wds := List.mem_filter.mpr ⟨List.mem_of_getElem? (i := 470) rfl, rfl⟩
set_option maxRecDepth 20000 in
theorem tw_471 : Cond.code y_C_addCorrection b_C_addCorrection 5 (some FieldType.int) ∈ vv_wds := List.mem_filter.mpr ⟨List.mem_of_getElem? (i := 471) rfl, rfl⟩
set_option maxRecDepth 20000 in
theorem tw_472 : Cond.methodLink "CustomerNoticesLaw" 68 y_C_join ∈ vv_wds := List.mem_filter.mpr ⟨List.mem_of_getElem? (i := 472) rfl, rfl⟩
set_option maxRecDepth 20000 in
theorem tw_473 : Cond.instanceMethod y_C_join ∈ vv_wds := List.mem_filter.mpr ⟨List.mem_of_getElem? (i := 473) rfl, rfl⟩
set_option maxRecDepth 20000 in
theorem tw_474 : Cond.selects "CustomerNotices" y_C_join y_C_join ∈ vv_wds := List.mem_filter.mpr ⟨List.mem_of_getElem? (i := 474) rfl, rfl⟩
set_option maxRecDepth 20000 in
theorem tw_475 : Cond.code y_C_join b_C_join 3 (some FieldType.int) ∈ vv_wds := List.mem_filter.mpr ⟨List.mem_of_getElem? (i := 475) rfl, rfl⟩
set_option maxRecDepth 20000 in
theorem tw_476 : Cond.constantLong "CustomerNotices" 214 1440 ∈ vv_wds := List.mem_filter.mpr ⟨List.mem_of_getElem? (i := 476) rfl, rfl⟩
set_option maxRecDepth 20000 in
theorem tw_477 : Cond.classLink "CustomerNoticesLaw" 10 "CustomerNoticesModel" ∈ vv_wds := List.mem_filter.mpr ⟨List.mem_of_getElem? (i := 477) rfl, rfl⟩
set_option maxRecDepth 20000 in
theorem tw_478 : Cond.instantiable "CustomerNoticesModel" 32 ∈ vv_wds := List.mem_filter.mpr ⟨List.mem_of_getElem? (i := 478) rfl, rfl⟩
set_option maxRecDepth 20000 in
theorem tw_479 : Cond.methodLink "CustomerNoticesLaw" 12 y_M_init ∈ vv_wds := List.mem_filter.mpr ⟨List.mem_of_getElem? (i := 479) rfl, rfl⟩
set_option maxRecDepth 20000 in
theorem tw_480 : Cond.instanceMethod y_M_init ∈ vv_wds := List.mem_filter.mpr ⟨List.mem_of_getElem? (i := 480) rfl, rfl⟩
set_option maxRecDepth 20000 in
theorem tw_481 : Cond.code y_M_init b_M_init 1 none ∈ vv_wds := List.mem_filter.mpr ⟨List.mem_of_getElem? (i := 481) rfl, rfl⟩
set_option maxRecDepth 20000 in
theorem tw_482 : Cond.methodLink "CustomerNoticesModel" 1 y_Oj_init ∈ vv_wds := List.mem_filter.mpr ⟨List.mem_of_getElem? (i := 482) rfl, rfl⟩
set_option maxRecDepth 20000 in
theorem tw_483 : Cond.fieldLink "CustomerNoticesModel" 95 "CustomerNoticesModel" "clock" "J" ∈ vv_wds := List.mem_filter.mpr ⟨List.mem_of_getElem? (i := 483) rfl, rfl⟩
set_option maxRecDepth 20000 in
theorem tw_484 : Cond.fieldLink "CustomerNoticesModel" 149 "CustomerNoticesModel" "joined" "I" ∈ vv_wds := List.mem_filter.mpr ⟨List.mem_of_getElem? (i := 484) rfl, rfl⟩
set_option maxRecDepth 20000 in
theorem tw_485 : Cond.fieldLink "CustomerNoticesModel" 7 "CustomerNoticesModel" "broken" "[Z" ∈ vv_wds := List.mem_filter.mpr ⟨List.mem_of_getElem? (i := 485) rfl, rfl⟩
set_option maxRecDepth 20000 in
theorem tw_486 : Cond.fieldLink "CustomerNoticesModel" 87 "CustomerNoticesModel" "customers" "I" ∈ vv_wds := List.mem_filter.mpr ⟨List.mem_of_getElem? (i := 486) rfl, rfl⟩
set_option maxRecDepth 20000 in
theorem tw_487 : Cond.fieldLink "CustomerNoticesModel" 13 "CustomerNoticesModel" "languages" "[I" ∈ vv_wds := List.mem_filter.mpr ⟨List.mem_of_getElem? (i := 487) rfl, rfl⟩
set_option maxRecDepth 20000 in
theorem tw_488 : Cond.fieldLink "CustomerNoticesModel" 17 "CustomerNoticesModel" "zones" "[I" ∈ vv_wds := List.mem_filter.mpr ⟨List.mem_of_getElem? (i := 488) rfl, rfl⟩
set_option maxRecDepth 20000 in
theorem tw_489 : Cond.fieldLink "CustomerNoticesModel" 20 "CustomerNoticesModel" "quietFrom" "[I" ∈ vv_wds := List.mem_filter.mpr ⟨List.mem_of_getElem? (i := 489) rfl, rfl⟩
set_option maxRecDepth 20000 in
theorem tw_490 : Cond.fieldLink "CustomerNoticesModel" 23 "CustomerNoticesModel" "quietTo" "[I" ∈ vv_wds := List.mem_filter.mpr ⟨List.mem_of_getElem? (i := 490) rfl, rfl⟩
set_option maxRecDepth 20000 in
theorem tw_491 : Cond.fieldLink "CustomerNoticesModel" 26 "CustomerNoticesModel" "wishes" "[I" ∈ vv_wds := List.mem_filter.mpr ⟨List.mem_of_getElem? (i := 491) rfl, rfl⟩
set_option maxRecDepth 20000 in
theorem tw_492 : Cond.fieldLink "CustomerNoticesModel" 129 "CustomerNoticesModel" "notices" "I" ∈ vv_wds := List.mem_filter.mpr ⟨List.mem_of_getElem? (i := 492) rfl, rfl⟩
set_option maxRecDepth 20000 in
theorem tw_493 : Cond.fieldLink "CustomerNoticesModel" 29 "CustomerNoticesModel" "owner" "[I" ∈ vv_wds := List.mem_filter.mpr ⟨List.mem_of_getElem? (i := 493) rfl, rfl⟩
set_option maxRecDepth 20000 in
theorem tw_494 : Cond.fieldLink "CustomerNoticesModel" 32 "CustomerNoticesModel" "items" "[I" ∈ vv_wds := List.mem_filter.mpr ⟨List.mem_of_getElem? (i := 494) rfl, rfl⟩
set_option maxRecDepth 20000 in
theorem tw_495 : Cond.fieldLink "CustomerNoticesModel" 35 "CustomerNoticesModel" "kinds" "[I" ∈ vv_wds := List.mem_filter.mpr ⟨List.mem_of_getElem? (i := 495) rfl, rfl⟩
set_option maxRecDepth 20000 in
theorem tw_496 : Cond.fieldLink "CustomerNoticesModel" 38 "CustomerNoticesModel" "times" "[J" ∈ vv_wds := List.mem_filter.mpr ⟨List.mem_of_getElem? (i := 496) rfl, rfl⟩
set_option maxRecDepth 20000 in
theorem tw_497 : Cond.fieldLink "CustomerNoticesModel" 42 "CustomerNoticesModel" "promised" "[J" ∈ vv_wds := List.mem_filter.mpr ⟨List.mem_of_getElem? (i := 497) rfl, rfl⟩
set_option maxRecDepth 20000 in
theorem tw_498 : Cond.fieldLink "CustomerNoticesModel" 45 "CustomerNoticesModel" "states" "[I" ∈ vv_wds := List.mem_filter.mpr ⟨List.mem_of_getElem? (i := 498) rfl, rfl⟩
set_option maxRecDepth 20000 in
theorem tw_499 : Cond.fieldLink "CustomerNoticesModel" 48 "CustomerNoticesModel" "correction" "[Z" ∈ vv_wds := List.mem_filter.mpr ⟨List.mem_of_getElem? (i := 499) rfl, rfl⟩
set_option maxRecDepth 20000 in
theorem tw_500 : Cond.fieldLink "CustomerNoticesModel" 51 "CustomerNoticesModel" "corrected" "[Z" ∈ vv_wds := List.mem_filter.mpr ⟨List.mem_of_getElem? (i := 500) rfl, rfl⟩
set_option maxRecDepth 20000 in
theorem tw_501 : Cond.fieldLink "CustomerNoticesModel" 123 "CustomerNoticesModel" "pairs" "I" ∈ vv_wds := List.mem_filter.mpr ⟨List.mem_of_getElem? (i := 501) rfl, rfl⟩
set_option maxRecDepth 20000 in
theorem tw_502 : Cond.fieldLink "CustomerNoticesModel" 54 "CustomerNoticesModel" "pairCustomer" "[I" ∈ vv_wds := List.mem_filter.mpr ⟨List.mem_of_getElem? (i := 502) rfl, rfl⟩
set_option maxRecDepth 20000 in
theorem tw_503 : Cond.fieldLink "CustomerNoticesModel" 57 "CustomerNoticesModel" "pairItem" "[I" ∈ vv_wds := List.mem_filter.mpr ⟨List.mem_of_getElem? (i := 503) rfl, rfl⟩
set_option maxRecDepth 20000 in
theorem tw_504 : Cond.fieldLink "CustomerNoticesModel" 60 "CustomerNoticesModel" "ended" "[Z" ∈ vv_wds := List.mem_filter.mpr ⟨List.mem_of_getElem? (i := 504) rfl, rfl⟩
set_option maxRecDepth 20000 in
theorem tw_505 : Cond.fieldLink "CustomerNoticesModel" 63 "CustomerNoticesModel" "latest" "[I" ∈ vv_wds := List.mem_filter.mpr ⟨List.mem_of_getElem? (i := 505) rfl, rfl⟩
set_option maxRecDepth 20000 in
theorem tw_506 : Cond.fieldLink "CustomerNoticesModel" 167 "CustomerNoticesModel" "sentCount" "I" ∈ vv_wds := List.mem_filter.mpr ⟨List.mem_of_getElem? (i := 506) rfl, rfl⟩
set_option maxRecDepth 20000 in
theorem tw_507 : Cond.fieldLink "CustomerNoticesModel" 66 "CustomerNoticesModel" "sentNotice" "[I" ∈ vv_wds := List.mem_filter.mpr ⟨List.mem_of_getElem? (i := 507) rfl, rfl⟩
set_option maxRecDepth 20000 in
theorem tw_508 : Cond.fieldLink "CustomerNoticesModel" 69 "CustomerNoticesModel" "sentChannel" "[I" ∈ vv_wds := List.mem_filter.mpr ⟨List.mem_of_getElem? (i := 508) rfl, rfl⟩
set_option maxRecDepth 20000 in
theorem tw_509 : Cond.fieldLink "CustomerNoticesModel" 72 "CustomerNoticesModel" "sentMessage" "[I" ∈ vv_wds := List.mem_filter.mpr ⟨List.mem_of_getElem? (i := 509) rfl, rfl⟩
set_option maxRecDepth 20000 in
theorem tw_510 : Cond.fieldLink "CustomerNoticesModel" 75 "CustomerNoticesModel" "sentClock" "[J" ∈ vv_wds := List.mem_filter.mpr ⟨List.mem_of_getElem? (i := 510) rfl, rfl⟩
set_option maxRecDepth 20000 in
theorem tw_511 : Cond.fieldLink "CustomerNoticesModel" 164 "CustomerNoticesModel" "failedCount" "I" ∈ vv_wds := List.mem_filter.mpr ⟨List.mem_of_getElem? (i := 511) rfl, rfl⟩
set_option maxRecDepth 20000 in
theorem tw_512 : Cond.fieldLink "CustomerNoticesModel" 78 "CustomerNoticesModel" "failedNotice" "[I" ∈ vv_wds := List.mem_filter.mpr ⟨List.mem_of_getElem? (i := 512) rfl, rfl⟩
set_option maxRecDepth 20000 in
theorem tw_513 : Cond.fieldLink "CustomerNoticesModel" 81 "CustomerNoticesModel" "least" "[J" ∈ vv_wds := List.mem_filter.mpr ⟨List.mem_of_getElem? (i := 513) rfl, rfl⟩
set_option maxRecDepth 20000 in
theorem tw_514 : Cond.fieldLink "CustomerNoticesModel" 84 "CustomerNoticesModel" "firsts" "[I" ∈ vv_wds := List.mem_filter.mpr ⟨List.mem_of_getElem? (i := 514) rfl, rfl⟩
set_option maxRecDepth 20000 in
theorem tw_515 : Cond.lays "CustomerNoticesModel" "CustomerNoticesModel" "clock" "J" ∈ vv_wds := List.mem_filter.mpr ⟨List.mem_of_getElem? (i := 515) rfl, rfl⟩
set_option maxRecDepth 20000 in
theorem tw_517 : Cond.lays "CustomerNoticesModel" "CustomerNoticesModel" "joined" "I" ∈ vv_wds := List.mem_filter.mpr ⟨List.mem_of_getElem? (i := 517) rfl, rfl⟩
set_option maxRecDepth 20000 in
theorem tw_519 : Cond.laysFinal "CustomerNoticesModel" "CustomerNoticesModel" "broken" "[Z" ∈ vv_wds := List.mem_filter.mpr ⟨List.mem_of_getElem? (i := 519) rfl, rfl⟩
set_option maxRecDepth 20000 in
theorem tw_521 : Cond.lays "CustomerNoticesModel" "CustomerNoticesModel" "customers" "I" ∈ vv_wds := List.mem_filter.mpr ⟨List.mem_of_getElem? (i := 521) rfl, rfl⟩
set_option maxRecDepth 20000 in
theorem tw_523 : Cond.laysFinal "CustomerNoticesModel" "CustomerNoticesModel" "languages" "[I" ∈ vv_wds := List.mem_filter.mpr ⟨List.mem_of_getElem? (i := 523) rfl, rfl⟩
set_option maxRecDepth 20000 in
theorem tw_525 : Cond.laysFinal "CustomerNoticesModel" "CustomerNoticesModel" "zones" "[I" ∈ vv_wds := List.mem_filter.mpr ⟨List.mem_of_getElem? (i := 525) rfl, rfl⟩
set_option maxRecDepth 20000 in
theorem tw_527 : Cond.laysFinal "CustomerNoticesModel" "CustomerNoticesModel" "quietFrom" "[I" ∈ vv_wds := List.mem_filter.mpr ⟨List.mem_of_getElem? (i := 527) rfl, rfl⟩
set_option maxRecDepth 20000 in
theorem tw_529 : Cond.laysFinal "CustomerNoticesModel" "CustomerNoticesModel" "quietTo" "[I" ∈ vv_wds := List.mem_filter.mpr ⟨List.mem_of_getElem? (i := 529) rfl, rfl⟩
set_option maxRecDepth 20000 in
theorem tw_531 : Cond.laysFinal "CustomerNoticesModel" "CustomerNoticesModel" "wishes" "[I" ∈ vv_wds := List.mem_filter.mpr ⟨List.mem_of_getElem? (i := 531) rfl, rfl⟩
set_option maxRecDepth 20000 in
theorem tw_533 : Cond.lays "CustomerNoticesModel" "CustomerNoticesModel" "notices" "I" ∈ vv_wds := List.mem_filter.mpr ⟨List.mem_of_getElem? (i := 533) rfl, rfl⟩
set_option maxRecDepth 20000 in
theorem tw_535 : Cond.laysFinal "CustomerNoticesModel" "CustomerNoticesModel" "owner" "[I" ∈ vv_wds := List.mem_filter.mpr ⟨List.mem_of_getElem? (i := 535) rfl, rfl⟩
set_option maxRecDepth 20000 in
theorem tw_537 : Cond.laysFinal "CustomerNoticesModel" "CustomerNoticesModel" "items" "[I" ∈ vv_wds := List.mem_filter.mpr ⟨List.mem_of_getElem? (i := 537) rfl, rfl⟩
set_option maxRecDepth 20000 in
theorem tw_539 : Cond.laysFinal "CustomerNoticesModel" "CustomerNoticesModel" "kinds" "[I" ∈ vv_wds := List.mem_filter.mpr ⟨List.mem_of_getElem? (i := 539) rfl, rfl⟩
set_option maxRecDepth 20000 in
theorem tw_541 : Cond.laysFinal "CustomerNoticesModel" "CustomerNoticesModel" "times" "[J" ∈ vv_wds := List.mem_filter.mpr ⟨List.mem_of_getElem? (i := 541) rfl, rfl⟩
set_option maxRecDepth 20000 in
theorem tw_543 : Cond.laysFinal "CustomerNoticesModel" "CustomerNoticesModel" "promised" "[J" ∈ vv_wds := List.mem_filter.mpr ⟨List.mem_of_getElem? (i := 543) rfl, rfl⟩
set_option maxRecDepth 20000 in
theorem tw_545 : Cond.laysFinal "CustomerNoticesModel" "CustomerNoticesModel" "states" "[I" ∈ vv_wds := List.mem_filter.mpr ⟨List.mem_of_getElem? (i := 545) rfl, rfl⟩
set_option maxRecDepth 20000 in
theorem tw_547 : Cond.laysFinal "CustomerNoticesModel" "CustomerNoticesModel" "correction" "[Z" ∈ vv_wds := List.mem_filter.mpr ⟨List.mem_of_getElem? (i := 547) rfl, rfl⟩
set_option maxRecDepth 20000 in
theorem tw_549 : Cond.laysFinal "CustomerNoticesModel" "CustomerNoticesModel" "corrected" "[Z" ∈ vv_wds := List.mem_filter.mpr ⟨List.mem_of_getElem? (i := 549) rfl, rfl⟩
set_option maxRecDepth 20000 in
theorem tw_551 : Cond.lays "CustomerNoticesModel" "CustomerNoticesModel" "pairs" "I" ∈ vv_wds := List.mem_filter.mpr ⟨List.mem_of_getElem? (i := 551) rfl, rfl⟩
set_option maxRecDepth 20000 in
theorem tw_553 : Cond.laysFinal "CustomerNoticesModel" "CustomerNoticesModel" "pairCustomer" "[I" ∈ vv_wds := List.mem_filter.mpr ⟨List.mem_of_getElem? (i := 553) rfl, rfl⟩
set_option maxRecDepth 20000 in
theorem tw_555 : Cond.laysFinal "CustomerNoticesModel" "CustomerNoticesModel" "pairItem" "[I" ∈ vv_wds := List.mem_filter.mpr ⟨List.mem_of_getElem? (i := 555) rfl, rfl⟩
set_option maxRecDepth 20000 in
theorem tw_557 : Cond.laysFinal "CustomerNoticesModel" "CustomerNoticesModel" "ended" "[Z" ∈ vv_wds := List.mem_filter.mpr ⟨List.mem_of_getElem? (i := 557) rfl, rfl⟩
set_option maxRecDepth 20000 in
theorem tw_559 : Cond.laysFinal "CustomerNoticesModel" "CustomerNoticesModel" "latest" "[I" ∈ vv_wds := List.mem_filter.mpr ⟨List.mem_of_getElem? (i := 559) rfl, rfl⟩
set_option maxRecDepth 20000 in
theorem tw_561 : Cond.lays "CustomerNoticesModel" "CustomerNoticesModel" "sentCount" "I" ∈ vv_wds := List.mem_filter.mpr ⟨List.mem_of_getElem? (i := 561) rfl, rfl⟩
set_option maxRecDepth 20000 in
theorem tw_563 : Cond.laysFinal "CustomerNoticesModel" "CustomerNoticesModel" "sentNotice" "[I" ∈ vv_wds := List.mem_filter.mpr ⟨List.mem_of_getElem? (i := 563) rfl, rfl⟩
set_option maxRecDepth 20000 in
theorem tw_565 : Cond.laysFinal "CustomerNoticesModel" "CustomerNoticesModel" "sentChannel" "[I" ∈ vv_wds := List.mem_filter.mpr ⟨List.mem_of_getElem? (i := 565) rfl, rfl⟩
set_option maxRecDepth 20000 in
theorem tw_567 : Cond.laysFinal "CustomerNoticesModel" "CustomerNoticesModel" "sentMessage" "[I" ∈ vv_wds := List.mem_filter.mpr ⟨List.mem_of_getElem? (i := 567) rfl, rfl⟩
set_option maxRecDepth 20000 in
theorem tw_569 : Cond.laysFinal "CustomerNoticesModel" "CustomerNoticesModel" "sentClock" "[J" ∈ vv_wds := List.mem_filter.mpr ⟨List.mem_of_getElem? (i := 569) rfl, rfl⟩
set_option maxRecDepth 20000 in
theorem tw_571 : Cond.lays "CustomerNoticesModel" "CustomerNoticesModel" "failedCount" "I" ∈ vv_wds := List.mem_filter.mpr ⟨List.mem_of_getElem? (i := 571) rfl, rfl⟩
set_option maxRecDepth 20000 in
theorem tw_573 : Cond.laysFinal "CustomerNoticesModel" "CustomerNoticesModel" "failedNotice" "[I" ∈ vv_wds := List.mem_filter.mpr ⟨List.mem_of_getElem? (i := 573) rfl, rfl⟩
set_option maxRecDepth 20000 in
theorem tw_575 : Cond.laysFinal "CustomerNoticesModel" "CustomerNoticesModel" "least" "[J" ∈ vv_wds := List.mem_filter.mpr ⟨List.mem_of_getElem? (i := 575) rfl, rfl⟩
set_option maxRecDepth 20000 in
theorem tw_577 : Cond.laysFinal "CustomerNoticesModel" "CustomerNoticesModel" "firsts" "[I" ∈ vv_wds := List.mem_filter.mpr ⟨List.mem_of_getElem? (i := 577) rfl, rfl⟩
set_option maxRecDepth 20000 in
theorem tw_581 : Cond.methodLink "CustomerNoticesLaw" 17 y_M_customer ∈ vv_wds := List.mem_filter.mpr ⟨List.mem_of_getElem? (i := 581) rfl, rfl⟩
set_option maxRecDepth 20000 in
theorem tw_582 : Cond.instanceMethod y_M_customer ∈ vv_wds := List.mem_filter.mpr ⟨List.mem_of_getElem? (i := 582) rfl, rfl⟩
set_option maxRecDepth 20000 in
theorem tw_583 : Cond.selects "CustomerNoticesModel" y_M_customer y_M_customer ∈ vv_wds := List.mem_filter.mpr ⟨List.mem_of_getElem? (i := 583) rfl, rfl⟩
set_option maxRecDepth 20000 in
theorem tw_584 : Cond.code y_M_customer b_M_customer 3 (some FieldType.int) ∈ vv_wds := List.mem_filter.mpr ⟨List.mem_of_getElem? (i := 584) rfl, rfl⟩
set_option maxRecDepth 20000 in
theorem tw_585 : Cond.constantLong "CustomerNoticesModel" 101 9 ∈ vv_wds := List.mem_filter.mpr ⟨List.mem_of_getElem? (i := 585) rfl, rfl⟩
set_option maxRecDepth 20000 in
theorem tw_586 : Cond.methodLink "CustomerNoticesModel" 91 y_M_isIn ∈ vv_wds := List.mem_filter.mpr ⟨List.mem_of_getElem? (i := 586) rfl, rfl⟩
set_option maxRecDepth 20000 in
theorem tw_587 : Cond.static y_M_isIn ∈ vv_wds := List.mem_filter.mpr ⟨List.mem_of_getElem? (i := 587) rfl, rfl⟩
set_option maxRecDepth 20000 in
theorem tw_588 : Cond.code y_M_isIn b_M_isIn 6 (some FieldType.boolean) ∈ vv_wds := List.mem_filter.mpr ⟨List.mem_of_getElem? (i := 588) rfl, rfl⟩
set_option maxRecDepth 20000 in
theorem tw_589 : Cond.constantLong "CustomerNoticesModel" 103 (-12) ∈ vv_wds := List.mem_filter.mpr ⟨List.mem_of_getElem? (i := 589) rfl, rfl⟩
set_option maxRecDepth 20000 in
theorem tw_590 : Cond.constantLong "CustomerNoticesModel" 105 14 ∈ vv_wds := List.mem_filter.mpr ⟨List.mem_of_getElem? (i := 590) rfl, rfl⟩
set_option maxRecDepth 20000 in
theorem tw_591 : Cond.methodLink "CustomerNoticesLaw" 22 y_M_wish ∈ vv_wds := List.mem_filter.mpr ⟨List.mem_of_getElem? (i := 591) rfl, rfl⟩
set_option maxRecDepth 20000 in
theorem tw_592 : Cond.instanceMethod y_M_wish ∈ vv_wds := List.mem_filter.mpr ⟨List.mem_of_getElem? (i := 592) rfl, rfl⟩
set_option maxRecDepth 20000 in
theorem tw_593 : Cond.selects "CustomerNoticesModel" y_M_wish y_M_wish ∈ vv_wds := List.mem_filter.mpr ⟨List.mem_of_getElem? (i := 593) rfl, rfl⟩
set_option maxRecDepth 20000 in
theorem tw_594 : Cond.code y_M_wish b_M_wish 5 (some FieldType.int) ∈ vv_wds := List.mem_filter.mpr ⟨List.mem_of_getElem? (i := 594) rfl, rfl⟩
set_option maxRecDepth 20000 in
theorem tw_595 : Cond.methodLink "CustomerNoticesModel" 107 y_M_isCustomer ∈ vv_wds := List.mem_filter.mpr ⟨List.mem_of_getElem? (i := 595) rfl, rfl⟩
set_option maxRecDepth 20000 in
theorem tw_597 : Cond.instanceMethod y_M_isCustomer ∈ vv_wds := List.mem_filter.mpr ⟨List.mem_of_getElem? (i := 597) rfl, rfl⟩
set_option maxRecDepth 20000 in
theorem tw_598 : Cond.code y_M_isCustomer b_M_isCustomer 2 (some FieldType.boolean) ∈ vv_wds := List.mem_filter.mpr ⟨List.mem_of_getElem? (i := 598) rfl, rfl⟩
set_option maxRecDepth 20000 in
theorem tw_599 : Cond.constantLong "CustomerNoticesModel" 111 7 ∈ vv_wds := List.mem_filter.mpr ⟨List.mem_of_getElem? (i := 599) rfl, rfl⟩
set_option maxRecDepth 20000 in
theorem tw_600 : Cond.constantLong "CustomerNoticesModel" 113 3 ∈ vv_wds := List.mem_filter.mpr ⟨List.mem_of_getElem? (i := 600) rfl, rfl⟩
set_option maxRecDepth 20000 in
theorem tw_601 : Cond.methodLink "CustomerNoticesModel" 115 y_M_wished ∈ vv_wds := List.mem_filter.mpr ⟨List.mem_of_getElem? (i := 601) rfl, rfl⟩
set_option maxRecDepth 20000 in
theorem tw_603 : Cond.instanceMethod y_M_wished ∈ vv_wds := List.mem_filter.mpr ⟨List.mem_of_getElem? (i := 603) rfl, rfl⟩
set_option maxRecDepth 20000 in
theorem tw_604 : Cond.code y_M_wished b_M_wished 5 (some FieldType.int) ∈ vv_wds := List.mem_filter.mpr ⟨List.mem_of_getElem? (i := 604) rfl, rfl⟩
set_option maxRecDepth 20000 in
theorem tw_605 : Cond.methodLink "CustomerNoticesLaw" 27 y_M_quiet ∈ vv_wds := List.mem_filter.mpr ⟨List.mem_of_getElem? (i := 605) rfl, rfl⟩
set_option maxRecDepth 20000 in
theorem tw_606 : Cond.instanceMethod y_M_quiet ∈ vv_wds := List.mem_filter.mpr ⟨List.mem_of_getElem? (i := 606) rfl, rfl⟩
set_option maxRecDepth 20000 in
theorem tw_607 : Cond.selects "CustomerNoticesModel" y_M_quiet y_M_quiet ∈ vv_wds := List.mem_filter.mpr ⟨List.mem_of_getElem? (i := 607) rfl, rfl⟩
set_option maxRecDepth 20000 in
theorem tw_608 : Cond.code y_M_quiet b_M_quiet 4 (some FieldType.int) ∈ vv_wds := List.mem_filter.mpr ⟨List.mem_of_getElem? (i := 608) rfl, rfl⟩
set_option maxRecDepth 20000 in
theorem tw_609 : Cond.constantLong "CustomerNoticesModel" 119 1439 ∈ vv_wds := List.mem_filter.mpr ⟨List.mem_of_getElem? (i := 609) rfl, rfl⟩
set_option maxRecDepth 20000 in
theorem tw_610 : Cond.methodLink "CustomerNoticesLaw" 34 y_M_event ∈ vv_wds := List.mem_filter.mpr ⟨List.mem_of_getElem? (i := 610) rfl, rfl⟩
set_option maxRecDepth 20000 in
theorem tw_611 : Cond.instanceMethod y_M_event ∈ vv_wds := List.mem_filter.mpr ⟨List.mem_of_getElem? (i := 611) rfl, rfl⟩
set_option maxRecDepth 20000 in
theorem tw_612 : Cond.selects "CustomerNoticesModel" y_M_event y_M_event ∈ vv_wds := List.mem_filter.mpr ⟨List.mem_of_getElem? (i := 612) rfl, rfl⟩
set_option maxRecDepth 20000 in
theorem tw_613 : Cond.code y_M_event b_M_event 9 (some FieldType.int) ∈ vv_wds := List.mem_filter.mpr ⟨List.mem_of_getElem? (i := 613) rfl, rfl⟩
set_option maxRecDepth 20000 in
theorem tw_614 : Cond.constantLong "CustomerNoticesModel" 132 9999 ∈ vv_wds := List.mem_filter.mpr ⟨List.mem_of_getElem? (i := 614) rfl, rfl⟩
set_option maxRecDepth 20000 in
theorem tw_615 : Cond.methodLink "CustomerNoticesModel" 134 y_M_isTime ∈ vv_wds := List.mem_filter.mpr ⟨List.mem_of_getElem? (i := 615) rfl, rfl⟩
set_option maxRecDepth 20000 in
theorem tw_617 : Cond.instanceMethod y_M_isTime ∈ vv_wds := List.mem_filter.mpr ⟨List.mem_of_getElem? (i := 617) rfl, rfl⟩
set_option maxRecDepth 20000 in
theorem tw_618 : Cond.code y_M_isTime b_M_isTime 3 (some FieldType.boolean) ∈ vv_wds := List.mem_filter.mpr ⟨List.mem_of_getElem? (i := 618) rfl, rfl⟩
set_option maxRecDepth 20000 in
theorem tw_619 : Cond.constantLong "CustomerNoticesModel" 99 1000000000 ∈ vv_wds := List.mem_filter.mpr ⟨List.mem_of_getElem? (i := 619) rfl, rfl⟩
set_option maxRecDepth 20000 in
theorem tw_620 : Cond.methodLink "CustomerNoticesModel" 126 y_M_pairOf ∈ vv_wds := List.mem_filter.mpr ⟨List.mem_of_getElem? (i := 620) rfl, rfl⟩
set_option maxRecDepth 20000 in
theorem tw_622 : Cond.instanceMethod y_M_pairOf ∈ vv_wds := List.mem_filter.mpr ⟨List.mem_of_getElem? (i := 622) rfl, rfl⟩
set_option maxRecDepth 20000 in
theorem tw_623 : Cond.code y_M_pairOf b_M_pairOf 5 (some FieldType.int) ∈ vv_wds := List.mem_filter.mpr ⟨List.mem_of_getElem? (i := 623) rfl, rfl⟩
set_option maxRecDepth 20000 in
theorem tw_624 : Cond.methodLink "CustomerNoticesModel" 138 y_M_keep ∈ vv_wds := List.mem_filter.mpr ⟨List.mem_of_getElem? (i := 624) rfl, rfl⟩
set_option maxRecDepth 20000 in
theorem tw_626 : Cond.instanceMethod y_M_keep ∈ vv_wds := List.mem_filter.mpr ⟨List.mem_of_getElem? (i := 626) rfl, rfl⟩
set_option maxRecDepth 20000 in
theorem tw_627 : Cond.code y_M_keep b_M_keep 4 (some FieldType.int) ∈ vv_wds := List.mem_filter.mpr ⟨List.mem_of_getElem? (i := 627) rfl, rfl⟩
set_option maxRecDepth 20000 in
theorem tw_628 : Cond.constantLong "CustomerNoticesModel" 141 (-1) ∈ vv_wds := List.mem_filter.mpr ⟨List.mem_of_getElem? (i := 628) rfl, rfl⟩
set_option maxRecDepth 20000 in
theorem tw_629 : Cond.methodLink "CustomerNoticesModel" 143 y_M_put ∈ vv_wds := List.mem_filter.mpr ⟨List.mem_of_getElem? (i := 629) rfl, rfl⟩
set_option maxRecDepth 20000 in
theorem tw_631 : Cond.instanceMethod y_M_put ∈ vv_wds := List.mem_filter.mpr ⟨List.mem_of_getElem? (i := 631) rfl, rfl⟩
set_option maxRecDepth 20000 in
theorem tw_632 : Cond.code y_M_put b_M_put 9 (some FieldType.int) ∈ vv_wds := List.mem_filter.mpr ⟨List.mem_of_getElem? (i := 632) rfl, rfl⟩
set_option maxRecDepth 20000 in
theorem tw_633 : Cond.methodLink "CustomerNoticesLaw" 39 y_M_promise ∈ vv_wds := List.mem_filter.mpr ⟨List.mem_of_getElem? (i := 633) rfl, rfl⟩
set_option maxRecDepth 20000 in
theorem tw_634 : Cond.instanceMethod y_M_promise ∈ vv_wds := List.mem_filter.mpr ⟨List.mem_of_getElem? (i := 634) rfl, rfl⟩
set_option maxRecDepth 20000 in
theorem tw_635 : Cond.selects "CustomerNoticesModel" y_M_promise y_M_promise ∈ vv_wds := List.mem_filter.mpr ⟨List.mem_of_getElem? (i := 635) rfl, rfl⟩
set_option maxRecDepth 20000 in
theorem tw_636 : Cond.code y_M_promise b_M_promise 11 (some FieldType.int) ∈ vv_wds := List.mem_filter.mpr ⟨List.mem_of_getElem? (i := 636) rfl, rfl⟩
set_option maxRecDepth 20000 in
theorem tw_637 : Cond.constantLong "CustomerNoticesModel" 147 1000000 ∈ vv_wds := List.mem_filter.mpr ⟨List.mem_of_getElem? (i := 637) rfl, rfl⟩
set_option maxRecDepth 20000 in
theorem tw_638 : Cond.methodLink "CustomerNoticesLaw" 44 y_M_tick ∈ vv_wds := List.mem_filter.mpr ⟨List.mem_of_getElem? (i := 638) rfl, rfl⟩
set_option maxRecDepth 20000 in
theorem tw_639 : Cond.instanceMethod y_M_tick ∈ vv_wds := List.mem_filter.mpr ⟨List.mem_of_getElem? (i := 639) rfl, rfl⟩
set_option maxRecDepth 20000 in
theorem tw_640 : Cond.selects "CustomerNoticesModel" y_M_tick y_M_tick ∈ vv_wds := List.mem_filter.mpr ⟨List.mem_of_getElem? (i := 640) rfl, rfl⟩
set_option maxRecDepth 20000 in
theorem tw_641 : Cond.code y_M_tick b_M_tick 6 (some FieldType.int) ∈ vv_wds := List.mem_filter.mpr ⟨List.mem_of_getElem? (i := 641) rfl, rfl⟩
set_option maxRecDepth 20000 in
theorem tw_642 : Cond.constantLong "CustomerNoticesModel" 155 1000000001 ∈ vv_wds := List.mem_filter.mpr ⟨List.mem_of_getElem? (i := 642) rfl, rfl⟩
set_option maxRecDepth 20000 in
theorem tw_643 : Cond.methodLink "CustomerNoticesModel" 157 y_M_isDue ∈ vv_wds := List.mem_filter.mpr ⟨List.mem_of_getElem? (i := 643) rfl, rfl⟩
set_option maxRecDepth 20000 in
theorem tw_645 : Cond.instanceMethod y_M_isDue ∈ vv_wds := List.mem_filter.mpr ⟨List.mem_of_getElem? (i := 645) rfl, rfl⟩
set_option maxRecDepth 20000 in
theorem tw_646 : Cond.code y_M_isDue b_M_isDue 4 (some FieldType.boolean) ∈ vv_wds := List.mem_filter.mpr ⟨List.mem_of_getElem? (i := 646) rfl, rfl⟩
set_option maxRecDepth 20000 in
theorem tw_647 : Cond.methodLink "CustomerNoticesModel" 152 y_M_isQuiet ∈ vv_wds := List.mem_filter.mpr ⟨List.mem_of_getElem? (i := 647) rfl, rfl⟩
set_option maxRecDepth 20000 in
theorem tw_649 : Cond.instanceMethod y_M_isQuiet ∈ vv_wds := List.mem_filter.mpr ⟨List.mem_of_getElem? (i := 649) rfl, rfl⟩
set_option maxRecDepth 20000 in
theorem tw_650 : Cond.code y_M_isQuiet b_M_isQuiet 5 (some FieldType.boolean) ∈ vv_wds := List.mem_filter.mpr ⟨List.mem_of_getElem? (i := 650) rfl, rfl⟩
set_option maxRecDepth 20000 in
theorem tw_651 : Cond.constantLong "CustomerNoticesModel" 121 1440 ∈ vv_wds := List.mem_filter.mpr ⟨List.mem_of_getElem? (i := 651) rfl, rfl⟩
set_option maxRecDepth 20000 in
theorem tw_652 : Cond.methodLink "CustomerNoticesModel" 160 y_M_channelOf ∈ vv_wds := List.mem_filter.mpr ⟨List.mem_of_getElem? (i := 652) rfl, rfl⟩
set_option maxRecDepth 20000 in
theorem tw_654 : Cond.instanceMethod y_M_channelOf ∈ vv_wds := List.mem_filter.mpr ⟨List.mem_of_getElem? (i := 654) rfl, rfl⟩
set_option maxRecDepth 20000 in
theorem tw_655 : Cond.code y_M_channelOf b_M_channelOf 6 (some FieldType.int) ∈ vv_wds := List.mem_filter.mpr ⟨List.mem_of_getElem? (i := 655) rfl, rfl⟩
set_option maxRecDepth 20000 in
theorem tw_656 : Cond.methodLink "CustomerNoticesLaw" 48 y_M_sent ∈ vv_wds := List.mem_filter.mpr ⟨List.mem_of_getElem? (i := 656) rfl, rfl⟩
set_option maxRecDepth 20000 in
theorem tw_657 : Cond.instanceMethod y_M_sent ∈ vv_wds := List.mem_filter.mpr ⟨List.mem_of_getElem? (i := 657) rfl, rfl⟩
set_option maxRecDepth 20000 in
theorem tw_658 : Cond.selects "CustomerNoticesModel" y_M_sent y_M_sent ∈ vv_wds := List.mem_filter.mpr ⟨List.mem_of_getElem? (i := 658) rfl, rfl⟩
set_option maxRecDepth 20000 in
theorem tw_659 : Cond.code y_M_sent b_M_sent 4 (some FieldType.int) ∈ vv_wds := List.mem_filter.mpr ⟨List.mem_of_getElem? (i := 659) rfl, rfl⟩
set_option maxRecDepth 20000 in
theorem tw_660 : Cond.constantLong "CustomerNoticesModel" 170 8 ∈ vv_wds := List.mem_filter.mpr ⟨List.mem_of_getElem? (i := 660) rfl, rfl⟩
set_option maxRecDepth 20000 in
theorem tw_661 : Cond.methodLink "CustomerNoticesLaw" 53 y_M_works ∈ vv_wds := List.mem_filter.mpr ⟨List.mem_of_getElem? (i := 661) rfl, rfl⟩
set_option maxRecDepth 20000 in
theorem tw_662 : Cond.instanceMethod y_M_works ∈ vv_wds := List.mem_filter.mpr ⟨List.mem_of_getElem? (i := 662) rfl, rfl⟩
set_option maxRecDepth 20000 in
theorem tw_663 : Cond.selects "CustomerNoticesModel" y_M_works y_M_works ∈ vv_wds := List.mem_filter.mpr ⟨List.mem_of_getElem? (i := 663) rfl, rfl⟩
set_option maxRecDepth 20000 in
theorem tw_664 : Cond.code y_M_works b_M_works 4 (some FieldType.boolean) ∈ vv_wds := List.mem_filter.mpr ⟨List.mem_of_getElem? (i := 664) rfl, rfl⟩
set_option maxRecDepth 20000 in
theorem tw_665 : Cond.methodLink "CustomerNoticesLaw" 57 y_M_out ∈ vv_wds := List.mem_filter.mpr ⟨List.mem_of_getElem? (i := 665) rfl, rfl⟩
set_option maxRecDepth 20000 in
theorem tw_666 : Cond.instanceMethod y_M_out ∈ vv_wds := List.mem_filter.mpr ⟨List.mem_of_getElem? (i := 666) rfl, rfl⟩
set_option maxRecDepth 20000 in
theorem tw_667 : Cond.selects "CustomerNoticesModel" y_M_out y_M_out ∈ vv_wds := List.mem_filter.mpr ⟨List.mem_of_getElem? (i := 667) rfl, rfl⟩
set_option maxRecDepth 20000 in
theorem tw_668 : Cond.code y_M_out b_M_out 5 (some FieldType.int) ∈ vv_wds := List.mem_filter.mpr ⟨List.mem_of_getElem? (i := 668) rfl, rfl⟩
set_option maxRecDepth 20000 in
theorem tw_669 : Cond.methodLink "CustomerNoticesLaw" 62 y_M_failed ∈ vv_wds := List.mem_filter.mpr ⟨List.mem_of_getElem? (i := 669) rfl, rfl⟩
set_option maxRecDepth 20000 in
theorem tw_670 : Cond.instanceMethod y_M_failed ∈ vv_wds := List.mem_filter.mpr ⟨List.mem_of_getElem? (i := 670) rfl, rfl⟩
set_option maxRecDepth 20000 in
theorem tw_671 : Cond.selects "CustomerNoticesModel" y_M_failed y_M_failed ∈ vv_wds := List.mem_filter.mpr ⟨List.mem_of_getElem? (i := 671) rfl, rfl⟩
set_option maxRecDepth 20000 in
theorem tw_672 : Cond.code y_M_failed b_M_failed 2 (some FieldType.int) ∈ vv_wds := List.mem_filter.mpr ⟨List.mem_of_getElem? (i := 672) rfl, rfl⟩
set_option maxRecDepth 20000 in
theorem tw_673 : Cond.methodLink "CustomerNoticesLaw" 67 y_M_correct ∈ vv_wds := List.mem_filter.mpr ⟨List.mem_of_getElem? (i := 673) rfl, rfl⟩
set_option maxRecDepth 20000 in
theorem tw_674 : Cond.instanceMethod y_M_correct ∈ vv_wds := List.mem_filter.mpr ⟨List.mem_of_getElem? (i := 674) rfl, rfl⟩
set_option maxRecDepth 20000 in
theorem tw_675 : Cond.selects "CustomerNoticesModel" y_M_correct y_M_correct ∈ vv_wds := List.mem_filter.mpr ⟨List.mem_of_getElem? (i := 675) rfl, rfl⟩
set_option maxRecDepth 20000 in
theorem tw_676 : Cond.code y_M_correct b_M_correct 5 (some FieldType.int) ∈ vv_wds := List.mem_filter.mpr ⟨List.mem_of_getElem? (i := 676) rfl, rfl⟩
set_option maxRecDepth 20000 in
theorem tw_677 : Cond.methodLink "CustomerNoticesModel" 172 y_M_undo ∈ vv_wds := List.mem_filter.mpr ⟨List.mem_of_getElem? (i := 677) rfl, rfl⟩
set_option maxRecDepth 20000 in
theorem tw_679 : Cond.instanceMethod y_M_undo ∈ vv_wds := List.mem_filter.mpr ⟨List.mem_of_getElem? (i := 679) rfl, rfl⟩
set_option maxRecDepth 20000 in
theorem tw_680 : Cond.code y_M_undo b_M_undo 2 none ∈ vv_wds := List.mem_filter.mpr ⟨List.mem_of_getElem? (i := 680) rfl, rfl⟩
set_option maxRecDepth 20000 in
theorem tw_681 : Cond.methodLink "CustomerNoticesLaw" 71 y_M_join ∈ vv_wds := List.mem_filter.mpr ⟨List.mem_of_getElem? (i := 681) rfl, rfl⟩
set_option maxRecDepth 20000 in
theorem tw_682 : Cond.instanceMethod y_M_join ∈ vv_wds := List.mem_filter.mpr ⟨List.mem_of_getElem? (i := 682) rfl, rfl⟩
set_option maxRecDepth 20000 in
theorem tw_683 : Cond.selects "CustomerNoticesModel" y_M_join y_M_join ∈ vv_wds := List.mem_filter.mpr ⟨List.mem_of_getElem? (i := 683) rfl, rfl⟩
set_option maxRecDepth 20000 in
theorem tw_684 : Cond.code y_M_join b_M_join 3 (some FieldType.int) ∈ vv_wds := List.mem_filter.mpr ⟨List.mem_of_getElem? (i := 684) rfl, rfl⟩
set_option maxRecDepth 20000 in
theorem tw_685 : Cond.constantLong "CustomerNoticesLaw" 28 4294967295 ∈ vv_wds := List.mem_filter.mpr ⟨List.mem_of_getElem? (i := 685) rfl, rfl⟩
set_option maxRecDepth 20000 in
theorem tw_686 : Cond.castable "CustomerNotices$Customer" "CustomerNotices$Customer" ∈ vv_wds := List.mem_filter.mpr ⟨List.mem_of_getElem? (i := 686) rfl, rfl⟩
set_option maxRecDepth 20000 in
theorem tw_687 : Cond.castable "CustomerNotices$Item" "CustomerNotices$Item" ∈ vv_wds := List.mem_filter.mpr ⟨List.mem_of_getElem? (i := 687) rfl, rfl⟩
set_option maxRecDepth 20000 in
theorem tw_688 : Cond.castable "CustomerNotices$Notice" "CustomerNotices$Notice" ∈ vv_wds := List.mem_filter.mpr ⟨List.mem_of_getElem? (i := 688) rfl, rfl⟩
set_option maxRecDepth 20000 in
theorem tw_690 : Cond.selects "[Ljava/lang/Object;" (⟨"java/lang/Object", "getClass", "()Ljava/lang/Class;"⟩) (⟨"java/lang/Object", "getClass", "()Ljava/lang/Class;"⟩) ∈ vv_wds := List.mem_filter.mpr ⟨List.mem_of_getElem? (i := 690) rfl, rfl⟩
set_option maxRecDepth 20000 in
theorem tw_691 : Cond.declares (⟨"java/lang/Object", "getClass", "()Ljava/lang/Class;"⟩) ∈ vv_wds := List.mem_filter.mpr ⟨List.mem_of_getElem? (i := 691) rfl, rfl⟩
set_option maxRecDepth 20000 in
theorem tw_692 : Cond.castable "CustomerNotices" "java/lang/Object" ∈ vv_wds := List.mem_filter.mpr ⟨List.mem_of_getElem? (i := 692) rfl, rfl⟩
set_option maxRecDepth 20000 in
theorem tw_693 : Cond.castable "CustomerNoticesModel" "java/lang/Object" ∈ vv_wds := List.mem_filter.mpr ⟨List.mem_of_getElem? (i := 693) rfl, rfl⟩
set_option maxRecDepth 20000 in
theorem tw_694 : Cond.castable "CustomerNotices$Customer" "java/lang/Object" ∈ vv_wds := List.mem_filter.mpr ⟨List.mem_of_getElem? (i := 694) rfl, rfl⟩
set_option maxRecDepth 20000 in
theorem tw_695 : Cond.castable "CustomerNotices$Item" "java/lang/Object" ∈ vv_wds := List.mem_filter.mpr ⟨List.mem_of_getElem? (i := 695) rfl, rfl⟩
set_option maxRecDepth 20000 in
theorem tw_696 : Cond.castable "CustomerNotices$Notice" "java/lang/Object" ∈ vv_wds := List.mem_filter.mpr ⟨List.mem_of_getElem? (i := 696) rfl, rfl⟩
theorem k_K : vv_cl 0 "CustomerNotices$Customer" T_K 8 t_K := ⟨rfl, by decide, (show ∀ w ∈ [Cond.laysFinal "CustomerNotices$Customer" "CustomerNotices$Customer" "number" "I", Cond.laysFinal "CustomerNotices$Customer" "CustomerNotices$Customer" "language" "I", Cond.laysFinal "CustomerNotices$Customer" "CustomerNotices$Customer" "zone" "I", Cond.lays "CustomerNotices$Customer" "CustomerNotices$Customer" "quietFrom" "I", Cond.lays "CustomerNotices$Customer" "CustomerNotices$Customer" "quietUntil" "I", Cond.lays "CustomerNotices$Customer" "CustomerNotices$Customer" "leastWaitingTime" "J", Cond.lays "CustomerNotices$Customer" "CustomerNotices$Customer" "messageOfTick" "I", Cond.laysFinal "CustomerNotices$Customer" "CustomerNotices$Customer" "orders" "[I"], w ∈ vv_wds from List.forall_mem_cons.mpr ⟨tw_136, List.forall_mem_cons.mpr ⟨tw_138, List.forall_mem_cons.mpr ⟨tw_140, List.forall_mem_cons.mpr ⟨tw_142, List.forall_mem_cons.mpr ⟨tw_144, List.forall_mem_cons.mpr ⟨tw_146, List.forall_mem_cons.mpr ⟨tw_148, List.forall_mem_cons.mpr ⟨tw_150, fun _ h => absurd h List.not_mem_nil⟩⟩⟩⟩⟩⟩⟩⟩), by decide +kernel, by decide +kernel⟩
theorem k_I : vv_cl 1 "CustomerNotices$Item" T_I 4 t_I := ⟨rfl, by decide, (show ∀ w ∈ [Cond.laysFinal "CustomerNotices$Item" "CustomerNotices$Item" "customerNumber" "I", Cond.laysFinal "CustomerNotices$Item" "CustomerNotices$Item" "itemNumber" "I", Cond.lays "CustomerNotices$Item" "CustomerNotices$Item" "ended" "Z", Cond.lays "CustomerNotices$Item" "CustomerNotices$Item" "latestPromise" "LCustomerNotices$Notice;"], w ∈ vv_wds from List.forall_mem_cons.mpr ⟨tw_306, List.forall_mem_cons.mpr ⟨tw_308, List.forall_mem_cons.mpr ⟨tw_310, List.forall_mem_cons.mpr ⟨tw_312, fun _ h => absurd h List.not_mem_nil⟩⟩⟩⟩), by decide +kernel, by decide +kernel⟩
theorem k_N : vv_cl 2 "CustomerNotices$Notice" T_N 12 t_N := ⟨rfl, by decide, (show ∀ w ∈ [Cond.laysFinal "CustomerNotices$Notice" "CustomerNotices$Notice" "number" "I", Cond.laysFinal "CustomerNotices$Notice" "CustomerNotices$Notice" "owner" "LCustomerNotices$Customer;", Cond.laysFinal "CustomerNotices$Notice" "CustomerNotices$Notice" "item" "I", Cond.laysFinal "CustomerNotices$Notice" "CustomerNotices$Notice" "kind" "I", Cond.laysFinal "CustomerNotices$Notice" "CustomerNotices$Notice" "time" "J", Cond.lays "CustomerNotices$Notice" "CustomerNotices$Notice" "state" "I", Cond.lays "CustomerNotices$Notice" "CustomerNotices$Notice" "promisedTime" "J", Cond.lays "CustomerNotices$Notice" "CustomerNotices$Notice" "isCorrection" "Z", Cond.lays "CustomerNotices$Notice" "CustomerNotices$Notice" "corrected" "Z", Cond.lays "CustomerNotices$Notice" "CustomerNotices$Notice" "channel" "I", Cond.lays "CustomerNotices$Notice" "CustomerNotices$Notice" "message" "I", Cond.lays "CustomerNotices$Notice" "CustomerNotices$Notice" "sentTime" "J"], w ∈ vv_wds from List.forall_mem_cons.mpr ⟨tw_347, List.forall_mem_cons.mpr ⟨tw_349, List.forall_mem_cons.mpr ⟨tw_351, List.forall_mem_cons.mpr ⟨tw_353, List.forall_mem_cons.mpr ⟨tw_355, List.forall_mem_cons.mpr ⟨tw_357, List.forall_mem_cons.mpr ⟨tw_359, List.forall_mem_cons.mpr ⟨tw_361, List.forall_mem_cons.mpr ⟨tw_363, List.forall_mem_cons.mpr ⟨tw_365, List.forall_mem_cons.mpr ⟨tw_367, List.forall_mem_cons.mpr ⟨tw_369, fun _ h => absurd h List.not_mem_nil⟩⟩⟩⟩⟩⟩⟩⟩⟩⟩⟩⟩), by decide +kernel, by decide +kernel⟩
theorem k_C : vv_cl 3 "CustomerNotices" T_C 8 t_C := ⟨rfl, by decide, (show ∀ w ∈ [Cond.laysFinal "CustomerNotices" "CustomerNotices" "customers" "Ljava/util/ArrayList;", Cond.laysFinal "CustomerNotices" "CustomerNotices" "notices" "Ljava/util/ArrayList;", Cond.laysFinal "CustomerNotices" "CustomerNotices" "items" "Ljava/util/ArrayList;", Cond.laysFinal "CustomerNotices" "CustomerNotices" "sentNotices" "Ljava/util/ArrayList;", Cond.laysFinal "CustomerNotices" "CustomerNotices" "failedNotices" "Ljava/util/ArrayList;", Cond.laysFinal "CustomerNotices" "CustomerNotices" "channelWorks" "[Z", Cond.lays "CustomerNotices" "CustomerNotices" "clock" "J", Cond.lays "CustomerNotices" "CustomerNotices" "joinMinutes" "I"], w ∈ vv_wds from List.forall_mem_cons.mpr ⟨tw_86, List.forall_mem_cons.mpr ⟨tw_88, List.forall_mem_cons.mpr ⟨tw_90, List.forall_mem_cons.mpr ⟨tw_92, List.forall_mem_cons.mpr ⟨tw_94, List.forall_mem_cons.mpr ⟨tw_96, List.forall_mem_cons.mpr ⟨tw_98, List.forall_mem_cons.mpr ⟨tw_100, fun _ h => absurd h List.not_mem_nil⟩⟩⟩⟩⟩⟩⟩⟩), by decide +kernel, by decide +kernel⟩
theorem k_M : vv_cl 4 "CustomerNoticesModel" T_M 32 t_M := ⟨rfl, by decide, (show ∀ w ∈ [Cond.lays "CustomerNoticesModel" "CustomerNoticesModel" "clock" "J", Cond.lays "CustomerNoticesModel" "CustomerNoticesModel" "joined" "I", Cond.laysFinal "CustomerNoticesModel" "CustomerNoticesModel" "broken" "[Z", Cond.lays "CustomerNoticesModel" "CustomerNoticesModel" "customers" "I", Cond.laysFinal "CustomerNoticesModel" "CustomerNoticesModel" "languages" "[I", Cond.laysFinal "CustomerNoticesModel" "CustomerNoticesModel" "zones" "[I", Cond.laysFinal "CustomerNoticesModel" "CustomerNoticesModel" "quietFrom" "[I", Cond.laysFinal "CustomerNoticesModel" "CustomerNoticesModel" "quietTo" "[I", Cond.laysFinal "CustomerNoticesModel" "CustomerNoticesModel" "wishes" "[I", Cond.lays "CustomerNoticesModel" "CustomerNoticesModel" "notices" "I", Cond.laysFinal "CustomerNoticesModel" "CustomerNoticesModel" "owner" "[I", Cond.laysFinal "CustomerNoticesModel" "CustomerNoticesModel" "items" "[I", Cond.laysFinal "CustomerNoticesModel" "CustomerNoticesModel" "kinds" "[I", Cond.laysFinal "CustomerNoticesModel" "CustomerNoticesModel" "times" "[J", Cond.laysFinal "CustomerNoticesModel" "CustomerNoticesModel" "promised" "[J", Cond.laysFinal "CustomerNoticesModel" "CustomerNoticesModel" "states" "[I", Cond.laysFinal "CustomerNoticesModel" "CustomerNoticesModel" "correction" "[Z", Cond.laysFinal "CustomerNoticesModel" "CustomerNoticesModel" "corrected" "[Z", Cond.lays "CustomerNoticesModel" "CustomerNoticesModel" "pairs" "I", Cond.laysFinal "CustomerNoticesModel" "CustomerNoticesModel" "pairCustomer" "[I", Cond.laysFinal "CustomerNoticesModel" "CustomerNoticesModel" "pairItem" "[I", Cond.laysFinal "CustomerNoticesModel" "CustomerNoticesModel" "ended" "[Z", Cond.laysFinal "CustomerNoticesModel" "CustomerNoticesModel" "latest" "[I", Cond.lays "CustomerNoticesModel" "CustomerNoticesModel" "sentCount" "I", Cond.laysFinal "CustomerNoticesModel" "CustomerNoticesModel" "sentNotice" "[I", Cond.laysFinal "CustomerNoticesModel" "CustomerNoticesModel" "sentChannel" "[I", Cond.laysFinal "CustomerNoticesModel" "CustomerNoticesModel" "sentMessage" "[I", Cond.laysFinal "CustomerNoticesModel" "CustomerNoticesModel" "sentClock" "[J", Cond.lays "CustomerNoticesModel" "CustomerNoticesModel" "failedCount" "I", Cond.laysFinal "CustomerNoticesModel" "CustomerNoticesModel" "failedNotice" "[I", Cond.laysFinal "CustomerNoticesModel" "CustomerNoticesModel" "least" "[J", Cond.laysFinal "CustomerNoticesModel" "CustomerNoticesModel" "firsts" "[I"], w ∈ vv_wds from List.forall_mem_cons.mpr ⟨tw_515, List.forall_mem_cons.mpr ⟨tw_517, List.forall_mem_cons.mpr ⟨tw_519, List.forall_mem_cons.mpr ⟨tw_521, List.forall_mem_cons.mpr ⟨tw_523, List.forall_mem_cons.mpr ⟨tw_525, List.forall_mem_cons.mpr ⟨tw_527, List.forall_mem_cons.mpr ⟨tw_529, List.forall_mem_cons.mpr ⟨tw_531, List.forall_mem_cons.mpr ⟨tw_533, List.forall_mem_cons.mpr ⟨tw_535, List.forall_mem_cons.mpr ⟨tw_537, List.forall_mem_cons.mpr ⟨tw_539, List.forall_mem_cons.mpr ⟨tw_541, List.forall_mem_cons.mpr ⟨tw_543, List.forall_mem_cons.mpr ⟨tw_545, List.forall_mem_cons.mpr ⟨tw_547, List.forall_mem_cons.mpr ⟨tw_549, List.forall_mem_cons.mpr ⟨tw_551, List.forall_mem_cons.mpr ⟨tw_553, List.forall_mem_cons.mpr ⟨tw_555, List.forall_mem_cons.mpr ⟨tw_557, List.forall_mem_cons.mpr ⟨tw_559, List.forall_mem_cons.mpr ⟨tw_561, List.forall_mem_cons.mpr ⟨tw_563, List.forall_mem_cons.mpr ⟨tw_565, List.forall_mem_cons.mpr ⟨tw_567, List.forall_mem_cons.mpr ⟨tw_569, List.forall_mem_cons.mpr ⟨tw_571, List.forall_mem_cons.mpr ⟨tw_573, List.forall_mem_cons.mpr ⟨tw_575, List.forall_mem_cons.mpr ⟨tw_577, fun _ h => absurd h List.not_mem_nil⟩⟩⟩⟩⟩⟩⟩⟩⟩⟩⟩⟩⟩⟩⟩⟩⟩⟩⟩⟩⟩⟩⟩⟩⟩⟩⟩⟩⟩⟩⟩⟩), by decide +kernel, by decide +kernel⟩
theorem k_AL : vv_cl 5 "java/util/ArrayList" T_AL 3 t_AL := ⟨rfl, by decide, (show ∀ w ∈ [Cond.lays "java/util/ArrayList" "java/util/ArrayList" "elementData" "[Ljava/lang/Object;", Cond.lays "java/util/ArrayList" "java/util/ArrayList" "size" "I", Cond.lays "java/util/ArrayList" "java/util/AbstractList" "modCount" "I"], w ∈ vv_wds from List.forall_mem_cons.mpr ⟨tw_71, List.forall_mem_cons.mpr ⟨tw_73, List.forall_mem_cons.mpr ⟨tw_75, fun _ h => absurd h List.not_mem_nil⟩⟩⟩), by decide +kernel, by decide +kernel⟩
end
section
theorem d_Oj_init_0 : decode b_Oj_init 0 = .ok (.return_, 1) := by decide +kernel
theorem d_AL_init_0 : decode b_AL_init 0 = .ok (.aload_n 0, 1) := by decide +kernel
theorem d_AL_init_1 : decode b_AL_init 1 = .ok (.invokespecial 1, 3) := by decide +kernel
theorem d_AL_init_4 : decode b_AL_init 4 = .ok (.aload_n 0, 1) := by decide +kernel
theorem d_AL_init_5 : decode b_AL_init 5 = .ok (.getstatic 39, 3) := by decide +kernel
theorem d_AL_init_8 : decode b_AL_init 8 = .ok (.putfield 9, 3) := by decide +kernel
theorem d_AL_init_11 : decode b_AL_init 11 = .ok (.return_, 1) := by decide +kernel
theorem d_AbL_init_0 : decode b_AbL_init 0 = .ok (.aload_n 0, 1) := by decide +kernel
theorem d_AbL_init_1 : decode b_AbL_init 1 = .ok (.invokespecial 1, 3) := by decide +kernel
theorem d_AbL_init_4 : decode b_AbL_init 4 = .ok (.aload_n 0, 1) := by decide +kernel
theorem d_AbL_init_5 : decode b_AbL_init 5 = .ok (.iconst 0, 1) := by decide +kernel
theorem d_AbL_init_6 : decode b_AbL_init 6 = .ok (.putfield 7, 3) := by decide +kernel
theorem d_AbL_init_9 : decode b_AbL_init 9 = .ok (.return_, 1) := by decide +kernel
theorem d_AbC_init_0 : decode b_AbC_init 0 = .ok (.aload_n 0, 1) := by decide +kernel
theorem d_AbC_init_1 : decode b_AbC_init 1 = .ok (.invokespecial 1, 3) := by decide +kernel
theorem d_AbC_init_4 : decode b_AbC_init 4 = .ok (.return_, 1) := by decide +kernel
theorem d_AL_size_0 : decode b_AL_size 0 = .ok (.aload_n 0, 1) := by decide +kernel
theorem d_AL_size_1 : decode b_AL_size 1 = .ok (.getfield 48, 3) := by decide +kernel
theorem d_AL_size_4 : decode b_AL_size 4 = .ok (.ireturn, 1) := by decide +kernel
theorem d_AL_add_0 : decode b_AL_add 0 = .ok (.aload_n 0, 1) := by decide +kernel
theorem d_AL_add_1 : decode b_AL_add 1 = .ok (.dup, 1) := by decide +kernel
theorem d_AL_add_2 : decode b_AL_add 2 = .ok (.getfield 63, 3) := by decide +kernel
theorem d_AL_add_5 : decode b_AL_add 5 = .ok (.iconst 1, 1) := by decide +kernel
theorem d_AL_add_6 : decode b_AL_add 6 = .ok (.iadd, 1) := by decide +kernel
theorem d_AL_add_7 : decode b_AL_add 7 = .ok (.putfield 63, 3) := by decide +kernel
theorem d_AL_add_10 : decode b_AL_add 10 = .ok (.aload_n 0, 1) := by decide +kernel
theorem d_AL_add_11 : decode b_AL_add 11 = .ok (.aload_n 1, 1) := by decide +kernel
theorem d_AL_add_12 : decode b_AL_add 12 = .ok (.aload_n 0, 1) := by decide +kernel
theorem d_AL_add_13 : decode b_AL_add 13 = .ok (.getfield 9, 3) := by decide +kernel
theorem d_AL_add_16 : decode b_AL_add 16 = .ok (.aload_n 0, 1) := by decide +kernel
theorem d_AL_add_17 : decode b_AL_add 17 = .ok (.getfield 48, 3) := by decide +kernel
theorem d_AL_add_20 : decode b_AL_add 20 = .ok (.invokevirtual 131, 3) := by decide +kernel
theorem d_AL_add_23 : decode b_AL_add 23 = .ok (.iconst 1, 1) := by decide +kernel
theorem d_AL_add_24 : decode b_AL_add 24 = .ok (.ireturn, 1) := by decide +kernel
theorem d_AL_add_LObjectALObjectIV_0 : decode b_AL_add_LObjectALObjectIV 0 = .ok (.iload_n 3, 1) := by decide +kernel
theorem d_AL_add_LObjectALObjectIV_1 : decode b_AL_add_LObjectALObjectIV 1 = .ok (.aload_n 2, 1) := by decide +kernel
theorem d_AL_add_LObjectALObjectIV_2 : decode b_AL_add_LObjectALObjectIV 2 = .ok (.arraylength, 1) := by decide +kernel
theorem d_AL_add_LObjectALObjectIV_3 : decode b_AL_add_LObjectALObjectIV 3 = .ok (.if_icmp .ne 8, 3) := by decide +kernel
theorem d_AL_add_LObjectALObjectIV_6 : decode b_AL_add_LObjectALObjectIV 6 = .ok (.aload_n 0, 1) := by decide +kernel
theorem d_AL_add_LObjectALObjectIV_7 : decode b_AL_add_LObjectALObjectIV 7 = .ok (.invokevirtual 129, 3) := by decide +kernel
theorem d_AL_add_LObjectALObjectIV_10 : decode b_AL_add_LObjectALObjectIV 10 = .ok (.astore_n 2, 1) := by decide +kernel
theorem d_AL_add_LObjectALObjectIV_11 : decode b_AL_add_LObjectALObjectIV 11 = .ok (.aload_n 2, 1) := by decide +kernel
theorem d_AL_add_LObjectALObjectIV_12 : decode b_AL_add_LObjectALObjectIV 12 = .ok (.iload_n 3, 1) := by decide +kernel
theorem d_AL_add_LObjectALObjectIV_13 : decode b_AL_add_LObjectALObjectIV 13 = .ok (.aload_n 1, 1) := by decide +kernel
theorem d_AL_add_LObjectALObjectIV_14 : decode b_AL_add_LObjectALObjectIV 14 = .ok (.aastore, 1) := by decide +kernel
theorem d_AL_add_LObjectALObjectIV_15 : decode b_AL_add_LObjectALObjectIV 15 = .ok (.aload_n 0, 1) := by decide +kernel
theorem d_AL_add_LObjectALObjectIV_16 : decode b_AL_add_LObjectALObjectIV 16 = .ok (.iload_n 3, 1) := by decide +kernel
theorem d_AL_add_LObjectALObjectIV_17 : decode b_AL_add_LObjectALObjectIV 17 = .ok (.iconst 1, 1) := by decide +kernel
theorem d_AL_add_LObjectALObjectIV_18 : decode b_AL_add_LObjectALObjectIV 18 = .ok (.iadd, 1) := by decide +kernel
theorem d_AL_add_LObjectALObjectIV_19 : decode b_AL_add_LObjectALObjectIV 19 = .ok (.putfield 48, 3) := by decide +kernel
theorem d_AL_add_LObjectALObjectIV_22 : decode b_AL_add_LObjectALObjectIV 22 = .ok (.return_, 1) := by decide +kernel
theorem d_AL_grow_0 : decode b_AL_grow 0 = .ok (.aload_n 0, 1) := by decide +kernel
theorem d_AL_grow_1 : decode b_AL_grow 1 = .ok (.aload_n 0, 1) := by decide +kernel
theorem d_AL_grow_2 : decode b_AL_grow 2 = .ok (.getfield 48, 3) := by decide +kernel
theorem d_AL_grow_5 : decode b_AL_grow 5 = .ok (.iconst 1, 1) := by decide +kernel
theorem d_AL_grow_6 : decode b_AL_grow 6 = .ok (.iadd, 1) := by decide +kernel
theorem d_AL_grow_7 : decode b_AL_grow 7 = .ok (.invokevirtual 69, 3) := by decide +kernel
theorem d_AL_grow_10 : decode b_AL_grow 10 = .ok (.areturn, 1) := by decide +kernel
theorem d_AL_grow_IALObject_0 : decode b_AL_grow_IALObject 0 = .ok (.aload_n 0, 1) := by decide +kernel
theorem d_AL_grow_IALObject_1 : decode b_AL_grow_IALObject 1 = .ok (.getfield 9, 3) := by decide +kernel
theorem d_AL_grow_IALObject_4 : decode b_AL_grow_IALObject 4 = .ok (.arraylength, 1) := by decide +kernel
theorem d_AL_grow_IALObject_5 : decode b_AL_grow_IALObject 5 = .ok (.istore_n 2, 1) := by decide +kernel
theorem d_AL_grow_IALObject_6 : decode b_AL_grow_IALObject 6 = .ok (.iload_n 2, 1) := by decide +kernel
theorem d_AL_grow_IALObject_7 : decode b_AL_grow_IALObject 7 = .ok (.ifCond .gt 13, 3) := by decide +kernel
theorem d_AL_grow_IALObject_10 : decode b_AL_grow_IALObject 10 = .ok (.aload_n 0, 1) := by decide +kernel
theorem d_AL_grow_IALObject_11 : decode b_AL_grow_IALObject 11 = .ok (.getfield 9, 3) := by decide +kernel
theorem d_AL_grow_IALObject_14 : decode b_AL_grow_IALObject 14 = .ok (.getstatic 39, 3) := by decide +kernel
theorem d_AL_grow_IALObject_17 : decode b_AL_grow_IALObject 17 = .ok (.if_acmp .eq 28, 3) := by decide +kernel
theorem d_AL_grow_IALObject_20 : decode b_AL_grow_IALObject 20 = .ok (.iload_n 2, 1) := by decide +kernel
theorem d_AL_grow_IALObject_21 : decode b_AL_grow_IALObject 21 = .ok (.iload_n 1, 1) := by decide +kernel
theorem d_AL_grow_IALObject_22 : decode b_AL_grow_IALObject 22 = .ok (.iload_n 2, 1) := by decide +kernel
theorem d_AL_grow_IALObject_23 : decode b_AL_grow_IALObject 23 = .ok (.isub, 1) := by decide +kernel
theorem d_AL_grow_IALObject_24 : decode b_AL_grow_IALObject 24 = .ok (.iload_n 2, 1) := by decide +kernel
theorem d_AL_grow_IALObject_25 : decode b_AL_grow_IALObject 25 = .ok (.iconst 1, 1) := by decide +kernel
theorem d_AL_grow_IALObject_26 : decode b_AL_grow_IALObject 26 = .ok (.ishr, 1) := by decide +kernel
theorem d_AL_grow_IALObject_27 : decode b_AL_grow_IALObject 27 = .ok (.invokestatic 73, 3) := by decide +kernel
theorem d_AL_grow_IALObject_30 : decode b_AL_grow_IALObject 30 = .ok (.istore_n 3, 1) := by decide +kernel
theorem d_AL_grow_IALObject_31 : decode b_AL_grow_IALObject 31 = .ok (.aload_n 0, 1) := by decide +kernel
theorem d_AL_grow_IALObject_32 : decode b_AL_grow_IALObject 32 = .ok (.aload_n 0, 1) := by decide +kernel
theorem d_AL_grow_IALObject_33 : decode b_AL_grow_IALObject 33 = .ok (.getfield 9, 3) := by decide +kernel
theorem d_AL_grow_IALObject_36 : decode b_AL_grow_IALObject 36 = .ok (.iload_n 3, 1) := by decide +kernel
theorem d_AL_grow_IALObject_37 : decode b_AL_grow_IALObject 37 = .ok (.invokestatic 66, 3) := by decide +kernel
theorem d_AL_grow_IALObject_40 : decode b_AL_grow_IALObject 40 = .ok (.dup_x1, 1) := by decide +kernel
theorem d_AL_grow_IALObject_41 : decode b_AL_grow_IALObject 41 = .ok (.putfield 9, 3) := by decide +kernel
theorem d_AL_grow_IALObject_44 : decode b_AL_grow_IALObject 44 = .ok (.areturn, 1) := by decide +kernel
theorem d_AL_grow_IALObject_45 : decode b_AL_grow_IALObject 45 = .ok (.aload_n 0, 1) := by decide +kernel
theorem d_AL_grow_IALObject_46 : decode b_AL_grow_IALObject 46 = .ok (.bipush 10, 2) := by decide +kernel
theorem d_AL_grow_IALObject_48 : decode b_AL_grow_IALObject 48 = .ok (.iload_n 1, 1) := by decide +kernel
theorem d_AL_grow_IALObject_49 : decode b_AL_grow_IALObject 49 = .ok (.invokestatic 79, 3) := by decide +kernel
theorem d_AL_grow_IALObject_52 : decode b_AL_grow_IALObject 52 = .ok (.anewarray 7, 3) := by decide +kernel
theorem d_AL_grow_IALObject_55 : decode b_AL_grow_IALObject 55 = .ok (.dup_x1, 1) := by decide +kernel
theorem d_AL_grow_IALObject_56 : decode b_AL_grow_IALObject 56 = .ok (.putfield 9, 3) := by decide +kernel
theorem d_AL_grow_IALObject_59 : decode b_AL_grow_IALObject 59 = .ok (.areturn, 1) := by decide +kernel
theorem d_AS_newLength_0 : decode b_AS_newLength 0 = .ok (.iload_n 0, 1) := by decide +kernel
theorem d_AS_newLength_1 : decode b_AS_newLength 1 = .ok (.iload_n 1, 1) := by decide +kernel
theorem d_AS_newLength_2 : decode b_AS_newLength 2 = .ok (.iload_n 2, 1) := by decide +kernel
theorem d_AS_newLength_3 : decode b_AS_newLength 3 = .ok (.invokestatic 194, 3) := by decide +kernel
theorem d_AS_newLength_6 : decode b_AS_newLength 6 = .ok (.iadd, 1) := by decide +kernel
theorem d_AS_newLength_7 : decode b_AS_newLength 7 = .ok (.istore_n 3, 1) := by decide +kernel
theorem d_AS_newLength_8 : decode b_AS_newLength 8 = .ok (.iconst 0, 1) := by decide +kernel
theorem d_AS_newLength_9 : decode b_AS_newLength 9 = .ok (.iload_n 3, 1) := by decide +kernel
theorem d_AS_newLength_10 : decode b_AS_newLength 10 = .ok (.if_icmp .ge 11, 3) := by decide +kernel
theorem d_AS_newLength_13 : decode b_AS_newLength 13 = .ok (.iload_n 3, 1) := by decide +kernel
theorem d_AS_newLength_14 : decode b_AS_newLength 14 = .ok (.ldc 200, 2) := by decide +kernel
theorem d_AS_newLength_16 : decode b_AS_newLength 16 = .ok (.if_icmp .gt 5, 3) := by decide +kernel
theorem d_AS_newLength_19 : decode b_AS_newLength 19 = .ok (.iload_n 3, 1) := by decide +kernel
theorem d_AS_newLength_20 : decode b_AS_newLength 20 = .ok (.ireturn, 1) := by decide +kernel
theorem d_AS_newLength_21 : decode b_AS_newLength 21 = .ok (.iload_n 0, 1) := by decide +kernel
theorem d_AS_newLength_22 : decode b_AS_newLength 22 = .ok (.iload_n 1, 1) := by decide +kernel
theorem d_AS_newLength_23 : decode b_AS_newLength 23 = .ok (.invokestatic 201, 3) := by decide +kernel
theorem d_AS_newLength_26 : decode b_AS_newLength 26 = .ok (.ireturn, 1) := by decide +kernel
theorem d_Ma_max_0 : decode b_Ma_max 0 = .ok (.iload_n 0, 1) := by decide +kernel
theorem d_Ma_max_1 : decode b_Ma_max 1 = .ok (.iload_n 1, 1) := by decide +kernel
theorem d_Ma_max_2 : decode b_Ma_max 2 = .ok (.if_icmp .lt 7, 3) := by decide +kernel
theorem d_Ma_max_5 : decode b_Ma_max 5 = .ok (.iload_n 0, 1) := by decide +kernel
theorem d_Ma_max_6 : decode b_Ma_max 6 = .ok (.goto 4, 3) := by decide +kernel
theorem d_Ma_max_9 : decode b_Ma_max 9 = .ok (.iload_n 1, 1) := by decide +kernel
theorem d_Ma_max_10 : decode b_Ma_max 10 = .ok (.ireturn, 1) := by decide +kernel
theorem d_AS_hugeLength_0 : decode b_AS_hugeLength 0 = .ok (.iload_n 0, 1) := by decide +kernel
theorem d_AS_hugeLength_1 : decode b_AS_hugeLength 1 = .ok (.iload_n 1, 1) := by decide +kernel
theorem d_AS_hugeLength_2 : decode b_AS_hugeLength 2 = .ok (.iadd, 1) := by decide +kernel
theorem d_AS_hugeLength_3 : decode b_AS_hugeLength 3 = .ok (.istore_n 2, 1) := by decide +kernel
theorem d_AS_hugeLength_4 : decode b_AS_hugeLength 4 = .ok (.iload_n 2, 1) := by decide +kernel
theorem d_AS_hugeLength_5 : decode b_AS_hugeLength 5 = .ok (.ifCond .ge 44, 3) := by decide +kernel
theorem d_AS_hugeLength_8 : decode b_AS_hugeLength 8 = .ok (.new 204, 3) := by decide +kernel
theorem d_AS_hugeLength_11 : decode b_AS_hugeLength 11 = .ok (.dup, 1) := by decide +kernel
theorem d_AS_hugeLength_12 : decode b_AS_hugeLength 12 = .ok (.new 89, 3) := by decide +kernel
theorem d_AS_hugeLength_15 : decode b_AS_hugeLength 15 = .ok (.dup, 1) := by decide +kernel
theorem d_AS_hugeLength_16 : decode b_AS_hugeLength 16 = .ok (.invokespecial 91, 3) := by decide +kernel
theorem d_AS_hugeLength_19 : decode b_AS_hugeLength 19 = .ok (.ldc 206, 2) := by decide +kernel
theorem d_AS_hugeLength_21 : decode b_AS_hugeLength 21 = .ok (.invokevirtual 94, 3) := by decide +kernel
theorem d_AS_hugeLength_24 : decode b_AS_hugeLength 24 = .ok (.iload_n 0, 1) := by decide +kernel
theorem d_AS_hugeLength_25 : decode b_AS_hugeLength 25 = .ok (.invokevirtual 98, 3) := by decide +kernel
theorem d_AS_hugeLength_28 : decode b_AS_hugeLength 28 = .ok (.ldc 208, 2) := by decide +kernel
theorem d_AS_hugeLength_30 : decode b_AS_hugeLength 30 = .ok (.invokevirtual 94, 3) := by decide +kernel
theorem d_AS_hugeLength_33 : decode b_AS_hugeLength 33 = .ok (.iload_n 1, 1) := by decide +kernel
theorem d_AS_hugeLength_34 : decode b_AS_hugeLength 34 = .ok (.invokevirtual 98, 3) := by decide +kernel
theorem d_AS_hugeLength_37 : decode b_AS_hugeLength 37 = .ok (.ldc 210, 2) := by decide +kernel
theorem d_AS_hugeLength_39 : decode b_AS_hugeLength 39 = .ok (.invokevirtual 94, 3) := by decide +kernel
theorem d_AS_hugeLength_42 : decode b_AS_hugeLength 42 = .ok (.invokevirtual 101, 3) := by decide +kernel
theorem d_AS_hugeLength_45 : decode b_AS_hugeLength 45 = .ok (.invokespecial 212, 3) := by decide +kernel
theorem d_AS_hugeLength_48 : decode b_AS_hugeLength 48 = .ok (.athrow, 1) := by decide +kernel
theorem d_AS_hugeLength_49 : decode b_AS_hugeLength 49 = .ok (.iload_n 2, 1) := by decide +kernel
theorem d_AS_hugeLength_50 : decode b_AS_hugeLength 50 = .ok (.ldc 200, 2) := by decide +kernel
theorem d_AS_hugeLength_52 : decode b_AS_hugeLength 52 = .ok (.if_icmp .gt 6, 3) := by decide +kernel
theorem d_AS_hugeLength_55 : decode b_AS_hugeLength 55 = .ok (.ldc 200, 2) := by decide +kernel
theorem d_AS_hugeLength_57 : decode b_AS_hugeLength 57 = .ok (.ireturn, 1) := by decide +kernel
theorem d_AS_hugeLength_58 : decode b_AS_hugeLength 58 = .ok (.iload_n 2, 1) := by decide +kernel
theorem d_AS_hugeLength_59 : decode b_AS_hugeLength 59 = .ok (.ireturn, 1) := by decide +kernel
theorem d_Ar_copyOf_0 : decode b_Ar_copyOf 0 = .ok (.aload_n 0, 1) := by decide +kernel
theorem d_Ar_copyOf_1 : decode b_Ar_copyOf 1 = .ok (.iload_n 1, 1) := by decide +kernel
theorem d_Ar_copyOf_2 : decode b_Ar_copyOf 2 = .ok (.aload_n 0, 1) := by decide +kernel
theorem d_Ar_copyOf_3 : decode b_Ar_copyOf 3 = .ok (.invokevirtual 86, 3) := by decide +kernel
theorem d_Ar_copyOf_6 : decode b_Ar_copyOf 6 = .ok (.invokestatic 300, 3) := by decide +kernel
theorem d_Ar_copyOf_9 : decode b_Ar_copyOf 9 = .ok (.areturn, 1) := by decide +kernel
theorem d_Ar_copyOf_ALObjectILClassALObject_0 : decode b_Ar_copyOf_ALObjectILClassALObject 0 = .ok (.aload_n 2, 1) := by decide +kernel
theorem d_Ar_copyOf_ALObjectILClassALObject_1 : decode b_Ar_copyOf_ALObjectILClassALObject 1 = .ok (.ldc 110, 2) := by decide +kernel
theorem d_Ar_copyOf_ALObjectILClassALObject_3 : decode b_Ar_copyOf_ALObjectILClassALObject 3 = .ok (.if_acmp .ne 10, 3) := by decide +kernel
theorem d_Ar_copyOf_ALObjectILClassALObject_6 : decode b_Ar_copyOf_ALObjectILClassALObject 6 = .ok (.iload_n 1, 1) := by decide +kernel
theorem d_Ar_copyOf_ALObjectILClassALObject_7 : decode b_Ar_copyOf_ALObjectILClassALObject 7 = .ok (.anewarray 2, 3) := by decide +kernel
theorem d_Ar_copyOf_ALObjectILClassALObject_10 : decode b_Ar_copyOf_ALObjectILClassALObject 10 = .ok (.goto 14, 3) := by decide +kernel
theorem d_Ar_copyOf_ALObjectILClassALObject_13 : decode b_Ar_copyOf_ALObjectILClassALObject 13 = .ok (.aload_n 2, 1) := by decide +kernel
theorem d_Ar_copyOf_ALObjectILClassALObject_14 : decode b_Ar_copyOf_ALObjectILClassALObject 14 = .ok (.invokevirtual 90, 3) := by decide +kernel
theorem d_Ar_copyOf_ALObjectILClassALObject_17 : decode b_Ar_copyOf_ALObjectILClassALObject 17 = .ok (.iload_n 1, 1) := by decide +kernel
theorem d_Ar_copyOf_ALObjectILClassALObject_18 : decode b_Ar_copyOf_ALObjectILClassALObject 18 = .ok (.invokestatic 95, 3) := by decide +kernel
theorem d_Ar_copyOf_ALObjectILClassALObject_21 : decode b_Ar_copyOf_ALObjectILClassALObject 21 = .ok (.checkcast 110, 3) := by decide +kernel
theorem d_Ar_copyOf_ALObjectILClassALObject_24 : decode b_Ar_copyOf_ALObjectILClassALObject 24 = .ok (.astore_n 3, 1) := by decide +kernel
theorem d_Ar_copyOf_ALObjectILClassALObject_25 : decode b_Ar_copyOf_ALObjectILClassALObject 25 = .ok (.aload_n 0, 1) := by decide +kernel
theorem d_Ar_copyOf_ALObjectILClassALObject_26 : decode b_Ar_copyOf_ALObjectILClassALObject 26 = .ok (.iconst 0, 1) := by decide +kernel
theorem d_Ar_copyOf_ALObjectILClassALObject_27 : decode b_Ar_copyOf_ALObjectILClassALObject 27 = .ok (.aload_n 3, 1) := by decide +kernel
theorem d_Ar_copyOf_ALObjectILClassALObject_28 : decode b_Ar_copyOf_ALObjectILClassALObject 28 = .ok (.iconst 0, 1) := by decide +kernel
theorem d_Ar_copyOf_ALObjectILClassALObject_29 : decode b_Ar_copyOf_ALObjectILClassALObject 29 = .ok (.aload_n 0, 1) := by decide +kernel
theorem d_Ar_copyOf_ALObjectILClassALObject_30 : decode b_Ar_copyOf_ALObjectILClassALObject 30 = .ok (.arraylength, 1) := by decide +kernel
theorem d_Ar_copyOf_ALObjectILClassALObject_31 : decode b_Ar_copyOf_ALObjectILClassALObject 31 = .ok (.iload_n 1, 1) := by decide +kernel
theorem d_Ar_copyOf_ALObjectILClassALObject_32 : decode b_Ar_copyOf_ALObjectILClassALObject 32 = .ok (.invokestatic 304, 3) := by decide +kernel
theorem d_Ar_copyOf_ALObjectILClassALObject_35 : decode b_Ar_copyOf_ALObjectILClassALObject 35 = .ok (.invokestatic 150, 3) := by decide +kernel
theorem d_Ar_copyOf_ALObjectILClassALObject_38 : decode b_Ar_copyOf_ALObjectILClassALObject 38 = .ok (.aload_n 3, 1) := by decide +kernel
theorem d_Ar_copyOf_ALObjectILClassALObject_39 : decode b_Ar_copyOf_ALObjectILClassALObject 39 = .ok (.areturn, 1) := by decide +kernel
theorem d_Ma_min_0 : decode b_Ma_min 0 = .ok (.iload_n 0, 1) := by decide +kernel
theorem d_Ma_min_1 : decode b_Ma_min 1 = .ok (.iload_n 1, 1) := by decide +kernel
theorem d_Ma_min_2 : decode b_Ma_min 2 = .ok (.if_icmp .gt 7, 3) := by decide +kernel
theorem d_Ma_min_5 : decode b_Ma_min 5 = .ok (.iload_n 0, 1) := by decide +kernel
theorem d_Ma_min_6 : decode b_Ma_min 6 = .ok (.goto 4, 3) := by decide +kernel
theorem d_Ma_min_9 : decode b_Ma_min 9 = .ok (.iload_n 1, 1) := by decide +kernel
theorem d_Ma_min_10 : decode b_Ma_min 10 = .ok (.ireturn, 1) := by decide +kernel
theorem d_AL_get_0 : decode b_AL_get 0 = .ok (.iload_n 1, 1) := by decide +kernel
theorem d_AL_get_1 : decode b_AL_get 1 = .ok (.aload_n 0, 1) := by decide +kernel
theorem d_AL_get_2 : decode b_AL_get 2 = .ok (.getfield 48, 3) := by decide +kernel
theorem d_AL_get_5 : decode b_AL_get 5 = .ok (.invokestatic 118, 3) := by decide +kernel
theorem d_AL_get_8 : decode b_AL_get 8 = .ok (.pop, 1) := by decide +kernel
theorem d_AL_get_9 : decode b_AL_get 9 = .ok (.aload_n 0, 1) := by decide +kernel
theorem d_AL_get_10 : decode b_AL_get 10 = .ok (.iload_n 1, 1) := by decide +kernel
theorem d_AL_get_11 : decode b_AL_get 11 = .ok (.invokevirtual 123, 3) := by decide +kernel
theorem d_AL_get_14 : decode b_AL_get 14 = .ok (.areturn, 1) := by decide +kernel
theorem d_Ob_checkIndex_0 : decode b_Ob_checkIndex 0 = .ok (.iload_n 0, 1) := by decide +kernel
theorem d_Ob_checkIndex_1 : decode b_Ob_checkIndex 1 = .ok (.iload_n 1, 1) := by decide +kernel
theorem d_Ob_checkIndex_2 : decode b_Ob_checkIndex 2 = .ok (.aconst_null, 1) := by decide +kernel
theorem d_Ob_checkIndex_3 : decode b_Ob_checkIndex 3 = .ok (.invokestatic 105, 3) := by decide +kernel
theorem d_Ob_checkIndex_6 : decode b_Ob_checkIndex 6 = .ok (.ireturn, 1) := by decide +kernel
theorem d_Pr_checkIndex_0 : decode b_Pr_checkIndex 0 = .ok (.iload_n 0, 1) := by decide +kernel
theorem d_Pr_checkIndex_1 : decode b_Pr_checkIndex 1 = .ok (.ifCond .lt 8, 3) := by decide +kernel
theorem d_Pr_checkIndex_4 : decode b_Pr_checkIndex 4 = .ok (.iload_n 0, 1) := by decide +kernel
theorem d_Pr_checkIndex_5 : decode b_Pr_checkIndex 5 = .ok (.iload_n 1, 1) := by decide +kernel
theorem d_Pr_checkIndex_6 : decode b_Pr_checkIndex 6 = .ok (.if_icmp .lt 10, 3) := by decide +kernel
theorem d_Pr_checkIndex_9 : decode b_Pr_checkIndex 9 = .ok (.aload_n 2, 1) := by decide +kernel
theorem d_Pr_checkIndex_10 : decode b_Pr_checkIndex 10 = .ok (.iload_n 0, 1) := by decide +kernel
theorem d_Pr_checkIndex_11 : decode b_Pr_checkIndex 11 = .ok (.iload_n 1, 1) := by decide +kernel
theorem d_Pr_checkIndex_12 : decode b_Pr_checkIndex 12 = .ok (.invokestatic 95, 3) := by decide +kernel
theorem d_Pr_checkIndex_15 : decode b_Pr_checkIndex 15 = .ok (.athrow, 1) := by decide +kernel
theorem d_Pr_checkIndex_16 : decode b_Pr_checkIndex 16 = .ok (.iload_n 0, 1) := by decide +kernel
theorem d_Pr_checkIndex_17 : decode b_Pr_checkIndex 17 = .ok (.ireturn, 1) := by decide +kernel
theorem d_AL_elementData_0 : decode b_AL_elementData 0 = .ok (.aload_n 0, 1) := by decide +kernel
theorem d_AL_elementData_1 : decode b_AL_elementData 1 = .ok (.getfield 9, 3) := by decide +kernel
theorem d_AL_elementData_4 : decode b_AL_elementData 4 = .ok (.iload_n 1, 1) := by decide +kernel
theorem d_AL_elementData_5 : decode b_AL_elementData 5 = .ok (.aaload, 1) := by decide +kernel
theorem d_AL_elementData_6 : decode b_AL_elementData 6 = .ok (.areturn, 1) := by decide +kernel
theorem d_Ma_floorMod_0 : decode b_Ma_floorMod 0 = .ok (.iload_n 0, 1) := by decide +kernel
theorem d_Ma_floorMod_1 : decode b_Ma_floorMod 1 = .ok (.iload_n 1, 1) := by decide +kernel
theorem d_Ma_floorMod_2 : decode b_Ma_floorMod 2 = .ok (.irem, 1) := by decide +kernel
theorem d_Ma_floorMod_3 : decode b_Ma_floorMod 3 = .ok (.istore_n 2, 1) := by decide +kernel
theorem d_Ma_floorMod_4 : decode b_Ma_floorMod 4 = .ok (.iload_n 0, 1) := by decide +kernel
theorem d_Ma_floorMod_5 : decode b_Ma_floorMod 5 = .ok (.iload_n 1, 1) := by decide +kernel
theorem d_Ma_floorMod_6 : decode b_Ma_floorMod 6 = .ok (.ixor, 1) := by decide +kernel
theorem d_Ma_floorMod_7 : decode b_Ma_floorMod 7 = .ok (.ifCond .ge 11, 3) := by decide +kernel
theorem d_Ma_floorMod_10 : decode b_Ma_floorMod 10 = .ok (.iload_n 2, 1) := by decide +kernel
theorem d_Ma_floorMod_11 : decode b_Ma_floorMod 11 = .ok (.ifCond .eq 7, 3) := by decide +kernel
theorem d_Ma_floorMod_14 : decode b_Ma_floorMod 14 = .ok (.iload_n 2, 1) := by decide +kernel
theorem d_Ma_floorMod_15 : decode b_Ma_floorMod 15 = .ok (.iload_n 1, 1) := by decide +kernel
theorem d_Ma_floorMod_16 : decode b_Ma_floorMod 16 = .ok (.iadd, 1) := by decide +kernel
theorem d_Ma_floorMod_17 : decode b_Ma_floorMod 17 = .ok (.ireturn, 1) := by decide +kernel
theorem d_Ma_floorMod_18 : decode b_Ma_floorMod 18 = .ok (.iload_n 2, 1) := by decide +kernel
theorem d_Ma_floorMod_19 : decode b_Ma_floorMod 19 = .ok (.ireturn, 1) := by decide +kernel
theorem d_Ma_abs_0 : decode b_Ma_abs 0 = .ok (.lload_n 0, 1) := by decide +kernel
theorem d_Ma_abs_1 : decode b_Ma_abs 1 = .ok (.lconst 0, 1) := by decide +kernel
theorem d_Ma_abs_2 : decode b_Ma_abs 2 = .ok (.lcmp, 1) := by decide +kernel
theorem d_Ma_abs_3 : decode b_Ma_abs 3 = .ok (.ifCond .ge 8, 3) := by decide +kernel
theorem d_Ma_abs_6 : decode b_Ma_abs 6 = .ok (.lload_n 0, 1) := by decide +kernel
theorem d_Ma_abs_7 : decode b_Ma_abs 7 = .ok (.lneg, 1) := by decide +kernel
theorem d_Ma_abs_8 : decode b_Ma_abs 8 = .ok (.goto 4, 3) := by decide +kernel
theorem d_Ma_abs_11 : decode b_Ma_abs 11 = .ok (.lload_n 0, 1) := by decide +kernel
theorem d_Ma_abs_12 : decode b_Ma_abs 12 = .ok (.lreturn, 1) := by decide +kernel
theorem d_Ma_min_JJJ_0 : decode b_Ma_min_JJJ 0 = .ok (.lload_n 0, 1) := by decide +kernel
theorem d_Ma_min_JJJ_1 : decode b_Ma_min_JJJ 1 = .ok (.lload_n 2, 1) := by decide +kernel
theorem d_Ma_min_JJJ_2 : decode b_Ma_min_JJJ 2 = .ok (.lcmp, 1) := by decide +kernel
theorem d_Ma_min_JJJ_3 : decode b_Ma_min_JJJ 3 = .ok (.ifCond .gt 7, 3) := by decide +kernel
theorem d_Ma_min_JJJ_6 : decode b_Ma_min_JJJ 6 = .ok (.lload_n 0, 1) := by decide +kernel
theorem d_Ma_min_JJJ_7 : decode b_Ma_min_JJJ 7 = .ok (.goto 4, 3) := by decide +kernel
theorem d_Ma_min_JJJ_10 : decode b_Ma_min_JJJ 10 = .ok (.lload_n 2, 1) := by decide +kernel
theorem d_Ma_min_JJJ_11 : decode b_Ma_min_JJJ 11 = .ok (.lreturn, 1) := by decide +kernel
theorem d_Ma_floorMod_JJJ_0 : decode b_Ma_floorMod_JJJ 0 = .ok (.lload_n 0, 1) := by decide +kernel
theorem d_Ma_floorMod_JJJ_1 : decode b_Ma_floorMod_JJJ 1 = .ok (.lload_n 2, 1) := by decide +kernel
theorem d_Ma_floorMod_JJJ_2 : decode b_Ma_floorMod_JJJ 2 = .ok (.lrem, 1) := by decide +kernel
theorem d_Ma_floorMod_JJJ_3 : decode b_Ma_floorMod_JJJ 3 = .ok (.lstore 4, 2) := by decide +kernel
theorem d_Ma_floorMod_JJJ_5 : decode b_Ma_floorMod_JJJ 5 = .ok (.lload_n 0, 1) := by decide +kernel
theorem d_Ma_floorMod_JJJ_6 : decode b_Ma_floorMod_JJJ 6 = .ok (.lload_n 2, 1) := by decide +kernel
theorem d_Ma_floorMod_JJJ_7 : decode b_Ma_floorMod_JJJ 7 = .ok (.lxor, 1) := by decide +kernel
theorem d_Ma_floorMod_JJJ_8 : decode b_Ma_floorMod_JJJ 8 = .ok (.lconst 0, 1) := by decide +kernel
theorem d_Ma_floorMod_JJJ_9 : decode b_Ma_floorMod_JJJ 9 = .ok (.lcmp, 1) := by decide +kernel
theorem d_Ma_floorMod_JJJ_10 : decode b_Ma_floorMod_JJJ 10 = .ok (.ifCond .ge 15, 3) := by decide +kernel
theorem d_Ma_floorMod_JJJ_13 : decode b_Ma_floorMod_JJJ 13 = .ok (.lload 4, 2) := by decide +kernel
theorem d_Ma_floorMod_JJJ_15 : decode b_Ma_floorMod_JJJ 15 = .ok (.lconst 0, 1) := by decide +kernel
theorem d_Ma_floorMod_JJJ_16 : decode b_Ma_floorMod_JJJ 16 = .ok (.lcmp, 1) := by decide +kernel
theorem d_Ma_floorMod_JJJ_17 : decode b_Ma_floorMod_JJJ 17 = .ok (.ifCond .eq 8, 3) := by decide +kernel
theorem d_Ma_floorMod_JJJ_20 : decode b_Ma_floorMod_JJJ 20 = .ok (.lload 4, 2) := by decide +kernel
theorem d_Ma_floorMod_JJJ_22 : decode b_Ma_floorMod_JJJ 22 = .ok (.lload_n 2, 1) := by decide +kernel
theorem d_Ma_floorMod_JJJ_23 : decode b_Ma_floorMod_JJJ 23 = .ok (.ladd, 1) := by decide +kernel
theorem d_Ma_floorMod_JJJ_24 : decode b_Ma_floorMod_JJJ 24 = .ok (.lreturn, 1) := by decide +kernel
theorem d_Ma_floorMod_JJJ_25 : decode b_Ma_floorMod_JJJ 25 = .ok (.lload 4, 2) := by decide +kernel
theorem d_Ma_floorMod_JJJ_27 : decode b_Ma_floorMod_JJJ 27 = .ok (.lreturn, 1) := by decide +kernel
end
section
theorem d_C_init_0 : decode b_C_init 0 = .ok (.aload_n 0, 1) := by decide +kernel
theorem d_C_init_1 : decode b_C_init 1 = .ok (.invokespecial 1, 3) := by decide +kernel
theorem d_C_init_4 : decode b_C_init 4 = .ok (.aload_n 0, 1) := by decide +kernel
theorem d_C_init_5 : decode b_C_init 5 = .ok (.new 7, 3) := by decide +kernel
theorem d_C_init_8 : decode b_C_init 8 = .ok (.dup, 1) := by decide +kernel
theorem d_C_init_9 : decode b_C_init 9 = .ok (.invokespecial 9, 3) := by decide +kernel
theorem d_C_init_12 : decode b_C_init 12 = .ok (.putfield 10, 3) := by decide +kernel
theorem d_C_init_15 : decode b_C_init 15 = .ok (.aload_n 0, 1) := by decide +kernel
theorem d_C_init_16 : decode b_C_init 16 = .ok (.new 7, 3) := by decide +kernel
theorem d_C_init_19 : decode b_C_init 19 = .ok (.dup, 1) := by decide +kernel
theorem d_C_init_20 : decode b_C_init 20 = .ok (.invokespecial 9, 3) := by decide +kernel
theorem d_C_init_23 : decode b_C_init 23 = .ok (.putfield 16, 3) := by decide +kernel
theorem d_C_init_26 : decode b_C_init 26 = .ok (.aload_n 0, 1) := by decide +kernel
theorem d_C_init_27 : decode b_C_init 27 = .ok (.new 7, 3) := by decide +kernel
theorem d_C_init_30 : decode b_C_init 30 = .ok (.dup, 1) := by decide +kernel
theorem d_C_init_31 : decode b_C_init 31 = .ok (.invokespecial 9, 3) := by decide +kernel
theorem d_C_init_34 : decode b_C_init 34 = .ok (.putfield 19, 3) := by decide +kernel
theorem d_C_init_37 : decode b_C_init 37 = .ok (.aload_n 0, 1) := by decide +kernel
theorem d_C_init_38 : decode b_C_init 38 = .ok (.new 7, 3) := by decide +kernel
theorem d_C_init_41 : decode b_C_init 41 = .ok (.dup, 1) := by decide +kernel
theorem d_C_init_42 : decode b_C_init 42 = .ok (.invokespecial 9, 3) := by decide +kernel
theorem d_C_init_45 : decode b_C_init 45 = .ok (.putfield 22, 3) := by decide +kernel
theorem d_C_init_48 : decode b_C_init 48 = .ok (.aload_n 0, 1) := by decide +kernel
theorem d_C_init_49 : decode b_C_init 49 = .ok (.new 7, 3) := by decide +kernel
theorem d_C_init_52 : decode b_C_init 52 = .ok (.dup, 1) := by decide +kernel
theorem d_C_init_53 : decode b_C_init 53 = .ok (.invokespecial 9, 3) := by decide +kernel
theorem d_C_init_56 : decode b_C_init 56 = .ok (.putfield 25, 3) := by decide +kernel
theorem d_C_init_59 : decode b_C_init 59 = .ok (.aload_n 0, 1) := by decide +kernel
theorem d_C_init_60 : decode b_C_init 60 = .ok (.iconst 4, 1) := by decide +kernel
theorem d_C_init_61 : decode b_C_init 61 = .ok (.newarray .boolean, 2) := by decide +kernel
theorem d_C_init_63 : decode b_C_init 63 = .ok (.putfield 28, 3) := by decide +kernel
theorem d_C_init_66 : decode b_C_init 66 = .ok (.iconst 0, 1) := by decide +kernel
theorem d_C_init_67 : decode b_C_init 67 = .ok (.istore_n 1, 1) := by decide +kernel
theorem d_C_init_68 : decode b_C_init 68 = .ok (.iload_n 1, 1) := by decide +kernel
theorem d_C_init_69 : decode b_C_init 69 = .ok (.iconst 4, 1) := by decide +kernel
theorem d_C_init_70 : decode b_C_init 70 = .ok (.if_icmp .ge 16, 3) := by decide +kernel
theorem d_C_init_73 : decode b_C_init 73 = .ok (.aload_n 0, 1) := by decide +kernel
theorem d_C_init_74 : decode b_C_init 74 = .ok (.getfield 28, 3) := by decide +kernel
theorem d_C_init_77 : decode b_C_init 77 = .ok (.iload_n 1, 1) := by decide +kernel
theorem d_C_init_78 : decode b_C_init 78 = .ok (.iconst 1, 1) := by decide +kernel
theorem d_C_init_79 : decode b_C_init 79 = .ok (.bastore, 1) := by decide +kernel
theorem d_C_init_80 : decode b_C_init 80 = .ok (.iinc 1 1, 3) := by decide +kernel
theorem d_C_init_83 : decode b_C_init 83 = .ok (.goto (-15), 3) := by decide +kernel
theorem d_C_init_86 : decode b_C_init 86 = .ok (.aload_n 0, 1) := by decide +kernel
theorem d_C_init_87 : decode b_C_init 87 = .ok (.lconst 0, 1) := by decide +kernel
theorem d_C_init_88 : decode b_C_init 88 = .ok (.putfield 32, 3) := by decide +kernel
theorem d_C_init_91 : decode b_C_init 91 = .ok (.aload_n 0, 1) := by decide +kernel
theorem d_C_init_92 : decode b_C_init 92 = .ok (.iconst 0, 1) := by decide +kernel
theorem d_C_init_93 : decode b_C_init 93 = .ok (.putfield 36, 3) := by decide +kernel
theorem d_C_init_96 : decode b_C_init 96 = .ok (.return_, 1) := by decide +kernel
theorem d_C_customer_0 : decode b_C_customer 0 = .ok (.iload_n 1, 1) := by decide +kernel
theorem d_C_customer_1 : decode b_C_customer 1 = .ok (.i2l, 1) := by decide +kernel
theorem d_C_customer_2 : decode b_C_customer 2 = .ok (.lconst 0, 1) := by decide +kernel
theorem d_C_customer_3 : decode b_C_customer 3 = .ok (.ldc2_w 40, 3) := by decide +kernel
theorem d_C_customer_6 : decode b_C_customer 6 = .ok (.invokestatic 42, 3) := by decide +kernel
theorem d_C_customer_9 : decode b_C_customer 9 = .ok (.ifCond .eq 17, 3) := by decide +kernel
theorem d_C_customer_12 : decode b_C_customer 12 = .ok (.iload_n 2, 1) := by decide +kernel
theorem d_C_customer_13 : decode b_C_customer 13 = .ok (.i2l, 1) := by decide +kernel
theorem d_C_customer_14 : decode b_C_customer 14 = .ok (.ldc2_w 46, 3) := by decide +kernel
theorem d_C_customer_17 : decode b_C_customer 17 = .ok (.ldc2_w 48, 3) := by decide +kernel
theorem d_C_customer_20 : decode b_C_customer 20 = .ok (.invokestatic 42, 3) := by decide +kernel
theorem d_C_customer_23 : decode b_C_customer 23 = .ok (.ifCond .ne 6, 3) := by decide +kernel
theorem d_C_customer_26 : decode b_C_customer 26 = .ok (.bipush (-12), 2) := by decide +kernel
theorem d_C_customer_28 : decode b_C_customer 28 = .ok (.ireturn, 1) := by decide +kernel
theorem d_C_customer_29 : decode b_C_customer 29 = .ok (.aload_n 0, 1) := by decide +kernel
theorem d_C_customer_30 : decode b_C_customer 30 = .ok (.getfield 10, 3) := by decide +kernel
theorem d_C_customer_33 : decode b_C_customer 33 = .ok (.invokevirtual 50, 3) := by decide +kernel
theorem d_C_customer_36 : decode b_C_customer 36 = .ok (.bipush 40, 2) := by decide +kernel
theorem d_C_customer_38 : decode b_C_customer 38 = .ok (.if_icmp .lt 6, 3) := by decide +kernel
theorem d_C_customer_41 : decode b_C_customer 41 = .ok (.bipush (-14), 2) := by decide +kernel
theorem d_C_customer_43 : decode b_C_customer 43 = .ok (.ireturn, 1) := by decide +kernel
theorem d_C_customer_44 : decode b_C_customer 44 = .ok (.aload_n 0, 1) := by decide +kernel
theorem d_C_customer_45 : decode b_C_customer 45 = .ok (.getfield 10, 3) := by decide +kernel
theorem d_C_customer_48 : decode b_C_customer 48 = .ok (.invokevirtual 50, 3) := by decide +kernel
theorem d_C_customer_51 : decode b_C_customer 51 = .ok (.iconst 1, 1) := by decide +kernel
theorem d_C_customer_52 : decode b_C_customer 52 = .ok (.iadd, 1) := by decide +kernel
theorem d_C_customer_53 : decode b_C_customer 53 = .ok (.istore_n 3, 1) := by decide +kernel
theorem d_C_customer_54 : decode b_C_customer 54 = .ok (.aload_n 0, 1) := by decide +kernel
theorem d_C_customer_55 : decode b_C_customer 55 = .ok (.getfield 10, 3) := by decide +kernel
theorem d_C_customer_58 : decode b_C_customer 58 = .ok (.new 54, 3) := by decide +kernel
theorem d_C_customer_61 : decode b_C_customer 61 = .ok (.dup, 1) := by decide +kernel
theorem d_C_customer_62 : decode b_C_customer 62 = .ok (.iload_n 3, 1) := by decide +kernel
theorem d_C_customer_63 : decode b_C_customer 63 = .ok (.iload_n 1, 1) := by decide +kernel
theorem d_C_customer_64 : decode b_C_customer 64 = .ok (.iload_n 2, 1) := by decide +kernel
theorem d_C_customer_65 : decode b_C_customer 65 = .ok (.invokespecial 56, 3) := by decide +kernel
theorem d_C_customer_68 : decode b_C_customer 68 = .ok (.invokevirtual 59, 3) := by decide +kernel
theorem d_C_customer_71 : decode b_C_customer 71 = .ok (.pop, 1) := by decide +kernel
theorem d_C_customer_72 : decode b_C_customer 72 = .ok (.iload_n 3, 1) := by decide +kernel
theorem d_C_customer_73 : decode b_C_customer 73 = .ok (.ireturn, 1) := by decide +kernel
theorem d_C_isWithin_0 : decode b_C_isWithin 0 = .ok (.lload_n 0, 1) := by decide +kernel
theorem d_C_isWithin_1 : decode b_C_isWithin 1 = .ok (.lload_n 2, 1) := by decide +kernel
theorem d_C_isWithin_2 : decode b_C_isWithin 2 = .ok (.lcmp, 1) := by decide +kernel
theorem d_C_isWithin_3 : decode b_C_isWithin 3 = .ok (.ifCond .lt 14, 3) := by decide +kernel
theorem d_C_isWithin_6 : decode b_C_isWithin 6 = .ok (.lload_n 0, 1) := by decide +kernel
theorem d_C_isWithin_7 : decode b_C_isWithin 7 = .ok (.lload 4, 2) := by decide +kernel
theorem d_C_isWithin_9 : decode b_C_isWithin 9 = .ok (.lcmp, 1) := by decide +kernel
theorem d_C_isWithin_10 : decode b_C_isWithin 10 = .ok (.ifCond .gt 7, 3) := by decide +kernel
theorem d_C_isWithin_13 : decode b_C_isWithin 13 = .ok (.iconst 1, 1) := by decide +kernel
theorem d_C_isWithin_14 : decode b_C_isWithin 14 = .ok (.goto 4, 3) := by decide +kernel
theorem d_C_isWithin_17 : decode b_C_isWithin 17 = .ok (.iconst 0, 1) := by decide +kernel
theorem d_C_isWithin_18 : decode b_C_isWithin 18 = .ok (.ireturn, 1) := by decide +kernel
theorem d_K_init_0 : decode b_K_init 0 = .ok (.aload_n 0, 1) := by decide +kernel
theorem d_K_init_1 : decode b_K_init 1 = .ok (.invokespecial 3, 3) := by decide +kernel
theorem d_K_init_4 : decode b_K_init 4 = .ok (.aload_n 0, 1) := by decide +kernel
theorem d_K_init_5 : decode b_K_init 5 = .ok (.iload_n 1, 1) := by decide +kernel
theorem d_K_init_6 : decode b_K_init 6 = .ok (.putfield 9, 3) := by decide +kernel
theorem d_K_init_9 : decode b_K_init 9 = .ok (.aload_n 0, 1) := by decide +kernel
theorem d_K_init_10 : decode b_K_init 10 = .ok (.iload_n 2, 1) := by decide +kernel
theorem d_K_init_11 : decode b_K_init 11 = .ok (.putfield 15, 3) := by decide +kernel
theorem d_K_init_14 : decode b_K_init 14 = .ok (.aload_n 0, 1) := by decide +kernel
theorem d_K_init_15 : decode b_K_init 15 = .ok (.iload_n 3, 1) := by decide +kernel
theorem d_K_init_16 : decode b_K_init 16 = .ok (.putfield 18, 3) := by decide +kernel
theorem d_K_init_19 : decode b_K_init 19 = .ok (.aload_n 0, 1) := by decide +kernel
theorem d_K_init_20 : decode b_K_init 20 = .ok (.bipush 32, 2) := by decide +kernel
theorem d_K_init_22 : decode b_K_init 22 = .ok (.newarray .int, 2) := by decide +kernel
theorem d_K_init_24 : decode b_K_init 24 = .ok (.putfield 21, 3) := by decide +kernel
theorem d_K_init_27 : decode b_K_init 27 = .ok (.iconst 0, 1) := by decide +kernel
theorem d_K_init_28 : decode b_K_init 28 = .ok (.istore 4, 2) := by decide +kernel
theorem d_K_init_30 : decode b_K_init 30 = .ok (.iload 4, 2) := by decide +kernel
theorem d_K_init_32 : decode b_K_init 32 = .ok (.aload_n 0, 1) := by decide +kernel
theorem d_K_init_33 : decode b_K_init 33 = .ok (.getfield 21, 3) := by decide +kernel
theorem d_K_init_36 : decode b_K_init 36 = .ok (.arraylength, 1) := by decide +kernel
theorem d_K_init_37 : decode b_K_init 37 = .ok (.if_icmp .ge 17, 3) := by decide +kernel
theorem d_K_init_40 : decode b_K_init 40 = .ok (.aload_n 0, 1) := by decide +kernel
theorem d_K_init_41 : decode b_K_init 41 = .ok (.getfield 21, 3) := by decide +kernel
theorem d_K_init_44 : decode b_K_init 44 = .ok (.iload 4, 2) := by decide +kernel
theorem d_K_init_46 : decode b_K_init 46 = .ok (.iconst (-1), 1) := by decide +kernel
theorem d_K_init_47 : decode b_K_init 47 = .ok (.iastore, 1) := by decide +kernel
theorem d_K_init_48 : decode b_K_init 48 = .ok (.iinc 4 1, 3) := by decide +kernel
theorem d_K_init_51 : decode b_K_init 51 = .ok (.goto (-21), 3) := by decide +kernel
theorem d_K_init_54 : decode b_K_init 54 = .ok (.return_, 1) := by decide +kernel
theorem d_C_wish_0 : decode b_C_wish 0 = .ok (.aload_n 0, 1) := by decide +kernel
theorem d_C_wish_1 : decode b_C_wish 1 = .ok (.iload_n 1, 1) := by decide +kernel
theorem d_C_wish_2 : decode b_C_wish 2 = .ok (.invokevirtual 63, 3) := by decide +kernel
theorem d_C_wish_5 : decode b_C_wish 5 = .ok (.astore 5, 2) := by decide +kernel
theorem d_C_wish_7 : decode b_C_wish 7 = .ok (.aload 5, 2) := by decide +kernel
theorem d_C_wish_9 : decode b_C_wish 9 = .ok (.ifnonnull 6, 3) := by decide +kernel
theorem d_C_wish_12 : decode b_C_wish 12 = .ok (.bipush (-11), 2) := by decide +kernel
theorem d_C_wish_14 : decode b_C_wish 14 = .ok (.ireturn, 1) := by decide +kernel
theorem d_C_wish_15 : decode b_C_wish 15 = .ok (.iload_n 2, 1) := by decide +kernel
theorem d_C_wish_16 : decode b_C_wish 16 = .ok (.invokestatic 67, 3) := by decide +kernel
theorem d_C_wish_19 : decode b_C_wish 19 = .ok (.ifCond .eq 23, 3) := by decide +kernel
theorem d_C_wish_22 : decode b_C_wish 22 = .ok (.iload_n 3, 1) := by decide +kernel
theorem d_C_wish_23 : decode b_C_wish 23 = .ok (.invokestatic 71, 3) := by decide +kernel
theorem d_C_wish_26 : decode b_C_wish 26 = .ok (.ifCond .eq 16, 3) := by decide +kernel
theorem d_C_wish_29 : decode b_C_wish 29 = .ok (.iload 4, 2) := by decide +kernel
theorem d_C_wish_31 : decode b_C_wish 31 = .ok (.i2l, 1) := by decide +kernel
theorem d_C_wish_32 : decode b_C_wish 32 = .ok (.lconst 0, 1) := by decide +kernel
theorem d_C_wish_33 : decode b_C_wish 33 = .ok (.ldc2_w 40, 3) := by decide +kernel
theorem d_C_wish_36 : decode b_C_wish 36 = .ok (.invokestatic 42, 3) := by decide +kernel
theorem d_C_wish_39 : decode b_C_wish 39 = .ok (.ifCond .ne 6, 3) := by decide +kernel
theorem d_C_wish_42 : decode b_C_wish 42 = .ok (.bipush (-12), 2) := by decide +kernel
theorem d_C_wish_44 : decode b_C_wish 44 = .ok (.ireturn, 1) := by decide +kernel
theorem d_C_wish_45 : decode b_C_wish 45 = .ok (.aload 5, 2) := by decide +kernel
theorem d_C_wish_47 : decode b_C_wish 47 = .ok (.iload_n 2, 1) := by decide +kernel
theorem d_C_wish_48 : decode b_C_wish 48 = .ok (.iload_n 3, 1) := by decide +kernel
theorem d_C_wish_49 : decode b_C_wish 49 = .ok (.iload 4, 2) := by decide +kernel
theorem d_C_wish_51 : decode b_C_wish 51 = .ok (.invokevirtual 74, 3) := by decide +kernel
theorem d_C_wish_54 : decode b_C_wish 54 = .ok (.aload 5, 2) := by decide +kernel
theorem d_C_wish_56 : decode b_C_wish 56 = .ok (.iload_n 2, 1) := by decide +kernel
theorem d_C_wish_57 : decode b_C_wish 57 = .ok (.invokevirtual 77, 3) := by decide +kernel
theorem d_C_wish_60 : decode b_C_wish 60 = .ok (.ireturn, 1) := by decide +kernel
theorem d_C_findCustomer_0 : decode b_C_findCustomer 0 = .ok (.iload_n 1, 1) := by decide +kernel
theorem d_C_findCustomer_1 : decode b_C_findCustomer 1 = .ok (.iconst 1, 1) := by decide +kernel
theorem d_C_findCustomer_2 : decode b_C_findCustomer 2 = .ok (.if_icmp .lt 14, 3) := by decide +kernel
theorem d_C_findCustomer_5 : decode b_C_findCustomer 5 = .ok (.iload_n 1, 1) := by decide +kernel
theorem d_C_findCustomer_6 : decode b_C_findCustomer 6 = .ok (.aload_n 0, 1) := by decide +kernel
theorem d_C_findCustomer_7 : decode b_C_findCustomer 7 = .ok (.getfield 10, 3) := by decide +kernel
theorem d_C_findCustomer_10 : decode b_C_findCustomer 10 = .ok (.invokevirtual 50, 3) := by decide +kernel
theorem d_C_findCustomer_13 : decode b_C_findCustomer 13 = .ok (.if_icmp .le 5, 3) := by decide +kernel
theorem d_C_findCustomer_16 : decode b_C_findCustomer 16 = .ok (.aconst_null, 1) := by decide +kernel
theorem d_C_findCustomer_17 : decode b_C_findCustomer 17 = .ok (.areturn, 1) := by decide +kernel
theorem d_C_findCustomer_18 : decode b_C_findCustomer 18 = .ok (.aload_n 0, 1) := by decide +kernel
theorem d_C_findCustomer_19 : decode b_C_findCustomer 19 = .ok (.getfield 10, 3) := by decide +kernel
theorem d_C_findCustomer_22 : decode b_C_findCustomer 22 = .ok (.iload_n 1, 1) := by decide +kernel
theorem d_C_findCustomer_23 : decode b_C_findCustomer 23 = .ok (.iconst 1, 1) := by decide +kernel
theorem d_C_findCustomer_24 : decode b_C_findCustomer 24 = .ok (.isub, 1) := by decide +kernel
theorem d_C_findCustomer_25 : decode b_C_findCustomer 25 = .ok (.invokevirtual 160, 3) := by decide +kernel
theorem d_C_findCustomer_28 : decode b_C_findCustomer 28 = .ok (.checkcast 54, 3) := by decide +kernel
theorem d_C_findCustomer_31 : decode b_C_findCustomer 31 = .ok (.areturn, 1) := by decide +kernel
theorem d_C_isKind_0 : decode b_C_isKind 0 = .ok (.iload_n 0, 1) := by decide +kernel
theorem d_C_isKind_1 : decode b_C_isKind 1 = .ok (.i2l, 1) := by decide +kernel
theorem d_C_isKind_2 : decode b_C_isKind 2 = .ok (.lconst 0, 1) := by decide +kernel
theorem d_C_isKind_3 : decode b_C_isKind 3 = .ok (.ldc2_w 216, 3) := by decide +kernel
theorem d_C_isKind_6 : decode b_C_isKind 6 = .ok (.invokestatic 42, 3) := by decide +kernel
theorem d_C_isKind_9 : decode b_C_isKind 9 = .ok (.ireturn, 1) := by decide +kernel
theorem d_C_isChannel_0 : decode b_C_isChannel 0 = .ok (.iload_n 0, 1) := by decide +kernel
theorem d_C_isChannel_1 : decode b_C_isChannel 1 = .ok (.i2l, 1) := by decide +kernel
theorem d_C_isChannel_2 : decode b_C_isChannel 2 = .ok (.lconst 0, 1) := by decide +kernel
theorem d_C_isChannel_3 : decode b_C_isChannel 3 = .ok (.ldc2_w 218, 3) := by decide +kernel
theorem d_C_isChannel_6 : decode b_C_isChannel 6 = .ok (.invokestatic 42, 3) := by decide +kernel
theorem d_C_isChannel_9 : decode b_C_isChannel 9 = .ok (.ireturn, 1) := by decide +kernel
theorem d_K_setOrder_0 : decode b_K_setOrder 0 = .ok (.iload_n 1, 1) := by decide +kernel
theorem d_K_setOrder_1 : decode b_K_setOrder 1 = .ok (.invokestatic 25, 3) := by decide +kernel
theorem d_K_setOrder_4 : decode b_K_setOrder 4 = .ok (.ifCond .eq 21, 3) := by decide +kernel
theorem d_K_setOrder_7 : decode b_K_setOrder 7 = .ok (.iload_n 2, 1) := by decide +kernel
theorem d_K_setOrder_8 : decode b_K_setOrder 8 = .ok (.invokestatic 29, 3) := by decide +kernel
theorem d_K_setOrder_11 : decode b_K_setOrder 11 = .ok (.ifCond .eq 14, 3) := by decide +kernel
theorem d_K_setOrder_14 : decode b_K_setOrder 14 = .ok (.aload_n 0, 1) := by decide +kernel
theorem d_K_setOrder_15 : decode b_K_setOrder 15 = .ok (.getfield 21, 3) := by decide +kernel
theorem d_K_setOrder_18 : decode b_K_setOrder 18 = .ok (.iload_n 1, 1) := by decide +kernel
theorem d_K_setOrder_19 : decode b_K_setOrder 19 = .ok (.iconst 4, 1) := by decide +kernel
theorem d_K_setOrder_20 : decode b_K_setOrder 20 = .ok (.imul, 1) := by decide +kernel
theorem d_K_setOrder_21 : decode b_K_setOrder 21 = .ok (.iload_n 2, 1) := by decide +kernel
theorem d_K_setOrder_22 : decode b_K_setOrder 22 = .ok (.iadd, 1) := by decide +kernel
theorem d_K_setOrder_23 : decode b_K_setOrder 23 = .ok (.iload_n 3, 1) := by decide +kernel
theorem d_K_setOrder_24 : decode b_K_setOrder 24 = .ok (.iastore, 1) := by decide +kernel
theorem d_K_setOrder_25 : decode b_K_setOrder 25 = .ok (.return_, 1) := by decide +kernel
theorem d_K_countWishes_0 : decode b_K_countWishes 0 = .ok (.iconst 0, 1) := by decide +kernel
theorem d_K_countWishes_1 : decode b_K_countWishes 1 = .ok (.istore_n 2, 1) := by decide +kernel
theorem d_K_countWishes_2 : decode b_K_countWishes 2 = .ok (.iconst 0, 1) := by decide +kernel
theorem d_K_countWishes_3 : decode b_K_countWishes 3 = .ok (.istore_n 3, 1) := by decide +kernel
theorem d_K_countWishes_4 : decode b_K_countWishes 4 = .ok (.iload_n 3, 1) := by decide +kernel
theorem d_K_countWishes_5 : decode b_K_countWishes 5 = .ok (.iconst 4, 1) := by decide +kernel
theorem d_K_countWishes_6 : decode b_K_countWishes 6 = .ok (.if_icmp .ge 22, 3) := by decide +kernel
theorem d_K_countWishes_9 : decode b_K_countWishes 9 = .ok (.aload_n 0, 1) := by decide +kernel
theorem d_K_countWishes_10 : decode b_K_countWishes 10 = .ok (.iload_n 1, 1) := by decide +kernel
theorem d_K_countWishes_11 : decode b_K_countWishes 11 = .ok (.iload_n 3, 1) := by decide +kernel
theorem d_K_countWishes_12 : decode b_K_countWishes 12 = .ok (.invokevirtual 36, 3) := by decide +kernel
theorem d_K_countWishes_15 : decode b_K_countWishes 15 = .ok (.iconst (-1), 1) := by decide +kernel
theorem d_K_countWishes_16 : decode b_K_countWishes 16 = .ok (.if_icmp .eq 6, 3) := by decide +kernel
theorem d_K_countWishes_19 : decode b_K_countWishes 19 = .ok (.iinc 2 1, 3) := by decide +kernel
theorem d_K_countWishes_22 : decode b_K_countWishes 22 = .ok (.iinc 3 1, 3) := by decide +kernel
theorem d_K_countWishes_25 : decode b_K_countWishes 25 = .ok (.goto (-21), 3) := by decide +kernel
theorem d_K_countWishes_28 : decode b_K_countWishes 28 = .ok (.iload_n 2, 1) := by decide +kernel
theorem d_K_countWishes_29 : decode b_K_countWishes 29 = .ok (.ireturn, 1) := by decide +kernel
theorem d_K_orderOf_0 : decode b_K_orderOf 0 = .ok (.iload_n 1, 1) := by decide +kernel
theorem d_K_orderOf_1 : decode b_K_orderOf 1 = .ok (.invokestatic 25, 3) := by decide +kernel
theorem d_K_orderOf_4 : decode b_K_orderOf 4 = .ok (.ifCond .eq 23, 3) := by decide +kernel
theorem d_K_orderOf_7 : decode b_K_orderOf 7 = .ok (.iload_n 2, 1) := by decide +kernel
theorem d_K_orderOf_8 : decode b_K_orderOf 8 = .ok (.invokestatic 29, 3) := by decide +kernel
theorem d_K_orderOf_11 : decode b_K_orderOf 11 = .ok (.ifCond .eq 16, 3) := by decide +kernel
theorem d_K_orderOf_14 : decode b_K_orderOf 14 = .ok (.aload_n 0, 1) := by decide +kernel
theorem d_K_orderOf_15 : decode b_K_orderOf 15 = .ok (.getfield 21, 3) := by decide +kernel
theorem d_K_orderOf_18 : decode b_K_orderOf 18 = .ok (.iload_n 1, 1) := by decide +kernel
theorem d_K_orderOf_19 : decode b_K_orderOf 19 = .ok (.iconst 4, 1) := by decide +kernel
theorem d_K_orderOf_20 : decode b_K_orderOf 20 = .ok (.imul, 1) := by decide +kernel
theorem d_K_orderOf_21 : decode b_K_orderOf 21 = .ok (.iload_n 2, 1) := by decide +kernel
theorem d_K_orderOf_22 : decode b_K_orderOf 22 = .ok (.iadd, 1) := by decide +kernel
theorem d_K_orderOf_23 : decode b_K_orderOf 23 = .ok (.iaload, 1) := by decide +kernel
theorem d_K_orderOf_24 : decode b_K_orderOf 24 = .ok (.goto 4, 3) := by decide +kernel
theorem d_K_orderOf_27 : decode b_K_orderOf 27 = .ok (.iconst (-1), 1) := by decide +kernel
theorem d_K_orderOf_28 : decode b_K_orderOf 28 = .ok (.ireturn, 1) := by decide +kernel
theorem d_C_quiet_0 : decode b_C_quiet 0 = .ok (.aload_n 0, 1) := by decide +kernel
theorem d_C_quiet_1 : decode b_C_quiet 1 = .ok (.iload_n 1, 1) := by decide +kernel
theorem d_C_quiet_2 : decode b_C_quiet 2 = .ok (.invokevirtual 63, 3) := by decide +kernel
theorem d_C_quiet_5 : decode b_C_quiet 5 = .ok (.astore 4, 2) := by decide +kernel
theorem d_C_quiet_7 : decode b_C_quiet 7 = .ok (.aload 4, 2) := by decide +kernel
theorem d_C_quiet_9 : decode b_C_quiet 9 = .ok (.ifnonnull 6, 3) := by decide +kernel
theorem d_C_quiet_12 : decode b_C_quiet 12 = .ok (.bipush (-11), 2) := by decide +kernel
theorem d_C_quiet_14 : decode b_C_quiet 14 = .ok (.ireturn, 1) := by decide +kernel
theorem d_C_quiet_15 : decode b_C_quiet 15 = .ok (.iload_n 2, 1) := by decide +kernel
theorem d_C_quiet_16 : decode b_C_quiet 16 = .ok (.invokestatic 81, 3) := by decide +kernel
theorem d_C_quiet_19 : decode b_C_quiet 19 = .ok (.ifCond .eq 10, 3) := by decide +kernel
theorem d_C_quiet_22 : decode b_C_quiet 22 = .ok (.iload_n 3, 1) := by decide +kernel
theorem d_C_quiet_23 : decode b_C_quiet 23 = .ok (.invokestatic 81, 3) := by decide +kernel
theorem d_C_quiet_26 : decode b_C_quiet 26 = .ok (.ifCond .ne 6, 3) := by decide +kernel
theorem d_C_quiet_29 : decode b_C_quiet 29 = .ok (.bipush (-12), 2) := by decide +kernel
theorem d_C_quiet_31 : decode b_C_quiet 31 = .ok (.ireturn, 1) := by decide +kernel
theorem d_C_quiet_32 : decode b_C_quiet 32 = .ok (.aload 4, 2) := by decide +kernel
theorem d_C_quiet_34 : decode b_C_quiet 34 = .ok (.iload_n 2, 1) := by decide +kernel
theorem d_C_quiet_35 : decode b_C_quiet 35 = .ok (.putfield 84, 3) := by decide +kernel
theorem d_C_quiet_38 : decode b_C_quiet 38 = .ok (.aload 4, 2) := by decide +kernel
theorem d_C_quiet_40 : decode b_C_quiet 40 = .ok (.iload_n 3, 1) := by decide +kernel
theorem d_C_quiet_41 : decode b_C_quiet 41 = .ok (.putfield 87, 3) := by decide +kernel
theorem d_C_quiet_44 : decode b_C_quiet 44 = .ok (.iload_n 3, 1) := by decide +kernel
theorem d_C_quiet_45 : decode b_C_quiet 45 = .ok (.iload_n 2, 1) := by decide +kernel
theorem d_C_quiet_46 : decode b_C_quiet 46 = .ok (.isub, 1) := by decide +kernel
theorem d_C_quiet_47 : decode b_C_quiet 47 = .ok (.sipush 1440, 3) := by decide +kernel
theorem d_C_quiet_50 : decode b_C_quiet 50 = .ok (.invokestatic 90, 3) := by decide +kernel
theorem d_C_quiet_53 : decode b_C_quiet 53 = .ok (.ireturn, 1) := by decide +kernel
theorem d_C_isMinuteOfDay_0 : decode b_C_isMinuteOfDay 0 = .ok (.iload_n 0, 1) := by decide +kernel
theorem d_C_isMinuteOfDay_1 : decode b_C_isMinuteOfDay 1 = .ok (.i2l, 1) := by decide +kernel
theorem d_C_isMinuteOfDay_2 : decode b_C_isMinuteOfDay 2 = .ok (.lconst 0, 1) := by decide +kernel
theorem d_C_isMinuteOfDay_3 : decode b_C_isMinuteOfDay 3 = .ok (.ldc2_w 220, 3) := by decide +kernel
theorem d_C_isMinuteOfDay_6 : decode b_C_isMinuteOfDay 6 = .ok (.invokestatic 42, 3) := by decide +kernel
theorem d_C_isMinuteOfDay_9 : decode b_C_isMinuteOfDay 9 = .ok (.ireturn, 1) := by decide +kernel
theorem d_C_event_0 : decode b_C_event 0 = .ok (.aload_n 0, 1) := by decide +kernel
theorem d_C_event_1 : decode b_C_event 1 = .ok (.iload_n 1, 1) := by decide +kernel
theorem d_C_event_2 : decode b_C_event 2 = .ok (.invokevirtual 63, 3) := by decide +kernel
theorem d_C_event_5 : decode b_C_event 5 = .ok (.astore 6, 2) := by decide +kernel
theorem d_C_event_7 : decode b_C_event 7 = .ok (.aload 6, 2) := by decide +kernel
theorem d_C_event_9 : decode b_C_event 9 = .ok (.ifnonnull 6, 3) := by decide +kernel
theorem d_C_event_12 : decode b_C_event 12 = .ok (.bipush (-11), 2) := by decide +kernel
theorem d_C_event_14 : decode b_C_event 14 = .ok (.ireturn, 1) := by decide +kernel
theorem d_C_event_15 : decode b_C_event 15 = .ok (.iload_n 2, 1) := by decide +kernel
theorem d_C_event_16 : decode b_C_event 16 = .ok (.invokestatic 96, 3) := by decide +kernel
theorem d_C_event_19 : decode b_C_event 19 = .ok (.ifCond .eq 19, 3) := by decide +kernel
theorem d_C_event_22 : decode b_C_event 22 = .ok (.iload_n 3, 1) := by decide +kernel
theorem d_C_event_23 : decode b_C_event 23 = .ok (.invokestatic 67, 3) := by decide +kernel
theorem d_C_event_26 : decode b_C_event 26 = .ok (.ifCond .eq 12, 3) := by decide +kernel
theorem d_C_event_29 : decode b_C_event 29 = .ok (.aload_n 0, 1) := by decide +kernel
theorem d_C_event_30 : decode b_C_event 30 = .ok (.lload 4, 2) := by decide +kernel
theorem d_C_event_32 : decode b_C_event 32 = .ok (.invokevirtual 99, 3) := by decide +kernel
theorem d_C_event_35 : decode b_C_event 35 = .ok (.ifCond .ne 6, 3) := by decide +kernel
theorem d_C_event_38 : decode b_C_event 38 = .ok (.bipush (-12), 2) := by decide +kernel
theorem d_C_event_40 : decode b_C_event 40 = .ok (.ireturn, 1) := by decide +kernel
theorem d_C_event_41 : decode b_C_event 41 = .ok (.aload_n 0, 1) := by decide +kernel
theorem d_C_event_42 : decode b_C_event 42 = .ok (.iload_n 1, 1) := by decide +kernel
theorem d_C_event_43 : decode b_C_event 43 = .ok (.iload_n 2, 1) := by decide +kernel
theorem d_C_event_44 : decode b_C_event 44 = .ok (.invokevirtual 103, 3) := by decide +kernel
theorem d_C_event_47 : decode b_C_event 47 = .ok (.astore 7, 2) := by decide +kernel
theorem d_C_event_49 : decode b_C_event 49 = .ok (.aload 7, 2) := by decide +kernel
theorem d_C_event_51 : decode b_C_event 51 = .ok (.ifnull 13, 3) := by decide +kernel
theorem d_C_event_54 : decode b_C_event 54 = .ok (.aload 7, 2) := by decide +kernel
theorem d_C_event_56 : decode b_C_event 56 = .ok (.getfield 107, 3) := by decide +kernel
theorem d_C_event_59 : decode b_C_event 59 = .ok (.ifCond .eq 5, 3) := by decide +kernel
theorem d_C_event_62 : decode b_C_event 62 = .ok (.iconst 0, 1) := by decide +kernel
theorem d_C_event_63 : decode b_C_event 63 = .ok (.ireturn, 1) := by decide +kernel
theorem d_C_event_64 : decode b_C_event 64 = .ok (.aload 6, 2) := by decide +kernel
theorem d_C_event_66 : decode b_C_event 66 = .ok (.iload_n 3, 1) := by decide +kernel
theorem d_C_event_67 : decode b_C_event 67 = .ok (.invokevirtual 77, 3) := by decide +kernel
theorem d_C_event_70 : decode b_C_event 70 = .ok (.ifCond .le 7, 3) := by decide +kernel
theorem d_C_event_73 : decode b_C_event 73 = .ok (.iconst 1, 1) := by decide +kernel
theorem d_C_event_74 : decode b_C_event 74 = .ok (.goto 4, 3) := by decide +kernel
theorem d_C_event_77 : decode b_C_event 77 = .ok (.iconst 0, 1) := by decide +kernel
theorem d_C_event_78 : decode b_C_event 78 = .ok (.istore 8, 2) := by decide +kernel
theorem d_C_event_80 : decode b_C_event 80 = .ok (.iload_n 3, 1) := by decide +kernel
theorem d_C_event_81 : decode b_C_event 81 = .ok (.invokestatic 113, 3) := by decide +kernel
theorem d_C_event_84 : decode b_C_event 84 = .ok (.ifCond .eq 12, 3) := by decide +kernel
theorem d_C_event_87 : decode b_C_event 87 = .ok (.aload 7, 2) := by decide +kernel
theorem d_C_event_89 : decode b_C_event 89 = .ok (.ifnonnull 7, 3) := by decide +kernel
theorem d_C_event_92 : decode b_C_event 92 = .ok (.iconst 1, 1) := by decide +kernel
theorem d_C_event_93 : decode b_C_event 93 = .ok (.goto 4, 3) := by decide +kernel
theorem d_C_event_96 : decode b_C_event 96 = .ok (.iconst 0, 1) := by decide +kernel
theorem d_C_event_97 : decode b_C_event 97 = .ok (.istore 9, 2) := by decide +kernel
theorem d_C_event_99 : decode b_C_event 99 = .ok (.iload 8, 2) := by decide +kernel
theorem d_C_event_101 : decode b_C_event 101 = .ok (.ifCond .eq 10, 3) := by decide +kernel
theorem d_C_event_104 : decode b_C_event 104 = .ok (.aload_n 0, 1) := by decide +kernel
theorem d_C_event_105 : decode b_C_event 105 = .ok (.invokevirtual 116, 3) := by decide +kernel
theorem d_C_event_108 : decode b_C_event 108 = .ok (.ifCond .ne 15, 3) := by decide +kernel
theorem d_C_event_111 : decode b_C_event 111 = .ok (.iload 9, 2) := by decide +kernel
theorem d_C_event_113 : decode b_C_event 113 = .ok (.ifCond .eq 13, 3) := by decide +kernel
theorem d_C_event_116 : decode b_C_event 116 = .ok (.aload_n 0, 1) := by decide +kernel
theorem d_C_event_117 : decode b_C_event 117 = .ok (.invokevirtual 120, 3) := by decide +kernel
theorem d_C_event_120 : decode b_C_event 120 = .ok (.ifCond .eq 6, 3) := by decide +kernel
theorem d_C_event_123 : decode b_C_event 123 = .ok (.bipush (-14), 2) := by decide +kernel
theorem d_C_event_125 : decode b_C_event 125 = .ok (.ireturn, 1) := by decide +kernel
theorem d_C_event_126 : decode b_C_event 126 = .ok (.iload_n 3, 1) := by decide +kernel
theorem d_C_event_127 : decode b_C_event 127 = .ok (.invokestatic 113, 3) := by decide +kernel
theorem d_C_event_130 : decode b_C_event 130 = .ok (.ifCond .eq 27, 3) := by decide +kernel
theorem d_C_event_133 : decode b_C_event 133 = .ok (.aload 7, 2) := by decide +kernel
theorem d_C_event_135 : decode b_C_event 135 = .ok (.ifnonnull 12, 3) := by decide +kernel
theorem d_C_event_138 : decode b_C_event 138 = .ok (.aload_n 0, 1) := by decide +kernel
theorem d_C_event_139 : decode b_C_event 139 = .ok (.iload_n 1, 1) := by decide +kernel
theorem d_C_event_140 : decode b_C_event 140 = .ok (.iload_n 2, 1) := by decide +kernel
theorem d_C_event_141 : decode b_C_event 141 = .ok (.invokevirtual 123, 3) := by decide +kernel
theorem d_C_event_144 : decode b_C_event 144 = .ok (.goto 5, 3) := by decide +kernel
theorem d_C_event_147 : decode b_C_event 147 = .ok (.aload 7, 2) := by decide +kernel
theorem d_C_event_149 : decode b_C_event 149 = .ok (.astore 10, 2) := by decide +kernel
theorem d_C_event_151 : decode b_C_event 151 = .ok (.aload 10, 2) := by decide +kernel
theorem d_C_event_153 : decode b_C_event 153 = .ok (.iconst 1, 1) := by decide +kernel
theorem d_C_event_154 : decode b_C_event 154 = .ok (.putfield 107, 3) := by decide +kernel
theorem d_C_event_157 : decode b_C_event 157 = .ok (.iload 8, 2) := by decide +kernel
theorem d_C_event_159 : decode b_C_event 159 = .ok (.ifCond .eq 19, 3) := by decide +kernel
theorem d_C_event_162 : decode b_C_event 162 = .ok (.aload_n 0, 1) := by decide +kernel
theorem d_C_event_163 : decode b_C_event 163 = .ok (.aload 6, 2) := by decide +kernel
theorem d_C_event_165 : decode b_C_event 165 = .ok (.iload_n 2, 1) := by decide +kernel
theorem d_C_event_166 : decode b_C_event 166 = .ok (.iload_n 3, 1) := by decide +kernel
theorem d_C_event_167 : decode b_C_event 167 = .ok (.lload 4, 2) := by decide +kernel
theorem d_C_event_169 : decode b_C_event 169 = .ok (.invokevirtual 126, 3) := by decide +kernel
theorem d_C_event_172 : decode b_C_event 172 = .ok (.getfield 130, 3) := by decide +kernel
theorem d_C_event_175 : decode b_C_event 175 = .ok (.goto 4, 3) := by decide +kernel
theorem d_C_event_178 : decode b_C_event 178 = .ok (.iconst 0, 1) := by decide +kernel
theorem d_C_event_179 : decode b_C_event 179 = .ok (.ireturn, 1) := by decide +kernel
theorem d_C_isItemNumber_0 : decode b_C_isItemNumber 0 = .ok (.iload_n 0, 1) := by decide +kernel
theorem d_C_isItemNumber_1 : decode b_C_isItemNumber 1 = .ok (.i2l, 1) := by decide +kernel
theorem d_C_isItemNumber_2 : decode b_C_isItemNumber 2 = .ok (.lconst 1, 1) := by decide +kernel
theorem d_C_isItemNumber_3 : decode b_C_isItemNumber 3 = .ok (.ldc2_w 222, 3) := by decide +kernel
theorem d_C_isItemNumber_6 : decode b_C_isItemNumber 6 = .ok (.invokestatic 42, 3) := by decide +kernel
theorem d_C_isItemNumber_9 : decode b_C_isItemNumber 9 = .ok (.ireturn, 1) := by decide +kernel
theorem d_C_isTimeFromNow_0 : decode b_C_isTimeFromNow 0 = .ok (.lload_n 1, 1) := by decide +kernel
theorem d_C_isTimeFromNow_1 : decode b_C_isTimeFromNow 1 = .ok (.aload_n 0, 1) := by decide +kernel
theorem d_C_isTimeFromNow_2 : decode b_C_isTimeFromNow 2 = .ok (.getfield 32, 3) := by decide +kernel
theorem d_C_isTimeFromNow_5 : decode b_C_isTimeFromNow 5 = .ok (.ldc2_w 135, 3) := by decide +kernel
theorem d_C_isTimeFromNow_8 : decode b_C_isTimeFromNow 8 = .ok (.invokestatic 42, 3) := by decide +kernel
theorem d_C_isTimeFromNow_11 : decode b_C_isTimeFromNow 11 = .ok (.ireturn, 1) := by decide +kernel
theorem d_C_findItem_0 : decode b_C_findItem 0 = .ok (.iconst 0, 1) := by decide +kernel
theorem d_C_findItem_1 : decode b_C_findItem 1 = .ok (.istore_n 3, 1) := by decide +kernel
theorem d_C_findItem_2 : decode b_C_findItem 2 = .ok (.iload_n 3, 1) := by decide +kernel
theorem d_C_findItem_3 : decode b_C_findItem 3 = .ok (.aload_n 0, 1) := by decide +kernel
theorem d_C_findItem_4 : decode b_C_findItem 4 = .ok (.getfield 19, 3) := by decide +kernel
theorem d_C_findItem_7 : decode b_C_findItem 7 = .ok (.invokevirtual 50, 3) := by decide +kernel
theorem d_C_findItem_10 : decode b_C_findItem 10 = .ok (.if_icmp .ge 43, 3) := by decide +kernel
theorem d_C_findItem_13 : decode b_C_findItem 13 = .ok (.aload_n 0, 1) := by decide +kernel
theorem d_C_findItem_14 : decode b_C_findItem 14 = .ok (.getfield 19, 3) := by decide +kernel
theorem d_C_findItem_17 : decode b_C_findItem 17 = .ok (.iload_n 3, 1) := by decide +kernel
theorem d_C_findItem_18 : decode b_C_findItem 18 = .ok (.invokevirtual 160, 3) := by decide +kernel
theorem d_C_findItem_21 : decode b_C_findItem 21 = .ok (.checkcast 108, 3) := by decide +kernel
theorem d_C_findItem_24 : decode b_C_findItem 24 = .ok (.astore 4, 2) := by decide +kernel
theorem d_C_findItem_26 : decode b_C_findItem 26 = .ok (.aload 4, 2) := by decide +kernel
theorem d_C_findItem_28 : decode b_C_findItem 28 = .ok (.getfield 224, 3) := by decide +kernel
theorem d_C_findItem_31 : decode b_C_findItem 31 = .ok (.iload_n 1, 1) := by decide +kernel
theorem d_C_findItem_32 : decode b_C_findItem 32 = .ok (.if_icmp .ne 15, 3) := by decide +kernel
theorem d_C_findItem_35 : decode b_C_findItem 35 = .ok (.aload 4, 2) := by decide +kernel
theorem d_C_findItem_37 : decode b_C_findItem 37 = .ok (.getfield 227, 3) := by decide +kernel
theorem d_C_findItem_40 : decode b_C_findItem 40 = .ok (.iload_n 2, 1) := by decide +kernel
theorem d_C_findItem_41 : decode b_C_findItem 41 = .ok (.if_icmp .ne 6, 3) := by decide +kernel
theorem d_C_findItem_44 : decode b_C_findItem 44 = .ok (.aload 4, 2) := by decide +kernel
theorem d_C_findItem_46 : decode b_C_findItem 46 = .ok (.areturn, 1) := by decide +kernel
theorem d_C_findItem_47 : decode b_C_findItem 47 = .ok (.iinc 3 1, 3) := by decide +kernel
theorem d_C_findItem_50 : decode b_C_findItem 50 = .ok (.goto (-48), 3) := by decide +kernel
theorem d_C_findItem_53 : decode b_C_findItem 53 = .ok (.aconst_null, 1) := by decide +kernel
theorem d_C_findItem_54 : decode b_C_findItem 54 = .ok (.areturn, 1) := by decide +kernel
theorem d_C_isEnd_0 : decode b_C_isEnd 0 = .ok (.iload_n 0, 1) := by decide +kernel
theorem d_C_isEnd_1 : decode b_C_isEnd 1 = .ok (.iconst 5, 1) := by decide +kernel
theorem d_C_isEnd_2 : decode b_C_isEnd 2 = .ok (.if_icmp .eq 9, 3) := by decide +kernel
theorem d_C_isEnd_5 : decode b_C_isEnd 5 = .ok (.iload_n 0, 1) := by decide +kernel
theorem d_C_isEnd_6 : decode b_C_isEnd 6 = .ok (.bipush 6, 2) := by decide +kernel
theorem d_C_isEnd_8 : decode b_C_isEnd 8 = .ok (.if_icmp .ne 7, 3) := by decide +kernel
theorem d_C_isEnd_11 : decode b_C_isEnd 11 = .ok (.iconst 1, 1) := by decide +kernel
theorem d_C_isEnd_12 : decode b_C_isEnd 12 = .ok (.goto 4, 3) := by decide +kernel
theorem d_C_isEnd_15 : decode b_C_isEnd 15 = .ok (.iconst 0, 1) := by decide +kernel
theorem d_C_isEnd_16 : decode b_C_isEnd 16 = .ok (.ireturn, 1) := by decide +kernel
theorem d_C_noticesAreFull_0 : decode b_C_noticesAreFull 0 = .ok (.aload_n 0, 1) := by decide +kernel
theorem d_C_noticesAreFull_1 : decode b_C_noticesAreFull 1 = .ok (.getfield 16, 3) := by decide +kernel
theorem d_C_noticesAreFull_4 : decode b_C_noticesAreFull 4 = .ok (.invokevirtual 50, 3) := by decide +kernel
theorem d_C_noticesAreFull_7 : decode b_C_noticesAreFull 7 = .ok (.sipush 200, 3) := by decide +kernel
theorem d_C_noticesAreFull_10 : decode b_C_noticesAreFull 10 = .ok (.if_icmp .lt 7, 3) := by decide +kernel
theorem d_C_noticesAreFull_13 : decode b_C_noticesAreFull 13 = .ok (.iconst 1, 1) := by decide +kernel
theorem d_C_noticesAreFull_14 : decode b_C_noticesAreFull 14 = .ok (.goto 4, 3) := by decide +kernel
theorem d_C_noticesAreFull_17 : decode b_C_noticesAreFull 17 = .ok (.iconst 0, 1) := by decide +kernel
theorem d_C_noticesAreFull_18 : decode b_C_noticesAreFull 18 = .ok (.ireturn, 1) := by decide +kernel
theorem d_C_itemsAreFull_0 : decode b_C_itemsAreFull 0 = .ok (.aload_n 0, 1) := by decide +kernel
theorem d_C_itemsAreFull_1 : decode b_C_itemsAreFull 1 = .ok (.getfield 19, 3) := by decide +kernel
theorem d_C_itemsAreFull_4 : decode b_C_itemsAreFull 4 = .ok (.invokevirtual 50, 3) := by decide +kernel
theorem d_C_itemsAreFull_7 : decode b_C_itemsAreFull 7 = .ok (.bipush 60, 2) := by decide +kernel
theorem d_C_itemsAreFull_9 : decode b_C_itemsAreFull 9 = .ok (.if_icmp .lt 7, 3) := by decide +kernel
theorem d_C_itemsAreFull_12 : decode b_C_itemsAreFull 12 = .ok (.iconst 1, 1) := by decide +kernel
theorem d_C_itemsAreFull_13 : decode b_C_itemsAreFull 13 = .ok (.goto 4, 3) := by decide +kernel
theorem d_C_itemsAreFull_16 : decode b_C_itemsAreFull 16 = .ok (.iconst 0, 1) := by decide +kernel
theorem d_C_itemsAreFull_17 : decode b_C_itemsAreFull 17 = .ok (.ireturn, 1) := by decide +kernel
theorem d_C_addItem_0 : decode b_C_addItem 0 = .ok (.new 108, 3) := by decide +kernel
theorem d_C_addItem_3 : decode b_C_addItem 3 = .ok (.dup, 1) := by decide +kernel
theorem d_C_addItem_4 : decode b_C_addItem 4 = .ok (.iload_n 1, 1) := by decide +kernel
theorem d_C_addItem_5 : decode b_C_addItem 5 = .ok (.iload_n 2, 1) := by decide +kernel
theorem d_C_addItem_6 : decode b_C_addItem 6 = .ok (.invokespecial 230, 3) := by decide +kernel
theorem d_C_addItem_9 : decode b_C_addItem 9 = .ok (.astore_n 3, 1) := by decide +kernel
theorem d_C_addItem_10 : decode b_C_addItem 10 = .ok (.aload_n 0, 1) := by decide +kernel
theorem d_C_addItem_11 : decode b_C_addItem 11 = .ok (.getfield 19, 3) := by decide +kernel
theorem d_C_addItem_14 : decode b_C_addItem 14 = .ok (.aload_n 3, 1) := by decide +kernel
theorem d_C_addItem_15 : decode b_C_addItem 15 = .ok (.invokevirtual 59, 3) := by decide +kernel
theorem d_C_addItem_18 : decode b_C_addItem 18 = .ok (.pop, 1) := by decide +kernel
theorem d_C_addItem_19 : decode b_C_addItem 19 = .ok (.aload_n 3, 1) := by decide +kernel
theorem d_C_addItem_20 : decode b_C_addItem 20 = .ok (.areturn, 1) := by decide +kernel
theorem d_I_init_0 : decode b_I_init 0 = .ok (.aload_n 0, 1) := by decide +kernel
theorem d_I_init_1 : decode b_I_init 1 = .ok (.invokespecial 1, 3) := by decide +kernel
theorem d_I_init_4 : decode b_I_init 4 = .ok (.aload_n 0, 1) := by decide +kernel
theorem d_I_init_5 : decode b_I_init 5 = .ok (.iload_n 1, 1) := by decide +kernel
theorem d_I_init_6 : decode b_I_init 6 = .ok (.putfield 7, 3) := by decide +kernel
theorem d_I_init_9 : decode b_I_init 9 = .ok (.aload_n 0, 1) := by decide +kernel
theorem d_I_init_10 : decode b_I_init 10 = .ok (.iload_n 2, 1) := by decide +kernel
theorem d_I_init_11 : decode b_I_init 11 = .ok (.putfield 13, 3) := by decide +kernel
theorem d_I_init_14 : decode b_I_init 14 = .ok (.return_, 1) := by decide +kernel
theorem d_C_addNotice_0 : decode b_C_addNotice 0 = .ok (.new 131, 3) := by decide +kernel
theorem d_C_addNotice_3 : decode b_C_addNotice 3 = .ok (.dup, 1) := by decide +kernel
theorem d_C_addNotice_4 : decode b_C_addNotice 4 = .ok (.aload_n 0, 1) := by decide +kernel
theorem d_C_addNotice_5 : decode b_C_addNotice 5 = .ok (.getfield 16, 3) := by decide +kernel
theorem d_C_addNotice_8 : decode b_C_addNotice 8 = .ok (.invokevirtual 50, 3) := by decide +kernel
theorem d_C_addNotice_11 : decode b_C_addNotice 11 = .ok (.iconst 1, 1) := by decide +kernel
theorem d_C_addNotice_12 : decode b_C_addNotice 12 = .ok (.iadd, 1) := by decide +kernel
theorem d_C_addNotice_13 : decode b_C_addNotice 13 = .ok (.aload_n 1, 1) := by decide +kernel
theorem d_C_addNotice_14 : decode b_C_addNotice 14 = .ok (.iload_n 2, 1) := by decide +kernel
theorem d_C_addNotice_15 : decode b_C_addNotice 15 = .ok (.iload_n 3, 1) := by decide +kernel
theorem d_C_addNotice_16 : decode b_C_addNotice 16 = .ok (.lload 4, 2) := by decide +kernel
theorem d_C_addNotice_18 : decode b_C_addNotice 18 = .ok (.invokespecial 232, 3) := by decide +kernel
theorem d_C_addNotice_21 : decode b_C_addNotice 21 = .ok (.astore 6, 2) := by decide +kernel
theorem d_C_addNotice_23 : decode b_C_addNotice 23 = .ok (.aload_n 0, 1) := by decide +kernel
theorem d_C_addNotice_24 : decode b_C_addNotice 24 = .ok (.getfield 16, 3) := by decide +kernel
theorem d_C_addNotice_27 : decode b_C_addNotice 27 = .ok (.aload 6, 2) := by decide +kernel
theorem d_C_addNotice_29 : decode b_C_addNotice 29 = .ok (.invokevirtual 59, 3) := by decide +kernel
theorem d_C_addNotice_32 : decode b_C_addNotice 32 = .ok (.pop, 1) := by decide +kernel
theorem d_C_addNotice_33 : decode b_C_addNotice 33 = .ok (.aload 6, 2) := by decide +kernel
theorem d_C_addNotice_35 : decode b_C_addNotice 35 = .ok (.areturn, 1) := by decide +kernel
theorem d_N_init_0 : decode b_N_init 0 = .ok (.aload_n 0, 1) := by decide +kernel
theorem d_N_init_1 : decode b_N_init 1 = .ok (.invokespecial 3, 3) := by decide +kernel
theorem d_N_init_4 : decode b_N_init 4 = .ok (.aload_n 0, 1) := by decide +kernel
theorem d_N_init_5 : decode b_N_init 5 = .ok (.iload_n 1, 1) := by decide +kernel
theorem d_N_init_6 : decode b_N_init 6 = .ok (.putfield 9, 3) := by decide +kernel
theorem d_N_init_9 : decode b_N_init 9 = .ok (.aload_n 0, 1) := by decide +kernel
theorem d_N_init_10 : decode b_N_init 10 = .ok (.aload_n 2, 1) := by decide +kernel
theorem d_N_init_11 : decode b_N_init 11 = .ok (.putfield 15, 3) := by decide +kernel
theorem d_N_init_14 : decode b_N_init 14 = .ok (.aload_n 0, 1) := by decide +kernel
theorem d_N_init_15 : decode b_N_init 15 = .ok (.iload_n 3, 1) := by decide +kernel
theorem d_N_init_16 : decode b_N_init 16 = .ok (.putfield 19, 3) := by decide +kernel
theorem d_N_init_19 : decode b_N_init 19 = .ok (.aload_n 0, 1) := by decide +kernel
theorem d_N_init_20 : decode b_N_init 20 = .ok (.iload 4, 2) := by decide +kernel
theorem d_N_init_22 : decode b_N_init 22 = .ok (.putfield 22, 3) := by decide +kernel
theorem d_N_init_25 : decode b_N_init 25 = .ok (.aload_n 0, 1) := by decide +kernel
theorem d_N_init_26 : decode b_N_init 26 = .ok (.lload 5, 2) := by decide +kernel
theorem d_N_init_28 : decode b_N_init 28 = .ok (.putfield 25, 3) := by decide +kernel
theorem d_N_init_31 : decode b_N_init 31 = .ok (.aload_n 0, 1) := by decide +kernel
theorem d_N_init_32 : decode b_N_init 32 = .ok (.iconst 0, 1) := by decide +kernel
theorem d_N_init_33 : decode b_N_init 33 = .ok (.putfield 29, 3) := by decide +kernel
theorem d_N_init_36 : decode b_N_init 36 = .ok (.aload_n 0, 1) := by decide +kernel
theorem d_N_init_37 : decode b_N_init 37 = .ok (.ldc2_w 32, 3) := by decide +kernel
theorem d_N_init_40 : decode b_N_init 40 = .ok (.putfield 34, 3) := by decide +kernel
theorem d_N_init_43 : decode b_N_init 43 = .ok (.return_, 1) := by decide +kernel
theorem d_C_promise_0 : decode b_C_promise 0 = .ok (.aload_n 0, 1) := by decide +kernel
theorem d_C_promise_1 : decode b_C_promise 1 = .ok (.iload_n 1, 1) := by decide +kernel
theorem d_C_promise_2 : decode b_C_promise 2 = .ok (.invokevirtual 63, 3) := by decide +kernel
theorem d_C_promise_5 : decode b_C_promise 5 = .ok (.astore 7, 2) := by decide +kernel
theorem d_C_promise_7 : decode b_C_promise 7 = .ok (.aload 7, 2) := by decide +kernel
theorem d_C_promise_9 : decode b_C_promise 9 = .ok (.ifnonnull 6, 3) := by decide +kernel
theorem d_C_promise_12 : decode b_C_promise 12 = .ok (.bipush (-11), 2) := by decide +kernel
theorem d_C_promise_14 : decode b_C_promise 14 = .ok (.ireturn, 1) := by decide +kernel
theorem d_C_promise_15 : decode b_C_promise 15 = .ok (.iload_n 2, 1) := by decide +kernel
theorem d_C_promise_16 : decode b_C_promise 16 = .ok (.invokestatic 96, 3) := by decide +kernel
theorem d_C_promise_19 : decode b_C_promise 19 = .ok (.ifCond .eq 26, 3) := by decide +kernel
theorem d_C_promise_22 : decode b_C_promise 22 = .ok (.lload_n 3, 1) := by decide +kernel
theorem d_C_promise_23 : decode b_C_promise 23 = .ok (.lconst 0, 1) := by decide +kernel
theorem d_C_promise_24 : decode b_C_promise 24 = .ok (.ldc2_w 135, 3) := by decide +kernel
theorem d_C_promise_27 : decode b_C_promise 27 = .ok (.invokestatic 42, 3) := by decide +kernel
theorem d_C_promise_30 : decode b_C_promise 30 = .ok (.ifCond .eq 15, 3) := by decide +kernel
theorem d_C_promise_33 : decode b_C_promise 33 = .ok (.lload 5, 2) := by decide +kernel
theorem d_C_promise_35 : decode b_C_promise 35 = .ok (.lconst 0, 1) := by decide +kernel
theorem d_C_promise_36 : decode b_C_promise 36 = .ok (.ldc2_w 137, 3) := by decide +kernel
theorem d_C_promise_39 : decode b_C_promise 39 = .ok (.invokestatic 42, 3) := by decide +kernel
theorem d_C_promise_42 : decode b_C_promise 42 = .ok (.ifCond .ne 6, 3) := by decide +kernel
theorem d_C_promise_45 : decode b_C_promise 45 = .ok (.bipush (-12), 2) := by decide +kernel
theorem d_C_promise_47 : decode b_C_promise 47 = .ok (.ireturn, 1) := by decide +kernel
theorem d_C_promise_48 : decode b_C_promise 48 = .ok (.aload_n 0, 1) := by decide +kernel
theorem d_C_promise_49 : decode b_C_promise 49 = .ok (.iload_n 1, 1) := by decide +kernel
theorem d_C_promise_50 : decode b_C_promise 50 = .ok (.iload_n 2, 1) := by decide +kernel
theorem d_C_promise_51 : decode b_C_promise 51 = .ok (.invokevirtual 103, 3) := by decide +kernel
theorem d_C_promise_54 : decode b_C_promise 54 = .ok (.astore 8, 2) := by decide +kernel
theorem d_C_promise_56 : decode b_C_promise 56 = .ok (.aload 7, 2) := by decide +kernel
theorem d_C_promise_58 : decode b_C_promise 58 = .ok (.iconst 3, 1) := by decide +kernel
theorem d_C_promise_59 : decode b_C_promise 59 = .ok (.invokevirtual 77, 3) := by decide +kernel
theorem d_C_promise_62 : decode b_C_promise 62 = .ok (.ifCond .eq 16, 3) := by decide +kernel
theorem d_C_promise_65 : decode b_C_promise 65 = .ok (.aload 8, 2) := by decide +kernel
theorem d_C_promise_67 : decode b_C_promise 67 = .ok (.ifnull 13, 3) := by decide +kernel
theorem d_C_promise_70 : decode b_C_promise 70 = .ok (.aload 8, 2) := by decide +kernel
theorem d_C_promise_72 : decode b_C_promise 72 = .ok (.getfield 107, 3) := by decide +kernel
theorem d_C_promise_75 : decode b_C_promise 75 = .ok (.ifCond .eq 5, 3) := by decide +kernel
theorem d_C_promise_78 : decode b_C_promise 78 = .ok (.iconst 0, 1) := by decide +kernel
theorem d_C_promise_79 : decode b_C_promise 79 = .ok (.ireturn, 1) := by decide +kernel
theorem d_C_promise_80 : decode b_C_promise 80 = .ok (.aload 8, 2) := by decide +kernel
theorem d_C_promise_82 : decode b_C_promise 82 = .ok (.ifnonnull 7, 3) := by decide +kernel
theorem d_C_promise_85 : decode b_C_promise 85 = .ok (.aconst_null, 1) := by decide +kernel
theorem d_C_promise_86 : decode b_C_promise 86 = .ok (.goto 8, 3) := by decide +kernel
theorem d_C_promise_89 : decode b_C_promise 89 = .ok (.aload 8, 2) := by decide +kernel
theorem d_C_promise_91 : decode b_C_promise 91 = .ok (.getfield 139, 3) := by decide +kernel
theorem d_C_promise_94 : decode b_C_promise 94 = .ok (.astore 9, 2) := by decide +kernel
theorem d_C_promise_96 : decode b_C_promise 96 = .ok (.aload 9, 2) := by decide +kernel
theorem d_C_promise_98 : decode b_C_promise 98 = .ok (.ifnonnull 14, 3) := by decide +kernel
theorem d_C_promise_101 : decode b_C_promise 101 = .ok (.aload_n 0, 1) := by decide +kernel
theorem d_C_promise_102 : decode b_C_promise 102 = .ok (.aload 7, 2) := by decide +kernel
theorem d_C_promise_104 : decode b_C_promise 104 = .ok (.iload_n 2, 1) := by decide +kernel
theorem d_C_promise_105 : decode b_C_promise 105 = .ok (.aload 8, 2) := by decide +kernel
theorem d_C_promise_107 : decode b_C_promise 107 = .ok (.lload_n 3, 1) := by decide +kernel
theorem d_C_promise_108 : decode b_C_promise 108 = .ok (.invokevirtual 143, 3) := by decide +kernel
theorem d_C_promise_111 : decode b_C_promise 111 = .ok (.ireturn, 1) := by decide +kernel
theorem d_C_promise_112 : decode b_C_promise 112 = .ok (.lload_n 3, 1) := by decide +kernel
theorem d_C_promise_113 : decode b_C_promise 113 = .ok (.aload 9, 2) := by decide +kernel
theorem d_C_promise_115 : decode b_C_promise 115 = .ok (.getfield 147, 3) := by decide +kernel
theorem d_C_promise_118 : decode b_C_promise 118 = .ok (.lsub, 1) := by decide +kernel
theorem d_C_promise_119 : decode b_C_promise 119 = .ok (.invokestatic 150, 3) := by decide +kernel
theorem d_C_promise_122 : decode b_C_promise 122 = .ok (.lload 5, 2) := by decide +kernel
theorem d_C_promise_124 : decode b_C_promise 124 = .ok (.lcmp, 1) := by decide +kernel
theorem d_C_promise_125 : decode b_C_promise 125 = .ok (.ifCond .gt 5, 3) := by decide +kernel
theorem d_C_promise_128 : decode b_C_promise 128 = .ok (.iconst 0, 1) := by decide +kernel
theorem d_C_promise_129 : decode b_C_promise 129 = .ok (.ireturn, 1) := by decide +kernel
theorem d_C_promise_130 : decode b_C_promise 130 = .ok (.aload 9, 2) := by decide +kernel
theorem d_C_promise_132 : decode b_C_promise 132 = .ok (.getfield 154, 3) := by decide +kernel
theorem d_C_promise_135 : decode b_C_promise 135 = .ok (.ifCond .ne 15, 3) := by decide +kernel
theorem d_C_promise_138 : decode b_C_promise 138 = .ok (.aload 9, 2) := by decide +kernel
theorem d_C_promise_140 : decode b_C_promise 140 = .ok (.lload_n 3, 1) := by decide +kernel
theorem d_C_promise_141 : decode b_C_promise 141 = .ok (.putfield 147, 3) := by decide +kernel
theorem d_C_promise_144 : decode b_C_promise 144 = .ok (.aload 9, 2) := by decide +kernel
theorem d_C_promise_146 : decode b_C_promise 146 = .ok (.getfield 130, 3) := by decide +kernel
theorem d_C_promise_149 : decode b_C_promise 149 = .ok (.ireturn, 1) := by decide +kernel
theorem d_C_promise_150 : decode b_C_promise 150 = .ok (.aload_n 0, 1) := by decide +kernel
theorem d_C_promise_151 : decode b_C_promise 151 = .ok (.aload 7, 2) := by decide +kernel
theorem d_C_promise_153 : decode b_C_promise 153 = .ok (.iload_n 2, 1) := by decide +kernel
theorem d_C_promise_154 : decode b_C_promise 154 = .ok (.aload 8, 2) := by decide +kernel
theorem d_C_promise_156 : decode b_C_promise 156 = .ok (.lload_n 3, 1) := by decide +kernel
theorem d_C_promise_157 : decode b_C_promise 157 = .ok (.invokevirtual 143, 3) := by decide +kernel
theorem d_C_promise_160 : decode b_C_promise 160 = .ok (.ireturn, 1) := by decide +kernel
theorem d_C_addPromise_0 : decode b_C_addPromise 0 = .ok (.aload_n 0, 1) := by decide +kernel
theorem d_C_addPromise_1 : decode b_C_addPromise 1 = .ok (.invokevirtual 116, 3) := by decide +kernel
theorem d_C_addPromise_4 : decode b_C_addPromise 4 = .ok (.ifCond .ne 14, 3) := by decide +kernel
theorem d_C_addPromise_7 : decode b_C_addPromise 7 = .ok (.aload_n 3, 1) := by decide +kernel
theorem d_C_addPromise_8 : decode b_C_addPromise 8 = .ok (.ifnonnull 13, 3) := by decide +kernel
theorem d_C_addPromise_11 : decode b_C_addPromise 11 = .ok (.aload_n 0, 1) := by decide +kernel
theorem d_C_addPromise_12 : decode b_C_addPromise 12 = .ok (.invokevirtual 120, 3) := by decide +kernel
theorem d_C_addPromise_15 : decode b_C_addPromise 15 = .ok (.ifCond .eq 6, 3) := by decide +kernel
theorem d_C_addPromise_18 : decode b_C_addPromise 18 = .ok (.bipush (-14), 2) := by decide +kernel
theorem d_C_addPromise_20 : decode b_C_addPromise 20 = .ok (.ireturn, 1) := by decide +kernel
theorem d_C_addPromise_21 : decode b_C_addPromise 21 = .ok (.aload_n 0, 1) := by decide +kernel
theorem d_C_addPromise_22 : decode b_C_addPromise 22 = .ok (.aload_n 1, 1) := by decide +kernel
theorem d_C_addPromise_23 : decode b_C_addPromise 23 = .ok (.iload_n 2, 1) := by decide +kernel
theorem d_C_addPromise_24 : decode b_C_addPromise 24 = .ok (.iconst 3, 1) := by decide +kernel
theorem d_C_addPromise_25 : decode b_C_addPromise 25 = .ok (.aload_n 0, 1) := by decide +kernel
theorem d_C_addPromise_26 : decode b_C_addPromise 26 = .ok (.getfield 32, 3) := by decide +kernel
theorem d_C_addPromise_29 : decode b_C_addPromise 29 = .ok (.invokevirtual 126, 3) := by decide +kernel
theorem d_C_addPromise_32 : decode b_C_addPromise 32 = .ok (.astore 6, 2) := by decide +kernel
theorem d_C_addPromise_34 : decode b_C_addPromise 34 = .ok (.aload 6, 2) := by decide +kernel
theorem d_C_addPromise_36 : decode b_C_addPromise 36 = .ok (.lload 4, 2) := by decide +kernel
theorem d_C_addPromise_38 : decode b_C_addPromise 38 = .ok (.putfield 147, 3) := by decide +kernel
theorem d_C_addPromise_41 : decode b_C_addPromise 41 = .ok (.aload_n 3, 1) := by decide +kernel
theorem d_C_addPromise_42 : decode b_C_addPromise 42 = .ok (.ifnonnull 15, 3) := by decide +kernel
theorem d_C_addPromise_45 : decode b_C_addPromise 45 = .ok (.aload_n 0, 1) := by decide +kernel
theorem d_C_addPromise_46 : decode b_C_addPromise 46 = .ok (.aload_n 1, 1) := by decide +kernel
theorem d_C_addPromise_47 : decode b_C_addPromise 47 = .ok (.getfield 189, 3) := by decide +kernel
theorem d_C_addPromise_50 : decode b_C_addPromise 50 = .ok (.iload_n 2, 1) := by decide +kernel
theorem d_C_addPromise_51 : decode b_C_addPromise 51 = .ok (.invokevirtual 123, 3) := by decide +kernel
theorem d_C_addPromise_54 : decode b_C_addPromise 54 = .ok (.goto 4, 3) := by decide +kernel
theorem d_C_addPromise_57 : decode b_C_addPromise 57 = .ok (.aload_n 3, 1) := by decide +kernel
theorem d_C_addPromise_58 : decode b_C_addPromise 58 = .ok (.astore 7, 2) := by decide +kernel
theorem d_C_addPromise_60 : decode b_C_addPromise 60 = .ok (.aload 7, 2) := by decide +kernel
theorem d_C_addPromise_62 : decode b_C_addPromise 62 = .ok (.aload 6, 2) := by decide +kernel
theorem d_C_addPromise_64 : decode b_C_addPromise 64 = .ok (.putfield 139, 3) := by decide +kernel
theorem d_C_addPromise_67 : decode b_C_addPromise 67 = .ok (.aload 6, 2) := by decide +kernel
theorem d_C_addPromise_69 : decode b_C_addPromise 69 = .ok (.getfield 130, 3) := by decide +kernel
theorem d_C_addPromise_72 : decode b_C_addPromise 72 = .ok (.ireturn, 1) := by decide +kernel
theorem d_C_tick_0 : decode b_C_tick 0 = .ok (.aload_n 0, 1) := by decide +kernel
theorem d_C_tick_1 : decode b_C_tick 1 = .ok (.lload_n 1, 1) := by decide +kernel
theorem d_C_tick_2 : decode b_C_tick 2 = .ok (.invokevirtual 99, 3) := by decide +kernel
theorem d_C_tick_5 : decode b_C_tick 5 = .ok (.ifCond .ne 6, 3) := by decide +kernel
theorem d_C_tick_8 : decode b_C_tick 8 = .ok (.bipush (-12), 2) := by decide +kernel
theorem d_C_tick_10 : decode b_C_tick 10 = .ok (.ireturn, 1) := by decide +kernel
theorem d_C_tick_11 : decode b_C_tick 11 = .ok (.aload_n 0, 1) := by decide +kernel
theorem d_C_tick_12 : decode b_C_tick 12 = .ok (.lload_n 1, 1) := by decide +kernel
theorem d_C_tick_13 : decode b_C_tick 13 = .ok (.putfield 32, 3) := by decide +kernel
theorem d_C_tick_16 : decode b_C_tick 16 = .ok (.aload_n 0, 1) := by decide +kernel
theorem d_C_tick_17 : decode b_C_tick 17 = .ok (.invokevirtual 157, 3) := by decide +kernel
theorem d_C_tick_20 : decode b_C_tick 20 = .ok (.aload_n 0, 1) := by decide +kernel
theorem d_C_tick_21 : decode b_C_tick 21 = .ok (.getfield 22, 3) := by decide +kernel
theorem d_C_tick_24 : decode b_C_tick 24 = .ok (.invokevirtual 50, 3) := by decide +kernel
theorem d_C_tick_27 : decode b_C_tick 27 = .ok (.istore_n 3, 1) := by decide +kernel
theorem d_C_tick_28 : decode b_C_tick 28 = .ok (.iconst 0, 1) := by decide +kernel
theorem d_C_tick_29 : decode b_C_tick 29 = .ok (.istore 4, 2) := by decide +kernel
theorem d_C_tick_31 : decode b_C_tick 31 = .ok (.iload 4, 2) := by decide +kernel
theorem d_C_tick_33 : decode b_C_tick 33 = .ok (.aload_n 0, 1) := by decide +kernel
theorem d_C_tick_34 : decode b_C_tick 34 = .ok (.getfield 16, 3) := by decide +kernel
theorem d_C_tick_37 : decode b_C_tick 37 = .ok (.invokevirtual 50, 3) := by decide +kernel
theorem d_C_tick_40 : decode b_C_tick 40 = .ok (.if_icmp .ge 55, 3) := by decide +kernel
theorem d_C_tick_43 : decode b_C_tick 43 = .ok (.aload_n 0, 1) := by decide +kernel
theorem d_C_tick_44 : decode b_C_tick 44 = .ok (.getfield 16, 3) := by decide +kernel
theorem d_C_tick_47 : decode b_C_tick 47 = .ok (.iload 4, 2) := by decide +kernel
theorem d_C_tick_49 : decode b_C_tick 49 = .ok (.invokevirtual 160, 3) := by decide +kernel
theorem d_C_tick_52 : decode b_C_tick 52 = .ok (.checkcast 131, 3) := by decide +kernel
theorem d_C_tick_55 : decode b_C_tick 55 = .ok (.astore 5, 2) := by decide +kernel
theorem d_C_tick_57 : decode b_C_tick 57 = .ok (.aload 5, 2) := by decide +kernel
theorem d_C_tick_59 : decode b_C_tick 59 = .ok (.getfield 154, 3) := by decide +kernel
theorem d_C_tick_62 : decode b_C_tick 62 = .ok (.ifCond .ne 27, 3) := by decide +kernel
theorem d_C_tick_65 : decode b_C_tick 65 = .ok (.aload_n 0, 1) := by decide +kernel
theorem d_C_tick_66 : decode b_C_tick 66 = .ok (.aload 5, 2) := by decide +kernel
theorem d_C_tick_68 : decode b_C_tick 68 = .ok (.invokevirtual 164, 3) := by decide +kernel
theorem d_C_tick_71 : decode b_C_tick 71 = .ok (.ifCond .eq 18, 3) := by decide +kernel
theorem d_C_tick_74 : decode b_C_tick 74 = .ok (.aload_n 0, 1) := by decide +kernel
theorem d_C_tick_75 : decode b_C_tick 75 = .ok (.aload 5, 2) := by decide +kernel
theorem d_C_tick_77 : decode b_C_tick 77 = .ok (.invokevirtual 168, 3) := by decide +kernel
theorem d_C_tick_80 : decode b_C_tick 80 = .ok (.ifCond .ne 9, 3) := by decide +kernel
theorem d_C_tick_83 : decode b_C_tick 83 = .ok (.aload_n 0, 1) := by decide +kernel
theorem d_C_tick_84 : decode b_C_tick 84 = .ok (.aload 5, 2) := by decide +kernel
theorem d_C_tick_86 : decode b_C_tick 86 = .ok (.invokevirtual 171, 3) := by decide +kernel
theorem d_C_tick_89 : decode b_C_tick 89 = .ok (.iinc 4 1, 3) := by decide +kernel
theorem d_C_tick_92 : decode b_C_tick 92 = .ok (.goto (-61), 3) := by decide +kernel
theorem d_C_tick_95 : decode b_C_tick 95 = .ok (.aload_n 0, 1) := by decide +kernel
theorem d_C_tick_96 : decode b_C_tick 96 = .ok (.getfield 22, 3) := by decide +kernel
theorem d_C_tick_99 : decode b_C_tick 99 = .ok (.invokevirtual 50, 3) := by decide +kernel
theorem d_C_tick_102 : decode b_C_tick 102 = .ok (.iload_n 3, 1) := by decide +kernel
theorem d_C_tick_103 : decode b_C_tick 103 = .ok (.isub, 1) := by decide +kernel
theorem d_C_tick_104 : decode b_C_tick 104 = .ok (.ireturn, 1) := by decide +kernel
theorem d_C_prepareCustomersForTick_0 : decode b_C_prepareCustomersForTick 0 = .ok (.iconst 0, 1) := by decide +kernel
theorem d_C_prepareCustomersForTick_1 : decode b_C_prepareCustomersForTick 1 = .ok (.istore_n 1, 1) := by decide +kernel
theorem d_C_prepareCustomersForTick_2 : decode b_C_prepareCustomersForTick 2 = .ok (.iload_n 1, 1) := by decide +kernel
theorem d_C_prepareCustomersForTick_3 : decode b_C_prepareCustomersForTick 3 = .ok (.aload_n 0, 1) := by decide +kernel
theorem d_C_prepareCustomersForTick_4 : decode b_C_prepareCustomersForTick 4 = .ok (.getfield 10, 3) := by decide +kernel
theorem d_C_prepareCustomersForTick_7 : decode b_C_prepareCustomersForTick 7 = .ok (.invokevirtual 50, 3) := by decide +kernel
theorem d_C_prepareCustomersForTick_10 : decode b_C_prepareCustomersForTick 10 = .ok (.if_icmp .ge 33, 3) := by decide +kernel
theorem d_C_prepareCustomersForTick_13 : decode b_C_prepareCustomersForTick 13 = .ok (.aload_n 0, 1) := by decide +kernel
theorem d_C_prepareCustomersForTick_14 : decode b_C_prepareCustomersForTick 14 = .ok (.getfield 10, 3) := by decide +kernel
theorem d_C_prepareCustomersForTick_17 : decode b_C_prepareCustomersForTick 17 = .ok (.iload_n 1, 1) := by decide +kernel
theorem d_C_prepareCustomersForTick_18 : decode b_C_prepareCustomersForTick 18 = .ok (.invokevirtual 160, 3) := by decide +kernel
theorem d_C_prepareCustomersForTick_21 : decode b_C_prepareCustomersForTick 21 = .ok (.checkcast 54, 3) := by decide +kernel
theorem d_C_prepareCustomersForTick_24 : decode b_C_prepareCustomersForTick 24 = .ok (.astore_n 2, 1) := by decide +kernel
theorem d_C_prepareCustomersForTick_25 : decode b_C_prepareCustomersForTick 25 = .ok (.aload_n 2, 1) := by decide +kernel
theorem d_C_prepareCustomersForTick_26 : decode b_C_prepareCustomersForTick 26 = .ok (.ldc2_w 135, 3) := by decide +kernel
theorem d_C_prepareCustomersForTick_29 : decode b_C_prepareCustomersForTick 29 = .ok (.putfield 238, 3) := by decide +kernel
theorem d_C_prepareCustomersForTick_32 : decode b_C_prepareCustomersForTick 32 = .ok (.aload_n 2, 1) := by decide +kernel
theorem d_C_prepareCustomersForTick_33 : decode b_C_prepareCustomersForTick 33 = .ok (.iconst 0, 1) := by decide +kernel
theorem d_C_prepareCustomersForTick_34 : decode b_C_prepareCustomersForTick 34 = .ok (.putfield 241, 3) := by decide +kernel
theorem d_C_prepareCustomersForTick_37 : decode b_C_prepareCustomersForTick 37 = .ok (.iinc 1 1, 3) := by decide +kernel
theorem d_C_prepareCustomersForTick_40 : decode b_C_prepareCustomersForTick 40 = .ok (.goto (-38), 3) := by decide +kernel
theorem d_C_prepareCustomersForTick_43 : decode b_C_prepareCustomersForTick 43 = .ok (.iconst 0, 1) := by decide +kernel
theorem d_C_prepareCustomersForTick_44 : decode b_C_prepareCustomersForTick 44 = .ok (.istore_n 1, 1) := by decide +kernel
theorem d_C_prepareCustomersForTick_45 : decode b_C_prepareCustomersForTick 45 = .ok (.iload_n 1, 1) := by decide +kernel
theorem d_C_prepareCustomersForTick_46 : decode b_C_prepareCustomersForTick 46 = .ok (.aload_n 0, 1) := by decide +kernel
theorem d_C_prepareCustomersForTick_47 : decode b_C_prepareCustomersForTick 47 = .ok (.getfield 16, 3) := by decide +kernel
theorem d_C_prepareCustomersForTick_50 : decode b_C_prepareCustomersForTick 50 = .ok (.invokevirtual 50, 3) := by decide +kernel
theorem d_C_prepareCustomersForTick_53 : decode b_C_prepareCustomersForTick 53 = .ok (.if_icmp .ge 55, 3) := by decide +kernel
theorem d_C_prepareCustomersForTick_56 : decode b_C_prepareCustomersForTick 56 = .ok (.aload_n 0, 1) := by decide +kernel
theorem d_C_prepareCustomersForTick_57 : decode b_C_prepareCustomersForTick 57 = .ok (.getfield 16, 3) := by decide +kernel
theorem d_C_prepareCustomersForTick_60 : decode b_C_prepareCustomersForTick 60 = .ok (.iload_n 1, 1) := by decide +kernel
theorem d_C_prepareCustomersForTick_61 : decode b_C_prepareCustomersForTick 61 = .ok (.invokevirtual 160, 3) := by decide +kernel
theorem d_C_prepareCustomersForTick_64 : decode b_C_prepareCustomersForTick 64 = .ok (.checkcast 131, 3) := by decide +kernel
theorem d_C_prepareCustomersForTick_67 : decode b_C_prepareCustomersForTick 67 = .ok (.astore_n 2, 1) := by decide +kernel
theorem d_C_prepareCustomersForTick_68 : decode b_C_prepareCustomersForTick 68 = .ok (.aload_n 2, 1) := by decide +kernel
theorem d_C_prepareCustomersForTick_69 : decode b_C_prepareCustomersForTick 69 = .ok (.getfield 154, 3) := by decide +kernel
theorem d_C_prepareCustomersForTick_72 : decode b_C_prepareCustomersForTick 72 = .ok (.ifCond .ne 30, 3) := by decide +kernel
theorem d_C_prepareCustomersForTick_75 : decode b_C_prepareCustomersForTick 75 = .ok (.aload_n 2, 1) := by decide +kernel
theorem d_C_prepareCustomersForTick_76 : decode b_C_prepareCustomersForTick 76 = .ok (.invokevirtual 244, 3) := by decide +kernel
theorem d_C_prepareCustomersForTick_79 : decode b_C_prepareCustomersForTick 79 = .ok (.ifCond .ne 23, 3) := by decide +kernel
theorem d_C_prepareCustomersForTick_82 : decode b_C_prepareCustomersForTick 82 = .ok (.aload_n 2, 1) := by decide +kernel
theorem d_C_prepareCustomersForTick_83 : decode b_C_prepareCustomersForTick 83 = .ok (.getfield 185, 3) := by decide +kernel
theorem d_C_prepareCustomersForTick_86 : decode b_C_prepareCustomersForTick 86 = .ok (.astore_n 3, 1) := by decide +kernel
theorem d_C_prepareCustomersForTick_87 : decode b_C_prepareCustomersForTick 87 = .ok (.aload_n 3, 1) := by decide +kernel
theorem d_C_prepareCustomersForTick_88 : decode b_C_prepareCustomersForTick 88 = .ok (.aload_n 3, 1) := by decide +kernel
theorem d_C_prepareCustomersForTick_89 : decode b_C_prepareCustomersForTick 89 = .ok (.getfield 238, 3) := by decide +kernel
theorem d_C_prepareCustomersForTick_92 : decode b_C_prepareCustomersForTick 92 = .ok (.aload_n 2, 1) := by decide +kernel
theorem d_C_prepareCustomersForTick_93 : decode b_C_prepareCustomersForTick 93 = .ok (.getfield 247, 3) := by decide +kernel
theorem d_C_prepareCustomersForTick_96 : decode b_C_prepareCustomersForTick 96 = .ok (.invokestatic 250, 3) := by decide +kernel
theorem d_C_prepareCustomersForTick_99 : decode b_C_prepareCustomersForTick 99 = .ok (.putfield 238, 3) := by decide +kernel
theorem d_C_prepareCustomersForTick_102 : decode b_C_prepareCustomersForTick 102 = .ok (.iinc 1 1, 3) := by decide +kernel
theorem d_C_prepareCustomersForTick_105 : decode b_C_prepareCustomersForTick 105 = .ok (.goto (-60), 3) := by decide +kernel
theorem d_C_prepareCustomersForTick_108 : decode b_C_prepareCustomersForTick 108 = .ok (.return_, 1) := by decide +kernel
theorem d_N_isMarked_0 : decode b_N_isMarked 0 = .ok (.aload_n 0, 1) := by decide +kernel
theorem d_N_isMarked_1 : decode b_N_isMarked 1 = .ok (.getfield 22, 3) := by decide +kernel
theorem d_N_isMarked_4 : decode b_N_isMarked 4 = .ok (.bipush 7, 2) := by decide +kernel
theorem d_N_isMarked_6 : decode b_N_isMarked 6 = .ok (.if_icmp .ne 7, 3) := by decide +kernel
theorem d_N_isMarked_9 : decode b_N_isMarked 9 = .ok (.iconst 1, 1) := by decide +kernel
theorem d_N_isMarked_10 : decode b_N_isMarked 10 = .ok (.goto 4, 3) := by decide +kernel
theorem d_N_isMarked_13 : decode b_N_isMarked 13 = .ok (.iconst 0, 1) := by decide +kernel
theorem d_N_isMarked_14 : decode b_N_isMarked 14 = .ok (.ireturn, 1) := by decide +kernel
theorem d_C_isDue_0 : decode b_C_isDue 0 = .ok (.aload_n 1, 1) := by decide +kernel
theorem d_C_isDue_1 : decode b_C_isDue 1 = .ok (.getfield 247, 3) := by decide +kernel
theorem d_C_isDue_4 : decode b_C_isDue 4 = .ok (.aload_n 0, 1) := by decide +kernel
theorem d_C_isDue_5 : decode b_C_isDue 5 = .ok (.getfield 32, 3) := by decide +kernel
theorem d_C_isDue_8 : decode b_C_isDue 8 = .ok (.lcmp, 1) := by decide +kernel
theorem d_C_isDue_9 : decode b_C_isDue 9 = .ok (.ifCond .le 5, 3) := by decide +kernel
theorem d_C_isDue_12 : decode b_C_isDue 12 = .ok (.iconst 0, 1) := by decide +kernel
theorem d_C_isDue_13 : decode b_C_isDue 13 = .ok (.ireturn, 1) := by decide +kernel
theorem d_C_isDue_14 : decode b_C_isDue 14 = .ok (.aload_n 1, 1) := by decide +kernel
theorem d_C_isDue_15 : decode b_C_isDue 15 = .ok (.invokevirtual 244, 3) := by decide +kernel
theorem d_C_isDue_18 : decode b_C_isDue 18 = .ok (.ifCond .ne 24, 3) := by decide +kernel
theorem d_C_isDue_21 : decode b_C_isDue 21 = .ok (.aload_n 0, 1) := by decide +kernel
theorem d_C_isDue_22 : decode b_C_isDue 22 = .ok (.getfield 32, 3) := by decide +kernel
theorem d_C_isDue_25 : decode b_C_isDue 25 = .ok (.aload_n 1, 1) := by decide +kernel
theorem d_C_isDue_26 : decode b_C_isDue 26 = .ok (.getfield 185, 3) := by decide +kernel
theorem d_C_isDue_29 : decode b_C_isDue 29 = .ok (.getfield 238, 3) := by decide +kernel
theorem d_C_isDue_32 : decode b_C_isDue 32 = .ok (.aload_n 0, 1) := by decide +kernel
theorem d_C_isDue_33 : decode b_C_isDue 33 = .ok (.getfield 36, 3) := by decide +kernel
theorem d_C_isDue_36 : decode b_C_isDue 36 = .ok (.i2l, 1) := by decide +kernel
theorem d_C_isDue_37 : decode b_C_isDue 37 = .ok (.ladd, 1) := by decide +kernel
theorem d_C_isDue_38 : decode b_C_isDue 38 = .ok (.lcmp, 1) := by decide +kernel
theorem d_C_isDue_39 : decode b_C_isDue 39 = .ok (.ifCond .lt 7, 3) := by decide +kernel
theorem d_C_isDue_42 : decode b_C_isDue 42 = .ok (.iconst 1, 1) := by decide +kernel
theorem d_C_isDue_43 : decode b_C_isDue 43 = .ok (.goto 4, 3) := by decide +kernel
theorem d_C_isDue_46 : decode b_C_isDue 46 = .ok (.iconst 0, 1) := by decide +kernel
theorem d_C_isDue_47 : decode b_C_isDue 47 = .ok (.ireturn, 1) := by decide +kernel
theorem d_C_isHeldByQuiet_0 : decode b_C_isHeldByQuiet 0 = .ok (.aload_n 1, 1) := by decide +kernel
theorem d_C_isHeldByQuiet_1 : decode b_C_isHeldByQuiet 1 = .ok (.invokevirtual 244, 3) := by decide +kernel
theorem d_C_isHeldByQuiet_4 : decode b_C_isHeldByQuiet 4 = .ok (.ifCond .ne 21, 3) := by decide +kernel
theorem d_C_isHeldByQuiet_7 : decode b_C_isHeldByQuiet 7 = .ok (.aload_n 1, 1) := by decide +kernel
theorem d_C_isHeldByQuiet_8 : decode b_C_isHeldByQuiet 8 = .ok (.getfield 185, 3) := by decide +kernel
theorem d_C_isHeldByQuiet_11 : decode b_C_isHeldByQuiet 11 = .ok (.aload_n 0, 1) := by decide +kernel
theorem d_C_isHeldByQuiet_12 : decode b_C_isHeldByQuiet 12 = .ok (.getfield 32, 3) := by decide +kernel
theorem d_C_isHeldByQuiet_15 : decode b_C_isHeldByQuiet 15 = .ok (.invokevirtual 254, 3) := by decide +kernel
theorem d_C_isHeldByQuiet_18 : decode b_C_isHeldByQuiet 18 = .ok (.ifCond .eq 7, 3) := by decide +kernel
theorem d_C_isHeldByQuiet_21 : decode b_C_isHeldByQuiet 21 = .ok (.iconst 1, 1) := by decide +kernel
theorem d_C_isHeldByQuiet_22 : decode b_C_isHeldByQuiet 22 = .ok (.goto 4, 3) := by decide +kernel
theorem d_C_isHeldByQuiet_25 : decode b_C_isHeldByQuiet 25 = .ok (.iconst 0, 1) := by decide +kernel
theorem d_C_isHeldByQuiet_26 : decode b_C_isHeldByQuiet 26 = .ok (.ireturn, 1) := by decide +kernel
theorem d_K_isQuietAt_0 : decode b_K_isQuietAt 0 = .ok (.lload_n 1, 1) := by decide +kernel
theorem d_K_isQuietAt_1 : decode b_K_isQuietAt 1 = .ok (.bipush 60, 2) := by decide +kernel
theorem d_K_isQuietAt_3 : decode b_K_isQuietAt 3 = .ok (.aload_n 0, 1) := by decide +kernel
theorem d_K_isQuietAt_4 : decode b_K_isQuietAt 4 = .ok (.getfield 18, 3) := by decide +kernel
theorem d_K_isQuietAt_7 : decode b_K_isQuietAt 7 = .ok (.imul, 1) := by decide +kernel
theorem d_K_isQuietAt_8 : decode b_K_isQuietAt 8 = .ok (.i2l, 1) := by decide +kernel
theorem d_K_isQuietAt_9 : decode b_K_isQuietAt 9 = .ok (.ladd, 1) := by decide +kernel
theorem d_K_isQuietAt_10 : decode b_K_isQuietAt 10 = .ok (.ldc2_w 40, 3) := by decide +kernel
theorem d_K_isQuietAt_13 : decode b_K_isQuietAt 13 = .ok (.invokestatic 42, 3) := by decide +kernel
theorem d_K_isQuietAt_16 : decode b_K_isQuietAt 16 = .ok (.lstore_n 3, 1) := by decide +kernel
theorem d_K_isQuietAt_17 : decode b_K_isQuietAt 17 = .ok (.aload_n 0, 1) := by decide +kernel
theorem d_K_isQuietAt_18 : decode b_K_isQuietAt 18 = .ok (.getfield 48, 3) := by decide +kernel
theorem d_K_isQuietAt_21 : decode b_K_isQuietAt 21 = .ok (.aload_n 0, 1) := by decide +kernel
theorem d_K_isQuietAt_22 : decode b_K_isQuietAt 22 = .ok (.getfield 51, 3) := by decide +kernel
theorem d_K_isQuietAt_25 : decode b_K_isQuietAt 25 = .ok (.if_icmp .gt 29, 3) := by decide +kernel
theorem d_K_isQuietAt_28 : decode b_K_isQuietAt 28 = .ok (.lload_n 3, 1) := by decide +kernel
theorem d_K_isQuietAt_29 : decode b_K_isQuietAt 29 = .ok (.aload_n 0, 1) := by decide +kernel
theorem d_K_isQuietAt_30 : decode b_K_isQuietAt 30 = .ok (.getfield 48, 3) := by decide +kernel
theorem d_K_isQuietAt_33 : decode b_K_isQuietAt 33 = .ok (.i2l, 1) := by decide +kernel
theorem d_K_isQuietAt_34 : decode b_K_isQuietAt 34 = .ok (.lcmp, 1) := by decide +kernel
theorem d_K_isQuietAt_35 : decode b_K_isQuietAt 35 = .ok (.ifCond .lt 17, 3) := by decide +kernel
theorem d_K_isQuietAt_38 : decode b_K_isQuietAt 38 = .ok (.lload_n 3, 1) := by decide +kernel
theorem d_K_isQuietAt_39 : decode b_K_isQuietAt 39 = .ok (.aload_n 0, 1) := by decide +kernel
theorem d_K_isQuietAt_40 : decode b_K_isQuietAt 40 = .ok (.getfield 51, 3) := by decide +kernel
theorem d_K_isQuietAt_43 : decode b_K_isQuietAt 43 = .ok (.i2l, 1) := by decide +kernel
theorem d_K_isQuietAt_44 : decode b_K_isQuietAt 44 = .ok (.lcmp, 1) := by decide +kernel
theorem d_K_isQuietAt_45 : decode b_K_isQuietAt 45 = .ok (.ifCond .ge 7, 3) := by decide +kernel
theorem d_K_isQuietAt_48 : decode b_K_isQuietAt 48 = .ok (.iconst 1, 1) := by decide +kernel
theorem d_K_isQuietAt_49 : decode b_K_isQuietAt 49 = .ok (.goto 4, 3) := by decide +kernel
theorem d_K_isQuietAt_52 : decode b_K_isQuietAt 52 = .ok (.iconst 0, 1) := by decide +kernel
theorem d_K_isQuietAt_53 : decode b_K_isQuietAt 53 = .ok (.ireturn, 1) := by decide +kernel
theorem d_K_isQuietAt_54 : decode b_K_isQuietAt 54 = .ok (.lload_n 3, 1) := by decide +kernel
theorem d_K_isQuietAt_55 : decode b_K_isQuietAt 55 = .ok (.aload_n 0, 1) := by decide +kernel
theorem d_K_isQuietAt_56 : decode b_K_isQuietAt 56 = .ok (.getfield 48, 3) := by decide +kernel
theorem d_K_isQuietAt_59 : decode b_K_isQuietAt 59 = .ok (.i2l, 1) := by decide +kernel
theorem d_K_isQuietAt_60 : decode b_K_isQuietAt 60 = .ok (.lcmp, 1) := by decide +kernel
theorem d_K_isQuietAt_61 : decode b_K_isQuietAt 61 = .ok (.ifCond .ge 13, 3) := by decide +kernel
theorem d_K_isQuietAt_64 : decode b_K_isQuietAt 64 = .ok (.lload_n 3, 1) := by decide +kernel
theorem d_K_isQuietAt_65 : decode b_K_isQuietAt 65 = .ok (.aload_n 0, 1) := by decide +kernel
theorem d_K_isQuietAt_66 : decode b_K_isQuietAt 66 = .ok (.getfield 51, 3) := by decide +kernel
theorem d_K_isQuietAt_69 : decode b_K_isQuietAt 69 = .ok (.i2l, 1) := by decide +kernel
theorem d_K_isQuietAt_70 : decode b_K_isQuietAt 70 = .ok (.lcmp, 1) := by decide +kernel
theorem d_K_isQuietAt_71 : decode b_K_isQuietAt 71 = .ok (.ifCond .ge 7, 3) := by decide +kernel
theorem d_K_isQuietAt_74 : decode b_K_isQuietAt 74 = .ok (.iconst 1, 1) := by decide +kernel
theorem d_K_isQuietAt_75 : decode b_K_isQuietAt 75 = .ok (.goto 4, 3) := by decide +kernel
theorem d_K_isQuietAt_78 : decode b_K_isQuietAt 78 = .ok (.iconst 0, 1) := by decide +kernel
theorem d_K_isQuietAt_79 : decode b_K_isQuietAt 79 = .ok (.ireturn, 1) := by decide +kernel
theorem d_C_deliver_0 : decode b_C_deliver 0 = .ok (.aload_n 1, 1) := by decide +kernel
theorem d_C_deliver_1 : decode b_C_deliver 1 = .ok (.getfield 185, 3) := by decide +kernel
theorem d_C_deliver_4 : decode b_C_deliver 4 = .ok (.astore_n 2, 1) := by decide +kernel
theorem d_C_deliver_5 : decode b_C_deliver 5 = .ok (.aload_n 2, 1) := by decide +kernel
theorem d_C_deliver_6 : decode b_C_deliver 6 = .ok (.aload_n 1, 1) := by decide +kernel
theorem d_C_deliver_7 : decode b_C_deliver 7 = .ok (.getfield 190, 3) := by decide +kernel
theorem d_C_deliver_10 : decode b_C_deliver 10 = .ok (.aload_n 0, 1) := by decide +kernel
theorem d_C_deliver_11 : decode b_C_deliver 11 = .ok (.getfield 28, 3) := by decide +kernel
theorem d_C_deliver_14 : decode b_C_deliver 14 = .ok (.invokevirtual 257, 3) := by decide +kernel
theorem d_C_deliver_17 : decode b_C_deliver 17 = .ok (.istore_n 3, 1) := by decide +kernel
theorem d_C_deliver_18 : decode b_C_deliver 18 = .ok (.iload_n 3, 1) := by decide +kernel
theorem d_C_deliver_19 : decode b_C_deliver 19 = .ok (.iconst (-1), 1) := by decide +kernel
theorem d_C_deliver_20 : decode b_C_deliver 20 = .ok (.if_icmp .ne 18, 3) := by decide +kernel
theorem d_C_deliver_23 : decode b_C_deliver 23 = .ok (.aload_n 1, 1) := by decide +kernel
theorem d_C_deliver_24 : decode b_C_deliver 24 = .ok (.iconst 2, 1) := by decide +kernel
theorem d_C_deliver_25 : decode b_C_deliver 25 = .ok (.putfield 154, 3) := by decide +kernel
theorem d_C_deliver_28 : decode b_C_deliver 28 = .ok (.aload_n 0, 1) := by decide +kernel
theorem d_C_deliver_29 : decode b_C_deliver 29 = .ok (.getfield 25, 3) := by decide +kernel
theorem d_C_deliver_32 : decode b_C_deliver 32 = .ok (.aload_n 1, 1) := by decide +kernel
theorem d_C_deliver_33 : decode b_C_deliver 33 = .ok (.invokevirtual 59, 3) := by decide +kernel
theorem d_C_deliver_36 : decode b_C_deliver 36 = .ok (.pop, 1) := by decide +kernel
theorem d_C_deliver_37 : decode b_C_deliver 37 = .ok (.return_, 1) := by decide +kernel
theorem d_C_deliver_38 : decode b_C_deliver 38 = .ok (.aload_n 2, 1) := by decide +kernel
theorem d_C_deliver_39 : decode b_C_deliver 39 = .ok (.getfield 241, 3) := by decide +kernel
theorem d_C_deliver_42 : decode b_C_deliver 42 = .ok (.ifCond .ne 11, 3) := by decide +kernel
theorem d_C_deliver_45 : decode b_C_deliver 45 = .ok (.aload_n 2, 1) := by decide +kernel
theorem d_C_deliver_46 : decode b_C_deliver 46 = .ok (.aload_n 1, 1) := by decide +kernel
theorem d_C_deliver_47 : decode b_C_deliver 47 = .ok (.getfield 130, 3) := by decide +kernel
theorem d_C_deliver_50 : decode b_C_deliver 50 = .ok (.putfield 241, 3) := by decide +kernel
theorem d_C_deliver_53 : decode b_C_deliver 53 = .ok (.aload_n 1, 1) := by decide +kernel
theorem d_C_deliver_54 : decode b_C_deliver 54 = .ok (.iconst 1, 1) := by decide +kernel
theorem d_C_deliver_55 : decode b_C_deliver 55 = .ok (.putfield 154, 3) := by decide +kernel
theorem d_C_deliver_58 : decode b_C_deliver 58 = .ok (.aload_n 1, 1) := by decide +kernel
theorem d_C_deliver_59 : decode b_C_deliver 59 = .ok (.iload_n 3, 1) := by decide +kernel
theorem d_C_deliver_60 : decode b_C_deliver 60 = .ok (.putfield 261, 3) := by decide +kernel
theorem d_C_deliver_63 : decode b_C_deliver 63 = .ok (.aload_n 1, 1) := by decide +kernel
theorem d_C_deliver_64 : decode b_C_deliver 64 = .ok (.aload_n 2, 1) := by decide +kernel
theorem d_C_deliver_65 : decode b_C_deliver 65 = .ok (.getfield 241, 3) := by decide +kernel
theorem d_C_deliver_68 : decode b_C_deliver 68 = .ok (.putfield 264, 3) := by decide +kernel
theorem d_C_deliver_71 : decode b_C_deliver 71 = .ok (.aload_n 1, 1) := by decide +kernel
theorem d_C_deliver_72 : decode b_C_deliver 72 = .ok (.aload_n 0, 1) := by decide +kernel
theorem d_C_deliver_73 : decode b_C_deliver 73 = .ok (.getfield 32, 3) := by decide +kernel
theorem d_C_deliver_76 : decode b_C_deliver 76 = .ok (.putfield 267, 3) := by decide +kernel
theorem d_C_deliver_79 : decode b_C_deliver 79 = .ok (.aload_n 0, 1) := by decide +kernel
theorem d_C_deliver_80 : decode b_C_deliver 80 = .ok (.getfield 22, 3) := by decide +kernel
theorem d_C_deliver_83 : decode b_C_deliver 83 = .ok (.aload_n 1, 1) := by decide +kernel
theorem d_C_deliver_84 : decode b_C_deliver 84 = .ok (.invokevirtual 59, 3) := by decide +kernel
theorem d_C_deliver_87 : decode b_C_deliver 87 = .ok (.pop, 1) := by decide +kernel
theorem d_C_deliver_88 : decode b_C_deliver 88 = .ok (.return_, 1) := by decide +kernel
theorem d_K_firstWorkingChannel_0 : decode b_K_firstWorkingChannel 0 = .ok (.iload_n 1, 1) := by decide +kernel
theorem d_K_firstWorkingChannel_1 : decode b_K_firstWorkingChannel 1 = .ok (.iconst 4, 1) := by decide +kernel
theorem d_K_firstWorkingChannel_2 : decode b_K_firstWorkingChannel 2 = .ok (.if_icmp .ne 7, 3) := by decide +kernel
theorem d_K_firstWorkingChannel_5 : decode b_K_firstWorkingChannel 5 = .ok (.iconst 0, 1) := by decide +kernel
theorem d_K_firstWorkingChannel_6 : decode b_K_firstWorkingChannel 6 = .ok (.goto 4, 3) := by decide +kernel
theorem d_K_firstWorkingChannel_9 : decode b_K_firstWorkingChannel 9 = .ok (.iconst 3, 1) := by decide +kernel
theorem d_K_firstWorkingChannel_10 : decode b_K_firstWorkingChannel 10 = .ok (.istore_n 3, 1) := by decide +kernel
theorem d_K_firstWorkingChannel_11 : decode b_K_firstWorkingChannel 11 = .ok (.iconst (-1), 1) := by decide +kernel
theorem d_K_firstWorkingChannel_12 : decode b_K_firstWorkingChannel 12 = .ok (.istore 4, 2) := by decide +kernel
theorem d_K_firstWorkingChannel_14 : decode b_K_firstWorkingChannel 14 = .ok (.iconst 0, 1) := by decide +kernel
theorem d_K_firstWorkingChannel_15 : decode b_K_firstWorkingChannel 15 = .ok (.istore 5, 2) := by decide +kernel
theorem d_K_firstWorkingChannel_17 : decode b_K_firstWorkingChannel 17 = .ok (.iload 5, 2) := by decide +kernel
theorem d_K_firstWorkingChannel_19 : decode b_K_firstWorkingChannel 19 = .ok (.iload_n 3, 1) := by decide +kernel
theorem d_K_firstWorkingChannel_20 : decode b_K_firstWorkingChannel 20 = .ok (.if_icmp .gt 60, 3) := by decide +kernel
theorem d_K_firstWorkingChannel_23 : decode b_K_firstWorkingChannel 23 = .ok (.iload 5, 2) := by decide +kernel
theorem d_K_firstWorkingChannel_25 : decode b_K_firstWorkingChannel 25 = .ok (.aload_n 2, 1) := by decide +kernel
theorem d_K_firstWorkingChannel_26 : decode b_K_firstWorkingChannel 26 = .ok (.arraylength, 1) := by decide +kernel
theorem d_K_firstWorkingChannel_27 : decode b_K_firstWorkingChannel 27 = .ok (.if_icmp .ge 53, 3) := by decide +kernel
theorem d_K_firstWorkingChannel_30 : decode b_K_firstWorkingChannel 30 = .ok (.aload_n 0, 1) := by decide +kernel
theorem d_K_firstWorkingChannel_31 : decode b_K_firstWorkingChannel 31 = .ok (.iload_n 1, 1) := by decide +kernel
theorem d_K_firstWorkingChannel_32 : decode b_K_firstWorkingChannel 32 = .ok (.iload 5, 2) := by decide +kernel
theorem d_K_firstWorkingChannel_34 : decode b_K_firstWorkingChannel 34 = .ok (.invokevirtual 36, 3) := by decide +kernel
theorem d_K_firstWorkingChannel_37 : decode b_K_firstWorkingChannel 37 = .ok (.istore 6, 2) := by decide +kernel
theorem d_K_firstWorkingChannel_39 : decode b_K_firstWorkingChannel 39 = .ok (.iload 6, 2) := by decide +kernel
theorem d_K_firstWorkingChannel_41 : decode b_K_firstWorkingChannel 41 = .ok (.iconst (-1), 1) := by decide +kernel
theorem d_K_firstWorkingChannel_42 : decode b_K_firstWorkingChannel 42 = .ok (.if_icmp .eq 32, 3) := by decide +kernel
theorem d_K_firstWorkingChannel_45 : decode b_K_firstWorkingChannel 45 = .ok (.aload_n 2, 1) := by decide +kernel
theorem d_K_firstWorkingChannel_46 : decode b_K_firstWorkingChannel 46 = .ok (.iload 5, 2) := by decide +kernel
theorem d_K_firstWorkingChannel_48 : decode b_K_firstWorkingChannel 48 = .ok (.baload, 1) := by decide +kernel
theorem d_K_firstWorkingChannel_49 : decode b_K_firstWorkingChannel 49 = .ok (.ifCond .eq 25, 3) := by decide +kernel
theorem d_K_firstWorkingChannel_52 : decode b_K_firstWorkingChannel 52 = .ok (.iload 4, 2) := by decide +kernel
theorem d_K_firstWorkingChannel_54 : decode b_K_firstWorkingChannel 54 = .ok (.iconst (-1), 1) := by decide +kernel
theorem d_K_firstWorkingChannel_55 : decode b_K_firstWorkingChannel 55 = .ok (.if_icmp .eq 15, 3) := by decide +kernel
theorem d_K_firstWorkingChannel_58 : decode b_K_firstWorkingChannel 58 = .ok (.iload 6, 2) := by decide +kernel
theorem d_K_firstWorkingChannel_60 : decode b_K_firstWorkingChannel 60 = .ok (.aload_n 0, 1) := by decide +kernel
theorem d_K_firstWorkingChannel_61 : decode b_K_firstWorkingChannel 61 = .ok (.iload_n 1, 1) := by decide +kernel
theorem d_K_firstWorkingChannel_62 : decode b_K_firstWorkingChannel 62 = .ok (.iload 4, 2) := by decide +kernel
theorem d_K_firstWorkingChannel_64 : decode b_K_firstWorkingChannel 64 = .ok (.invokevirtual 36, 3) := by decide +kernel
theorem d_K_firstWorkingChannel_67 : decode b_K_firstWorkingChannel 67 = .ok (.if_icmp .ge 7, 3) := by decide +kernel
theorem d_K_firstWorkingChannel_70 : decode b_K_firstWorkingChannel 70 = .ok (.iload 5, 2) := by decide +kernel
theorem d_K_firstWorkingChannel_72 : decode b_K_firstWorkingChannel 72 = .ok (.istore 4, 2) := by decide +kernel
theorem d_K_firstWorkingChannel_74 : decode b_K_firstWorkingChannel 74 = .ok (.iinc 5 1, 3) := by decide +kernel
theorem d_K_firstWorkingChannel_77 : decode b_K_firstWorkingChannel 77 = .ok (.goto (-60), 3) := by decide +kernel
theorem d_K_firstWorkingChannel_80 : decode b_K_firstWorkingChannel 80 = .ok (.iload 4, 2) := by decide +kernel
theorem d_K_firstWorkingChannel_82 : decode b_K_firstWorkingChannel 82 = .ok (.ireturn, 1) := by decide +kernel
theorem d_C_sent_0 : decode b_C_sent 0 = .ok (.iload_n 2, 1) := by decide +kernel
theorem d_C_sent_1 : decode b_C_sent 1 = .ok (.i2l, 1) := by decide +kernel
theorem d_C_sent_2 : decode b_C_sent 2 = .ok (.lconst 0, 1) := by decide +kernel
theorem d_C_sent_3 : decode b_C_sent 3 = .ok (.ldc2_w 175, 3) := by decide +kernel
theorem d_C_sent_6 : decode b_C_sent 6 = .ok (.invokestatic 42, 3) := by decide +kernel
theorem d_C_sent_9 : decode b_C_sent 9 = .ok (.ifCond .ne 6, 3) := by decide +kernel
theorem d_C_sent_12 : decode b_C_sent 12 = .ok (.bipush (-12), 2) := by decide +kernel
theorem d_C_sent_14 : decode b_C_sent 14 = .ok (.ireturn, 1) := by decide +kernel
theorem d_C_sent_15 : decode b_C_sent 15 = .ok (.iload_n 1, 1) := by decide +kernel
theorem d_C_sent_16 : decode b_C_sent 16 = .ok (.ifCond .lt 14, 3) := by decide +kernel
theorem d_C_sent_19 : decode b_C_sent 19 = .ok (.iload_n 1, 1) := by decide +kernel
theorem d_C_sent_20 : decode b_C_sent 20 = .ok (.aload_n 0, 1) := by decide +kernel
theorem d_C_sent_21 : decode b_C_sent 21 = .ok (.getfield 22, 3) := by decide +kernel
theorem d_C_sent_24 : decode b_C_sent 24 = .ok (.invokevirtual 50, 3) := by decide +kernel
theorem d_C_sent_27 : decode b_C_sent 27 = .ok (.if_icmp .lt 5, 3) := by decide +kernel
theorem d_C_sent_30 : decode b_C_sent 30 = .ok (.iconst (-1), 1) := by decide +kernel
theorem d_C_sent_31 : decode b_C_sent 31 = .ok (.ireturn, 1) := by decide +kernel
theorem d_C_sent_32 : decode b_C_sent 32 = .ok (.aload_n 0, 1) := by decide +kernel
theorem d_C_sent_33 : decode b_C_sent 33 = .ok (.getfield 22, 3) := by decide +kernel
theorem d_C_sent_36 : decode b_C_sent 36 = .ok (.iload_n 1, 1) := by decide +kernel
theorem d_C_sent_37 : decode b_C_sent 37 = .ok (.invokevirtual 160, 3) := by decide +kernel
theorem d_C_sent_40 : decode b_C_sent 40 = .ok (.checkcast 131, 3) := by decide +kernel
theorem d_C_sent_43 : decode b_C_sent 43 = .ok (.iload_n 2, 1) := by decide +kernel
theorem d_C_sent_44 : decode b_C_sent 44 = .ok (.invokestatic 177, 3) := by decide +kernel
theorem d_C_sent_47 : decode b_C_sent 47 = .ok (.ireturn, 1) := by decide +kernel
theorem d_C_detail_0 : decode b_C_detail 0 = .ok (.iload_n 1, 1) := by decide +kernel
theorem d_C_detail_1 : decode b_C_detail 1 = .ok (.tableswitch 91 0 7 #[47, 52, 60, 65, 70, 75, 80, 85], 47) := by decide +kernel
theorem d_C_detail_48 : decode b_C_detail 48 = .ok (.aload_n 0, 1) := by decide +kernel
theorem d_C_detail_49 : decode b_C_detail 49 = .ok (.getfield 130, 3) := by decide +kernel
theorem d_C_detail_52 : decode b_C_detail 52 = .ok (.ireturn, 1) := by decide +kernel
theorem d_C_detail_53 : decode b_C_detail 53 = .ok (.aload_n 0, 1) := by decide +kernel
theorem d_C_detail_54 : decode b_C_detail 54 = .ok (.getfield 185, 3) := by decide +kernel
theorem d_C_detail_57 : decode b_C_detail 57 = .ok (.getfield 189, 3) := by decide +kernel
theorem d_C_detail_60 : decode b_C_detail 60 = .ok (.ireturn, 1) := by decide +kernel
theorem d_C_detail_61 : decode b_C_detail 61 = .ok (.aload_n 0, 1) := by decide +kernel
theorem d_C_detail_62 : decode b_C_detail 62 = .ok (.getfield 200, 3) := by decide +kernel
theorem d_C_detail_65 : decode b_C_detail 65 = .ok (.ireturn, 1) := by decide +kernel
theorem d_C_detail_66 : decode b_C_detail 66 = .ok (.aload_n 0, 1) := by decide +kernel
theorem d_C_detail_67 : decode b_C_detail 67 = .ok (.getfield 190, 3) := by decide +kernel
theorem d_C_detail_70 : decode b_C_detail 70 = .ok (.ireturn, 1) := by decide +kernel
theorem d_C_detail_71 : decode b_C_detail 71 = .ok (.aload_n 0, 1) := by decide +kernel
theorem d_C_detail_72 : decode b_C_detail 72 = .ok (.getfield 261, 3) := by decide +kernel
theorem d_C_detail_75 : decode b_C_detail 75 = .ok (.ireturn, 1) := by decide +kernel
theorem d_C_detail_76 : decode b_C_detail 76 = .ok (.aload_n 0, 1) := by decide +kernel
theorem d_C_detail_77 : decode b_C_detail 77 = .ok (.invokevirtual 270, 3) := by decide +kernel
theorem d_C_detail_80 : decode b_C_detail 80 = .ok (.ireturn, 1) := by decide +kernel
theorem d_C_detail_81 : decode b_C_detail 81 = .ok (.aload_n 0, 1) := by decide +kernel
theorem d_C_detail_82 : decode b_C_detail 82 = .ok (.getfield 264, 3) := by decide +kernel
theorem d_C_detail_85 : decode b_C_detail 85 = .ok (.ireturn, 1) := by decide +kernel
theorem d_C_detail_86 : decode b_C_detail 86 = .ok (.aload_n 0, 1) := by decide +kernel
theorem d_C_detail_87 : decode b_C_detail 87 = .ok (.getfield 267, 3) := by decide +kernel
theorem d_C_detail_90 : decode b_C_detail 90 = .ok (.l2i, 1) := by decide +kernel
theorem d_C_detail_91 : decode b_C_detail 91 = .ok (.ireturn, 1) := by decide +kernel
theorem d_C_detail_92 : decode b_C_detail 92 = .ok (.aload_n 0, 1) := by decide +kernel
theorem d_C_detail_93 : decode b_C_detail 93 = .ok (.getfield 147, 3) := by decide +kernel
theorem d_C_detail_96 : decode b_C_detail 96 = .ok (.l2i, 1) := by decide +kernel
theorem d_C_detail_97 : decode b_C_detail 97 = .ok (.ireturn, 1) := by decide +kernel
theorem d_N_text_0 : decode b_N_text 0 = .ok (.bipush 32, 2) := by decide +kernel
theorem d_N_text_2 : decode b_N_text 2 = .ok (.aload_n 0, 1) := by decide +kernel
theorem d_N_text_3 : decode b_N_text 3 = .ok (.getfield 15, 3) := by decide +kernel
theorem d_N_text_6 : decode b_N_text 6 = .ok (.getfield 44, 3) := by decide +kernel
theorem d_N_text_9 : decode b_N_text 9 = .ok (.imul, 1) := by decide +kernel
theorem d_N_text_10 : decode b_N_text 10 = .ok (.iconst 2, 1) := by decide +kernel
theorem d_N_text_11 : decode b_N_text 11 = .ok (.aload_n 0, 1) := by decide +kernel
theorem d_N_text_12 : decode b_N_text 12 = .ok (.getfield 22, 3) := by decide +kernel
theorem d_N_text_15 : decode b_N_text 15 = .ok (.imul, 1) := by decide +kernel
theorem d_N_text_16 : decode b_N_text 16 = .ok (.iadd, 1) := by decide +kernel
theorem d_N_text_17 : decode b_N_text 17 = .ok (.aload_n 0, 1) := by decide +kernel
theorem d_N_text_18 : decode b_N_text 18 = .ok (.getfield 41, 3) := by decide +kernel
theorem d_N_text_21 : decode b_N_text 21 = .ok (.ifCond .eq 7, 3) := by decide +kernel
theorem d_N_text_24 : decode b_N_text 24 = .ok (.iconst 1, 1) := by decide +kernel
theorem d_N_text_25 : decode b_N_text 25 = .ok (.goto 4, 3) := by decide +kernel
theorem d_N_text_28 : decode b_N_text 28 = .ok (.iconst 0, 1) := by decide +kernel
theorem d_N_text_29 : decode b_N_text 29 = .ok (.iadd, 1) := by decide +kernel
theorem d_N_text_30 : decode b_N_text 30 = .ok (.ireturn, 1) := by decide +kernel
theorem d_C_works_0 : decode b_C_works 0 = .ok (.iload_n 1, 1) := by decide +kernel
theorem d_C_works_1 : decode b_C_works 1 = .ok (.invokestatic 71, 3) := by decide +kernel
theorem d_C_works_4 : decode b_C_works 4 = .ok (.ifCond .ne 5, 3) := by decide +kernel
theorem d_C_works_7 : decode b_C_works 7 = .ok (.iconst 0, 1) := by decide +kernel
theorem d_C_works_8 : decode b_C_works 8 = .ok (.ireturn, 1) := by decide +kernel
theorem d_C_works_9 : decode b_C_works 9 = .ok (.aload_n 0, 1) := by decide +kernel
theorem d_C_works_10 : decode b_C_works 10 = .ok (.getfield 28, 3) := by decide +kernel
theorem d_C_works_13 : decode b_C_works 13 = .ok (.iload_n 1, 1) := by decide +kernel
theorem d_C_works_14 : decode b_C_works 14 = .ok (.baload, 1) := by decide +kernel
theorem d_C_works_15 : decode b_C_works 15 = .ok (.istore_n 3, 1) := by decide +kernel
theorem d_C_works_16 : decode b_C_works 16 = .ok (.aload_n 0, 1) := by decide +kernel
theorem d_C_works_17 : decode b_C_works 17 = .ok (.getfield 28, 3) := by decide +kernel
theorem d_C_works_20 : decode b_C_works 20 = .ok (.iload_n 1, 1) := by decide +kernel
theorem d_C_works_21 : decode b_C_works 21 = .ok (.iload_n 2, 1) := by decide +kernel
theorem d_C_works_22 : decode b_C_works 22 = .ok (.bastore, 1) := by decide +kernel
theorem d_C_works_23 : decode b_C_works 23 = .ok (.iload_n 3, 1) := by decide +kernel
theorem d_C_works_24 : decode b_C_works 24 = .ok (.ireturn, 1) := by decide +kernel
theorem d_C_out_0 : decode b_C_out 0 = .ok (.aload_n 0, 1) := by decide +kernel
theorem d_C_out_1 : decode b_C_out 1 = .ok (.iload_n 1, 1) := by decide +kernel
theorem d_C_out_2 : decode b_C_out 2 = .ok (.invokevirtual 63, 3) := by decide +kernel
theorem d_C_out_5 : decode b_C_out 5 = .ok (.astore_n 3, 1) := by decide +kernel
theorem d_C_out_6 : decode b_C_out 6 = .ok (.aload_n 3, 1) := by decide +kernel
theorem d_C_out_7 : decode b_C_out 7 = .ok (.ifnonnull 6, 3) := by decide +kernel
theorem d_C_out_10 : decode b_C_out 10 = .ok (.bipush (-11), 2) := by decide +kernel
theorem d_C_out_12 : decode b_C_out 12 = .ok (.ireturn, 1) := by decide +kernel
theorem d_C_out_13 : decode b_C_out 13 = .ok (.iload_n 2, 1) := by decide +kernel
theorem d_C_out_14 : decode b_C_out 14 = .ok (.invokestatic 67, 3) := by decide +kernel
theorem d_C_out_17 : decode b_C_out 17 = .ok (.ifCond .ne 6, 3) := by decide +kernel
theorem d_C_out_20 : decode b_C_out 20 = .ok (.bipush (-12), 2) := by decide +kernel
theorem d_C_out_22 : decode b_C_out 22 = .ok (.ireturn, 1) := by decide +kernel
theorem d_C_out_23 : decode b_C_out 23 = .ok (.aload_n 3, 1) := by decide +kernel
theorem d_C_out_24 : decode b_C_out 24 = .ok (.iload_n 2, 1) := by decide +kernel
theorem d_C_out_25 : decode b_C_out 25 = .ok (.invokevirtual 181, 3) := by decide +kernel
theorem d_C_out_28 : decode b_C_out 28 = .ok (.iconst 0, 1) := by decide +kernel
theorem d_C_out_29 : decode b_C_out 29 = .ok (.istore 4, 2) := by decide +kernel
theorem d_C_out_31 : decode b_C_out 31 = .ok (.iconst 0, 1) := by decide +kernel
theorem d_C_out_32 : decode b_C_out 32 = .ok (.istore 5, 2) := by decide +kernel
theorem d_C_out_34 : decode b_C_out 34 = .ok (.iload 5, 2) := by decide +kernel
theorem d_C_out_36 : decode b_C_out 36 = .ok (.aload_n 0, 1) := by decide +kernel
theorem d_C_out_37 : decode b_C_out 37 = .ok (.getfield 16, 3) := by decide +kernel
theorem d_C_out_40 : decode b_C_out 40 = .ok (.invokevirtual 50, 3) := by decide +kernel
theorem d_C_out_43 : decode b_C_out 43 = .ok (.if_icmp .ge 61, 3) := by decide +kernel
theorem d_C_out_46 : decode b_C_out 46 = .ok (.aload_n 0, 1) := by decide +kernel
theorem d_C_out_47 : decode b_C_out 47 = .ok (.getfield 16, 3) := by decide +kernel
theorem d_C_out_50 : decode b_C_out 50 = .ok (.iload 5, 2) := by decide +kernel
theorem d_C_out_52 : decode b_C_out 52 = .ok (.invokevirtual 160, 3) := by decide +kernel
theorem d_C_out_55 : decode b_C_out 55 = .ok (.checkcast 131, 3) := by decide +kernel
theorem d_C_out_58 : decode b_C_out 58 = .ok (.astore 6, 2) := by decide +kernel
theorem d_C_out_60 : decode b_C_out 60 = .ok (.aload 6, 2) := by decide +kernel
theorem d_C_out_62 : decode b_C_out 62 = .ok (.getfield 154, 3) := by decide +kernel
theorem d_C_out_65 : decode b_C_out 65 = .ok (.ifCond .ne 33, 3) := by decide +kernel
theorem d_C_out_68 : decode b_C_out 68 = .ok (.aload 6, 2) := by decide +kernel
theorem d_C_out_70 : decode b_C_out 70 = .ok (.getfield 185, 3) := by decide +kernel
theorem d_C_out_73 : decode b_C_out 73 = .ok (.getfield 189, 3) := by decide +kernel
theorem d_C_out_76 : decode b_C_out 76 = .ok (.iload_n 1, 1) := by decide +kernel
theorem d_C_out_77 : decode b_C_out 77 = .ok (.if_icmp .ne 21, 3) := by decide +kernel
theorem d_C_out_80 : decode b_C_out 80 = .ok (.aload 6, 2) := by decide +kernel
theorem d_C_out_82 : decode b_C_out 82 = .ok (.getfield 190, 3) := by decide +kernel
theorem d_C_out_85 : decode b_C_out 85 = .ok (.iload_n 2, 1) := by decide +kernel
theorem d_C_out_86 : decode b_C_out 86 = .ok (.if_icmp .ne 12, 3) := by decide +kernel
theorem d_C_out_89 : decode b_C_out 89 = .ok (.aload 6, 2) := by decide +kernel
theorem d_C_out_91 : decode b_C_out 91 = .ok (.iconst 3, 1) := by decide +kernel
theorem d_C_out_92 : decode b_C_out 92 = .ok (.putfield 154, 3) := by decide +kernel
theorem d_C_out_95 : decode b_C_out 95 = .ok (.iinc 4 1, 3) := by decide +kernel
theorem d_C_out_98 : decode b_C_out 98 = .ok (.iinc 5 1, 3) := by decide +kernel
theorem d_C_out_101 : decode b_C_out 101 = .ok (.goto (-67), 3) := by decide +kernel
theorem d_C_out_104 : decode b_C_out 104 = .ok (.iload 4, 2) := by decide +kernel
theorem d_C_out_106 : decode b_C_out 106 = .ok (.ireturn, 1) := by decide +kernel
theorem d_K_clearWishes_0 : decode b_K_clearWishes 0 = .ok (.iconst 0, 1) := by decide +kernel
theorem d_K_clearWishes_1 : decode b_K_clearWishes 1 = .ok (.istore_n 2, 1) := by decide +kernel
theorem d_K_clearWishes_2 : decode b_K_clearWishes 2 = .ok (.iload_n 2, 1) := by decide +kernel
theorem d_K_clearWishes_3 : decode b_K_clearWishes 3 = .ok (.iconst 4, 1) := by decide +kernel
theorem d_K_clearWishes_4 : decode b_K_clearWishes 4 = .ok (.if_icmp .ge 16, 3) := by decide +kernel
theorem d_K_clearWishes_7 : decode b_K_clearWishes 7 = .ok (.aload_n 0, 1) := by decide +kernel
theorem d_K_clearWishes_8 : decode b_K_clearWishes 8 = .ok (.iload_n 1, 1) := by decide +kernel
theorem d_K_clearWishes_9 : decode b_K_clearWishes 9 = .ok (.iload_n 2, 1) := by decide +kernel
theorem d_K_clearWishes_10 : decode b_K_clearWishes 10 = .ok (.iconst (-1), 1) := by decide +kernel
theorem d_K_clearWishes_11 : decode b_K_clearWishes 11 = .ok (.invokevirtual 32, 3) := by decide +kernel
theorem d_K_clearWishes_14 : decode b_K_clearWishes 14 = .ok (.iinc 2 1, 3) := by decide +kernel
theorem d_K_clearWishes_17 : decode b_K_clearWishes 17 = .ok (.goto (-15), 3) := by decide +kernel
theorem d_K_clearWishes_20 : decode b_K_clearWishes 20 = .ok (.return_, 1) := by decide +kernel
theorem d_C_failed_0 : decode b_C_failed 0 = .ok (.iload_n 1, 1) := by decide +kernel
theorem d_C_failed_1 : decode b_C_failed 1 = .ok (.ifCond .lt 14, 3) := by decide +kernel
theorem d_C_failed_4 : decode b_C_failed 4 = .ok (.iload_n 1, 1) := by decide +kernel
theorem d_C_failed_5 : decode b_C_failed 5 = .ok (.aload_n 0, 1) := by decide +kernel
theorem d_C_failed_6 : decode b_C_failed 6 = .ok (.getfield 25, 3) := by decide +kernel
theorem d_C_failed_9 : decode b_C_failed 9 = .ok (.invokevirtual 50, 3) := by decide +kernel
theorem d_C_failed_12 : decode b_C_failed 12 = .ok (.if_icmp .lt 5, 3) := by decide +kernel
theorem d_C_failed_15 : decode b_C_failed 15 = .ok (.iconst (-1), 1) := by decide +kernel
theorem d_C_failed_16 : decode b_C_failed 16 = .ok (.ireturn, 1) := by decide +kernel
theorem d_C_failed_17 : decode b_C_failed 17 = .ok (.aload_n 0, 1) := by decide +kernel
theorem d_C_failed_18 : decode b_C_failed 18 = .ok (.getfield 25, 3) := by decide +kernel
theorem d_C_failed_21 : decode b_C_failed 21 = .ok (.iload_n 1, 1) := by decide +kernel
theorem d_C_failed_22 : decode b_C_failed 22 = .ok (.invokevirtual 160, 3) := by decide +kernel
theorem d_C_failed_25 : decode b_C_failed 25 = .ok (.checkcast 131, 3) := by decide +kernel
theorem d_C_failed_28 : decode b_C_failed 28 = .ok (.getfield 130, 3) := by decide +kernel
theorem d_C_failed_31 : decode b_C_failed 31 = .ok (.ireturn, 1) := by decide +kernel
theorem d_C_correct_0 : decode b_C_correct 0 = .ok (.aload_n 0, 1) := by decide +kernel
theorem d_C_correct_1 : decode b_C_correct 1 = .ok (.iload_n 1, 1) := by decide +kernel
theorem d_C_correct_2 : decode b_C_correct 2 = .ok (.invokevirtual 193, 3) := by decide +kernel
theorem d_C_correct_5 : decode b_C_correct 5 = .ok (.astore 4, 2) := by decide +kernel
theorem d_C_correct_7 : decode b_C_correct 7 = .ok (.aload 4, 2) := by decide +kernel
theorem d_C_correct_9 : decode b_C_correct 9 = .ok (.ifnonnull 6, 3) := by decide +kernel
theorem d_C_correct_12 : decode b_C_correct 12 = .ok (.bipush (-11), 2) := by decide +kernel
theorem d_C_correct_14 : decode b_C_correct 14 = .ok (.ireturn, 1) := by decide +kernel
theorem d_C_correct_15 : decode b_C_correct 15 = .ok (.aload_n 0, 1) := by decide +kernel
theorem d_C_correct_16 : decode b_C_correct 16 = .ok (.lload_n 2, 1) := by decide +kernel
theorem d_C_correct_17 : decode b_C_correct 17 = .ok (.invokevirtual 99, 3) := by decide +kernel
theorem d_C_correct_20 : decode b_C_correct 20 = .ok (.ifCond .ne 6, 3) := by decide +kernel
theorem d_C_correct_23 : decode b_C_correct 23 = .ok (.bipush (-12), 2) := by decide +kernel
theorem d_C_correct_25 : decode b_C_correct 25 = .ok (.ireturn, 1) := by decide +kernel
theorem d_C_correct_26 : decode b_C_correct 26 = .ok (.aload 4, 2) := by decide +kernel
theorem d_C_correct_28 : decode b_C_correct 28 = .ok (.invokevirtual 197, 3) := by decide +kernel
theorem d_C_correct_31 : decode b_C_correct 31 = .ok (.ifCond .ne 6, 3) := by decide +kernel
theorem d_C_correct_34 : decode b_C_correct 34 = .ok (.bipush (-13), 2) := by decide +kernel
theorem d_C_correct_36 : decode b_C_correct 36 = .ok (.ireturn, 1) := by decide +kernel
theorem d_C_correct_37 : decode b_C_correct 37 = .ok (.aload 4, 2) := by decide +kernel
theorem d_C_correct_39 : decode b_C_correct 39 = .ok (.getfield 154, 3) := by decide +kernel
theorem d_C_correct_42 : decode b_C_correct 42 = .ok (.iconst 1, 1) := by decide +kernel
theorem d_C_correct_43 : decode b_C_correct 43 = .ok (.if_icmp .ne 23, 3) := by decide +kernel
theorem d_C_correct_46 : decode b_C_correct 46 = .ok (.aload 4, 2) := by decide +kernel
theorem d_C_correct_48 : decode b_C_correct 48 = .ok (.getfield 185, 3) := by decide +kernel
theorem d_C_correct_51 : decode b_C_correct 51 = .ok (.aload 4, 2) := by decide +kernel
theorem d_C_correct_53 : decode b_C_correct 53 = .ok (.getfield 190, 3) := by decide +kernel
theorem d_C_correct_56 : decode b_C_correct 56 = .ok (.invokevirtual 77, 3) := by decide +kernel
theorem d_C_correct_59 : decode b_C_correct 59 = .ok (.ifCond .le 7, 3) := by decide +kernel
theorem d_C_correct_62 : decode b_C_correct 62 = .ok (.iconst 1, 1) := by decide +kernel
theorem d_C_correct_63 : decode b_C_correct 63 = .ok (.goto 4, 3) := by decide +kernel
theorem d_C_correct_66 : decode b_C_correct 66 = .ok (.iconst 0, 1) := by decide +kernel
theorem d_C_correct_67 : decode b_C_correct 67 = .ok (.istore 5, 2) := by decide +kernel
theorem d_C_correct_69 : decode b_C_correct 69 = .ok (.iload 5, 2) := by decide +kernel
theorem d_C_correct_71 : decode b_C_correct 71 = .ok (.ifCond .eq 13, 3) := by decide +kernel
theorem d_C_correct_74 : decode b_C_correct 74 = .ok (.aload_n 0, 1) := by decide +kernel
theorem d_C_correct_75 : decode b_C_correct 75 = .ok (.invokevirtual 116, 3) := by decide +kernel
theorem d_C_correct_78 : decode b_C_correct 78 = .ok (.ifCond .eq 6, 3) := by decide +kernel
theorem d_C_correct_81 : decode b_C_correct 81 = .ok (.bipush (-14), 2) := by decide +kernel
theorem d_C_correct_83 : decode b_C_correct 83 = .ok (.ireturn, 1) := by decide +kernel
theorem d_C_correct_84 : decode b_C_correct 84 = .ok (.aload 4, 2) := by decide +kernel
theorem d_C_correct_86 : decode b_C_correct 86 = .ok (.getfield 190, 3) := by decide +kernel
theorem d_C_correct_89 : decode b_C_correct 89 = .ok (.invokestatic 113, 3) := by decide +kernel
theorem d_C_correct_92 : decode b_C_correct 92 = .ok (.ifCond .eq 20, 3) := by decide +kernel
theorem d_C_correct_95 : decode b_C_correct 95 = .ok (.aload_n 0, 1) := by decide +kernel
theorem d_C_correct_96 : decode b_C_correct 96 = .ok (.aload 4, 2) := by decide +kernel
theorem d_C_correct_98 : decode b_C_correct 98 = .ok (.getfield 185, 3) := by decide +kernel
theorem d_C_correct_101 : decode b_C_correct 101 = .ok (.getfield 189, 3) := by decide +kernel
theorem d_C_correct_104 : decode b_C_correct 104 = .ok (.aload 4, 2) := by decide +kernel
theorem d_C_correct_106 : decode b_C_correct 106 = .ok (.getfield 200, 3) := by decide +kernel
theorem d_C_correct_109 : decode b_C_correct 109 = .ok (.invokevirtual 203, 3) := by decide +kernel
theorem d_C_correct_112 : decode b_C_correct 112 = .ok (.aload 4, 2) := by decide +kernel
theorem d_C_correct_114 : decode b_C_correct 114 = .ok (.getfield 154, 3) := by decide +kernel
theorem d_C_correct_117 : decode b_C_correct 117 = .ok (.ifCond .ne 11, 3) := by decide +kernel
theorem d_C_correct_120 : decode b_C_correct 120 = .ok (.aload 4, 2) := by decide +kernel
theorem d_C_correct_122 : decode b_C_correct 122 = .ok (.iconst 3, 1) := by decide +kernel
theorem d_C_correct_123 : decode b_C_correct 123 = .ok (.putfield 154, 3) := by decide +kernel
theorem d_C_correct_126 : decode b_C_correct 126 = .ok (.iconst 0, 1) := by decide +kernel
theorem d_C_correct_127 : decode b_C_correct 127 = .ok (.ireturn, 1) := by decide +kernel
theorem d_C_correct_128 : decode b_C_correct 128 = .ok (.aload 4, 2) := by decide +kernel
theorem d_C_correct_130 : decode b_C_correct 130 = .ok (.iconst 1, 1) := by decide +kernel
theorem d_C_correct_131 : decode b_C_correct 131 = .ok (.putfield 207, 3) := by decide +kernel
theorem d_C_correct_134 : decode b_C_correct 134 = .ok (.iload 5, 2) := by decide +kernel
theorem d_C_correct_136 : decode b_C_correct 136 = .ok (.ifCond .eq 13, 3) := by decide +kernel
theorem d_C_correct_139 : decode b_C_correct 139 = .ok (.aload_n 0, 1) := by decide +kernel
theorem d_C_correct_140 : decode b_C_correct 140 = .ok (.aload 4, 2) := by decide +kernel
theorem d_C_correct_142 : decode b_C_correct 142 = .ok (.lload_n 2, 1) := by decide +kernel
theorem d_C_correct_143 : decode b_C_correct 143 = .ok (.invokevirtual 210, 3) := by decide +kernel
theorem d_C_correct_146 : decode b_C_correct 146 = .ok (.goto 4, 3) := by decide +kernel
theorem d_C_correct_149 : decode b_C_correct 149 = .ok (.iconst 0, 1) := by decide +kernel
theorem d_C_correct_150 : decode b_C_correct 150 = .ok (.ireturn, 1) := by decide +kernel
theorem d_C_findNotice_0 : decode b_C_findNotice 0 = .ok (.iload_n 1, 1) := by decide +kernel
theorem d_C_findNotice_1 : decode b_C_findNotice 1 = .ok (.iconst 1, 1) := by decide +kernel
theorem d_C_findNotice_2 : decode b_C_findNotice 2 = .ok (.if_icmp .lt 14, 3) := by decide +kernel
theorem d_C_findNotice_5 : decode b_C_findNotice 5 = .ok (.iload_n 1, 1) := by decide +kernel
theorem d_C_findNotice_6 : decode b_C_findNotice 6 = .ok (.aload_n 0, 1) := by decide +kernel
theorem d_C_findNotice_7 : decode b_C_findNotice 7 = .ok (.getfield 16, 3) := by decide +kernel
theorem d_C_findNotice_10 : decode b_C_findNotice 10 = .ok (.invokevirtual 50, 3) := by decide +kernel
theorem d_C_findNotice_13 : decode b_C_findNotice 13 = .ok (.if_icmp .le 5, 3) := by decide +kernel
theorem d_C_findNotice_16 : decode b_C_findNotice 16 = .ok (.aconst_null, 1) := by decide +kernel
theorem d_C_findNotice_17 : decode b_C_findNotice 17 = .ok (.areturn, 1) := by decide +kernel
theorem d_C_findNotice_18 : decode b_C_findNotice 18 = .ok (.aload_n 0, 1) := by decide +kernel
theorem d_C_findNotice_19 : decode b_C_findNotice 19 = .ok (.getfield 16, 3) := by decide +kernel
theorem d_C_findNotice_22 : decode b_C_findNotice 22 = .ok (.iload_n 1, 1) := by decide +kernel
theorem d_C_findNotice_23 : decode b_C_findNotice 23 = .ok (.iconst 1, 1) := by decide +kernel
theorem d_C_findNotice_24 : decode b_C_findNotice 24 = .ok (.isub, 1) := by decide +kernel
theorem d_C_findNotice_25 : decode b_C_findNotice 25 = .ok (.invokevirtual 160, 3) := by decide +kernel
theorem d_C_findNotice_28 : decode b_C_findNotice 28 = .ok (.checkcast 131, 3) := by decide +kernel
theorem d_C_findNotice_31 : decode b_C_findNotice 31 = .ok (.areturn, 1) := by decide +kernel
theorem d_N_canBeCorrected_0 : decode b_N_canBeCorrected 0 = .ok (.aload_n 0, 1) := by decide +kernel
theorem d_N_canBeCorrected_1 : decode b_N_canBeCorrected 1 = .ok (.getfield 29, 3) := by decide +kernel
theorem d_N_canBeCorrected_4 : decode b_N_canBeCorrected 4 = .ok (.ifCond .eq 11, 3) := by decide +kernel
theorem d_N_canBeCorrected_7 : decode b_N_canBeCorrected 7 = .ok (.aload_n 0, 1) := by decide +kernel
theorem d_N_canBeCorrected_8 : decode b_N_canBeCorrected 8 = .ok (.getfield 29, 3) := by decide +kernel
theorem d_N_canBeCorrected_11 : decode b_N_canBeCorrected 11 = .ok (.iconst 1, 1) := by decide +kernel
theorem d_N_canBeCorrected_12 : decode b_N_canBeCorrected 12 = .ok (.if_icmp .ne 21, 3) := by decide +kernel
theorem d_N_canBeCorrected_15 : decode b_N_canBeCorrected 15 = .ok (.aload_n 0, 1) := by decide +kernel
theorem d_N_canBeCorrected_16 : decode b_N_canBeCorrected 16 = .ok (.getfield 37, 3) := by decide +kernel
theorem d_N_canBeCorrected_19 : decode b_N_canBeCorrected 19 = .ok (.ifCond .ne 14, 3) := by decide +kernel
theorem d_N_canBeCorrected_22 : decode b_N_canBeCorrected 22 = .ok (.aload_n 0, 1) := by decide +kernel
theorem d_N_canBeCorrected_23 : decode b_N_canBeCorrected 23 = .ok (.getfield 41, 3) := by decide +kernel
theorem d_N_canBeCorrected_26 : decode b_N_canBeCorrected 26 = .ok (.ifCond .ne 7, 3) := by decide +kernel
theorem d_N_canBeCorrected_29 : decode b_N_canBeCorrected 29 = .ok (.iconst 1, 1) := by decide +kernel
theorem d_N_canBeCorrected_30 : decode b_N_canBeCorrected 30 = .ok (.goto 4, 3) := by decide +kernel
theorem d_N_canBeCorrected_33 : decode b_N_canBeCorrected 33 = .ok (.iconst 0, 1) := by decide +kernel
theorem d_N_canBeCorrected_34 : decode b_N_canBeCorrected 34 = .ok (.ireturn, 1) := by decide +kernel
theorem d_C_reopenItem_0 : decode b_C_reopenItem 0 = .ok (.aload_n 0, 1) := by decide +kernel
theorem d_C_reopenItem_1 : decode b_C_reopenItem 1 = .ok (.iload_n 1, 1) := by decide +kernel
theorem d_C_reopenItem_2 : decode b_C_reopenItem 2 = .ok (.iload_n 2, 1) := by decide +kernel
theorem d_C_reopenItem_3 : decode b_C_reopenItem 3 = .ok (.invokevirtual 103, 3) := by decide +kernel
theorem d_C_reopenItem_6 : decode b_C_reopenItem 6 = .ok (.astore_n 3, 1) := by decide +kernel
theorem d_C_reopenItem_7 : decode b_C_reopenItem 7 = .ok (.aload_n 3, 1) := by decide +kernel
theorem d_C_reopenItem_8 : decode b_C_reopenItem 8 = .ok (.ifnull 8, 3) := by decide +kernel
theorem d_C_reopenItem_11 : decode b_C_reopenItem 11 = .ok (.aload_n 3, 1) := by decide +kernel
theorem d_C_reopenItem_12 : decode b_C_reopenItem 12 = .ok (.iconst 0, 1) := by decide +kernel
theorem d_C_reopenItem_13 : decode b_C_reopenItem 13 = .ok (.putfield 107, 3) := by decide +kernel
theorem d_C_reopenItem_16 : decode b_C_reopenItem 16 = .ok (.return_, 1) := by decide +kernel
theorem d_C_addCorrection_0 : decode b_C_addCorrection 0 = .ok (.aload_n 0, 1) := by decide +kernel
theorem d_C_addCorrection_1 : decode b_C_addCorrection 1 = .ok (.aload_n 1, 1) := by decide +kernel
theorem d_C_addCorrection_2 : decode b_C_addCorrection 2 = .ok (.getfield 185, 3) := by decide +kernel
theorem d_C_addCorrection_5 : decode b_C_addCorrection 5 = .ok (.aload_n 1, 1) := by decide +kernel
theorem d_C_addCorrection_6 : decode b_C_addCorrection 6 = .ok (.getfield 200, 3) := by decide +kernel
theorem d_C_addCorrection_9 : decode b_C_addCorrection 9 = .ok (.aload_n 1, 1) := by decide +kernel
theorem d_C_addCorrection_10 : decode b_C_addCorrection 10 = .ok (.getfield 190, 3) := by decide +kernel
theorem d_C_addCorrection_13 : decode b_C_addCorrection 13 = .ok (.lload_n 2, 1) := by decide +kernel
theorem d_C_addCorrection_14 : decode b_C_addCorrection 14 = .ok (.invokevirtual 126, 3) := by decide +kernel
theorem d_C_addCorrection_17 : decode b_C_addCorrection 17 = .ok (.astore 4, 2) := by decide +kernel
theorem d_C_addCorrection_19 : decode b_C_addCorrection 19 = .ok (.aload 4, 2) := by decide +kernel
theorem d_C_addCorrection_21 : decode b_C_addCorrection 21 = .ok (.iconst 1, 1) := by decide +kernel
theorem d_C_addCorrection_22 : decode b_C_addCorrection 22 = .ok (.putfield 235, 3) := by decide +kernel
theorem d_C_addCorrection_25 : decode b_C_addCorrection 25 = .ok (.aload 4, 2) := by decide +kernel
theorem d_C_addCorrection_27 : decode b_C_addCorrection 27 = .ok (.getfield 130, 3) := by decide +kernel
theorem d_C_addCorrection_30 : decode b_C_addCorrection 30 = .ok (.ireturn, 1) := by decide +kernel
theorem d_C_join_0 : decode b_C_join 0 = .ok (.iload_n 1, 1) := by decide +kernel
theorem d_C_join_1 : decode b_C_join 1 = .ok (.i2l, 1) := by decide +kernel
theorem d_C_join_2 : decode b_C_join 2 = .ok (.lconst 0, 1) := by decide +kernel
theorem d_C_join_3 : decode b_C_join 3 = .ok (.ldc2_w 214, 3) := by decide +kernel
theorem d_C_join_6 : decode b_C_join 6 = .ok (.invokestatic 42, 3) := by decide +kernel
theorem d_C_join_9 : decode b_C_join 9 = .ok (.ifCond .ne 6, 3) := by decide +kernel
theorem d_C_join_12 : decode b_C_join 12 = .ok (.bipush (-12), 2) := by decide +kernel
theorem d_C_join_14 : decode b_C_join 14 = .ok (.ireturn, 1) := by decide +kernel
theorem d_C_join_15 : decode b_C_join 15 = .ok (.aload_n 0, 1) := by decide +kernel
theorem d_C_join_16 : decode b_C_join 16 = .ok (.getfield 36, 3) := by decide +kernel
theorem d_C_join_19 : decode b_C_join 19 = .ok (.istore_n 2, 1) := by decide +kernel
theorem d_C_join_20 : decode b_C_join 20 = .ok (.aload_n 0, 1) := by decide +kernel
theorem d_C_join_21 : decode b_C_join 21 = .ok (.iload_n 1, 1) := by decide +kernel
theorem d_C_join_22 : decode b_C_join 22 = .ok (.putfield 36, 3) := by decide +kernel
theorem d_C_join_25 : decode b_C_join 25 = .ok (.iload_n 2, 1) := by decide +kernel
theorem d_C_join_26 : decode b_C_join 26 = .ok (.ireturn, 1) := by decide +kernel
end
section
theorem d_M_init_0 : decode b_M_init 0 = .ok (.aload_n 0, 1) := by decide +kernel
theorem d_M_init_1 : decode b_M_init 1 = .ok (.invokespecial 1, 3) := by decide +kernel
theorem d_M_init_4 : decode b_M_init 4 = .ok (.aload_n 0, 1) := by decide +kernel
theorem d_M_init_5 : decode b_M_init 5 = .ok (.iconst 4, 1) := by decide +kernel
theorem d_M_init_6 : decode b_M_init 6 = .ok (.newarray .boolean, 2) := by decide +kernel
theorem d_M_init_8 : decode b_M_init 8 = .ok (.putfield 7, 3) := by decide +kernel
theorem d_M_init_11 : decode b_M_init 11 = .ok (.aload_n 0, 1) := by decide +kernel
theorem d_M_init_12 : decode b_M_init 12 = .ok (.bipush 41, 2) := by decide +kernel
theorem d_M_init_14 : decode b_M_init 14 = .ok (.newarray .int, 2) := by decide +kernel
theorem d_M_init_16 : decode b_M_init 16 = .ok (.putfield 13, 3) := by decide +kernel
theorem d_M_init_19 : decode b_M_init 19 = .ok (.aload_n 0, 1) := by decide +kernel
theorem d_M_init_20 : decode b_M_init 20 = .ok (.bipush 41, 2) := by decide +kernel
theorem d_M_init_22 : decode b_M_init 22 = .ok (.newarray .int, 2) := by decide +kernel
theorem d_M_init_24 : decode b_M_init 24 = .ok (.putfield 17, 3) := by decide +kernel
theorem d_M_init_27 : decode b_M_init 27 = .ok (.aload_n 0, 1) := by decide +kernel
theorem d_M_init_28 : decode b_M_init 28 = .ok (.bipush 41, 2) := by decide +kernel
theorem d_M_init_30 : decode b_M_init 30 = .ok (.newarray .int, 2) := by decide +kernel
theorem d_M_init_32 : decode b_M_init 32 = .ok (.putfield 20, 3) := by decide +kernel
theorem d_M_init_35 : decode b_M_init 35 = .ok (.aload_n 0, 1) := by decide +kernel
theorem d_M_init_36 : decode b_M_init 36 = .ok (.bipush 41, 2) := by decide +kernel
theorem d_M_init_38 : decode b_M_init 38 = .ok (.newarray .int, 2) := by decide +kernel
theorem d_M_init_40 : decode b_M_init 40 = .ok (.putfield 23, 3) := by decide +kernel
theorem d_M_init_43 : decode b_M_init 43 = .ok (.aload_n 0, 1) := by decide +kernel
theorem d_M_init_44 : decode b_M_init 44 = .ok (.sipush 1312, 3) := by decide +kernel
theorem d_M_init_47 : decode b_M_init 47 = .ok (.newarray .int, 2) := by decide +kernel
theorem d_M_init_49 : decode b_M_init 49 = .ok (.putfield 26, 3) := by decide +kernel
theorem d_M_init_52 : decode b_M_init 52 = .ok (.aload_n 0, 1) := by decide +kernel
theorem d_M_init_53 : decode b_M_init 53 = .ok (.sipush 201, 3) := by decide +kernel
theorem d_M_init_56 : decode b_M_init 56 = .ok (.newarray .int, 2) := by decide +kernel
theorem d_M_init_58 : decode b_M_init 58 = .ok (.putfield 29, 3) := by decide +kernel
theorem d_M_init_61 : decode b_M_init 61 = .ok (.aload_n 0, 1) := by decide +kernel
theorem d_M_init_62 : decode b_M_init 62 = .ok (.sipush 201, 3) := by decide +kernel
theorem d_M_init_65 : decode b_M_init 65 = .ok (.newarray .int, 2) := by decide +kernel
theorem d_M_init_67 : decode b_M_init 67 = .ok (.putfield 32, 3) := by decide +kernel
theorem d_M_init_70 : decode b_M_init 70 = .ok (.aload_n 0, 1) := by decide +kernel
theorem d_M_init_71 : decode b_M_init 71 = .ok (.sipush 201, 3) := by decide +kernel
theorem d_M_init_74 : decode b_M_init 74 = .ok (.newarray .int, 2) := by decide +kernel
theorem d_M_init_76 : decode b_M_init 76 = .ok (.putfield 35, 3) := by decide +kernel
theorem d_M_init_79 : decode b_M_init 79 = .ok (.aload_n 0, 1) := by decide +kernel
theorem d_M_init_80 : decode b_M_init 80 = .ok (.sipush 201, 3) := by decide +kernel
theorem d_M_init_83 : decode b_M_init 83 = .ok (.newarray .long, 2) := by decide +kernel
theorem d_M_init_85 : decode b_M_init 85 = .ok (.putfield 38, 3) := by decide +kernel
theorem d_M_init_88 : decode b_M_init 88 = .ok (.aload_n 0, 1) := by decide +kernel
theorem d_M_init_89 : decode b_M_init 89 = .ok (.sipush 201, 3) := by decide +kernel
theorem d_M_init_92 : decode b_M_init 92 = .ok (.newarray .long, 2) := by decide +kernel
theorem d_M_init_94 : decode b_M_init 94 = .ok (.putfield 42, 3) := by decide +kernel
theorem d_M_init_97 : decode b_M_init 97 = .ok (.aload_n 0, 1) := by decide +kernel
theorem d_M_init_98 : decode b_M_init 98 = .ok (.sipush 201, 3) := by decide +kernel
theorem d_M_init_101 : decode b_M_init 101 = .ok (.newarray .int, 2) := by decide +kernel
theorem d_M_init_103 : decode b_M_init 103 = .ok (.putfield 45, 3) := by decide +kernel
theorem d_M_init_106 : decode b_M_init 106 = .ok (.aload_n 0, 1) := by decide +kernel
theorem d_M_init_107 : decode b_M_init 107 = .ok (.sipush 201, 3) := by decide +kernel
theorem d_M_init_110 : decode b_M_init 110 = .ok (.newarray .boolean, 2) := by decide +kernel
theorem d_M_init_112 : decode b_M_init 112 = .ok (.putfield 48, 3) := by decide +kernel
theorem d_M_init_115 : decode b_M_init 115 = .ok (.aload_n 0, 1) := by decide +kernel
theorem d_M_init_116 : decode b_M_init 116 = .ok (.sipush 201, 3) := by decide +kernel
theorem d_M_init_119 : decode b_M_init 119 = .ok (.newarray .boolean, 2) := by decide +kernel
theorem d_M_init_121 : decode b_M_init 121 = .ok (.putfield 51, 3) := by decide +kernel
theorem d_M_init_124 : decode b_M_init 124 = .ok (.aload_n 0, 1) := by decide +kernel
theorem d_M_init_125 : decode b_M_init 125 = .ok (.bipush 60, 2) := by decide +kernel
theorem d_M_init_127 : decode b_M_init 127 = .ok (.newarray .int, 2) := by decide +kernel
theorem d_M_init_129 : decode b_M_init 129 = .ok (.putfield 54, 3) := by decide +kernel
theorem d_M_init_132 : decode b_M_init 132 = .ok (.aload_n 0, 1) := by decide +kernel
theorem d_M_init_133 : decode b_M_init 133 = .ok (.bipush 60, 2) := by decide +kernel
theorem d_M_init_135 : decode b_M_init 135 = .ok (.newarray .int, 2) := by decide +kernel
theorem d_M_init_137 : decode b_M_init 137 = .ok (.putfield 57, 3) := by decide +kernel
theorem d_M_init_140 : decode b_M_init 140 = .ok (.aload_n 0, 1) := by decide +kernel
theorem d_M_init_141 : decode b_M_init 141 = .ok (.bipush 60, 2) := by decide +kernel
theorem d_M_init_143 : decode b_M_init 143 = .ok (.newarray .boolean, 2) := by decide +kernel
theorem d_M_init_145 : decode b_M_init 145 = .ok (.putfield 60, 3) := by decide +kernel
theorem d_M_init_148 : decode b_M_init 148 = .ok (.aload_n 0, 1) := by decide +kernel
theorem d_M_init_149 : decode b_M_init 149 = .ok (.bipush 60, 2) := by decide +kernel
theorem d_M_init_151 : decode b_M_init 151 = .ok (.newarray .int, 2) := by decide +kernel
theorem d_M_init_153 : decode b_M_init 153 = .ok (.putfield 63, 3) := by decide +kernel
theorem d_M_init_156 : decode b_M_init 156 = .ok (.aload_n 0, 1) := by decide +kernel
theorem d_M_init_157 : decode b_M_init 157 = .ok (.sipush 200, 3) := by decide +kernel
theorem d_M_init_160 : decode b_M_init 160 = .ok (.newarray .int, 2) := by decide +kernel
theorem d_M_init_162 : decode b_M_init 162 = .ok (.putfield 66, 3) := by decide +kernel
theorem d_M_init_165 : decode b_M_init 165 = .ok (.aload_n 0, 1) := by decide +kernel
theorem d_M_init_166 : decode b_M_init 166 = .ok (.sipush 200, 3) := by decide +kernel
theorem d_M_init_169 : decode b_M_init 169 = .ok (.newarray .int, 2) := by decide +kernel
theorem d_M_init_171 : decode b_M_init 171 = .ok (.putfield 69, 3) := by decide +kernel
theorem d_M_init_174 : decode b_M_init 174 = .ok (.aload_n 0, 1) := by decide +kernel
theorem d_M_init_175 : decode b_M_init 175 = .ok (.sipush 200, 3) := by decide +kernel
theorem d_M_init_178 : decode b_M_init 178 = .ok (.newarray .int, 2) := by decide +kernel
theorem d_M_init_180 : decode b_M_init 180 = .ok (.putfield 72, 3) := by decide +kernel
theorem d_M_init_183 : decode b_M_init 183 = .ok (.aload_n 0, 1) := by decide +kernel
theorem d_M_init_184 : decode b_M_init 184 = .ok (.sipush 200, 3) := by decide +kernel
theorem d_M_init_187 : decode b_M_init 187 = .ok (.newarray .long, 2) := by decide +kernel
theorem d_M_init_189 : decode b_M_init 189 = .ok (.putfield 75, 3) := by decide +kernel
theorem d_M_init_192 : decode b_M_init 192 = .ok (.aload_n 0, 1) := by decide +kernel
theorem d_M_init_193 : decode b_M_init 193 = .ok (.sipush 200, 3) := by decide +kernel
theorem d_M_init_196 : decode b_M_init 196 = .ok (.newarray .int, 2) := by decide +kernel
theorem d_M_init_198 : decode b_M_init 198 = .ok (.putfield 78, 3) := by decide +kernel
theorem d_M_init_201 : decode b_M_init 201 = .ok (.aload_n 0, 1) := by decide +kernel
theorem d_M_init_202 : decode b_M_init 202 = .ok (.bipush 41, 2) := by decide +kernel
theorem d_M_init_204 : decode b_M_init 204 = .ok (.newarray .long, 2) := by decide +kernel
theorem d_M_init_206 : decode b_M_init 206 = .ok (.putfield 81, 3) := by decide +kernel
theorem d_M_init_209 : decode b_M_init 209 = .ok (.aload_n 0, 1) := by decide +kernel
theorem d_M_init_210 : decode b_M_init 210 = .ok (.bipush 41, 2) := by decide +kernel
theorem d_M_init_212 : decode b_M_init 212 = .ok (.newarray .int, 2) := by decide +kernel
theorem d_M_init_214 : decode b_M_init 214 = .ok (.putfield 84, 3) := by decide +kernel
theorem d_M_init_217 : decode b_M_init 217 = .ok (.aload_n 0, 1) := by decide +kernel
theorem d_M_init_218 : decode b_M_init 218 = .ok (.iconst 0, 1) := by decide +kernel
theorem d_M_init_219 : decode b_M_init 219 = .ok (.putfield 87, 3) := by decide +kernel
theorem d_M_init_222 : decode b_M_init 222 = .ok (.return_, 1) := by decide +kernel
theorem d_M_customer_0 : decode b_M_customer 0 = .ok (.iload_n 1, 1) := by decide +kernel
theorem d_M_customer_1 : decode b_M_customer 1 = .ok (.i2l, 1) := by decide +kernel
theorem d_M_customer_2 : decode b_M_customer 2 = .ok (.lconst 0, 1) := by decide +kernel
theorem d_M_customer_3 : decode b_M_customer 3 = .ok (.ldc2_w 101, 3) := by decide +kernel
theorem d_M_customer_6 : decode b_M_customer 6 = .ok (.invokestatic 91, 3) := by decide +kernel
theorem d_M_customer_9 : decode b_M_customer 9 = .ok (.ifCond .eq 17, 3) := by decide +kernel
theorem d_M_customer_12 : decode b_M_customer 12 = .ok (.iload_n 2, 1) := by decide +kernel
theorem d_M_customer_13 : decode b_M_customer 13 = .ok (.i2l, 1) := by decide +kernel
theorem d_M_customer_14 : decode b_M_customer 14 = .ok (.ldc2_w 103, 3) := by decide +kernel
theorem d_M_customer_17 : decode b_M_customer 17 = .ok (.ldc2_w 105, 3) := by decide +kernel
theorem d_M_customer_20 : decode b_M_customer 20 = .ok (.invokestatic 91, 3) := by decide +kernel
theorem d_M_customer_23 : decode b_M_customer 23 = .ok (.ifCond .ne 6, 3) := by decide +kernel
theorem d_M_customer_26 : decode b_M_customer 26 = .ok (.bipush (-12), 2) := by decide +kernel
theorem d_M_customer_28 : decode b_M_customer 28 = .ok (.ireturn, 1) := by decide +kernel
theorem d_M_customer_29 : decode b_M_customer 29 = .ok (.aload_n 0, 1) := by decide +kernel
theorem d_M_customer_30 : decode b_M_customer 30 = .ok (.getfield 87, 3) := by decide +kernel
theorem d_M_customer_33 : decode b_M_customer 33 = .ok (.bipush 40, 2) := by decide +kernel
theorem d_M_customer_35 : decode b_M_customer 35 = .ok (.if_icmp .ne 6, 3) := by decide +kernel
theorem d_M_customer_38 : decode b_M_customer 38 = .ok (.bipush (-14), 2) := by decide +kernel
theorem d_M_customer_40 : decode b_M_customer 40 = .ok (.ireturn, 1) := by decide +kernel
theorem d_M_customer_41 : decode b_M_customer 41 = .ok (.aload_n 0, 1) := by decide +kernel
theorem d_M_customer_42 : decode b_M_customer 42 = .ok (.dup, 1) := by decide +kernel
theorem d_M_customer_43 : decode b_M_customer 43 = .ok (.getfield 87, 3) := by decide +kernel
theorem d_M_customer_46 : decode b_M_customer 46 = .ok (.iconst 1, 1) := by decide +kernel
theorem d_M_customer_47 : decode b_M_customer 47 = .ok (.iadd, 1) := by decide +kernel
theorem d_M_customer_48 : decode b_M_customer 48 = .ok (.putfield 87, 3) := by decide +kernel
theorem d_M_customer_51 : decode b_M_customer 51 = .ok (.aload_n 0, 1) := by decide +kernel
theorem d_M_customer_52 : decode b_M_customer 52 = .ok (.getfield 13, 3) := by decide +kernel
theorem d_M_customer_55 : decode b_M_customer 55 = .ok (.aload_n 0, 1) := by decide +kernel
theorem d_M_customer_56 : decode b_M_customer 56 = .ok (.getfield 87, 3) := by decide +kernel
theorem d_M_customer_59 : decode b_M_customer 59 = .ok (.iload_n 1, 1) := by decide +kernel
theorem d_M_customer_60 : decode b_M_customer 60 = .ok (.iastore, 1) := by decide +kernel
theorem d_M_customer_61 : decode b_M_customer 61 = .ok (.aload_n 0, 1) := by decide +kernel
theorem d_M_customer_62 : decode b_M_customer 62 = .ok (.getfield 17, 3) := by decide +kernel
theorem d_M_customer_65 : decode b_M_customer 65 = .ok (.aload_n 0, 1) := by decide +kernel
theorem d_M_customer_66 : decode b_M_customer 66 = .ok (.getfield 87, 3) := by decide +kernel
theorem d_M_customer_69 : decode b_M_customer 69 = .ok (.iload_n 2, 1) := by decide +kernel
theorem d_M_customer_70 : decode b_M_customer 70 = .ok (.iastore, 1) := by decide +kernel
theorem d_M_customer_71 : decode b_M_customer 71 = .ok (.aload_n 0, 1) := by decide +kernel
theorem d_M_customer_72 : decode b_M_customer 72 = .ok (.getfield 87, 3) := by decide +kernel
theorem d_M_customer_75 : decode b_M_customer 75 = .ok (.ireturn, 1) := by decide +kernel
theorem d_M_isIn_0 : decode b_M_isIn 0 = .ok (.lload_n 0, 1) := by decide +kernel
theorem d_M_isIn_1 : decode b_M_isIn 1 = .ok (.lload_n 2, 1) := by decide +kernel
theorem d_M_isIn_2 : decode b_M_isIn 2 = .ok (.lcmp, 1) := by decide +kernel
theorem d_M_isIn_3 : decode b_M_isIn 3 = .ok (.ifCond .lt 14, 3) := by decide +kernel
theorem d_M_isIn_6 : decode b_M_isIn 6 = .ok (.lload_n 0, 1) := by decide +kernel
theorem d_M_isIn_7 : decode b_M_isIn 7 = .ok (.lload 4, 2) := by decide +kernel
theorem d_M_isIn_9 : decode b_M_isIn 9 = .ok (.lcmp, 1) := by decide +kernel
theorem d_M_isIn_10 : decode b_M_isIn 10 = .ok (.ifCond .gt 7, 3) := by decide +kernel
theorem d_M_isIn_13 : decode b_M_isIn 13 = .ok (.iconst 1, 1) := by decide +kernel
theorem d_M_isIn_14 : decode b_M_isIn 14 = .ok (.goto 4, 3) := by decide +kernel
theorem d_M_isIn_17 : decode b_M_isIn 17 = .ok (.iconst 0, 1) := by decide +kernel
theorem d_M_isIn_18 : decode b_M_isIn 18 = .ok (.ireturn, 1) := by decide +kernel
theorem d_M_wish_0 : decode b_M_wish 0 = .ok (.aload_n 0, 1) := by decide +kernel
theorem d_M_wish_1 : decode b_M_wish 1 = .ok (.iload_n 1, 1) := by decide +kernel
theorem d_M_wish_2 : decode b_M_wish 2 = .ok (.invokevirtual 107, 3) := by decide +kernel
theorem d_M_wish_5 : decode b_M_wish 5 = .ok (.ifCond .ne 6, 3) := by decide +kernel
theorem d_M_wish_8 : decode b_M_wish 8 = .ok (.bipush (-11), 2) := by decide +kernel
theorem d_M_wish_10 : decode b_M_wish 10 = .ok (.ireturn, 1) := by decide +kernel
theorem d_M_wish_11 : decode b_M_wish 11 = .ok (.iload_n 2, 1) := by decide +kernel
theorem d_M_wish_12 : decode b_M_wish 12 = .ok (.i2l, 1) := by decide +kernel
theorem d_M_wish_13 : decode b_M_wish 13 = .ok (.lconst 0, 1) := by decide +kernel
theorem d_M_wish_14 : decode b_M_wish 14 = .ok (.ldc2_w 111, 3) := by decide +kernel
theorem d_M_wish_17 : decode b_M_wish 17 = .ok (.invokestatic 91, 3) := by decide +kernel
theorem d_M_wish_20 : decode b_M_wish 20 = .ok (.ifCond .eq 28, 3) := by decide +kernel
theorem d_M_wish_23 : decode b_M_wish 23 = .ok (.iload_n 3, 1) := by decide +kernel
theorem d_M_wish_24 : decode b_M_wish 24 = .ok (.i2l, 1) := by decide +kernel
theorem d_M_wish_25 : decode b_M_wish 25 = .ok (.lconst 0, 1) := by decide +kernel
theorem d_M_wish_26 : decode b_M_wish 26 = .ok (.ldc2_w 113, 3) := by decide +kernel
theorem d_M_wish_29 : decode b_M_wish 29 = .ok (.invokestatic 91, 3) := by decide +kernel
theorem d_M_wish_32 : decode b_M_wish 32 = .ok (.ifCond .eq 16, 3) := by decide +kernel
theorem d_M_wish_35 : decode b_M_wish 35 = .ok (.iload 4, 2) := by decide +kernel
theorem d_M_wish_37 : decode b_M_wish 37 = .ok (.i2l, 1) := by decide +kernel
theorem d_M_wish_38 : decode b_M_wish 38 = .ok (.lconst 0, 1) := by decide +kernel
theorem d_M_wish_39 : decode b_M_wish 39 = .ok (.ldc2_w 101, 3) := by decide +kernel
theorem d_M_wish_42 : decode b_M_wish 42 = .ok (.invokestatic 91, 3) := by decide +kernel
theorem d_M_wish_45 : decode b_M_wish 45 = .ok (.ifCond .ne 6, 3) := by decide +kernel
theorem d_M_wish_48 : decode b_M_wish 48 = .ok (.bipush (-12), 2) := by decide +kernel
theorem d_M_wish_50 : decode b_M_wish 50 = .ok (.ireturn, 1) := by decide +kernel
theorem d_M_wish_51 : decode b_M_wish 51 = .ok (.aload_n 0, 1) := by decide +kernel
theorem d_M_wish_52 : decode b_M_wish 52 = .ok (.getfield 26, 3) := by decide +kernel
theorem d_M_wish_55 : decode b_M_wish 55 = .ok (.bipush 32, 2) := by decide +kernel
theorem d_M_wish_57 : decode b_M_wish 57 = .ok (.iload_n 1, 1) := by decide +kernel
theorem d_M_wish_58 : decode b_M_wish 58 = .ok (.imul, 1) := by decide +kernel
theorem d_M_wish_59 : decode b_M_wish 59 = .ok (.iconst 4, 1) := by decide +kernel
theorem d_M_wish_60 : decode b_M_wish 60 = .ok (.iload_n 2, 1) := by decide +kernel
theorem d_M_wish_61 : decode b_M_wish 61 = .ok (.imul, 1) := by decide +kernel
theorem d_M_wish_62 : decode b_M_wish 62 = .ok (.iadd, 1) := by decide +kernel
theorem d_M_wish_63 : decode b_M_wish 63 = .ok (.iload_n 3, 1) := by decide +kernel
theorem d_M_wish_64 : decode b_M_wish 64 = .ok (.iadd, 1) := by decide +kernel
theorem d_M_wish_65 : decode b_M_wish 65 = .ok (.iload 4, 2) := by decide +kernel
theorem d_M_wish_67 : decode b_M_wish 67 = .ok (.iconst 1, 1) := by decide +kernel
theorem d_M_wish_68 : decode b_M_wish 68 = .ok (.iadd, 1) := by decide +kernel
theorem d_M_wish_69 : decode b_M_wish 69 = .ok (.iastore, 1) := by decide +kernel
theorem d_M_wish_70 : decode b_M_wish 70 = .ok (.aload_n 0, 1) := by decide +kernel
theorem d_M_wish_71 : decode b_M_wish 71 = .ok (.iload_n 1, 1) := by decide +kernel
theorem d_M_wish_72 : decode b_M_wish 72 = .ok (.iload_n 2, 1) := by decide +kernel
theorem d_M_wish_73 : decode b_M_wish 73 = .ok (.invokevirtual 115, 3) := by decide +kernel
theorem d_M_wish_76 : decode b_M_wish 76 = .ok (.ireturn, 1) := by decide +kernel
theorem d_M_isCustomer_0 : decode b_M_isCustomer 0 = .ok (.iload_n 1, 1) := by decide +kernel
theorem d_M_isCustomer_1 : decode b_M_isCustomer 1 = .ok (.i2l, 1) := by decide +kernel
theorem d_M_isCustomer_2 : decode b_M_isCustomer 2 = .ok (.lconst 1, 1) := by decide +kernel
theorem d_M_isCustomer_3 : decode b_M_isCustomer 3 = .ok (.aload_n 0, 1) := by decide +kernel
theorem d_M_isCustomer_4 : decode b_M_isCustomer 4 = .ok (.getfield 87, 3) := by decide +kernel
theorem d_M_isCustomer_7 : decode b_M_isCustomer 7 = .ok (.i2l, 1) := by decide +kernel
theorem d_M_isCustomer_8 : decode b_M_isCustomer 8 = .ok (.invokestatic 91, 3) := by decide +kernel
theorem d_M_isCustomer_11 : decode b_M_isCustomer 11 = .ok (.ireturn, 1) := by decide +kernel
theorem d_M_wished_0 : decode b_M_wished 0 = .ok (.iconst 0, 1) := by decide +kernel
theorem d_M_wished_1 : decode b_M_wished 1 = .ok (.istore_n 3, 1) := by decide +kernel
theorem d_M_wished_2 : decode b_M_wished 2 = .ok (.iconst 0, 1) := by decide +kernel
theorem d_M_wished_3 : decode b_M_wished 3 = .ok (.istore 4, 2) := by decide +kernel
theorem d_M_wished_5 : decode b_M_wished 5 = .ok (.iload 4, 2) := by decide +kernel
theorem d_M_wished_7 : decode b_M_wished 7 = .ok (.iconst 4, 1) := by decide +kernel
theorem d_M_wished_8 : decode b_M_wished 8 = .ok (.if_icmp .ge 36, 3) := by decide +kernel
theorem d_M_wished_11 : decode b_M_wished 11 = .ok (.aload_n 0, 1) := by decide +kernel
theorem d_M_wished_12 : decode b_M_wished 12 = .ok (.getfield 26, 3) := by decide +kernel
theorem d_M_wished_15 : decode b_M_wished 15 = .ok (.bipush 32, 2) := by decide +kernel
theorem d_M_wished_17 : decode b_M_wished 17 = .ok (.iload_n 1, 1) := by decide +kernel
theorem d_M_wished_18 : decode b_M_wished 18 = .ok (.imul, 1) := by decide +kernel
theorem d_M_wished_19 : decode b_M_wished 19 = .ok (.iconst 4, 1) := by decide +kernel
theorem d_M_wished_20 : decode b_M_wished 20 = .ok (.iload_n 2, 1) := by decide +kernel
theorem d_M_wished_21 : decode b_M_wished 21 = .ok (.imul, 1) := by decide +kernel
theorem d_M_wished_22 : decode b_M_wished 22 = .ok (.iadd, 1) := by decide +kernel
theorem d_M_wished_23 : decode b_M_wished 23 = .ok (.iload 4, 2) := by decide +kernel
theorem d_M_wished_25 : decode b_M_wished 25 = .ok (.iadd, 1) := by decide +kernel
theorem d_M_wished_26 : decode b_M_wished 26 = .ok (.iaload, 1) := by decide +kernel
theorem d_M_wished_27 : decode b_M_wished 27 = .ok (.ifCond .le 9, 3) := by decide +kernel
theorem d_M_wished_30 : decode b_M_wished 30 = .ok (.iload_n 3, 1) := by decide +kernel
theorem d_M_wished_31 : decode b_M_wished 31 = .ok (.iconst 1, 1) := by decide +kernel
theorem d_M_wished_32 : decode b_M_wished 32 = .ok (.iadd, 1) := by decide +kernel
theorem d_M_wished_33 : decode b_M_wished 33 = .ok (.goto 4, 3) := by decide +kernel
theorem d_M_wished_36 : decode b_M_wished 36 = .ok (.iload_n 3, 1) := by decide +kernel
theorem d_M_wished_37 : decode b_M_wished 37 = .ok (.istore_n 3, 1) := by decide +kernel
theorem d_M_wished_38 : decode b_M_wished 38 = .ok (.iinc 4 1, 3) := by decide +kernel
theorem d_M_wished_41 : decode b_M_wished 41 = .ok (.goto (-36), 3) := by decide +kernel
theorem d_M_wished_44 : decode b_M_wished 44 = .ok (.iload_n 3, 1) := by decide +kernel
theorem d_M_wished_45 : decode b_M_wished 45 = .ok (.ireturn, 1) := by decide +kernel
theorem d_M_quiet_0 : decode b_M_quiet 0 = .ok (.aload_n 0, 1) := by decide +kernel
theorem d_M_quiet_1 : decode b_M_quiet 1 = .ok (.iload_n 1, 1) := by decide +kernel
theorem d_M_quiet_2 : decode b_M_quiet 2 = .ok (.invokevirtual 107, 3) := by decide +kernel
theorem d_M_quiet_5 : decode b_M_quiet 5 = .ok (.ifCond .ne 6, 3) := by decide +kernel
theorem d_M_quiet_8 : decode b_M_quiet 8 = .ok (.bipush (-11), 2) := by decide +kernel
theorem d_M_quiet_10 : decode b_M_quiet 10 = .ok (.ireturn, 1) := by decide +kernel
theorem d_M_quiet_11 : decode b_M_quiet 11 = .ok (.iload_n 2, 1) := by decide +kernel
theorem d_M_quiet_12 : decode b_M_quiet 12 = .ok (.i2l, 1) := by decide +kernel
theorem d_M_quiet_13 : decode b_M_quiet 13 = .ok (.lconst 0, 1) := by decide +kernel
theorem d_M_quiet_14 : decode b_M_quiet 14 = .ok (.ldc2_w 119, 3) := by decide +kernel
theorem d_M_quiet_17 : decode b_M_quiet 17 = .ok (.invokestatic 91, 3) := by decide +kernel
theorem d_M_quiet_20 : decode b_M_quiet 20 = .ok (.ifCond .eq 15, 3) := by decide +kernel
theorem d_M_quiet_23 : decode b_M_quiet 23 = .ok (.iload_n 3, 1) := by decide +kernel
theorem d_M_quiet_24 : decode b_M_quiet 24 = .ok (.i2l, 1) := by decide +kernel
theorem d_M_quiet_25 : decode b_M_quiet 25 = .ok (.lconst 0, 1) := by decide +kernel
theorem d_M_quiet_26 : decode b_M_quiet 26 = .ok (.ldc2_w 119, 3) := by decide +kernel
theorem d_M_quiet_29 : decode b_M_quiet 29 = .ok (.invokestatic 91, 3) := by decide +kernel
theorem d_M_quiet_32 : decode b_M_quiet 32 = .ok (.ifCond .ne 6, 3) := by decide +kernel
theorem d_M_quiet_35 : decode b_M_quiet 35 = .ok (.bipush (-12), 2) := by decide +kernel
theorem d_M_quiet_37 : decode b_M_quiet 37 = .ok (.ireturn, 1) := by decide +kernel
theorem d_M_quiet_38 : decode b_M_quiet 38 = .ok (.aload_n 0, 1) := by decide +kernel
theorem d_M_quiet_39 : decode b_M_quiet 39 = .ok (.getfield 20, 3) := by decide +kernel
theorem d_M_quiet_42 : decode b_M_quiet 42 = .ok (.iload_n 1, 1) := by decide +kernel
theorem d_M_quiet_43 : decode b_M_quiet 43 = .ok (.iload_n 2, 1) := by decide +kernel
theorem d_M_quiet_44 : decode b_M_quiet 44 = .ok (.iastore, 1) := by decide +kernel
theorem d_M_quiet_45 : decode b_M_quiet 45 = .ok (.aload_n 0, 1) := by decide +kernel
theorem d_M_quiet_46 : decode b_M_quiet 46 = .ok (.getfield 23, 3) := by decide +kernel
theorem d_M_quiet_49 : decode b_M_quiet 49 = .ok (.iload_n 1, 1) := by decide +kernel
theorem d_M_quiet_50 : decode b_M_quiet 50 = .ok (.iload_n 3, 1) := by decide +kernel
theorem d_M_quiet_51 : decode b_M_quiet 51 = .ok (.iastore, 1) := by decide +kernel
theorem d_M_quiet_52 : decode b_M_quiet 52 = .ok (.iload_n 3, 1) := by decide +kernel
theorem d_M_quiet_53 : decode b_M_quiet 53 = .ok (.iload_n 2, 1) := by decide +kernel
theorem d_M_quiet_54 : decode b_M_quiet 54 = .ok (.isub, 1) := by decide +kernel
theorem d_M_quiet_55 : decode b_M_quiet 55 = .ok (.sipush 1440, 3) := by decide +kernel
theorem d_M_quiet_58 : decode b_M_quiet 58 = .ok (.iadd, 1) := by decide +kernel
theorem d_M_quiet_59 : decode b_M_quiet 59 = .ok (.sipush 1440, 3) := by decide +kernel
theorem d_M_quiet_62 : decode b_M_quiet 62 = .ok (.irem, 1) := by decide +kernel
theorem d_M_quiet_63 : decode b_M_quiet 63 = .ok (.ireturn, 1) := by decide +kernel
theorem d_M_event_0 : decode b_M_event 0 = .ok (.aload_n 0, 1) := by decide +kernel
theorem d_M_event_1 : decode b_M_event 1 = .ok (.iload_n 1, 1) := by decide +kernel
theorem d_M_event_2 : decode b_M_event 2 = .ok (.invokevirtual 107, 3) := by decide +kernel
theorem d_M_event_5 : decode b_M_event 5 = .ok (.ifCond .ne 6, 3) := by decide +kernel
theorem d_M_event_8 : decode b_M_event 8 = .ok (.bipush (-11), 2) := by decide +kernel
theorem d_M_event_10 : decode b_M_event 10 = .ok (.ireturn, 1) := by decide +kernel
theorem d_M_event_11 : decode b_M_event 11 = .ok (.iload_n 2, 1) := by decide +kernel
theorem d_M_event_12 : decode b_M_event 12 = .ok (.i2l, 1) := by decide +kernel
theorem d_M_event_13 : decode b_M_event 13 = .ok (.lconst 1, 1) := by decide +kernel
theorem d_M_event_14 : decode b_M_event 14 = .ok (.ldc2_w 132, 3) := by decide +kernel
theorem d_M_event_17 : decode b_M_event 17 = .ok (.invokestatic 91, 3) := by decide +kernel
theorem d_M_event_20 : decode b_M_event 20 = .ok (.ifCond .eq 24, 3) := by decide +kernel
theorem d_M_event_23 : decode b_M_event 23 = .ok (.iload_n 3, 1) := by decide +kernel
theorem d_M_event_24 : decode b_M_event 24 = .ok (.i2l, 1) := by decide +kernel
theorem d_M_event_25 : decode b_M_event 25 = .ok (.lconst 0, 1) := by decide +kernel
theorem d_M_event_26 : decode b_M_event 26 = .ok (.ldc2_w 111, 3) := by decide +kernel
theorem d_M_event_29 : decode b_M_event 29 = .ok (.invokestatic 91, 3) := by decide +kernel
theorem d_M_event_32 : decode b_M_event 32 = .ok (.ifCond .eq 12, 3) := by decide +kernel
theorem d_M_event_35 : decode b_M_event 35 = .ok (.aload_n 0, 1) := by decide +kernel
theorem d_M_event_36 : decode b_M_event 36 = .ok (.lload 4, 2) := by decide +kernel
theorem d_M_event_38 : decode b_M_event 38 = .ok (.invokevirtual 134, 3) := by decide +kernel
theorem d_M_event_41 : decode b_M_event 41 = .ok (.ifCond .ne 6, 3) := by decide +kernel
theorem d_M_event_44 : decode b_M_event 44 = .ok (.bipush (-12), 2) := by decide +kernel
theorem d_M_event_46 : decode b_M_event 46 = .ok (.ireturn, 1) := by decide +kernel
theorem d_M_event_47 : decode b_M_event 47 = .ok (.aload_n 0, 1) := by decide +kernel
theorem d_M_event_48 : decode b_M_event 48 = .ok (.iload_n 1, 1) := by decide +kernel
theorem d_M_event_49 : decode b_M_event 49 = .ok (.iload_n 2, 1) := by decide +kernel
theorem d_M_event_50 : decode b_M_event 50 = .ok (.invokevirtual 126, 3) := by decide +kernel
theorem d_M_event_53 : decode b_M_event 53 = .ok (.istore 6, 2) := by decide +kernel
theorem d_M_event_55 : decode b_M_event 55 = .ok (.iload 6, 2) := by decide +kernel
theorem d_M_event_57 : decode b_M_event 57 = .ok (.ifCond .lt 15, 3) := by decide +kernel
theorem d_M_event_60 : decode b_M_event 60 = .ok (.aload_n 0, 1) := by decide +kernel
theorem d_M_event_61 : decode b_M_event 61 = .ok (.getfield 60, 3) := by decide +kernel
theorem d_M_event_64 : decode b_M_event 64 = .ok (.iload 6, 2) := by decide +kernel
theorem d_M_event_66 : decode b_M_event 66 = .ok (.baload, 1) := by decide +kernel
theorem d_M_event_67 : decode b_M_event 67 = .ok (.ifCond .eq 5, 3) := by decide +kernel
theorem d_M_event_70 : decode b_M_event 70 = .ok (.iconst 0, 1) := by decide +kernel
theorem d_M_event_71 : decode b_M_event 71 = .ok (.ireturn, 1) := by decide +kernel
theorem d_M_event_72 : decode b_M_event 72 = .ok (.iload_n 3, 1) := by decide +kernel
theorem d_M_event_73 : decode b_M_event 73 = .ok (.iconst 5, 1) := by decide +kernel
theorem d_M_event_74 : decode b_M_event 74 = .ok (.if_icmp .eq 9, 3) := by decide +kernel
theorem d_M_event_77 : decode b_M_event 77 = .ok (.iload_n 3, 1) := by decide +kernel
theorem d_M_event_78 : decode b_M_event 78 = .ok (.bipush 6, 2) := by decide +kernel
theorem d_M_event_80 : decode b_M_event 80 = .ok (.if_icmp .ne 7, 3) := by decide +kernel
theorem d_M_event_83 : decode b_M_event 83 = .ok (.iconst 1, 1) := by decide +kernel
theorem d_M_event_84 : decode b_M_event 84 = .ok (.goto 4, 3) := by decide +kernel
theorem d_M_event_87 : decode b_M_event 87 = .ok (.iconst 0, 1) := by decide +kernel
theorem d_M_event_88 : decode b_M_event 88 = .ok (.istore 7, 2) := by decide +kernel
theorem d_M_event_90 : decode b_M_event 90 = .ok (.aload_n 0, 1) := by decide +kernel
theorem d_M_event_91 : decode b_M_event 91 = .ok (.iload_n 1, 1) := by decide +kernel
theorem d_M_event_92 : decode b_M_event 92 = .ok (.iload_n 3, 1) := by decide +kernel
theorem d_M_event_93 : decode b_M_event 93 = .ok (.invokevirtual 115, 3) := by decide +kernel
theorem d_M_event_96 : decode b_M_event 96 = .ok (.ifCond .le 7, 3) := by decide +kernel
theorem d_M_event_99 : decode b_M_event 99 = .ok (.iconst 1, 1) := by decide +kernel
theorem d_M_event_100 : decode b_M_event 100 = .ok (.goto 4, 3) := by decide +kernel
theorem d_M_event_103 : decode b_M_event 103 = .ok (.iconst 0, 1) := by decide +kernel
theorem d_M_event_104 : decode b_M_event 104 = .ok (.istore 8, 2) := by decide +kernel
theorem d_M_event_106 : decode b_M_event 106 = .ok (.iload 8, 2) := by decide +kernel
theorem d_M_event_108 : decode b_M_event 108 = .ok (.ifCond .eq 13, 3) := by decide +kernel
theorem d_M_event_111 : decode b_M_event 111 = .ok (.aload_n 0, 1) := by decide +kernel
theorem d_M_event_112 : decode b_M_event 112 = .ok (.getfield 129, 3) := by decide +kernel
theorem d_M_event_115 : decode b_M_event 115 = .ok (.sipush 200, 3) := by decide +kernel
theorem d_M_event_118 : decode b_M_event 118 = .ok (.if_icmp .eq 22, 3) := by decide +kernel
theorem d_M_event_121 : decode b_M_event 121 = .ok (.iload 7, 2) := by decide +kernel
theorem d_M_event_123 : decode b_M_event 123 = .ok (.ifCond .eq 20, 3) := by decide +kernel
theorem d_M_event_126 : decode b_M_event 126 = .ok (.iload 6, 2) := by decide +kernel
theorem d_M_event_128 : decode b_M_event 128 = .ok (.ifCond .ge 15, 3) := by decide +kernel
theorem d_M_event_131 : decode b_M_event 131 = .ok (.aload_n 0, 1) := by decide +kernel
theorem d_M_event_132 : decode b_M_event 132 = .ok (.getfield 123, 3) := by decide +kernel
theorem d_M_event_135 : decode b_M_event 135 = .ok (.bipush 60, 2) := by decide +kernel
theorem d_M_event_137 : decode b_M_event 137 = .ok (.if_icmp .ne 6, 3) := by decide +kernel
theorem d_M_event_140 : decode b_M_event 140 = .ok (.bipush (-14), 2) := by decide +kernel
theorem d_M_event_142 : decode b_M_event 142 = .ok (.ireturn, 1) := by decide +kernel
theorem d_M_event_143 : decode b_M_event 143 = .ok (.iload 7, 2) := by decide +kernel
theorem d_M_event_145 : decode b_M_event 145 = .ok (.ifCond .eq 15, 3) := by decide +kernel
theorem d_M_event_148 : decode b_M_event 148 = .ok (.aload_n 0, 1) := by decide +kernel
theorem d_M_event_149 : decode b_M_event 149 = .ok (.getfield 60, 3) := by decide +kernel
theorem d_M_event_152 : decode b_M_event 152 = .ok (.aload_n 0, 1) := by decide +kernel
theorem d_M_event_153 : decode b_M_event 153 = .ok (.iload_n 1, 1) := by decide +kernel
theorem d_M_event_154 : decode b_M_event 154 = .ok (.iload_n 2, 1) := by decide +kernel
theorem d_M_event_155 : decode b_M_event 155 = .ok (.invokevirtual 138, 3) := by decide +kernel
theorem d_M_event_158 : decode b_M_event 158 = .ok (.iconst 1, 1) := by decide +kernel
theorem d_M_event_159 : decode b_M_event 159 = .ok (.bastore, 1) := by decide +kernel
theorem d_M_event_160 : decode b_M_event 160 = .ok (.iload 8, 2) := by decide +kernel
theorem d_M_event_162 : decode b_M_event 162 = .ok (.ifCond .eq 19, 3) := by decide +kernel
theorem d_M_event_165 : decode b_M_event 165 = .ok (.aload_n 0, 1) := by decide +kernel
theorem d_M_event_166 : decode b_M_event 166 = .ok (.iload_n 1, 1) := by decide +kernel
theorem d_M_event_167 : decode b_M_event 167 = .ok (.iload_n 2, 1) := by decide +kernel
theorem d_M_event_168 : decode b_M_event 168 = .ok (.iload_n 3, 1) := by decide +kernel
theorem d_M_event_169 : decode b_M_event 169 = .ok (.lload 4, 2) := by decide +kernel
theorem d_M_event_171 : decode b_M_event 171 = .ok (.ldc2_w 141, 3) := by decide +kernel
theorem d_M_event_174 : decode b_M_event 174 = .ok (.iconst 0, 1) := by decide +kernel
theorem d_M_event_175 : decode b_M_event 175 = .ok (.invokevirtual 143, 3) := by decide +kernel
theorem d_M_event_178 : decode b_M_event 178 = .ok (.goto 4, 3) := by decide +kernel
theorem d_M_event_181 : decode b_M_event 181 = .ok (.iconst 0, 1) := by decide +kernel
theorem d_M_event_182 : decode b_M_event 182 = .ok (.ireturn, 1) := by decide +kernel
theorem d_M_isTime_0 : decode b_M_isTime 0 = .ok (.lload_n 1, 1) := by decide +kernel
theorem d_M_isTime_1 : decode b_M_isTime 1 = .ok (.aload_n 0, 1) := by decide +kernel
theorem d_M_isTime_2 : decode b_M_isTime 2 = .ok (.getfield 95, 3) := by decide +kernel
theorem d_M_isTime_5 : decode b_M_isTime 5 = .ok (.ldc2_w 99, 3) := by decide +kernel
theorem d_M_isTime_8 : decode b_M_isTime 8 = .ok (.invokestatic 91, 3) := by decide +kernel
theorem d_M_isTime_11 : decode b_M_isTime 11 = .ok (.ireturn, 1) := by decide +kernel
theorem d_M_pairOf_0 : decode b_M_pairOf 0 = .ok (.iconst (-1), 1) := by decide +kernel
theorem d_M_pairOf_1 : decode b_M_pairOf 1 = .ok (.istore_n 3, 1) := by decide +kernel
theorem d_M_pairOf_2 : decode b_M_pairOf 2 = .ok (.iconst 0, 1) := by decide +kernel
theorem d_M_pairOf_3 : decode b_M_pairOf 3 = .ok (.istore 4, 2) := by decide +kernel
theorem d_M_pairOf_5 : decode b_M_pairOf 5 = .ok (.iload 4, 2) := by decide +kernel
theorem d_M_pairOf_7 : decode b_M_pairOf 7 = .ok (.aload_n 0, 1) := by decide +kernel
theorem d_M_pairOf_8 : decode b_M_pairOf 8 = .ok (.getfield 123, 3) := by decide +kernel
theorem d_M_pairOf_11 : decode b_M_pairOf 11 = .ok (.if_icmp .ge 38, 3) := by decide +kernel
theorem d_M_pairOf_14 : decode b_M_pairOf 14 = .ok (.aload_n 0, 1) := by decide +kernel
theorem d_M_pairOf_15 : decode b_M_pairOf 15 = .ok (.getfield 54, 3) := by decide +kernel
theorem d_M_pairOf_18 : decode b_M_pairOf 18 = .ok (.iload 4, 2) := by decide +kernel
theorem d_M_pairOf_20 : decode b_M_pairOf 20 = .ok (.iaload, 1) := by decide +kernel
theorem d_M_pairOf_21 : decode b_M_pairOf 21 = .ok (.iload_n 1, 1) := by decide +kernel
theorem d_M_pairOf_22 : decode b_M_pairOf 22 = .ok (.if_icmp .ne 19, 3) := by decide +kernel
theorem d_M_pairOf_25 : decode b_M_pairOf 25 = .ok (.aload_n 0, 1) := by decide +kernel
theorem d_M_pairOf_26 : decode b_M_pairOf 26 = .ok (.getfield 57, 3) := by decide +kernel
theorem d_M_pairOf_29 : decode b_M_pairOf 29 = .ok (.iload 4, 2) := by decide +kernel
theorem d_M_pairOf_31 : decode b_M_pairOf 31 = .ok (.iaload, 1) := by decide +kernel
theorem d_M_pairOf_32 : decode b_M_pairOf 32 = .ok (.iload_n 2, 1) := by decide +kernel
theorem d_M_pairOf_33 : decode b_M_pairOf 33 = .ok (.if_icmp .ne 8, 3) := by decide +kernel
theorem d_M_pairOf_36 : decode b_M_pairOf 36 = .ok (.iload 4, 2) := by decide +kernel
theorem d_M_pairOf_38 : decode b_M_pairOf 38 = .ok (.goto 4, 3) := by decide +kernel
theorem d_M_pairOf_41 : decode b_M_pairOf 41 = .ok (.iload_n 3, 1) := by decide +kernel
theorem d_M_pairOf_42 : decode b_M_pairOf 42 = .ok (.istore_n 3, 1) := by decide +kernel
theorem d_M_pairOf_43 : decode b_M_pairOf 43 = .ok (.iinc 4 1, 3) := by decide +kernel
theorem d_M_pairOf_46 : decode b_M_pairOf 46 = .ok (.goto (-41), 3) := by decide +kernel
theorem d_M_pairOf_49 : decode b_M_pairOf 49 = .ok (.iload_n 3, 1) := by decide +kernel
theorem d_M_pairOf_50 : decode b_M_pairOf 50 = .ok (.ireturn, 1) := by decide +kernel
theorem d_M_keep_0 : decode b_M_keep 0 = .ok (.aload_n 0, 1) := by decide +kernel
theorem d_M_keep_1 : decode b_M_keep 1 = .ok (.iload_n 1, 1) := by decide +kernel
theorem d_M_keep_2 : decode b_M_keep 2 = .ok (.iload_n 2, 1) := by decide +kernel
theorem d_M_keep_3 : decode b_M_keep 3 = .ok (.invokevirtual 126, 3) := by decide +kernel
theorem d_M_keep_6 : decode b_M_keep 6 = .ok (.istore_n 3, 1) := by decide +kernel
theorem d_M_keep_7 : decode b_M_keep 7 = .ok (.iload_n 3, 1) := by decide +kernel
theorem d_M_keep_8 : decode b_M_keep 8 = .ok (.ifCond .lt 5, 3) := by decide +kernel
theorem d_M_keep_11 : decode b_M_keep 11 = .ok (.iload_n 3, 1) := by decide +kernel
theorem d_M_keep_12 : decode b_M_keep 12 = .ok (.ireturn, 1) := by decide +kernel
theorem d_M_keep_13 : decode b_M_keep 13 = .ok (.aload_n 0, 1) := by decide +kernel
theorem d_M_keep_14 : decode b_M_keep 14 = .ok (.getfield 54, 3) := by decide +kernel
theorem d_M_keep_17 : decode b_M_keep 17 = .ok (.aload_n 0, 1) := by decide +kernel
theorem d_M_keep_18 : decode b_M_keep 18 = .ok (.getfield 123, 3) := by decide +kernel
theorem d_M_keep_21 : decode b_M_keep 21 = .ok (.iload_n 1, 1) := by decide +kernel
theorem d_M_keep_22 : decode b_M_keep 22 = .ok (.iastore, 1) := by decide +kernel
theorem d_M_keep_23 : decode b_M_keep 23 = .ok (.aload_n 0, 1) := by decide +kernel
theorem d_M_keep_24 : decode b_M_keep 24 = .ok (.getfield 57, 3) := by decide +kernel
theorem d_M_keep_27 : decode b_M_keep 27 = .ok (.aload_n 0, 1) := by decide +kernel
theorem d_M_keep_28 : decode b_M_keep 28 = .ok (.getfield 123, 3) := by decide +kernel
theorem d_M_keep_31 : decode b_M_keep 31 = .ok (.iload_n 2, 1) := by decide +kernel
theorem d_M_keep_32 : decode b_M_keep 32 = .ok (.iastore, 1) := by decide +kernel
theorem d_M_keep_33 : decode b_M_keep 33 = .ok (.aload_n 0, 1) := by decide +kernel
theorem d_M_keep_34 : decode b_M_keep 34 = .ok (.getfield 60, 3) := by decide +kernel
theorem d_M_keep_37 : decode b_M_keep 37 = .ok (.aload_n 0, 1) := by decide +kernel
theorem d_M_keep_38 : decode b_M_keep 38 = .ok (.getfield 123, 3) := by decide +kernel
theorem d_M_keep_41 : decode b_M_keep 41 = .ok (.iconst 0, 1) := by decide +kernel
theorem d_M_keep_42 : decode b_M_keep 42 = .ok (.bastore, 1) := by decide +kernel
theorem d_M_keep_43 : decode b_M_keep 43 = .ok (.aload_n 0, 1) := by decide +kernel
theorem d_M_keep_44 : decode b_M_keep 44 = .ok (.getfield 63, 3) := by decide +kernel
theorem d_M_keep_47 : decode b_M_keep 47 = .ok (.aload_n 0, 1) := by decide +kernel
theorem d_M_keep_48 : decode b_M_keep 48 = .ok (.getfield 123, 3) := by decide +kernel
theorem d_M_keep_51 : decode b_M_keep 51 = .ok (.iconst 0, 1) := by decide +kernel
theorem d_M_keep_52 : decode b_M_keep 52 = .ok (.iastore, 1) := by decide +kernel
theorem d_M_keep_53 : decode b_M_keep 53 = .ok (.aload_n 0, 1) := by decide +kernel
theorem d_M_keep_54 : decode b_M_keep 54 = .ok (.dup, 1) := by decide +kernel
theorem d_M_keep_55 : decode b_M_keep 55 = .ok (.getfield 123, 3) := by decide +kernel
theorem d_M_keep_58 : decode b_M_keep 58 = .ok (.iconst 1, 1) := by decide +kernel
theorem d_M_keep_59 : decode b_M_keep 59 = .ok (.iadd, 1) := by decide +kernel
theorem d_M_keep_60 : decode b_M_keep 60 = .ok (.putfield 123, 3) := by decide +kernel
theorem d_M_keep_63 : decode b_M_keep 63 = .ok (.aload_n 0, 1) := by decide +kernel
theorem d_M_keep_64 : decode b_M_keep 64 = .ok (.getfield 123, 3) := by decide +kernel
theorem d_M_keep_67 : decode b_M_keep 67 = .ok (.iconst 1, 1) := by decide +kernel
theorem d_M_keep_68 : decode b_M_keep 68 = .ok (.isub, 1) := by decide +kernel
theorem d_M_keep_69 : decode b_M_keep 69 = .ok (.ireturn, 1) := by decide +kernel
theorem d_M_put_0 : decode b_M_put 0 = .ok (.aload_n 0, 1) := by decide +kernel
theorem d_M_put_1 : decode b_M_put 1 = .ok (.dup, 1) := by decide +kernel
theorem d_M_put_2 : decode b_M_put 2 = .ok (.getfield 129, 3) := by decide +kernel
theorem d_M_put_5 : decode b_M_put 5 = .ok (.iconst 1, 1) := by decide +kernel
theorem d_M_put_6 : decode b_M_put 6 = .ok (.iadd, 1) := by decide +kernel
theorem d_M_put_7 : decode b_M_put 7 = .ok (.putfield 129, 3) := by decide +kernel
theorem d_M_put_10 : decode b_M_put 10 = .ok (.aload_n 0, 1) := by decide +kernel
theorem d_M_put_11 : decode b_M_put 11 = .ok (.getfield 29, 3) := by decide +kernel
theorem d_M_put_14 : decode b_M_put 14 = .ok (.aload_n 0, 1) := by decide +kernel
theorem d_M_put_15 : decode b_M_put 15 = .ok (.getfield 129, 3) := by decide +kernel
theorem d_M_put_18 : decode b_M_put 18 = .ok (.iload_n 1, 1) := by decide +kernel
theorem d_M_put_19 : decode b_M_put 19 = .ok (.iastore, 1) := by decide +kernel
theorem d_M_put_20 : decode b_M_put 20 = .ok (.aload_n 0, 1) := by decide +kernel
theorem d_M_put_21 : decode b_M_put 21 = .ok (.getfield 32, 3) := by decide +kernel
theorem d_M_put_24 : decode b_M_put 24 = .ok (.aload_n 0, 1) := by decide +kernel
theorem d_M_put_25 : decode b_M_put 25 = .ok (.getfield 129, 3) := by decide +kernel
theorem d_M_put_28 : decode b_M_put 28 = .ok (.iload_n 2, 1) := by decide +kernel
theorem d_M_put_29 : decode b_M_put 29 = .ok (.iastore, 1) := by decide +kernel
theorem d_M_put_30 : decode b_M_put 30 = .ok (.aload_n 0, 1) := by decide +kernel
theorem d_M_put_31 : decode b_M_put 31 = .ok (.getfield 35, 3) := by decide +kernel
theorem d_M_put_34 : decode b_M_put 34 = .ok (.aload_n 0, 1) := by decide +kernel
theorem d_M_put_35 : decode b_M_put 35 = .ok (.getfield 129, 3) := by decide +kernel
theorem d_M_put_38 : decode b_M_put 38 = .ok (.iload_n 3, 1) := by decide +kernel
theorem d_M_put_39 : decode b_M_put 39 = .ok (.iastore, 1) := by decide +kernel
theorem d_M_put_40 : decode b_M_put 40 = .ok (.aload_n 0, 1) := by decide +kernel
theorem d_M_put_41 : decode b_M_put 41 = .ok (.getfield 38, 3) := by decide +kernel
theorem d_M_put_44 : decode b_M_put 44 = .ok (.aload_n 0, 1) := by decide +kernel
theorem d_M_put_45 : decode b_M_put 45 = .ok (.getfield 129, 3) := by decide +kernel
theorem d_M_put_48 : decode b_M_put 48 = .ok (.lload 4, 2) := by decide +kernel
theorem d_M_put_50 : decode b_M_put 50 = .ok (.lastore, 1) := by decide +kernel
theorem d_M_put_51 : decode b_M_put 51 = .ok (.aload_n 0, 1) := by decide +kernel
theorem d_M_put_52 : decode b_M_put 52 = .ok (.getfield 42, 3) := by decide +kernel
theorem d_M_put_55 : decode b_M_put 55 = .ok (.aload_n 0, 1) := by decide +kernel
theorem d_M_put_56 : decode b_M_put 56 = .ok (.getfield 129, 3) := by decide +kernel
theorem d_M_put_59 : decode b_M_put 59 = .ok (.lload 6, 2) := by decide +kernel
theorem d_M_put_61 : decode b_M_put 61 = .ok (.lastore, 1) := by decide +kernel
theorem d_M_put_62 : decode b_M_put 62 = .ok (.aload_n 0, 1) := by decide +kernel
theorem d_M_put_63 : decode b_M_put 63 = .ok (.getfield 45, 3) := by decide +kernel
theorem d_M_put_66 : decode b_M_put 66 = .ok (.aload_n 0, 1) := by decide +kernel
theorem d_M_put_67 : decode b_M_put 67 = .ok (.getfield 129, 3) := by decide +kernel
theorem d_M_put_70 : decode b_M_put 70 = .ok (.iconst 0, 1) := by decide +kernel
theorem d_M_put_71 : decode b_M_put 71 = .ok (.iastore, 1) := by decide +kernel
theorem d_M_put_72 : decode b_M_put 72 = .ok (.aload_n 0, 1) := by decide +kernel
theorem d_M_put_73 : decode b_M_put 73 = .ok (.getfield 48, 3) := by decide +kernel
theorem d_M_put_76 : decode b_M_put 76 = .ok (.aload_n 0, 1) := by decide +kernel
theorem d_M_put_77 : decode b_M_put 77 = .ok (.getfield 129, 3) := by decide +kernel
theorem d_M_put_80 : decode b_M_put 80 = .ok (.iload 8, 2) := by decide +kernel
theorem d_M_put_82 : decode b_M_put 82 = .ok (.bastore, 1) := by decide +kernel
theorem d_M_put_83 : decode b_M_put 83 = .ok (.aload_n 0, 1) := by decide +kernel
theorem d_M_put_84 : decode b_M_put 84 = .ok (.getfield 51, 3) := by decide +kernel
theorem d_M_put_87 : decode b_M_put 87 = .ok (.aload_n 0, 1) := by decide +kernel
theorem d_M_put_88 : decode b_M_put 88 = .ok (.getfield 129, 3) := by decide +kernel
theorem d_M_put_91 : decode b_M_put 91 = .ok (.iconst 0, 1) := by decide +kernel
theorem d_M_put_92 : decode b_M_put 92 = .ok (.bastore, 1) := by decide +kernel
theorem d_M_put_93 : decode b_M_put 93 = .ok (.aload_n 0, 1) := by decide +kernel
theorem d_M_put_94 : decode b_M_put 94 = .ok (.getfield 129, 3) := by decide +kernel
theorem d_M_put_97 : decode b_M_put 97 = .ok (.ireturn, 1) := by decide +kernel
theorem d_M_promise_0 : decode b_M_promise 0 = .ok (.aload_n 0, 1) := by decide +kernel
theorem d_M_promise_1 : decode b_M_promise 1 = .ok (.iload_n 1, 1) := by decide +kernel
theorem d_M_promise_2 : decode b_M_promise 2 = .ok (.invokevirtual 107, 3) := by decide +kernel
theorem d_M_promise_5 : decode b_M_promise 5 = .ok (.ifCond .ne 6, 3) := by decide +kernel
theorem d_M_promise_8 : decode b_M_promise 8 = .ok (.bipush (-11), 2) := by decide +kernel
theorem d_M_promise_10 : decode b_M_promise 10 = .ok (.ireturn, 1) := by decide +kernel
theorem d_M_promise_11 : decode b_M_promise 11 = .ok (.iload_n 2, 1) := by decide +kernel
theorem d_M_promise_12 : decode b_M_promise 12 = .ok (.i2l, 1) := by decide +kernel
theorem d_M_promise_13 : decode b_M_promise 13 = .ok (.lconst 1, 1) := by decide +kernel
theorem d_M_promise_14 : decode b_M_promise 14 = .ok (.ldc2_w 132, 3) := by decide +kernel
theorem d_M_promise_17 : decode b_M_promise 17 = .ok (.invokestatic 91, 3) := by decide +kernel
theorem d_M_promise_20 : decode b_M_promise 20 = .ok (.ifCond .eq 26, 3) := by decide +kernel
theorem d_M_promise_23 : decode b_M_promise 23 = .ok (.lload_n 3, 1) := by decide +kernel
theorem d_M_promise_24 : decode b_M_promise 24 = .ok (.lconst 0, 1) := by decide +kernel
theorem d_M_promise_25 : decode b_M_promise 25 = .ok (.ldc2_w 99, 3) := by decide +kernel
theorem d_M_promise_28 : decode b_M_promise 28 = .ok (.invokestatic 91, 3) := by decide +kernel
theorem d_M_promise_31 : decode b_M_promise 31 = .ok (.ifCond .eq 15, 3) := by decide +kernel
theorem d_M_promise_34 : decode b_M_promise 34 = .ok (.lload 5, 2) := by decide +kernel
theorem d_M_promise_36 : decode b_M_promise 36 = .ok (.lconst 0, 1) := by decide +kernel
theorem d_M_promise_37 : decode b_M_promise 37 = .ok (.ldc2_w 147, 3) := by decide +kernel
theorem d_M_promise_40 : decode b_M_promise 40 = .ok (.invokestatic 91, 3) := by decide +kernel
theorem d_M_promise_43 : decode b_M_promise 43 = .ok (.ifCond .ne 6, 3) := by decide +kernel
theorem d_M_promise_46 : decode b_M_promise 46 = .ok (.bipush (-12), 2) := by decide +kernel
theorem d_M_promise_48 : decode b_M_promise 48 = .ok (.ireturn, 1) := by decide +kernel
theorem d_M_promise_49 : decode b_M_promise 49 = .ok (.aload_n 0, 1) := by decide +kernel
theorem d_M_promise_50 : decode b_M_promise 50 = .ok (.iload_n 1, 1) := by decide +kernel
theorem d_M_promise_51 : decode b_M_promise 51 = .ok (.iload_n 2, 1) := by decide +kernel
theorem d_M_promise_52 : decode b_M_promise 52 = .ok (.invokevirtual 126, 3) := by decide +kernel
theorem d_M_promise_55 : decode b_M_promise 55 = .ok (.istore 7, 2) := by decide +kernel
theorem d_M_promise_57 : decode b_M_promise 57 = .ok (.iload 7, 2) := by decide +kernel
theorem d_M_promise_59 : decode b_M_promise 59 = .ok (.ifCond .lt 13, 3) := by decide +kernel
theorem d_M_promise_62 : decode b_M_promise 62 = .ok (.aload_n 0, 1) := by decide +kernel
theorem d_M_promise_63 : decode b_M_promise 63 = .ok (.getfield 60, 3) := by decide +kernel
theorem d_M_promise_66 : decode b_M_promise 66 = .ok (.iload 7, 2) := by decide +kernel
theorem d_M_promise_68 : decode b_M_promise 68 = .ok (.baload, 1) := by decide +kernel
theorem d_M_promise_69 : decode b_M_promise 69 = .ok (.ifCond .ne 12, 3) := by decide +kernel
theorem d_M_promise_72 : decode b_M_promise 72 = .ok (.aload_n 0, 1) := by decide +kernel
theorem d_M_promise_73 : decode b_M_promise 73 = .ok (.iload_n 1, 1) := by decide +kernel
theorem d_M_promise_74 : decode b_M_promise 74 = .ok (.iconst 3, 1) := by decide +kernel
theorem d_M_promise_75 : decode b_M_promise 75 = .ok (.invokevirtual 115, 3) := by decide +kernel
theorem d_M_promise_78 : decode b_M_promise 78 = .ok (.ifCond .ne 5, 3) := by decide +kernel
theorem d_M_promise_81 : decode b_M_promise 81 = .ok (.iconst 0, 1) := by decide +kernel
theorem d_M_promise_82 : decode b_M_promise 82 = .ok (.ireturn, 1) := by decide +kernel
theorem d_M_promise_83 : decode b_M_promise 83 = .ok (.iload 7, 2) := by decide +kernel
theorem d_M_promise_85 : decode b_M_promise 85 = .ok (.ifCond .ge 7, 3) := by decide +kernel
theorem d_M_promise_88 : decode b_M_promise 88 = .ok (.iconst 0, 1) := by decide +kernel
theorem d_M_promise_89 : decode b_M_promise 89 = .ok (.goto 10, 3) := by decide +kernel
theorem d_M_promise_92 : decode b_M_promise 92 = .ok (.aload_n 0, 1) := by decide +kernel
theorem d_M_promise_93 : decode b_M_promise 93 = .ok (.getfield 63, 3) := by decide +kernel
theorem d_M_promise_96 : decode b_M_promise 96 = .ok (.iload 7, 2) := by decide +kernel
theorem d_M_promise_98 : decode b_M_promise 98 = .ok (.iaload, 1) := by decide +kernel
theorem d_M_promise_99 : decode b_M_promise 99 = .ok (.istore 8, 2) := by decide +kernel
theorem d_M_promise_101 : decode b_M_promise 101 = .ok (.iload 8, 2) := by decide +kernel
theorem d_M_promise_103 : decode b_M_promise 103 = .ok (.ifCond .le 50, 3) := by decide +kernel
theorem d_M_promise_106 : decode b_M_promise 106 = .ok (.lload_n 3, 1) := by decide +kernel
theorem d_M_promise_107 : decode b_M_promise 107 = .ok (.aload_n 0, 1) := by decide +kernel
theorem d_M_promise_108 : decode b_M_promise 108 = .ok (.getfield 42, 3) := by decide +kernel
theorem d_M_promise_111 : decode b_M_promise 111 = .ok (.iload 8, 2) := by decide +kernel
theorem d_M_promise_113 : decode b_M_promise 113 = .ok (.laload, 1) := by decide +kernel
theorem d_M_promise_114 : decode b_M_promise 114 = .ok (.lsub, 1) := by decide +kernel
theorem d_M_promise_115 : decode b_M_promise 115 = .ok (.lstore 9, 2) := by decide +kernel
theorem d_M_promise_117 : decode b_M_promise 117 = .ok (.lload 9, 2) := by decide +kernel
theorem d_M_promise_119 : decode b_M_promise 119 = .ok (.lload 5, 2) := by decide +kernel
theorem d_M_promise_121 : decode b_M_promise 121 = .ok (.lneg, 1) := by decide +kernel
theorem d_M_promise_122 : decode b_M_promise 122 = .ok (.lload 5, 2) := by decide +kernel
theorem d_M_promise_124 : decode b_M_promise 124 = .ok (.invokestatic 91, 3) := by decide +kernel
theorem d_M_promise_127 : decode b_M_promise 127 = .ok (.ifCond .eq 5, 3) := by decide +kernel
theorem d_M_promise_130 : decode b_M_promise 130 = .ok (.iconst 0, 1) := by decide +kernel
theorem d_M_promise_131 : decode b_M_promise 131 = .ok (.ireturn, 1) := by decide +kernel
theorem d_M_promise_132 : decode b_M_promise 132 = .ok (.aload_n 0, 1) := by decide +kernel
theorem d_M_promise_133 : decode b_M_promise 133 = .ok (.getfield 45, 3) := by decide +kernel
theorem d_M_promise_136 : decode b_M_promise 136 = .ok (.iload 8, 2) := by decide +kernel
theorem d_M_promise_138 : decode b_M_promise 138 = .ok (.iaload, 1) := by decide +kernel
theorem d_M_promise_139 : decode b_M_promise 139 = .ok (.ifCond .ne 14, 3) := by decide +kernel
theorem d_M_promise_142 : decode b_M_promise 142 = .ok (.aload_n 0, 1) := by decide +kernel
theorem d_M_promise_143 : decode b_M_promise 143 = .ok (.getfield 42, 3) := by decide +kernel
theorem d_M_promise_146 : decode b_M_promise 146 = .ok (.iload 8, 2) := by decide +kernel
theorem d_M_promise_148 : decode b_M_promise 148 = .ok (.lload_n 3, 1) := by decide +kernel
theorem d_M_promise_149 : decode b_M_promise 149 = .ok (.lastore, 1) := by decide +kernel
theorem d_M_promise_150 : decode b_M_promise 150 = .ok (.iload 8, 2) := by decide +kernel
theorem d_M_promise_152 : decode b_M_promise 152 = .ok (.ireturn, 1) := by decide +kernel
theorem d_M_promise_153 : decode b_M_promise 153 = .ok (.aload_n 0, 1) := by decide +kernel
theorem d_M_promise_154 : decode b_M_promise 154 = .ok (.getfield 129, 3) := by decide +kernel
theorem d_M_promise_157 : decode b_M_promise 157 = .ok (.sipush 200, 3) := by decide +kernel
theorem d_M_promise_160 : decode b_M_promise 160 = .ok (.if_icmp .eq 17, 3) := by decide +kernel
theorem d_M_promise_163 : decode b_M_promise 163 = .ok (.iload 7, 2) := by decide +kernel
theorem d_M_promise_165 : decode b_M_promise 165 = .ok (.ifCond .ge 15, 3) := by decide +kernel
theorem d_M_promise_168 : decode b_M_promise 168 = .ok (.aload_n 0, 1) := by decide +kernel
theorem d_M_promise_169 : decode b_M_promise 169 = .ok (.getfield 123, 3) := by decide +kernel
theorem d_M_promise_172 : decode b_M_promise 172 = .ok (.bipush 60, 2) := by decide +kernel
theorem d_M_promise_174 : decode b_M_promise 174 = .ok (.if_icmp .ne 6, 3) := by decide +kernel
theorem d_M_promise_177 : decode b_M_promise 177 = .ok (.bipush (-14), 2) := by decide +kernel
theorem d_M_promise_179 : decode b_M_promise 179 = .ok (.ireturn, 1) := by decide +kernel
theorem d_M_promise_180 : decode b_M_promise 180 = .ok (.aload_n 0, 1) := by decide +kernel
theorem d_M_promise_181 : decode b_M_promise 181 = .ok (.iload_n 1, 1) := by decide +kernel
theorem d_M_promise_182 : decode b_M_promise 182 = .ok (.iload_n 2, 1) := by decide +kernel
theorem d_M_promise_183 : decode b_M_promise 183 = .ok (.iconst 3, 1) := by decide +kernel
theorem d_M_promise_184 : decode b_M_promise 184 = .ok (.aload_n 0, 1) := by decide +kernel
theorem d_M_promise_185 : decode b_M_promise 185 = .ok (.getfield 95, 3) := by decide +kernel
theorem d_M_promise_188 : decode b_M_promise 188 = .ok (.lload_n 3, 1) := by decide +kernel
theorem d_M_promise_189 : decode b_M_promise 189 = .ok (.iconst 0, 1) := by decide +kernel
theorem d_M_promise_190 : decode b_M_promise 190 = .ok (.invokevirtual 143, 3) := by decide +kernel
theorem d_M_promise_193 : decode b_M_promise 193 = .ok (.istore 9, 2) := by decide +kernel
theorem d_M_promise_195 : decode b_M_promise 195 = .ok (.aload_n 0, 1) := by decide +kernel
theorem d_M_promise_196 : decode b_M_promise 196 = .ok (.getfield 63, 3) := by decide +kernel
theorem d_M_promise_199 : decode b_M_promise 199 = .ok (.aload_n 0, 1) := by decide +kernel
theorem d_M_promise_200 : decode b_M_promise 200 = .ok (.iload_n 1, 1) := by decide +kernel
theorem d_M_promise_201 : decode b_M_promise 201 = .ok (.iload_n 2, 1) := by decide +kernel
theorem d_M_promise_202 : decode b_M_promise 202 = .ok (.invokevirtual 138, 3) := by decide +kernel
theorem d_M_promise_205 : decode b_M_promise 205 = .ok (.iload 9, 2) := by decide +kernel
theorem d_M_promise_207 : decode b_M_promise 207 = .ok (.iastore, 1) := by decide +kernel
theorem d_M_promise_208 : decode b_M_promise 208 = .ok (.iload 9, 2) := by decide +kernel
theorem d_M_promise_210 : decode b_M_promise 210 = .ok (.ireturn, 1) := by decide +kernel
theorem d_M_tick_0 : decode b_M_tick 0 = .ok (.aload_n 0, 1) := by decide +kernel
theorem d_M_tick_1 : decode b_M_tick 1 = .ok (.lload_n 1, 1) := by decide +kernel
theorem d_M_tick_2 : decode b_M_tick 2 = .ok (.invokevirtual 134, 3) := by decide +kernel
theorem d_M_tick_5 : decode b_M_tick 5 = .ok (.ifCond .ne 6, 3) := by decide +kernel
theorem d_M_tick_8 : decode b_M_tick 8 = .ok (.bipush (-12), 2) := by decide +kernel
theorem d_M_tick_10 : decode b_M_tick 10 = .ok (.ireturn, 1) := by decide +kernel
theorem d_M_tick_11 : decode b_M_tick 11 = .ok (.aload_n 0, 1) := by decide +kernel
theorem d_M_tick_12 : decode b_M_tick 12 = .ok (.lload_n 1, 1) := by decide +kernel
theorem d_M_tick_13 : decode b_M_tick 13 = .ok (.putfield 95, 3) := by decide +kernel
theorem d_M_tick_16 : decode b_M_tick 16 = .ok (.iconst 1, 1) := by decide +kernel
theorem d_M_tick_17 : decode b_M_tick 17 = .ok (.istore_n 3, 1) := by decide +kernel
theorem d_M_tick_18 : decode b_M_tick 18 = .ok (.iload_n 3, 1) := by decide +kernel
theorem d_M_tick_19 : decode b_M_tick 19 = .ok (.aload_n 0, 1) := by decide +kernel
theorem d_M_tick_20 : decode b_M_tick 20 = .ok (.getfield 87, 3) := by decide +kernel
theorem d_M_tick_23 : decode b_M_tick 23 = .ok (.if_icmp .gt 25, 3) := by decide +kernel
theorem d_M_tick_26 : decode b_M_tick 26 = .ok (.aload_n 0, 1) := by decide +kernel
theorem d_M_tick_27 : decode b_M_tick 27 = .ok (.getfield 81, 3) := by decide +kernel
theorem d_M_tick_30 : decode b_M_tick 30 = .ok (.iload_n 3, 1) := by decide +kernel
theorem d_M_tick_31 : decode b_M_tick 31 = .ok (.ldc2_w 155, 3) := by decide +kernel
theorem d_M_tick_34 : decode b_M_tick 34 = .ok (.lastore, 1) := by decide +kernel
theorem d_M_tick_35 : decode b_M_tick 35 = .ok (.aload_n 0, 1) := by decide +kernel
theorem d_M_tick_36 : decode b_M_tick 36 = .ok (.getfield 84, 3) := by decide +kernel
theorem d_M_tick_39 : decode b_M_tick 39 = .ok (.iload_n 3, 1) := by decide +kernel
theorem d_M_tick_40 : decode b_M_tick 40 = .ok (.iconst 0, 1) := by decide +kernel
theorem d_M_tick_41 : decode b_M_tick 41 = .ok (.iastore, 1) := by decide +kernel
theorem d_M_tick_42 : decode b_M_tick 42 = .ok (.iinc 3 1, 3) := by decide +kernel
theorem d_M_tick_45 : decode b_M_tick 45 = .ok (.goto (-27), 3) := by decide +kernel
theorem d_M_tick_48 : decode b_M_tick 48 = .ok (.iconst 1, 1) := by decide +kernel
theorem d_M_tick_49 : decode b_M_tick 49 = .ok (.istore_n 3, 1) := by decide +kernel
theorem d_M_tick_50 : decode b_M_tick 50 = .ok (.iload_n 3, 1) := by decide +kernel
theorem d_M_tick_51 : decode b_M_tick 51 = .ok (.aload_n 0, 1) := by decide +kernel
theorem d_M_tick_52 : decode b_M_tick 52 = .ok (.getfield 129, 3) := by decide +kernel
theorem d_M_tick_55 : decode b_M_tick 55 = .ok (.if_icmp .gt 67, 3) := by decide +kernel
theorem d_M_tick_58 : decode b_M_tick 58 = .ok (.aload_n 0, 1) := by decide +kernel
theorem d_M_tick_59 : decode b_M_tick 59 = .ok (.getfield 45, 3) := by decide +kernel
theorem d_M_tick_62 : decode b_M_tick 62 = .ok (.iload_n 3, 1) := by decide +kernel
theorem d_M_tick_63 : decode b_M_tick 63 = .ok (.iaload, 1) := by decide +kernel
theorem d_M_tick_64 : decode b_M_tick 64 = .ok (.ifCond .ne 52, 3) := by decide +kernel
theorem d_M_tick_67 : decode b_M_tick 67 = .ok (.aload_n 0, 1) := by decide +kernel
theorem d_M_tick_68 : decode b_M_tick 68 = .ok (.getfield 35, 3) := by decide +kernel
theorem d_M_tick_71 : decode b_M_tick 71 = .ok (.iload_n 3, 1) := by decide +kernel
theorem d_M_tick_72 : decode b_M_tick 72 = .ok (.iaload, 1) := by decide +kernel
theorem d_M_tick_73 : decode b_M_tick 73 = .ok (.bipush 7, 2) := by decide +kernel
theorem d_M_tick_75 : decode b_M_tick 75 = .ok (.if_icmp .eq 41, 3) := by decide +kernel
theorem d_M_tick_78 : decode b_M_tick 78 = .ok (.aload_n 0, 1) := by decide +kernel
theorem d_M_tick_79 : decode b_M_tick 79 = .ok (.getfield 38, 3) := by decide +kernel
theorem d_M_tick_82 : decode b_M_tick 82 = .ok (.iload_n 3, 1) := by decide +kernel
theorem d_M_tick_83 : decode b_M_tick 83 = .ok (.laload, 1) := by decide +kernel
theorem d_M_tick_84 : decode b_M_tick 84 = .ok (.aload_n 0, 1) := by decide +kernel
theorem d_M_tick_85 : decode b_M_tick 85 = .ok (.getfield 81, 3) := by decide +kernel
theorem d_M_tick_88 : decode b_M_tick 88 = .ok (.aload_n 0, 1) := by decide +kernel
theorem d_M_tick_89 : decode b_M_tick 89 = .ok (.getfield 29, 3) := by decide +kernel
theorem d_M_tick_92 : decode b_M_tick 92 = .ok (.iload_n 3, 1) := by decide +kernel
theorem d_M_tick_93 : decode b_M_tick 93 = .ok (.iaload, 1) := by decide +kernel
theorem d_M_tick_94 : decode b_M_tick 94 = .ok (.laload, 1) := by decide +kernel
theorem d_M_tick_95 : decode b_M_tick 95 = .ok (.lcmp, 1) := by decide +kernel
theorem d_M_tick_96 : decode b_M_tick 96 = .ok (.ifCond .ge 20, 3) := by decide +kernel
theorem d_M_tick_99 : decode b_M_tick 99 = .ok (.aload_n 0, 1) := by decide +kernel
theorem d_M_tick_100 : decode b_M_tick 100 = .ok (.getfield 81, 3) := by decide +kernel
theorem d_M_tick_103 : decode b_M_tick 103 = .ok (.aload_n 0, 1) := by decide +kernel
theorem d_M_tick_104 : decode b_M_tick 104 = .ok (.getfield 29, 3) := by decide +kernel
theorem d_M_tick_107 : decode b_M_tick 107 = .ok (.iload_n 3, 1) := by decide +kernel
theorem d_M_tick_108 : decode b_M_tick 108 = .ok (.iaload, 1) := by decide +kernel
theorem d_M_tick_109 : decode b_M_tick 109 = .ok (.aload_n 0, 1) := by decide +kernel
theorem d_M_tick_110 : decode b_M_tick 110 = .ok (.getfield 38, 3) := by decide +kernel
theorem d_M_tick_113 : decode b_M_tick 113 = .ok (.iload_n 3, 1) := by decide +kernel
theorem d_M_tick_114 : decode b_M_tick 114 = .ok (.laload, 1) := by decide +kernel
theorem d_M_tick_115 : decode b_M_tick 115 = .ok (.lastore, 1) := by decide +kernel
theorem d_M_tick_116 : decode b_M_tick 116 = .ok (.iinc 3 1, 3) := by decide +kernel
theorem d_M_tick_119 : decode b_M_tick 119 = .ok (.goto (-69), 3) := by decide +kernel
theorem d_M_tick_122 : decode b_M_tick 122 = .ok (.iconst 0, 1) := by decide +kernel
theorem d_M_tick_123 : decode b_M_tick 123 = .ok (.istore_n 3, 1) := by decide +kernel
theorem d_M_tick_124 : decode b_M_tick 124 = .ok (.iconst 1, 1) := by decide +kernel
theorem d_M_tick_125 : decode b_M_tick 125 = .ok (.istore 4, 2) := by decide +kernel
theorem d_M_tick_127 : decode b_M_tick 127 = .ok (.iload 4, 2) := by decide +kernel
theorem d_M_tick_129 : decode b_M_tick 129 = .ok (.aload_n 0, 1) := by decide +kernel
theorem d_M_tick_130 : decode b_M_tick 130 = .ok (.getfield 129, 3) := by decide +kernel
theorem d_M_tick_133 : decode b_M_tick 133 = .ok (.if_icmp .gt 197, 3) := by decide +kernel
theorem d_M_tick_136 : decode b_M_tick 136 = .ok (.aload_n 0, 1) := by decide +kernel
theorem d_M_tick_137 : decode b_M_tick 137 = .ok (.getfield 45, 3) := by decide +kernel
theorem d_M_tick_140 : decode b_M_tick 140 = .ok (.iload 4, 2) := by decide +kernel
theorem d_M_tick_142 : decode b_M_tick 142 = .ok (.iaload, 1) := by decide +kernel
theorem d_M_tick_143 : decode b_M_tick 143 = .ok (.ifCond .ne 181, 3) := by decide +kernel
theorem d_M_tick_146 : decode b_M_tick 146 = .ok (.aload_n 0, 1) := by decide +kernel
theorem d_M_tick_147 : decode b_M_tick 147 = .ok (.iload 4, 2) := by decide +kernel
theorem d_M_tick_149 : decode b_M_tick 149 = .ok (.invokevirtual 157, 3) := by decide +kernel
theorem d_M_tick_152 : decode b_M_tick 152 = .ok (.ifCond .ne 6, 3) := by decide +kernel
theorem d_M_tick_155 : decode b_M_tick 155 = .ok (.goto 169, 3) := by decide +kernel
theorem d_M_tick_158 : decode b_M_tick 158 = .ok (.aload_n 0, 1) := by decide +kernel
theorem d_M_tick_159 : decode b_M_tick 159 = .ok (.iload 4, 2) := by decide +kernel
theorem d_M_tick_161 : decode b_M_tick 161 = .ok (.invokevirtual 160, 3) := by decide +kernel
theorem d_M_tick_164 : decode b_M_tick 164 = .ok (.istore 5, 2) := by decide +kernel
theorem d_M_tick_166 : decode b_M_tick 166 = .ok (.iload 5, 2) := by decide +kernel
theorem d_M_tick_168 : decode b_M_tick 168 = .ok (.ifCond .ge 35, 3) := by decide +kernel
theorem d_M_tick_171 : decode b_M_tick 171 = .ok (.aload_n 0, 1) := by decide +kernel
theorem d_M_tick_172 : decode b_M_tick 172 = .ok (.getfield 45, 3) := by decide +kernel
theorem d_M_tick_175 : decode b_M_tick 175 = .ok (.iload 4, 2) := by decide +kernel
theorem d_M_tick_177 : decode b_M_tick 177 = .ok (.iconst 2, 1) := by decide +kernel
theorem d_M_tick_178 : decode b_M_tick 178 = .ok (.iastore, 1) := by decide +kernel
theorem d_M_tick_179 : decode b_M_tick 179 = .ok (.aload_n 0, 1) := by decide +kernel
theorem d_M_tick_180 : decode b_M_tick 180 = .ok (.getfield 78, 3) := by decide +kernel
theorem d_M_tick_183 : decode b_M_tick 183 = .ok (.aload_n 0, 1) := by decide +kernel
theorem d_M_tick_184 : decode b_M_tick 184 = .ok (.getfield 164, 3) := by decide +kernel
theorem d_M_tick_187 : decode b_M_tick 187 = .ok (.iload 4, 2) := by decide +kernel
theorem d_M_tick_189 : decode b_M_tick 189 = .ok (.iastore, 1) := by decide +kernel
theorem d_M_tick_190 : decode b_M_tick 190 = .ok (.aload_n 0, 1) := by decide +kernel
theorem d_M_tick_191 : decode b_M_tick 191 = .ok (.dup, 1) := by decide +kernel
theorem d_M_tick_192 : decode b_M_tick 192 = .ok (.getfield 164, 3) := by decide +kernel
theorem d_M_tick_195 : decode b_M_tick 195 = .ok (.iconst 1, 1) := by decide +kernel
theorem d_M_tick_196 : decode b_M_tick 196 = .ok (.iadd, 1) := by decide +kernel
theorem d_M_tick_197 : decode b_M_tick 197 = .ok (.putfield 164, 3) := by decide +kernel
theorem d_M_tick_200 : decode b_M_tick 200 = .ok (.goto 124, 3) := by decide +kernel
theorem d_M_tick_203 : decode b_M_tick 203 = .ok (.aload_n 0, 1) := by decide +kernel
theorem d_M_tick_204 : decode b_M_tick 204 = .ok (.getfield 45, 3) := by decide +kernel
theorem d_M_tick_207 : decode b_M_tick 207 = .ok (.iload 4, 2) := by decide +kernel
theorem d_M_tick_209 : decode b_M_tick 209 = .ok (.iconst 1, 1) := by decide +kernel
theorem d_M_tick_210 : decode b_M_tick 210 = .ok (.iastore, 1) := by decide +kernel
theorem d_M_tick_211 : decode b_M_tick 211 = .ok (.aload_n 0, 1) := by decide +kernel
theorem d_M_tick_212 : decode b_M_tick 212 = .ok (.getfield 84, 3) := by decide +kernel
theorem d_M_tick_215 : decode b_M_tick 215 = .ok (.aload_n 0, 1) := by decide +kernel
theorem d_M_tick_216 : decode b_M_tick 216 = .ok (.getfield 29, 3) := by decide +kernel
theorem d_M_tick_219 : decode b_M_tick 219 = .ok (.iload 4, 2) := by decide +kernel
theorem d_M_tick_221 : decode b_M_tick 221 = .ok (.iaload, 1) := by decide +kernel
theorem d_M_tick_222 : decode b_M_tick 222 = .ok (.aload_n 0, 1) := by decide +kernel
theorem d_M_tick_223 : decode b_M_tick 223 = .ok (.getfield 84, 3) := by decide +kernel
theorem d_M_tick_226 : decode b_M_tick 226 = .ok (.aload_n 0, 1) := by decide +kernel
theorem d_M_tick_227 : decode b_M_tick 227 = .ok (.getfield 29, 3) := by decide +kernel
theorem d_M_tick_230 : decode b_M_tick 230 = .ok (.iload 4, 2) := by decide +kernel
theorem d_M_tick_232 : decode b_M_tick 232 = .ok (.iaload, 1) := by decide +kernel
theorem d_M_tick_233 : decode b_M_tick 233 = .ok (.iaload, 1) := by decide +kernel
theorem d_M_tick_234 : decode b_M_tick 234 = .ok (.ifCond .ne 8, 3) := by decide +kernel
theorem d_M_tick_237 : decode b_M_tick 237 = .ok (.iload 4, 2) := by decide +kernel
theorem d_M_tick_239 : decode b_M_tick 239 = .ok (.goto 15, 3) := by decide +kernel
theorem d_M_tick_242 : decode b_M_tick 242 = .ok (.aload_n 0, 1) := by decide +kernel
theorem d_M_tick_243 : decode b_M_tick 243 = .ok (.getfield 84, 3) := by decide +kernel
theorem d_M_tick_246 : decode b_M_tick 246 = .ok (.aload_n 0, 1) := by decide +kernel
theorem d_M_tick_247 : decode b_M_tick 247 = .ok (.getfield 29, 3) := by decide +kernel
theorem d_M_tick_250 : decode b_M_tick 250 = .ok (.iload 4, 2) := by decide +kernel
theorem d_M_tick_252 : decode b_M_tick 252 = .ok (.iaload, 1) := by decide +kernel
theorem d_M_tick_253 : decode b_M_tick 253 = .ok (.iaload, 1) := by decide +kernel
theorem d_M_tick_254 : decode b_M_tick 254 = .ok (.iastore, 1) := by decide +kernel
theorem d_M_tick_255 : decode b_M_tick 255 = .ok (.aload_n 0, 1) := by decide +kernel
theorem d_M_tick_256 : decode b_M_tick 256 = .ok (.getfield 66, 3) := by decide +kernel
theorem d_M_tick_259 : decode b_M_tick 259 = .ok (.aload_n 0, 1) := by decide +kernel
theorem d_M_tick_260 : decode b_M_tick 260 = .ok (.getfield 167, 3) := by decide +kernel
theorem d_M_tick_263 : decode b_M_tick 263 = .ok (.iload 4, 2) := by decide +kernel
theorem d_M_tick_265 : decode b_M_tick 265 = .ok (.iastore, 1) := by decide +kernel
theorem d_M_tick_266 : decode b_M_tick 266 = .ok (.aload_n 0, 1) := by decide +kernel
theorem d_M_tick_267 : decode b_M_tick 267 = .ok (.getfield 69, 3) := by decide +kernel
theorem d_M_tick_270 : decode b_M_tick 270 = .ok (.aload_n 0, 1) := by decide +kernel
theorem d_M_tick_271 : decode b_M_tick 271 = .ok (.getfield 167, 3) := by decide +kernel
theorem d_M_tick_274 : decode b_M_tick 274 = .ok (.iload 5, 2) := by decide +kernel
theorem d_M_tick_276 : decode b_M_tick 276 = .ok (.iastore, 1) := by decide +kernel
theorem d_M_tick_277 : decode b_M_tick 277 = .ok (.aload_n 0, 1) := by decide +kernel
theorem d_M_tick_278 : decode b_M_tick 278 = .ok (.getfield 72, 3) := by decide +kernel
theorem d_M_tick_281 : decode b_M_tick 281 = .ok (.aload_n 0, 1) := by decide +kernel
theorem d_M_tick_282 : decode b_M_tick 282 = .ok (.getfield 167, 3) := by decide +kernel
theorem d_M_tick_285 : decode b_M_tick 285 = .ok (.aload_n 0, 1) := by decide +kernel
theorem d_M_tick_286 : decode b_M_tick 286 = .ok (.getfield 84, 3) := by decide +kernel
theorem d_M_tick_289 : decode b_M_tick 289 = .ok (.aload_n 0, 1) := by decide +kernel
theorem d_M_tick_290 : decode b_M_tick 290 = .ok (.getfield 29, 3) := by decide +kernel
theorem d_M_tick_293 : decode b_M_tick 293 = .ok (.iload 4, 2) := by decide +kernel
theorem d_M_tick_295 : decode b_M_tick 295 = .ok (.iaload, 1) := by decide +kernel
theorem d_M_tick_296 : decode b_M_tick 296 = .ok (.iaload, 1) := by decide +kernel
theorem d_M_tick_297 : decode b_M_tick 297 = .ok (.iastore, 1) := by decide +kernel
theorem d_M_tick_298 : decode b_M_tick 298 = .ok (.aload_n 0, 1) := by decide +kernel
theorem d_M_tick_299 : decode b_M_tick 299 = .ok (.getfield 75, 3) := by decide +kernel
theorem d_M_tick_302 : decode b_M_tick 302 = .ok (.aload_n 0, 1) := by decide +kernel
theorem d_M_tick_303 : decode b_M_tick 303 = .ok (.getfield 167, 3) := by decide +kernel
theorem d_M_tick_306 : decode b_M_tick 306 = .ok (.aload_n 0, 1) := by decide +kernel
theorem d_M_tick_307 : decode b_M_tick 307 = .ok (.getfield 95, 3) := by decide +kernel
theorem d_M_tick_310 : decode b_M_tick 310 = .ok (.lastore, 1) := by decide +kernel
theorem d_M_tick_311 : decode b_M_tick 311 = .ok (.aload_n 0, 1) := by decide +kernel
theorem d_M_tick_312 : decode b_M_tick 312 = .ok (.dup, 1) := by decide +kernel
theorem d_M_tick_313 : decode b_M_tick 313 = .ok (.getfield 167, 3) := by decide +kernel
theorem d_M_tick_316 : decode b_M_tick 316 = .ok (.iconst 1, 1) := by decide +kernel
theorem d_M_tick_317 : decode b_M_tick 317 = .ok (.iadd, 1) := by decide +kernel
theorem d_M_tick_318 : decode b_M_tick 318 = .ok (.putfield 167, 3) := by decide +kernel
theorem d_M_tick_321 : decode b_M_tick 321 = .ok (.iinc 3 1, 3) := by decide +kernel
theorem d_M_tick_324 : decode b_M_tick 324 = .ok (.iinc 4 1, 3) := by decide +kernel
theorem d_M_tick_327 : decode b_M_tick 327 = .ok (.goto (-200), 3) := by decide +kernel
theorem d_M_tick_330 : decode b_M_tick 330 = .ok (.iload_n 3, 1) := by decide +kernel
theorem d_M_tick_331 : decode b_M_tick 331 = .ok (.ireturn, 1) := by decide +kernel
theorem d_M_isDue_0 : decode b_M_isDue 0 = .ok (.aload_n 0, 1) := by decide +kernel
theorem d_M_isDue_1 : decode b_M_isDue 1 = .ok (.getfield 35, 3) := by decide +kernel
theorem d_M_isDue_4 : decode b_M_isDue 4 = .ok (.iload_n 1, 1) := by decide +kernel
theorem d_M_isDue_5 : decode b_M_isDue 5 = .ok (.iaload, 1) := by decide +kernel
theorem d_M_isDue_6 : decode b_M_isDue 6 = .ok (.bipush 7, 2) := by decide +kernel
theorem d_M_isDue_8 : decode b_M_isDue 8 = .ok (.if_icmp .ne 7, 3) := by decide +kernel
theorem d_M_isDue_11 : decode b_M_isDue 11 = .ok (.iconst 1, 1) := by decide +kernel
theorem d_M_isDue_12 : decode b_M_isDue 12 = .ok (.goto 4, 3) := by decide +kernel
theorem d_M_isDue_15 : decode b_M_isDue 15 = .ok (.iconst 0, 1) := by decide +kernel
theorem d_M_isDue_16 : decode b_M_isDue 16 = .ok (.istore_n 2, 1) := by decide +kernel
theorem d_M_isDue_17 : decode b_M_isDue 17 = .ok (.aload_n 0, 1) := by decide +kernel
theorem d_M_isDue_18 : decode b_M_isDue 18 = .ok (.getfield 29, 3) := by decide +kernel
theorem d_M_isDue_21 : decode b_M_isDue 21 = .ok (.iload_n 1, 1) := by decide +kernel
theorem d_M_isDue_22 : decode b_M_isDue 22 = .ok (.iaload, 1) := by decide +kernel
theorem d_M_isDue_23 : decode b_M_isDue 23 = .ok (.istore_n 3, 1) := by decide +kernel
theorem d_M_isDue_24 : decode b_M_isDue 24 = .ok (.aload_n 0, 1) := by decide +kernel
theorem d_M_isDue_25 : decode b_M_isDue 25 = .ok (.getfield 38, 3) := by decide +kernel
theorem d_M_isDue_28 : decode b_M_isDue 28 = .ok (.iload_n 1, 1) := by decide +kernel
theorem d_M_isDue_29 : decode b_M_isDue 29 = .ok (.laload, 1) := by decide +kernel
theorem d_M_isDue_30 : decode b_M_isDue 30 = .ok (.aload_n 0, 1) := by decide +kernel
theorem d_M_isDue_31 : decode b_M_isDue 31 = .ok (.getfield 95, 3) := by decide +kernel
theorem d_M_isDue_34 : decode b_M_isDue 34 = .ok (.lcmp, 1) := by decide +kernel
theorem d_M_isDue_35 : decode b_M_isDue 35 = .ok (.ifCond .gt 39, 3) := by decide +kernel
theorem d_M_isDue_38 : decode b_M_isDue 38 = .ok (.iload_n 2, 1) := by decide +kernel
theorem d_M_isDue_39 : decode b_M_isDue 39 = .ok (.ifCond .ne 31, 3) := by decide +kernel
theorem d_M_isDue_42 : decode b_M_isDue 42 = .ok (.aload_n 0, 1) := by decide +kernel
theorem d_M_isDue_43 : decode b_M_isDue 43 = .ok (.getfield 95, 3) := by decide +kernel
theorem d_M_isDue_46 : decode b_M_isDue 46 = .ok (.aload_n 0, 1) := by decide +kernel
theorem d_M_isDue_47 : decode b_M_isDue 47 = .ok (.getfield 81, 3) := by decide +kernel
theorem d_M_isDue_50 : decode b_M_isDue 50 = .ok (.iload_n 3, 1) := by decide +kernel
theorem d_M_isDue_51 : decode b_M_isDue 51 = .ok (.laload, 1) := by decide +kernel
theorem d_M_isDue_52 : decode b_M_isDue 52 = .ok (.aload_n 0, 1) := by decide +kernel
theorem d_M_isDue_53 : decode b_M_isDue 53 = .ok (.getfield 149, 3) := by decide +kernel
theorem d_M_isDue_56 : decode b_M_isDue 56 = .ok (.i2l, 1) := by decide +kernel
theorem d_M_isDue_57 : decode b_M_isDue 57 = .ok (.ladd, 1) := by decide +kernel
theorem d_M_isDue_58 : decode b_M_isDue 58 = .ok (.lcmp, 1) := by decide +kernel
theorem d_M_isDue_59 : decode b_M_isDue 59 = .ok (.ifCond .lt 15, 3) := by decide +kernel
theorem d_M_isDue_62 : decode b_M_isDue 62 = .ok (.aload_n 0, 1) := by decide +kernel
theorem d_M_isDue_63 : decode b_M_isDue 63 = .ok (.iload_n 3, 1) := by decide +kernel
theorem d_M_isDue_64 : decode b_M_isDue 64 = .ok (.invokevirtual 152, 3) := by decide +kernel
theorem d_M_isDue_67 : decode b_M_isDue 67 = .ok (.ifCond .ne 7, 3) := by decide +kernel
theorem d_M_isDue_70 : decode b_M_isDue 70 = .ok (.iconst 1, 1) := by decide +kernel
theorem d_M_isDue_71 : decode b_M_isDue 71 = .ok (.goto 4, 3) := by decide +kernel
theorem d_M_isDue_74 : decode b_M_isDue 74 = .ok (.iconst 0, 1) := by decide +kernel
theorem d_M_isDue_75 : decode b_M_isDue 75 = .ok (.ireturn, 1) := by decide +kernel
theorem d_M_isQuiet_0 : decode b_M_isQuiet 0 = .ok (.aload_n 0, 1) := by decide +kernel
theorem d_M_isQuiet_1 : decode b_M_isQuiet 1 = .ok (.getfield 95, 3) := by decide +kernel
theorem d_M_isQuiet_4 : decode b_M_isQuiet 4 = .ok (.bipush 60, 2) := by decide +kernel
theorem d_M_isQuiet_6 : decode b_M_isQuiet 6 = .ok (.aload_n 0, 1) := by decide +kernel
theorem d_M_isQuiet_7 : decode b_M_isQuiet 7 = .ok (.getfield 17, 3) := by decide +kernel
theorem d_M_isQuiet_10 : decode b_M_isQuiet 10 = .ok (.iload_n 1, 1) := by decide +kernel
theorem d_M_isQuiet_11 : decode b_M_isQuiet 11 = .ok (.iaload, 1) := by decide +kernel
theorem d_M_isQuiet_12 : decode b_M_isQuiet 12 = .ok (.imul, 1) := by decide +kernel
theorem d_M_isQuiet_13 : decode b_M_isQuiet 13 = .ok (.i2l, 1) := by decide +kernel
theorem d_M_isQuiet_14 : decode b_M_isQuiet 14 = .ok (.ladd, 1) := by decide +kernel
theorem d_M_isQuiet_15 : decode b_M_isQuiet 15 = .ok (.ldc2_w 121, 3) := by decide +kernel
theorem d_M_isQuiet_18 : decode b_M_isQuiet 18 = .ok (.ladd, 1) := by decide +kernel
theorem d_M_isQuiet_19 : decode b_M_isQuiet 19 = .ok (.ldc2_w 121, 3) := by decide +kernel
theorem d_M_isQuiet_22 : decode b_M_isQuiet 22 = .ok (.lrem, 1) := by decide +kernel
theorem d_M_isQuiet_23 : decode b_M_isQuiet 23 = .ok (.l2i, 1) := by decide +kernel
theorem d_M_isQuiet_24 : decode b_M_isQuiet 24 = .ok (.istore_n 2, 1) := by decide +kernel
theorem d_M_isQuiet_25 : decode b_M_isQuiet 25 = .ok (.aload_n 0, 1) := by decide +kernel
theorem d_M_isQuiet_26 : decode b_M_isQuiet 26 = .ok (.getfield 20, 3) := by decide +kernel
theorem d_M_isQuiet_29 : decode b_M_isQuiet 29 = .ok (.iload_n 1, 1) := by decide +kernel
theorem d_M_isQuiet_30 : decode b_M_isQuiet 30 = .ok (.iaload, 1) := by decide +kernel
theorem d_M_isQuiet_31 : decode b_M_isQuiet 31 = .ok (.istore_n 3, 1) := by decide +kernel
theorem d_M_isQuiet_32 : decode b_M_isQuiet 32 = .ok (.aload_n 0, 1) := by decide +kernel
theorem d_M_isQuiet_33 : decode b_M_isQuiet 33 = .ok (.getfield 23, 3) := by decide +kernel
theorem d_M_isQuiet_36 : decode b_M_isQuiet 36 = .ok (.iload_n 1, 1) := by decide +kernel
theorem d_M_isQuiet_37 : decode b_M_isQuiet 37 = .ok (.iaload, 1) := by decide +kernel
theorem d_M_isQuiet_38 : decode b_M_isQuiet 38 = .ok (.istore 4, 2) := by decide +kernel
theorem d_M_isQuiet_40 : decode b_M_isQuiet 40 = .ok (.iload_n 3, 1) := by decide +kernel
theorem d_M_isQuiet_41 : decode b_M_isQuiet 41 = .ok (.iload 4, 2) := by decide +kernel
theorem d_M_isQuiet_43 : decode b_M_isQuiet 43 = .ok (.if_icmp .gt 22, 3) := by decide +kernel
theorem d_M_isQuiet_46 : decode b_M_isQuiet 46 = .ok (.iload_n 2, 1) := by decide +kernel
theorem d_M_isQuiet_47 : decode b_M_isQuiet 47 = .ok (.iload_n 3, 1) := by decide +kernel
theorem d_M_isQuiet_48 : decode b_M_isQuiet 48 = .ok (.if_icmp .lt 13, 3) := by decide +kernel
theorem d_M_isQuiet_51 : decode b_M_isQuiet 51 = .ok (.iload_n 2, 1) := by decide +kernel
theorem d_M_isQuiet_52 : decode b_M_isQuiet 52 = .ok (.iload 4, 2) := by decide +kernel
theorem d_M_isQuiet_54 : decode b_M_isQuiet 54 = .ok (.if_icmp .ge 7, 3) := by decide +kernel
theorem d_M_isQuiet_57 : decode b_M_isQuiet 57 = .ok (.iconst 1, 1) := by decide +kernel
theorem d_M_isQuiet_58 : decode b_M_isQuiet 58 = .ok (.goto 23, 3) := by decide +kernel
theorem d_M_isQuiet_61 : decode b_M_isQuiet 61 = .ok (.iconst 0, 1) := by decide +kernel
theorem d_M_isQuiet_62 : decode b_M_isQuiet 62 = .ok (.goto 19, 3) := by decide +kernel
theorem d_M_isQuiet_65 : decode b_M_isQuiet 65 = .ok (.iload_n 2, 1) := by decide +kernel
theorem d_M_isQuiet_66 : decode b_M_isQuiet 66 = .ok (.iload_n 3, 1) := by decide +kernel
theorem d_M_isQuiet_67 : decode b_M_isQuiet 67 = .ok (.if_icmp .ge 9, 3) := by decide +kernel
theorem d_M_isQuiet_70 : decode b_M_isQuiet 70 = .ok (.iload_n 2, 1) := by decide +kernel
theorem d_M_isQuiet_71 : decode b_M_isQuiet 71 = .ok (.iload 4, 2) := by decide +kernel
theorem d_M_isQuiet_73 : decode b_M_isQuiet 73 = .ok (.if_icmp .ge 7, 3) := by decide +kernel
theorem d_M_isQuiet_76 : decode b_M_isQuiet 76 = .ok (.iconst 1, 1) := by decide +kernel
theorem d_M_isQuiet_77 : decode b_M_isQuiet 77 = .ok (.goto 4, 3) := by decide +kernel
theorem d_M_isQuiet_80 : decode b_M_isQuiet 80 = .ok (.iconst 0, 1) := by decide +kernel
theorem d_M_isQuiet_81 : decode b_M_isQuiet 81 = .ok (.ireturn, 1) := by decide +kernel
theorem d_M_channelOf_0 : decode b_M_channelOf 0 = .ok (.aload_n 0, 1) := by decide +kernel
theorem d_M_channelOf_1 : decode b_M_channelOf 1 = .ok (.getfield 35, 3) := by decide +kernel
theorem d_M_channelOf_4 : decode b_M_channelOf 4 = .ok (.iload_n 1, 1) := by decide +kernel
theorem d_M_channelOf_5 : decode b_M_channelOf 5 = .ok (.iaload, 1) := by decide +kernel
theorem d_M_channelOf_6 : decode b_M_channelOf 6 = .ok (.iconst 4, 1) := by decide +kernel
theorem d_M_channelOf_7 : decode b_M_channelOf 7 = .ok (.if_icmp .ne 38, 3) := by decide +kernel
theorem d_M_channelOf_10 : decode b_M_channelOf 10 = .ok (.aload_n 0, 1) := by decide +kernel
theorem d_M_channelOf_11 : decode b_M_channelOf 11 = .ok (.getfield 7, 3) := by decide +kernel
theorem d_M_channelOf_14 : decode b_M_channelOf 14 = .ok (.iconst 0, 1) := by decide +kernel
theorem d_M_channelOf_15 : decode b_M_channelOf 15 = .ok (.baload, 1) := by decide +kernel
theorem d_M_channelOf_16 : decode b_M_channelOf 16 = .ok (.ifCond .ne 23, 3) := by decide +kernel
theorem d_M_channelOf_19 : decode b_M_channelOf 19 = .ok (.aload_n 0, 1) := by decide +kernel
theorem d_M_channelOf_20 : decode b_M_channelOf 20 = .ok (.getfield 26, 3) := by decide +kernel
theorem d_M_channelOf_23 : decode b_M_channelOf 23 = .ok (.bipush 32, 2) := by decide +kernel
theorem d_M_channelOf_25 : decode b_M_channelOf 25 = .ok (.aload_n 0, 1) := by decide +kernel
theorem d_M_channelOf_26 : decode b_M_channelOf 26 = .ok (.getfield 29, 3) := by decide +kernel
theorem d_M_channelOf_29 : decode b_M_channelOf 29 = .ok (.iload_n 1, 1) := by decide +kernel
theorem d_M_channelOf_30 : decode b_M_channelOf 30 = .ok (.iaload, 1) := by decide +kernel
theorem d_M_channelOf_31 : decode b_M_channelOf 31 = .ok (.imul, 1) := by decide +kernel
theorem d_M_channelOf_32 : decode b_M_channelOf 32 = .ok (.bipush 16, 2) := by decide +kernel
theorem d_M_channelOf_34 : decode b_M_channelOf 34 = .ok (.iadd, 1) := by decide +kernel
theorem d_M_channelOf_35 : decode b_M_channelOf 35 = .ok (.iaload, 1) := by decide +kernel
theorem d_M_channelOf_36 : decode b_M_channelOf 36 = .ok (.ifCond .ne 7, 3) := by decide +kernel
theorem d_M_channelOf_39 : decode b_M_channelOf 39 = .ok (.iconst (-1), 1) := by decide +kernel
theorem d_M_channelOf_40 : decode b_M_channelOf 40 = .ok (.goto 4, 3) := by decide +kernel
theorem d_M_channelOf_43 : decode b_M_channelOf 43 = .ok (.iconst 0, 1) := by decide +kernel
theorem d_M_channelOf_44 : decode b_M_channelOf 44 = .ok (.ireturn, 1) := by decide +kernel
theorem d_M_channelOf_45 : decode b_M_channelOf 45 = .ok (.iconst (-1), 1) := by decide +kernel
theorem d_M_channelOf_46 : decode b_M_channelOf 46 = .ok (.istore_n 2, 1) := by decide +kernel
theorem d_M_channelOf_47 : decode b_M_channelOf 47 = .ok (.iconst 0, 1) := by decide +kernel
theorem d_M_channelOf_48 : decode b_M_channelOf 48 = .ok (.istore_n 3, 1) := by decide +kernel
theorem d_M_channelOf_49 : decode b_M_channelOf 49 = .ok (.iload_n 3, 1) := by decide +kernel
theorem d_M_channelOf_50 : decode b_M_channelOf 50 = .ok (.iconst 4, 1) := by decide +kernel
theorem d_M_channelOf_51 : decode b_M_channelOf 51 = .ok (.if_icmp .ge 98, 3) := by decide +kernel
theorem d_M_channelOf_54 : decode b_M_channelOf 54 = .ok (.aload_n 0, 1) := by decide +kernel
theorem d_M_channelOf_55 : decode b_M_channelOf 55 = .ok (.getfield 26, 3) := by decide +kernel
theorem d_M_channelOf_58 : decode b_M_channelOf 58 = .ok (.bipush 32, 2) := by decide +kernel
theorem d_M_channelOf_60 : decode b_M_channelOf 60 = .ok (.aload_n 0, 1) := by decide +kernel
theorem d_M_channelOf_61 : decode b_M_channelOf 61 = .ok (.getfield 29, 3) := by decide +kernel
theorem d_M_channelOf_64 : decode b_M_channelOf 64 = .ok (.iload_n 1, 1) := by decide +kernel
theorem d_M_channelOf_65 : decode b_M_channelOf 65 = .ok (.iaload, 1) := by decide +kernel
theorem d_M_channelOf_66 : decode b_M_channelOf 66 = .ok (.imul, 1) := by decide +kernel
theorem d_M_channelOf_67 : decode b_M_channelOf 67 = .ok (.iconst 4, 1) := by decide +kernel
theorem d_M_channelOf_68 : decode b_M_channelOf 68 = .ok (.aload_n 0, 1) := by decide +kernel
theorem d_M_channelOf_69 : decode b_M_channelOf 69 = .ok (.getfield 35, 3) := by decide +kernel
theorem d_M_channelOf_72 : decode b_M_channelOf 72 = .ok (.iload_n 1, 1) := by decide +kernel
theorem d_M_channelOf_73 : decode b_M_channelOf 73 = .ok (.iaload, 1) := by decide +kernel
theorem d_M_channelOf_74 : decode b_M_channelOf 74 = .ok (.imul, 1) := by decide +kernel
theorem d_M_channelOf_75 : decode b_M_channelOf 75 = .ok (.iadd, 1) := by decide +kernel
theorem d_M_channelOf_76 : decode b_M_channelOf 76 = .ok (.iload_n 3, 1) := by decide +kernel
theorem d_M_channelOf_77 : decode b_M_channelOf 77 = .ok (.iadd, 1) := by decide +kernel
theorem d_M_channelOf_78 : decode b_M_channelOf 78 = .ok (.iaload, 1) := by decide +kernel
theorem d_M_channelOf_79 : decode b_M_channelOf 79 = .ok (.istore 4, 2) := by decide +kernel
theorem d_M_channelOf_81 : decode b_M_channelOf 81 = .ok (.iload 4, 2) := by decide +kernel
theorem d_M_channelOf_83 : decode b_M_channelOf 83 = .ok (.ifCond .le 16, 3) := by decide +kernel
theorem d_M_channelOf_86 : decode b_M_channelOf 86 = .ok (.aload_n 0, 1) := by decide +kernel
theorem d_M_channelOf_87 : decode b_M_channelOf 87 = .ok (.getfield 7, 3) := by decide +kernel
theorem d_M_channelOf_90 : decode b_M_channelOf 90 = .ok (.iload_n 3, 1) := by decide +kernel
theorem d_M_channelOf_91 : decode b_M_channelOf 91 = .ok (.baload, 1) := by decide +kernel
theorem d_M_channelOf_92 : decode b_M_channelOf 92 = .ok (.ifCond .ne 7, 3) := by decide +kernel
theorem d_M_channelOf_95 : decode b_M_channelOf 95 = .ok (.iconst 1, 1) := by decide +kernel
theorem d_M_channelOf_96 : decode b_M_channelOf 96 = .ok (.goto 4, 3) := by decide +kernel
theorem d_M_channelOf_99 : decode b_M_channelOf 99 = .ok (.iconst 0, 1) := by decide +kernel
theorem d_M_channelOf_100 : decode b_M_channelOf 100 = .ok (.istore 5, 2) := by decide +kernel
theorem d_M_channelOf_102 : decode b_M_channelOf 102 = .ok (.iload 5, 2) := by decide +kernel
theorem d_M_channelOf_104 : decode b_M_channelOf 104 = .ok (.ifCond .eq 39, 3) := by decide +kernel
theorem d_M_channelOf_107 : decode b_M_channelOf 107 = .ok (.iload_n 2, 1) := by decide +kernel
theorem d_M_channelOf_108 : decode b_M_channelOf 108 = .ok (.ifCond .lt 33, 3) := by decide +kernel
theorem d_M_channelOf_111 : decode b_M_channelOf 111 = .ok (.iload 4, 2) := by decide +kernel
theorem d_M_channelOf_113 : decode b_M_channelOf 113 = .ok (.aload_n 0, 1) := by decide +kernel
theorem d_M_channelOf_114 : decode b_M_channelOf 114 = .ok (.getfield 26, 3) := by decide +kernel
theorem d_M_channelOf_117 : decode b_M_channelOf 117 = .ok (.bipush 32, 2) := by decide +kernel
theorem d_M_channelOf_119 : decode b_M_channelOf 119 = .ok (.aload_n 0, 1) := by decide +kernel
theorem d_M_channelOf_120 : decode b_M_channelOf 120 = .ok (.getfield 29, 3) := by decide +kernel
theorem d_M_channelOf_123 : decode b_M_channelOf 123 = .ok (.iload_n 1, 1) := by decide +kernel
theorem d_M_channelOf_124 : decode b_M_channelOf 124 = .ok (.iaload, 1) := by decide +kernel
theorem d_M_channelOf_125 : decode b_M_channelOf 125 = .ok (.imul, 1) := by decide +kernel
theorem d_M_channelOf_126 : decode b_M_channelOf 126 = .ok (.iconst 4, 1) := by decide +kernel
theorem d_M_channelOf_127 : decode b_M_channelOf 127 = .ok (.aload_n 0, 1) := by decide +kernel
theorem d_M_channelOf_128 : decode b_M_channelOf 128 = .ok (.getfield 35, 3) := by decide +kernel
theorem d_M_channelOf_131 : decode b_M_channelOf 131 = .ok (.iload_n 1, 1) := by decide +kernel
theorem d_M_channelOf_132 : decode b_M_channelOf 132 = .ok (.iaload, 1) := by decide +kernel
theorem d_M_channelOf_133 : decode b_M_channelOf 133 = .ok (.imul, 1) := by decide +kernel
theorem d_M_channelOf_134 : decode b_M_channelOf 134 = .ok (.iadd, 1) := by decide +kernel
theorem d_M_channelOf_135 : decode b_M_channelOf 135 = .ok (.iload_n 2, 1) := by decide +kernel
theorem d_M_channelOf_136 : decode b_M_channelOf 136 = .ok (.iadd, 1) := by decide +kernel
theorem d_M_channelOf_137 : decode b_M_channelOf 137 = .ok (.iaload, 1) := by decide +kernel
theorem d_M_channelOf_138 : decode b_M_channelOf 138 = .ok (.if_icmp .ge 5, 3) := by decide +kernel
theorem d_M_channelOf_141 : decode b_M_channelOf 141 = .ok (.iload_n 3, 1) := by decide +kernel
theorem d_M_channelOf_142 : decode b_M_channelOf 142 = .ok (.istore_n 2, 1) := by decide +kernel
theorem d_M_channelOf_143 : decode b_M_channelOf 143 = .ok (.iinc 3 1, 3) := by decide +kernel
theorem d_M_channelOf_146 : decode b_M_channelOf 146 = .ok (.goto (-97), 3) := by decide +kernel
theorem d_M_channelOf_149 : decode b_M_channelOf 149 = .ok (.iload_n 2, 1) := by decide +kernel
theorem d_M_channelOf_150 : decode b_M_channelOf 150 = .ok (.ireturn, 1) := by decide +kernel
theorem d_M_sent_0 : decode b_M_sent 0 = .ok (.iload_n 2, 1) := by decide +kernel
theorem d_M_sent_1 : decode b_M_sent 1 = .ok (.i2l, 1) := by decide +kernel
theorem d_M_sent_2 : decode b_M_sent 2 = .ok (.lconst 0, 1) := by decide +kernel
theorem d_M_sent_3 : decode b_M_sent 3 = .ok (.ldc2_w 170, 3) := by decide +kernel
theorem d_M_sent_6 : decode b_M_sent 6 = .ok (.invokestatic 91, 3) := by decide +kernel
theorem d_M_sent_9 : decode b_M_sent 9 = .ok (.ifCond .ne 6, 3) := by decide +kernel
theorem d_M_sent_12 : decode b_M_sent 12 = .ok (.bipush (-12), 2) := by decide +kernel
theorem d_M_sent_14 : decode b_M_sent 14 = .ok (.ireturn, 1) := by decide +kernel
theorem d_M_sent_15 : decode b_M_sent 15 = .ok (.iload_n 1, 1) := by decide +kernel
theorem d_M_sent_16 : decode b_M_sent 16 = .ok (.i2l, 1) := by decide +kernel
theorem d_M_sent_17 : decode b_M_sent 17 = .ok (.lconst 0, 1) := by decide +kernel
theorem d_M_sent_18 : decode b_M_sent 18 = .ok (.aload_n 0, 1) := by decide +kernel
theorem d_M_sent_19 : decode b_M_sent 19 = .ok (.getfield 167, 3) := by decide +kernel
theorem d_M_sent_22 : decode b_M_sent 22 = .ok (.iconst 1, 1) := by decide +kernel
theorem d_M_sent_23 : decode b_M_sent 23 = .ok (.isub, 1) := by decide +kernel
theorem d_M_sent_24 : decode b_M_sent 24 = .ok (.i2l, 1) := by decide +kernel
theorem d_M_sent_25 : decode b_M_sent 25 = .ok (.invokestatic 91, 3) := by decide +kernel
theorem d_M_sent_28 : decode b_M_sent 28 = .ok (.ifCond .ne 5, 3) := by decide +kernel
theorem d_M_sent_31 : decode b_M_sent 31 = .ok (.iconst (-1), 1) := by decide +kernel
theorem d_M_sent_32 : decode b_M_sent 32 = .ok (.ireturn, 1) := by decide +kernel
theorem d_M_sent_33 : decode b_M_sent 33 = .ok (.aload_n 0, 1) := by decide +kernel
theorem d_M_sent_34 : decode b_M_sent 34 = .ok (.getfield 66, 3) := by decide +kernel
theorem d_M_sent_37 : decode b_M_sent 37 = .ok (.iload_n 1, 1) := by decide +kernel
theorem d_M_sent_38 : decode b_M_sent 38 = .ok (.iaload, 1) := by decide +kernel
theorem d_M_sent_39 : decode b_M_sent 39 = .ok (.istore_n 3, 1) := by decide +kernel
theorem d_M_sent_40 : decode b_M_sent 40 = .ok (.iload_n 2, 1) := by decide +kernel
theorem d_M_sent_41 : decode b_M_sent 41 = .ok (.tableswitch 131 0 7 #[47, 49, 56, 63, 70, 77, 116, 123], 47) := by decide +kernel
theorem d_M_sent_88 : decode b_M_sent 88 = .ok (.iload_n 3, 1) := by decide +kernel
theorem d_M_sent_89 : decode b_M_sent 89 = .ok (.ireturn, 1) := by decide +kernel
theorem d_M_sent_90 : decode b_M_sent 90 = .ok (.aload_n 0, 1) := by decide +kernel
theorem d_M_sent_91 : decode b_M_sent 91 = .ok (.getfield 29, 3) := by decide +kernel
theorem d_M_sent_94 : decode b_M_sent 94 = .ok (.iload_n 3, 1) := by decide +kernel
theorem d_M_sent_95 : decode b_M_sent 95 = .ok (.iaload, 1) := by decide +kernel
theorem d_M_sent_96 : decode b_M_sent 96 = .ok (.ireturn, 1) := by decide +kernel
theorem d_M_sent_97 : decode b_M_sent 97 = .ok (.aload_n 0, 1) := by decide +kernel
theorem d_M_sent_98 : decode b_M_sent 98 = .ok (.getfield 32, 3) := by decide +kernel
theorem d_M_sent_101 : decode b_M_sent 101 = .ok (.iload_n 3, 1) := by decide +kernel
theorem d_M_sent_102 : decode b_M_sent 102 = .ok (.iaload, 1) := by decide +kernel
theorem d_M_sent_103 : decode b_M_sent 103 = .ok (.ireturn, 1) := by decide +kernel
theorem d_M_sent_104 : decode b_M_sent 104 = .ok (.aload_n 0, 1) := by decide +kernel
theorem d_M_sent_105 : decode b_M_sent 105 = .ok (.getfield 35, 3) := by decide +kernel
theorem d_M_sent_108 : decode b_M_sent 108 = .ok (.iload_n 3, 1) := by decide +kernel
theorem d_M_sent_109 : decode b_M_sent 109 = .ok (.iaload, 1) := by decide +kernel
theorem d_M_sent_110 : decode b_M_sent 110 = .ok (.ireturn, 1) := by decide +kernel
theorem d_M_sent_111 : decode b_M_sent 111 = .ok (.aload_n 0, 1) := by decide +kernel
theorem d_M_sent_112 : decode b_M_sent 112 = .ok (.getfield 69, 3) := by decide +kernel
theorem d_M_sent_115 : decode b_M_sent 115 = .ok (.iload_n 1, 1) := by decide +kernel
theorem d_M_sent_116 : decode b_M_sent 116 = .ok (.iaload, 1) := by decide +kernel
theorem d_M_sent_117 : decode b_M_sent 117 = .ok (.ireturn, 1) := by decide +kernel
theorem d_M_sent_118 : decode b_M_sent 118 = .ok (.bipush 32, 2) := by decide +kernel
theorem d_M_sent_120 : decode b_M_sent 120 = .ok (.aload_n 0, 1) := by decide +kernel
theorem d_M_sent_121 : decode b_M_sent 121 = .ok (.getfield 13, 3) := by decide +kernel
theorem d_M_sent_124 : decode b_M_sent 124 = .ok (.aload_n 0, 1) := by decide +kernel
theorem d_M_sent_125 : decode b_M_sent 125 = .ok (.getfield 29, 3) := by decide +kernel
theorem d_M_sent_128 : decode b_M_sent 128 = .ok (.iload_n 3, 1) := by decide +kernel
theorem d_M_sent_129 : decode b_M_sent 129 = .ok (.iaload, 1) := by decide +kernel
theorem d_M_sent_130 : decode b_M_sent 130 = .ok (.iaload, 1) := by decide +kernel
theorem d_M_sent_131 : decode b_M_sent 131 = .ok (.imul, 1) := by decide +kernel
theorem d_M_sent_132 : decode b_M_sent 132 = .ok (.iconst 2, 1) := by decide +kernel
theorem d_M_sent_133 : decode b_M_sent 133 = .ok (.aload_n 0, 1) := by decide +kernel
theorem d_M_sent_134 : decode b_M_sent 134 = .ok (.getfield 35, 3) := by decide +kernel
theorem d_M_sent_137 : decode b_M_sent 137 = .ok (.iload_n 3, 1) := by decide +kernel
theorem d_M_sent_138 : decode b_M_sent 138 = .ok (.iaload, 1) := by decide +kernel
theorem d_M_sent_139 : decode b_M_sent 139 = .ok (.imul, 1) := by decide +kernel
theorem d_M_sent_140 : decode b_M_sent 140 = .ok (.iadd, 1) := by decide +kernel
theorem d_M_sent_141 : decode b_M_sent 141 = .ok (.aload_n 0, 1) := by decide +kernel
theorem d_M_sent_142 : decode b_M_sent 142 = .ok (.getfield 48, 3) := by decide +kernel
theorem d_M_sent_145 : decode b_M_sent 145 = .ok (.iload_n 3, 1) := by decide +kernel
theorem d_M_sent_146 : decode b_M_sent 146 = .ok (.baload, 1) := by decide +kernel
theorem d_M_sent_147 : decode b_M_sent 147 = .ok (.ifCond .eq 7, 3) := by decide +kernel
theorem d_M_sent_150 : decode b_M_sent 150 = .ok (.iconst 1, 1) := by decide +kernel
theorem d_M_sent_151 : decode b_M_sent 151 = .ok (.goto 4, 3) := by decide +kernel
theorem d_M_sent_154 : decode b_M_sent 154 = .ok (.iconst 0, 1) := by decide +kernel
theorem d_M_sent_155 : decode b_M_sent 155 = .ok (.iadd, 1) := by decide +kernel
theorem d_M_sent_156 : decode b_M_sent 156 = .ok (.ireturn, 1) := by decide +kernel
theorem d_M_sent_157 : decode b_M_sent 157 = .ok (.aload_n 0, 1) := by decide +kernel
theorem d_M_sent_158 : decode b_M_sent 158 = .ok (.getfield 72, 3) := by decide +kernel
theorem d_M_sent_161 : decode b_M_sent 161 = .ok (.iload_n 1, 1) := by decide +kernel
theorem d_M_sent_162 : decode b_M_sent 162 = .ok (.iaload, 1) := by decide +kernel
theorem d_M_sent_163 : decode b_M_sent 163 = .ok (.ireturn, 1) := by decide +kernel
theorem d_M_sent_164 : decode b_M_sent 164 = .ok (.aload_n 0, 1) := by decide +kernel
theorem d_M_sent_165 : decode b_M_sent 165 = .ok (.getfield 75, 3) := by decide +kernel
theorem d_M_sent_168 : decode b_M_sent 168 = .ok (.iload_n 1, 1) := by decide +kernel
theorem d_M_sent_169 : decode b_M_sent 169 = .ok (.laload, 1) := by decide +kernel
theorem d_M_sent_170 : decode b_M_sent 170 = .ok (.l2i, 1) := by decide +kernel
theorem d_M_sent_171 : decode b_M_sent 171 = .ok (.ireturn, 1) := by decide +kernel
theorem d_M_sent_172 : decode b_M_sent 172 = .ok (.aload_n 0, 1) := by decide +kernel
theorem d_M_sent_173 : decode b_M_sent 173 = .ok (.getfield 42, 3) := by decide +kernel
theorem d_M_sent_176 : decode b_M_sent 176 = .ok (.iload_n 3, 1) := by decide +kernel
theorem d_M_sent_177 : decode b_M_sent 177 = .ok (.laload, 1) := by decide +kernel
theorem d_M_sent_178 : decode b_M_sent 178 = .ok (.l2i, 1) := by decide +kernel
theorem d_M_sent_179 : decode b_M_sent 179 = .ok (.ireturn, 1) := by decide +kernel
theorem d_M_works_0 : decode b_M_works 0 = .ok (.iload_n 1, 1) := by decide +kernel
theorem d_M_works_1 : decode b_M_works 1 = .ok (.i2l, 1) := by decide +kernel
theorem d_M_works_2 : decode b_M_works 2 = .ok (.lconst 0, 1) := by decide +kernel
theorem d_M_works_3 : decode b_M_works 3 = .ok (.ldc2_w 113, 3) := by decide +kernel
theorem d_M_works_6 : decode b_M_works 6 = .ok (.invokestatic 91, 3) := by decide +kernel
theorem d_M_works_9 : decode b_M_works 9 = .ok (.ifCond .ne 5, 3) := by decide +kernel
theorem d_M_works_12 : decode b_M_works 12 = .ok (.iconst 0, 1) := by decide +kernel
theorem d_M_works_13 : decode b_M_works 13 = .ok (.ireturn, 1) := by decide +kernel
theorem d_M_works_14 : decode b_M_works 14 = .ok (.aload_n 0, 1) := by decide +kernel
theorem d_M_works_15 : decode b_M_works 15 = .ok (.getfield 7, 3) := by decide +kernel
theorem d_M_works_18 : decode b_M_works 18 = .ok (.iload_n 1, 1) := by decide +kernel
theorem d_M_works_19 : decode b_M_works 19 = .ok (.baload, 1) := by decide +kernel
theorem d_M_works_20 : decode b_M_works 20 = .ok (.ifCond .ne 7, 3) := by decide +kernel
theorem d_M_works_23 : decode b_M_works 23 = .ok (.iconst 1, 1) := by decide +kernel
theorem d_M_works_24 : decode b_M_works 24 = .ok (.goto 4, 3) := by decide +kernel
theorem d_M_works_27 : decode b_M_works 27 = .ok (.iconst 0, 1) := by decide +kernel
theorem d_M_works_28 : decode b_M_works 28 = .ok (.istore_n 3, 1) := by decide +kernel
theorem d_M_works_29 : decode b_M_works 29 = .ok (.aload_n 0, 1) := by decide +kernel
theorem d_M_works_30 : decode b_M_works 30 = .ok (.getfield 7, 3) := by decide +kernel
theorem d_M_works_33 : decode b_M_works 33 = .ok (.iload_n 1, 1) := by decide +kernel
theorem d_M_works_34 : decode b_M_works 34 = .ok (.iload_n 2, 1) := by decide +kernel
theorem d_M_works_35 : decode b_M_works 35 = .ok (.ifCond .ne 7, 3) := by decide +kernel
theorem d_M_works_38 : decode b_M_works 38 = .ok (.iconst 1, 1) := by decide +kernel
theorem d_M_works_39 : decode b_M_works 39 = .ok (.goto 4, 3) := by decide +kernel
theorem d_M_works_42 : decode b_M_works 42 = .ok (.iconst 0, 1) := by decide +kernel
theorem d_M_works_43 : decode b_M_works 43 = .ok (.bastore, 1) := by decide +kernel
theorem d_M_works_44 : decode b_M_works 44 = .ok (.iload_n 3, 1) := by decide +kernel
theorem d_M_works_45 : decode b_M_works 45 = .ok (.ireturn, 1) := by decide +kernel
theorem d_M_out_0 : decode b_M_out 0 = .ok (.aload_n 0, 1) := by decide +kernel
theorem d_M_out_1 : decode b_M_out 1 = .ok (.iload_n 1, 1) := by decide +kernel
theorem d_M_out_2 : decode b_M_out 2 = .ok (.invokevirtual 107, 3) := by decide +kernel
theorem d_M_out_5 : decode b_M_out 5 = .ok (.ifCond .ne 6, 3) := by decide +kernel
theorem d_M_out_8 : decode b_M_out 8 = .ok (.bipush (-11), 2) := by decide +kernel
theorem d_M_out_10 : decode b_M_out 10 = .ok (.ireturn, 1) := by decide +kernel
theorem d_M_out_11 : decode b_M_out 11 = .ok (.iload_n 2, 1) := by decide +kernel
theorem d_M_out_12 : decode b_M_out 12 = .ok (.i2l, 1) := by decide +kernel
theorem d_M_out_13 : decode b_M_out 13 = .ok (.lconst 0, 1) := by decide +kernel
theorem d_M_out_14 : decode b_M_out 14 = .ok (.ldc2_w 111, 3) := by decide +kernel
theorem d_M_out_17 : decode b_M_out 17 = .ok (.invokestatic 91, 3) := by decide +kernel
theorem d_M_out_20 : decode b_M_out 20 = .ok (.ifCond .ne 6, 3) := by decide +kernel
theorem d_M_out_23 : decode b_M_out 23 = .ok (.bipush (-12), 2) := by decide +kernel
theorem d_M_out_25 : decode b_M_out 25 = .ok (.ireturn, 1) := by decide +kernel
theorem d_M_out_26 : decode b_M_out 26 = .ok (.iconst 0, 1) := by decide +kernel
theorem d_M_out_27 : decode b_M_out 27 = .ok (.istore_n 3, 1) := by decide +kernel
theorem d_M_out_28 : decode b_M_out 28 = .ok (.iload_n 3, 1) := by decide +kernel
theorem d_M_out_29 : decode b_M_out 29 = .ok (.iconst 4, 1) := by decide +kernel
theorem d_M_out_30 : decode b_M_out 30 = .ok (.if_icmp .ge 25, 3) := by decide +kernel
theorem d_M_out_33 : decode b_M_out 33 = .ok (.aload_n 0, 1) := by decide +kernel
theorem d_M_out_34 : decode b_M_out 34 = .ok (.getfield 26, 3) := by decide +kernel
theorem d_M_out_37 : decode b_M_out 37 = .ok (.bipush 32, 2) := by decide +kernel
theorem d_M_out_39 : decode b_M_out 39 = .ok (.iload_n 1, 1) := by decide +kernel
theorem d_M_out_40 : decode b_M_out 40 = .ok (.imul, 1) := by decide +kernel
theorem d_M_out_41 : decode b_M_out 41 = .ok (.iconst 4, 1) := by decide +kernel
theorem d_M_out_42 : decode b_M_out 42 = .ok (.iload_n 2, 1) := by decide +kernel
theorem d_M_out_43 : decode b_M_out 43 = .ok (.imul, 1) := by decide +kernel
theorem d_M_out_44 : decode b_M_out 44 = .ok (.iadd, 1) := by decide +kernel
theorem d_M_out_45 : decode b_M_out 45 = .ok (.iload_n 3, 1) := by decide +kernel
theorem d_M_out_46 : decode b_M_out 46 = .ok (.iadd, 1) := by decide +kernel
theorem d_M_out_47 : decode b_M_out 47 = .ok (.iconst 0, 1) := by decide +kernel
theorem d_M_out_48 : decode b_M_out 48 = .ok (.iastore, 1) := by decide +kernel
theorem d_M_out_49 : decode b_M_out 49 = .ok (.iinc 3 1, 3) := by decide +kernel
theorem d_M_out_52 : decode b_M_out 52 = .ok (.goto (-24), 3) := by decide +kernel
theorem d_M_out_55 : decode b_M_out 55 = .ok (.iconst 0, 1) := by decide +kernel
theorem d_M_out_56 : decode b_M_out 56 = .ok (.istore_n 3, 1) := by decide +kernel
theorem d_M_out_57 : decode b_M_out 57 = .ok (.iconst 1, 1) := by decide +kernel
theorem d_M_out_58 : decode b_M_out 58 = .ok (.istore 4, 2) := by decide +kernel
theorem d_M_out_60 : decode b_M_out 60 = .ok (.iload 4, 2) := by decide +kernel
theorem d_M_out_62 : decode b_M_out 62 = .ok (.aload_n 0, 1) := by decide +kernel
theorem d_M_out_63 : decode b_M_out 63 = .ok (.getfield 129, 3) := by decide +kernel
theorem d_M_out_66 : decode b_M_out 66 = .ok (.if_icmp .gt 52, 3) := by decide +kernel
theorem d_M_out_69 : decode b_M_out 69 = .ok (.aload_n 0, 1) := by decide +kernel
theorem d_M_out_70 : decode b_M_out 70 = .ok (.getfield 45, 3) := by decide +kernel
theorem d_M_out_73 : decode b_M_out 73 = .ok (.iload 4, 2) := by decide +kernel
theorem d_M_out_75 : decode b_M_out 75 = .ok (.iaload, 1) := by decide +kernel
theorem d_M_out_76 : decode b_M_out 76 = .ok (.ifCond .ne 36, 3) := by decide +kernel
theorem d_M_out_79 : decode b_M_out 79 = .ok (.aload_n 0, 1) := by decide +kernel
theorem d_M_out_80 : decode b_M_out 80 = .ok (.getfield 29, 3) := by decide +kernel
theorem d_M_out_83 : decode b_M_out 83 = .ok (.iload 4, 2) := by decide +kernel
theorem d_M_out_85 : decode b_M_out 85 = .ok (.iaload, 1) := by decide +kernel
theorem d_M_out_86 : decode b_M_out 86 = .ok (.iload_n 1, 1) := by decide +kernel
theorem d_M_out_87 : decode b_M_out 87 = .ok (.if_icmp .ne 25, 3) := by decide +kernel
theorem d_M_out_90 : decode b_M_out 90 = .ok (.aload_n 0, 1) := by decide +kernel
theorem d_M_out_91 : decode b_M_out 91 = .ok (.getfield 35, 3) := by decide +kernel
theorem d_M_out_94 : decode b_M_out 94 = .ok (.iload 4, 2) := by decide +kernel
theorem d_M_out_96 : decode b_M_out 96 = .ok (.iaload, 1) := by decide +kernel
theorem d_M_out_97 : decode b_M_out 97 = .ok (.iload_n 2, 1) := by decide +kernel
theorem d_M_out_98 : decode b_M_out 98 = .ok (.if_icmp .ne 14, 3) := by decide +kernel
theorem d_M_out_101 : decode b_M_out 101 = .ok (.aload_n 0, 1) := by decide +kernel
theorem d_M_out_102 : decode b_M_out 102 = .ok (.getfield 45, 3) := by decide +kernel
theorem d_M_out_105 : decode b_M_out 105 = .ok (.iload 4, 2) := by decide +kernel
theorem d_M_out_107 : decode b_M_out 107 = .ok (.iconst 3, 1) := by decide +kernel
theorem d_M_out_108 : decode b_M_out 108 = .ok (.iastore, 1) := by decide +kernel
theorem d_M_out_109 : decode b_M_out 109 = .ok (.iinc 3 1, 3) := by decide +kernel
theorem d_M_out_112 : decode b_M_out 112 = .ok (.iinc 4 1, 3) := by decide +kernel
theorem d_M_out_115 : decode b_M_out 115 = .ok (.goto (-55), 3) := by decide +kernel
theorem d_M_out_118 : decode b_M_out 118 = .ok (.iload_n 3, 1) := by decide +kernel
theorem d_M_out_119 : decode b_M_out 119 = .ok (.ireturn, 1) := by decide +kernel
theorem d_M_failed_0 : decode b_M_failed 0 = .ok (.iload_n 1, 1) := by decide +kernel
theorem d_M_failed_1 : decode b_M_failed 1 = .ok (.i2l, 1) := by decide +kernel
theorem d_M_failed_2 : decode b_M_failed 2 = .ok (.lconst 0, 1) := by decide +kernel
theorem d_M_failed_3 : decode b_M_failed 3 = .ok (.aload_n 0, 1) := by decide +kernel
theorem d_M_failed_4 : decode b_M_failed 4 = .ok (.getfield 164, 3) := by decide +kernel
theorem d_M_failed_7 : decode b_M_failed 7 = .ok (.iconst 1, 1) := by decide +kernel
theorem d_M_failed_8 : decode b_M_failed 8 = .ok (.isub, 1) := by decide +kernel
theorem d_M_failed_9 : decode b_M_failed 9 = .ok (.i2l, 1) := by decide +kernel
theorem d_M_failed_10 : decode b_M_failed 10 = .ok (.invokestatic 91, 3) := by decide +kernel
theorem d_M_failed_13 : decode b_M_failed 13 = .ok (.ifCond .eq 12, 3) := by decide +kernel
theorem d_M_failed_16 : decode b_M_failed 16 = .ok (.aload_n 0, 1) := by decide +kernel
theorem d_M_failed_17 : decode b_M_failed 17 = .ok (.getfield 78, 3) := by decide +kernel
theorem d_M_failed_20 : decode b_M_failed 20 = .ok (.iload_n 1, 1) := by decide +kernel
theorem d_M_failed_21 : decode b_M_failed 21 = .ok (.iaload, 1) := by decide +kernel
theorem d_M_failed_22 : decode b_M_failed 22 = .ok (.goto 4, 3) := by decide +kernel
theorem d_M_failed_25 : decode b_M_failed 25 = .ok (.iconst (-1), 1) := by decide +kernel
theorem d_M_failed_26 : decode b_M_failed 26 = .ok (.ireturn, 1) := by decide +kernel
theorem d_M_correct_0 : decode b_M_correct 0 = .ok (.iload_n 1, 1) := by decide +kernel
theorem d_M_correct_1 : decode b_M_correct 1 = .ok (.i2l, 1) := by decide +kernel
theorem d_M_correct_2 : decode b_M_correct 2 = .ok (.lconst 1, 1) := by decide +kernel
theorem d_M_correct_3 : decode b_M_correct 3 = .ok (.aload_n 0, 1) := by decide +kernel
theorem d_M_correct_4 : decode b_M_correct 4 = .ok (.getfield 129, 3) := by decide +kernel
theorem d_M_correct_7 : decode b_M_correct 7 = .ok (.i2l, 1) := by decide +kernel
theorem d_M_correct_8 : decode b_M_correct 8 = .ok (.invokestatic 91, 3) := by decide +kernel
theorem d_M_correct_11 : decode b_M_correct 11 = .ok (.ifCond .ne 6, 3) := by decide +kernel
theorem d_M_correct_14 : decode b_M_correct 14 = .ok (.bipush (-11), 2) := by decide +kernel
theorem d_M_correct_16 : decode b_M_correct 16 = .ok (.ireturn, 1) := by decide +kernel
theorem d_M_correct_17 : decode b_M_correct 17 = .ok (.aload_n 0, 1) := by decide +kernel
theorem d_M_correct_18 : decode b_M_correct 18 = .ok (.lload_n 2, 1) := by decide +kernel
theorem d_M_correct_19 : decode b_M_correct 19 = .ok (.invokevirtual 134, 3) := by decide +kernel
theorem d_M_correct_22 : decode b_M_correct 22 = .ok (.ifCond .ne 6, 3) := by decide +kernel
theorem d_M_correct_25 : decode b_M_correct 25 = .ok (.bipush (-12), 2) := by decide +kernel
theorem d_M_correct_27 : decode b_M_correct 27 = .ok (.ireturn, 1) := by decide +kernel
theorem d_M_correct_28 : decode b_M_correct 28 = .ok (.aload_n 0, 1) := by decide +kernel
theorem d_M_correct_29 : decode b_M_correct 29 = .ok (.getfield 45, 3) := by decide +kernel
theorem d_M_correct_32 : decode b_M_correct 32 = .ok (.iload_n 1, 1) := by decide +kernel
theorem d_M_correct_33 : decode b_M_correct 33 = .ok (.iaload, 1) := by decide +kernel
theorem d_M_correct_34 : decode b_M_correct 34 = .ok (.iconst 2, 1) := by decide +kernel
theorem d_M_correct_35 : decode b_M_correct 35 = .ok (.if_icmp .eq 31, 3) := by decide +kernel
theorem d_M_correct_38 : decode b_M_correct 38 = .ok (.aload_n 0, 1) := by decide +kernel
theorem d_M_correct_39 : decode b_M_correct 39 = .ok (.getfield 45, 3) := by decide +kernel
theorem d_M_correct_42 : decode b_M_correct 42 = .ok (.iload_n 1, 1) := by decide +kernel
theorem d_M_correct_43 : decode b_M_correct 43 = .ok (.iaload, 1) := by decide +kernel
theorem d_M_correct_44 : decode b_M_correct 44 = .ok (.iconst 3, 1) := by decide +kernel
theorem d_M_correct_45 : decode b_M_correct 45 = .ok (.if_icmp .eq 21, 3) := by decide +kernel
theorem d_M_correct_48 : decode b_M_correct 48 = .ok (.aload_n 0, 1) := by decide +kernel
theorem d_M_correct_49 : decode b_M_correct 49 = .ok (.getfield 51, 3) := by decide +kernel
theorem d_M_correct_52 : decode b_M_correct 52 = .ok (.iload_n 1, 1) := by decide +kernel
theorem d_M_correct_53 : decode b_M_correct 53 = .ok (.baload, 1) := by decide +kernel
theorem d_M_correct_54 : decode b_M_correct 54 = .ok (.ifCond .ne 12, 3) := by decide +kernel
theorem d_M_correct_57 : decode b_M_correct 57 = .ok (.aload_n 0, 1) := by decide +kernel
theorem d_M_correct_58 : decode b_M_correct 58 = .ok (.getfield 48, 3) := by decide +kernel
theorem d_M_correct_61 : decode b_M_correct 61 = .ok (.iload_n 1, 1) := by decide +kernel
theorem d_M_correct_62 : decode b_M_correct 62 = .ok (.baload, 1) := by decide +kernel
theorem d_M_correct_63 : decode b_M_correct 63 = .ok (.ifCond .eq 6, 3) := by decide +kernel
theorem d_M_correct_66 : decode b_M_correct 66 = .ok (.bipush (-13), 2) := by decide +kernel
theorem d_M_correct_68 : decode b_M_correct 68 = .ok (.ireturn, 1) := by decide +kernel
theorem d_M_correct_69 : decode b_M_correct 69 = .ok (.aload_n 0, 1) := by decide +kernel
theorem d_M_correct_70 : decode b_M_correct 70 = .ok (.getfield 45, 3) := by decide +kernel
theorem d_M_correct_73 : decode b_M_correct 73 = .ok (.iload_n 1, 1) := by decide +kernel
theorem d_M_correct_74 : decode b_M_correct 74 = .ok (.iaload, 1) := by decide +kernel
theorem d_M_correct_75 : decode b_M_correct 75 = .ok (.ifCond .ne 17, 3) := by decide +kernel
theorem d_M_correct_78 : decode b_M_correct 78 = .ok (.aload_n 0, 1) := by decide +kernel
theorem d_M_correct_79 : decode b_M_correct 79 = .ok (.getfield 45, 3) := by decide +kernel
theorem d_M_correct_82 : decode b_M_correct 82 = .ok (.iload_n 1, 1) := by decide +kernel
theorem d_M_correct_83 : decode b_M_correct 83 = .ok (.iconst 3, 1) := by decide +kernel
theorem d_M_correct_84 : decode b_M_correct 84 = .ok (.iastore, 1) := by decide +kernel
theorem d_M_correct_85 : decode b_M_correct 85 = .ok (.aload_n 0, 1) := by decide +kernel
theorem d_M_correct_86 : decode b_M_correct 86 = .ok (.iload_n 1, 1) := by decide +kernel
theorem d_M_correct_87 : decode b_M_correct 87 = .ok (.invokevirtual 172, 3) := by decide +kernel
theorem d_M_correct_90 : decode b_M_correct 90 = .ok (.iconst 0, 1) := by decide +kernel
theorem d_M_correct_91 : decode b_M_correct 91 = .ok (.ireturn, 1) := by decide +kernel
theorem d_M_correct_92 : decode b_M_correct 92 = .ok (.aload_n 0, 1) := by decide +kernel
theorem d_M_correct_93 : decode b_M_correct 93 = .ok (.aload_n 0, 1) := by decide +kernel
theorem d_M_correct_94 : decode b_M_correct 94 = .ok (.getfield 29, 3) := by decide +kernel
theorem d_M_correct_97 : decode b_M_correct 97 = .ok (.iload_n 1, 1) := by decide +kernel
theorem d_M_correct_98 : decode b_M_correct 98 = .ok (.iaload, 1) := by decide +kernel
theorem d_M_correct_99 : decode b_M_correct 99 = .ok (.aload_n 0, 1) := by decide +kernel
theorem d_M_correct_100 : decode b_M_correct 100 = .ok (.getfield 35, 3) := by decide +kernel
theorem d_M_correct_103 : decode b_M_correct 103 = .ok (.iload_n 1, 1) := by decide +kernel
theorem d_M_correct_104 : decode b_M_correct 104 = .ok (.iaload, 1) := by decide +kernel
theorem d_M_correct_105 : decode b_M_correct 105 = .ok (.invokevirtual 115, 3) := by decide +kernel
theorem d_M_correct_108 : decode b_M_correct 108 = .ok (.ifCond .le 7, 3) := by decide +kernel
theorem d_M_correct_111 : decode b_M_correct 111 = .ok (.iconst 1, 1) := by decide +kernel
theorem d_M_correct_112 : decode b_M_correct 112 = .ok (.goto 4, 3) := by decide +kernel
theorem d_M_correct_115 : decode b_M_correct 115 = .ok (.iconst 0, 1) := by decide +kernel
theorem d_M_correct_116 : decode b_M_correct 116 = .ok (.istore 4, 2) := by decide +kernel
theorem d_M_correct_118 : decode b_M_correct 118 = .ok (.iload 4, 2) := by decide +kernel
theorem d_M_correct_120 : decode b_M_correct 120 = .ok (.ifCond .eq 16, 3) := by decide +kernel
theorem d_M_correct_123 : decode b_M_correct 123 = .ok (.aload_n 0, 1) := by decide +kernel
theorem d_M_correct_124 : decode b_M_correct 124 = .ok (.getfield 129, 3) := by decide +kernel
theorem d_M_correct_127 : decode b_M_correct 127 = .ok (.sipush 200, 3) := by decide +kernel
theorem d_M_correct_130 : decode b_M_correct 130 = .ok (.if_icmp .ne 6, 3) := by decide +kernel
theorem d_M_correct_133 : decode b_M_correct 133 = .ok (.bipush (-14), 2) := by decide +kernel
theorem d_M_correct_135 : decode b_M_correct 135 = .ok (.ireturn, 1) := by decide +kernel
theorem d_M_correct_136 : decode b_M_correct 136 = .ok (.aload_n 0, 1) := by decide +kernel
theorem d_M_correct_137 : decode b_M_correct 137 = .ok (.getfield 51, 3) := by decide +kernel
theorem d_M_correct_140 : decode b_M_correct 140 = .ok (.iload_n 1, 1) := by decide +kernel
theorem d_M_correct_141 : decode b_M_correct 141 = .ok (.iconst 1, 1) := by decide +kernel
theorem d_M_correct_142 : decode b_M_correct 142 = .ok (.bastore, 1) := by decide +kernel
theorem d_M_correct_143 : decode b_M_correct 143 = .ok (.aload_n 0, 1) := by decide +kernel
theorem d_M_correct_144 : decode b_M_correct 144 = .ok (.iload_n 1, 1) := by decide +kernel
theorem d_M_correct_145 : decode b_M_correct 145 = .ok (.invokevirtual 172, 3) := by decide +kernel
theorem d_M_correct_148 : decode b_M_correct 148 = .ok (.iload 4, 2) := by decide +kernel
theorem d_M_correct_150 : decode b_M_correct 150 = .ok (.ifCond .eq 33, 3) := by decide +kernel
theorem d_M_correct_153 : decode b_M_correct 153 = .ok (.aload_n 0, 1) := by decide +kernel
theorem d_M_correct_154 : decode b_M_correct 154 = .ok (.aload_n 0, 1) := by decide +kernel
theorem d_M_correct_155 : decode b_M_correct 155 = .ok (.getfield 29, 3) := by decide +kernel
theorem d_M_correct_158 : decode b_M_correct 158 = .ok (.iload_n 1, 1) := by decide +kernel
theorem d_M_correct_159 : decode b_M_correct 159 = .ok (.iaload, 1) := by decide +kernel
theorem d_M_correct_160 : decode b_M_correct 160 = .ok (.aload_n 0, 1) := by decide +kernel
theorem d_M_correct_161 : decode b_M_correct 161 = .ok (.getfield 32, 3) := by decide +kernel
theorem d_M_correct_164 : decode b_M_correct 164 = .ok (.iload_n 1, 1) := by decide +kernel
theorem d_M_correct_165 : decode b_M_correct 165 = .ok (.iaload, 1) := by decide +kernel
theorem d_M_correct_166 : decode b_M_correct 166 = .ok (.aload_n 0, 1) := by decide +kernel
theorem d_M_correct_167 : decode b_M_correct 167 = .ok (.getfield 35, 3) := by decide +kernel
theorem d_M_correct_170 : decode b_M_correct 170 = .ok (.iload_n 1, 1) := by decide +kernel
theorem d_M_correct_171 : decode b_M_correct 171 = .ok (.iaload, 1) := by decide +kernel
theorem d_M_correct_172 : decode b_M_correct 172 = .ok (.lload_n 2, 1) := by decide +kernel
theorem d_M_correct_173 : decode b_M_correct 173 = .ok (.ldc2_w 141, 3) := by decide +kernel
theorem d_M_correct_176 : decode b_M_correct 176 = .ok (.iconst 1, 1) := by decide +kernel
theorem d_M_correct_177 : decode b_M_correct 177 = .ok (.invokevirtual 143, 3) := by decide +kernel
theorem d_M_correct_180 : decode b_M_correct 180 = .ok (.goto 4, 3) := by decide +kernel
theorem d_M_correct_183 : decode b_M_correct 183 = .ok (.iconst 0, 1) := by decide +kernel
theorem d_M_correct_184 : decode b_M_correct 184 = .ok (.ireturn, 1) := by decide +kernel
theorem d_M_undo_0 : decode b_M_undo 0 = .ok (.aload_n 0, 1) := by decide +kernel
theorem d_M_undo_1 : decode b_M_undo 1 = .ok (.getfield 35, 3) := by decide +kernel
theorem d_M_undo_4 : decode b_M_undo 4 = .ok (.iload_n 1, 1) := by decide +kernel
theorem d_M_undo_5 : decode b_M_undo 5 = .ok (.iaload, 1) := by decide +kernel
theorem d_M_undo_6 : decode b_M_undo 6 = .ok (.iconst 5, 1) := by decide +kernel
theorem d_M_undo_7 : decode b_M_undo 7 = .ok (.if_icmp .eq 14, 3) := by decide +kernel
theorem d_M_undo_10 : decode b_M_undo 10 = .ok (.aload_n 0, 1) := by decide +kernel
theorem d_M_undo_11 : decode b_M_undo 11 = .ok (.getfield 35, 3) := by decide +kernel
theorem d_M_undo_14 : decode b_M_undo 14 = .ok (.iload_n 1, 1) := by decide +kernel
theorem d_M_undo_15 : decode b_M_undo 15 = .ok (.iaload, 1) := by decide +kernel
theorem d_M_undo_16 : decode b_M_undo 16 = .ok (.bipush 6, 2) := by decide +kernel
theorem d_M_undo_18 : decode b_M_undo 18 = .ok (.if_icmp .ne 25, 3) := by decide +kernel
theorem d_M_undo_21 : decode b_M_undo 21 = .ok (.aload_n 0, 1) := by decide +kernel
theorem d_M_undo_22 : decode b_M_undo 22 = .ok (.getfield 60, 3) := by decide +kernel
theorem d_M_undo_25 : decode b_M_undo 25 = .ok (.aload_n 0, 1) := by decide +kernel
theorem d_M_undo_26 : decode b_M_undo 26 = .ok (.aload_n 0, 1) := by decide +kernel
theorem d_M_undo_27 : decode b_M_undo 27 = .ok (.getfield 29, 3) := by decide +kernel
theorem d_M_undo_30 : decode b_M_undo 30 = .ok (.iload_n 1, 1) := by decide +kernel
theorem d_M_undo_31 : decode b_M_undo 31 = .ok (.iaload, 1) := by decide +kernel
theorem d_M_undo_32 : decode b_M_undo 32 = .ok (.aload_n 0, 1) := by decide +kernel
theorem d_M_undo_33 : decode b_M_undo 33 = .ok (.getfield 32, 3) := by decide +kernel
theorem d_M_undo_36 : decode b_M_undo 36 = .ok (.iload_n 1, 1) := by decide +kernel
theorem d_M_undo_37 : decode b_M_undo 37 = .ok (.iaload, 1) := by decide +kernel
theorem d_M_undo_38 : decode b_M_undo 38 = .ok (.invokevirtual 126, 3) := by decide +kernel
theorem d_M_undo_41 : decode b_M_undo 41 = .ok (.iconst 0, 1) := by decide +kernel
theorem d_M_undo_42 : decode b_M_undo 42 = .ok (.bastore, 1) := by decide +kernel
theorem d_M_undo_43 : decode b_M_undo 43 = .ok (.return_, 1) := by decide +kernel
theorem d_M_join_0 : decode b_M_join 0 = .ok (.iload_n 1, 1) := by decide +kernel
theorem d_M_join_1 : decode b_M_join 1 = .ok (.i2l, 1) := by decide +kernel
theorem d_M_join_2 : decode b_M_join 2 = .ok (.lconst 0, 1) := by decide +kernel
theorem d_M_join_3 : decode b_M_join 3 = .ok (.ldc2_w 121, 3) := by decide +kernel
theorem d_M_join_6 : decode b_M_join 6 = .ok (.invokestatic 91, 3) := by decide +kernel
theorem d_M_join_9 : decode b_M_join 9 = .ok (.ifCond .ne 6, 3) := by decide +kernel
theorem d_M_join_12 : decode b_M_join 12 = .ok (.bipush (-12), 2) := by decide +kernel
theorem d_M_join_14 : decode b_M_join 14 = .ok (.ireturn, 1) := by decide +kernel
theorem d_M_join_15 : decode b_M_join 15 = .ok (.aload_n 0, 1) := by decide +kernel
theorem d_M_join_16 : decode b_M_join 16 = .ok (.getfield 149, 3) := by decide +kernel
theorem d_M_join_19 : decode b_M_join 19 = .ok (.istore_n 2, 1) := by decide +kernel
theorem d_M_join_20 : decode b_M_join 20 = .ok (.aload_n 0, 1) := by decide +kernel
theorem d_M_join_21 : decode b_M_join 21 = .ok (.iload_n 1, 1) := by decide +kernel
theorem d_M_join_22 : decode b_M_join 22 = .ok (.putfield 149, 3) := by decide +kernel
theorem d_M_join_25 : decode b_M_join 25 = .ok (.iload_n 2, 1) := by decide +kernel
theorem d_M_join_26 : decode b_M_join 26 = .ok (.ireturn, 1) := by decide +kernel
end
section
section VI
variable {p : Program} {l : Launch} {e : Env} {R : Room} {s : State} {m : MethodId} {args : Array Value} {below : List Frame} {meth : Method} {c : Code} {Q : State → Prop} {G : vv_G} {cc : ByteArray} {nL : Nat} {ret : Option FieldType} {own : String} {v : vv_V} {kc ks pc : Nat} {lv : List (Nat × Value)} {st : List Value}
theorem v_view (k : ∀ v1 : vv_V, v1 = v → vV p l e R s m args below meth c Q G nL v1 kc ks pc lv st) : vV p l e R s m args below meth c Q G nL v kc ks pc lv st := k v rfl
theorem v_cs {kc' ks' : Nat} (h1 : kc = kc') (h2 : ks = ks') (k : vV p l e R s m args below meth c Q G nL v kc' ks' pc lv st) : vV p l e R s m args below meth c Q G nL v kc ks pc lv st := by subst h1; subst h2; exact k
theorem v_idiv (C : vC p s m args meth c cc nL ret own G) {x y : Int32} (hd : decode cc pc = .ok (.idiv, 1)) (hne : ¬ y = 0) (k : vV p l e R s m args below meth c Q G nL v kc ks (pc + 1) lv (.int (x / y) :: st)) : vV p l e R s m args below meth c Q G nL v kc ks pc lv (.int y :: .int x :: st) := fun H locs ls hP hS hl => lv_idiv C.1 C.2.1 hd hne (k H locs ls hP hS hl)
theorem v_irem (C : vC p s m args meth c cc nL ret own G) {x y : Int32} (hd : decode cc pc = .ok (.irem, 1)) (hne : ¬ y = 0) (k : vV p l e R s m args below meth c Q G nL v kc ks (pc + 1) lv (.int (x - x / y * y) :: st)) : vV p l e R s m args below meth c Q G nL v kc ks pc lv (.int y :: .int x :: st) := fun H locs ls hP hS hl => lv_irem C.1 C.2.1 hd hne (k H locs ls hP hS hl)
theorem v_lrem (C : vC p s m args meth c cc nL ret own G) {x y : Int64} (hd : decode cc pc = .ok (.lrem, 1)) (hne : ¬ y = 0) (k : vV p l e R s m args below meth c Q G nL v kc ks (pc + 1) lv (.long (x - x / y * y) :: st)) : vV p l e R s m args below meth c Q G nL v kc ks pc lv (.long y :: .long x :: st) := fun H locs ls hP hS hl => lv_lrem C.1 C.2.1 hd hne (k H locs ls hP hS hl)
theorem v_ishr (C : vC p s m args meth c cc nL ret own G) {x y : Int32} (hd : decode cc pc = .ok (.ishr, 1)) (k : vV p l e R s m args below meth c Q G nL v kc ks (pc + 1) lv (.int (x >>> (y &&& 31)) :: st)) : vV p l e R s m args below meth c Q G nL v kc ks pc lv (.int y :: .int x :: st) := fun H locs ls hP hS hl => lv_ishr C.1 C.2.1 hd (k H locs ls hP hS hl)
theorem v_lshl (C : vC p s m args meth c cc nL ret own G) {x z : Int64} {y : Int32} (hd : decode cc pc = .ok (.lshl, 1)) (hz : x <<< (y.toInt64 &&& 63) = z) (k : vV p l e R s m args below meth c Q G nL v kc ks (pc + 1) lv (.long z :: st)) : vV p l e R s m args below meth c Q G nL v kc ks pc lv (.int y :: .long x :: st) := fun H locs ls hP hS hl => lv_lshl C.1 C.2.1 hd hz (k H locs ls hP hS hl)
theorem v_acmp_eq (C : vC p s m args meth c cc nL ret own G) {rx ry : Option Nat} {off : Int} (tgt : Nat) (hd : decode cc pc = .ok (.if_acmp .eq off, 3)) (ht : (pc : Int) + off = (tgt : Int)) (kt : rx = ry → vV p l e R s m args below meth c Q G nL v kc ks tgt lv st) (kf : ¬ rx = ry → vV p l e R s m args below meth c Q G nL v kc ks (pc + 3) lv st) : vV p l e R s m args below meth c Q G nL v kc ks pc lv (va_rf ry :: va_rf rx :: st) := fun H locs ls hP hS hl => lv_acmp_eq C.1 C.2.1 hd ht (fun z => kt z H locs ls hP hS hl) (fun z => kf z H locs ls hP hS hl)
theorem v_acmp_ne (C : vC p s m args meth c cc nL ret own G) {rx ry : Option Nat} {off : Int} (tgt : Nat) (hd : decode cc pc = .ok (.if_acmp .ne off, 3)) (ht : (pc : Int) + off = (tgt : Int)) (kt : ¬ rx = ry → vV p l e R s m args below meth c Q G nL v kc ks tgt lv st) (kf : rx = ry → vV p l e R s m args below meth c Q G nL v kc ks (pc + 3) lv st) : vV p l e R s m args below meth c Q G nL v kc ks pc lv (va_rf ry :: va_rf rx :: st) := fun H locs ls hP hS hl => lv_acmp_ne C.1 C.2.1 hd ht (fun z => kt z H locs ls hP hS hl) (fun z => kf z H locs ls hP hS hl)
theorem v_cast {Cn nm : String} {T : u_T} {N ci index b : Nat} {fs : List Value} (C : vC p s m args meth c cc nL ret own G) (hlink : Cond.classLink own index nm ∈ vv_wds) (hca : Cond.castable Cn nm ∈ vv_wds) (he : v ci b = some (.inr (ci, fs))) (hc : vwCl[ci]? = some (Cn, T, N)) (hd : decode cc pc = .ok (.checkcast index, 3))
    (k : vV p l e R s m args below meth c Q G nL v kc ks (pc + 3) lv (.ref b :: st)) : vV p l e R s m args below meth c Q G nL v kc ks pc lv (.ref b :: st) := fun H locs ls hP hS hl => va_castY C.1 C.2.1 C.2.2.2.1 (C.w _ hlink) (va_Nw.of rfl (C.w _ hca)) (vv_recv C.2.2.2.2.1 hP he hc) hd (k H locs ls hP hS hl)
theorem v_gets {index : Nat} (C : vC p s m args meth c cc nL ret own G) (hlink : Cond.fieldLink own index "java/util/ArrayList" "DEFAULTCAPACITY_EMPTY_ELEMENTDATA" "[Ljava/lang/Object;" ∈ vv_wds) (hd : decode cc pc = .ok (.getstatic index, 3))
    (k : vV p l e R s m args below meth c Q G nL v kc ks (pc + 3) lv (.ref G.2.2.1 :: st)) : vV p l e R s m args below meth c Q G nL v kc ks pc lv st := fun H locs ls hP hS hl => va_gets C.1 C.2.1 C.2.2.2.2.1.2.2.1 hS C.2.2.2.1 (C.w _ hlink) (fun _ h => h) hd (k H locs ls hP hS hl)
theorem v_ldcM {index : Nat} (C : vC p s m args meth c cc nL ret own G) (hlink : Cond.classLink own index "[Ljava/lang/Object;" ∈ vv_wds) (hd : decode cc pc = .ok (.ldc index, 2))
    (k : vV p l e R s m args below meth c Q G nL v kc ks (pc + 2) lv (.ref G.2.2.2.1 :: st)) : vV p l e R s m args below meth c Q G nL v kc ks pc lv st := fun H locs ls hP hS hl => va_ldcM C.1 C.2.1 C.2.2.2.1 (C.w _ hlink) C.2.2.2.2.1.2.2.2.1.1 hd (k H locs ls hP hS hl)
theorem vv_recvA {H : Heap} {K a n : Nat} {fq : Nat → Option Nat} (hE : vv_E G s) (hP : vv_P G v H) (he : v K a = some (.inl (G.2.2.2.2 3, n, .inr (.inr (.inr (.inr fq)))))) : ∃ cell : Cell, H[a]? = some cell ∧ cell.vm.isStatics = false ∧ s.vm.findClass "[Ljava/lang/Object;" = some cell.cls :=
  ⟨_, (hP.1 _ _ _ he).1, rfl, va_nmO (hE.1.2 3 _ rfl).2 rfl⟩
theorem v_getC {index K a n : Nat} {fq : Nat → Option Nat} (C : vC p s m args meth c cc nL ret own G) (he : v K a = some (.inl (G.2.2.2.2 3, n, .inr (.inr (.inr (.inr fq)))))) (hlink : Cond.methodLink own index ⟨"java/lang/Object", "getClass", "()Ljava/lang/Class;"⟩ ∈ vv_wds) (hdecl : Cond.declares ⟨"java/lang/Object", "getClass", "()Ljava/lang/Class;"⟩ ∈ vv_wds) (hsel : Cond.selects "[Ljava/lang/Object;" ⟨"java/lang/Object", "getClass", "()Ljava/lang/Class;"⟩ ⟨"java/lang/Object", "getClass", "()Ljava/lang/Class;"⟩ ∈ vv_wds) (hinst : Cond.instanceMethod ⟨"java/lang/Object", "getClass", "()Ljava/lang/Class;"⟩ ∈ vv_wds) (hnat : Cond.native ⟨"java/lang/Object", "getClass", "()Ljava/lang/Class;"⟩ ∈ vv_wds) (hfr : 1 ≤ R.frames) (hlo : (st.map fun v => v.category).sum + 14 ≤ R.locals) (hd : decode cc pc = .ok (.invokevirtual index, 3))
    (k : vV p l e R s m args below meth c Q G nL v kc ks (pc + 3) lv (.ref G.2.2.2.1 :: st)) : vV p l e R s m args below meth c Q G nL v kc ks pc lv (.ref a :: st) := fun H locs ls hP hS hl => va_getC C.1 C.2.1 (C.2.2.1.trans hl.1.symm) C.2.2.2.1 (C.w _ hlink) (C.w _ hdecl) (C.w _ hsel) (C.w _ hinst) (C.w _ hnat) C.2.2.2.2.1.2.2.2.1.1 (vv_recvA C.2.2.2.2.1 hP he) hfr hlo hd (k H locs ls hP hS hl)
/-- System.arraycopy between two Object[] whose elements are objects of class ci -/
theorem v_copyq {index a0 a1 n0 n1 : Nat} {f g : Nat → Option Nat} {sp dp n : Int32} {Cn : String} {T : u_T} {N ci : Nat} (C : vC p s m args meth c cc nL ret own G) (he0 : v 53 a0 = some (.inl (G.2.2.2.2 3, n0, .inr (.inr (.inr (.inr f)))))) (he1 : v 53 a1 = some (.inl (G.2.2.2.2 3, n1, .inr (.inr (.inr (.inr g)))))) (hlink : Cond.methodLink own index arraycopyName ∈ vv_wds) (hnat : Cond.native arraycopyName ∈ vv_wds) (hstat : Cond.static arraycopyName ∈ vv_wds) (hini : Cond.initialized "java/lang/System" ∈ vv_wds)
    (h1 : ¬ sp < 0) (h2 : ¬ dp < 0) (h3 : ¬ n < 0) (h4 : sp.toNatClampNeg + n.toNatClampNeg ≤ n0) (h5 : dp.toNatClampNeg + n.toNatClampNeg ≤ n1) (hel : ∀ i : Nat, i < n.toNatClampNeg → ∀ y : Nat, f (sp.toNatClampNeg + i) = some y → ∃ fs, v ci y = some (.inr (ci, fs))) (hc : vwCl[ci]? = some (Cn, T, N)) (hca : Cond.castable Cn "java/lang/Object" ∈ vv_wds) (hfr : 1 ≤ R.frames) (hlo : (st.map fun v => v.category).sum + (nativeFrameWords "java/lang/System" "arraycopy" 5 + 11) ≤ R.locals) (hd : decode cc pc = .ok (.invokestatic index, 3))
    (k : vV p l e R s m args below meth c Q G nL (vv_up v 53 a1 (.inl (G.2.2.2.2 3, n1, .inr (.inr (.inr (.inr (va_cpy f g sp.toNatClampNeg dp.toNatClampNeg n.toNatClampNeg))))))) kc ks (pc + 3) lv st) : vV p l e R s m args below meth c Q G nL v kc ks pc lv (.int n :: .int dp :: .ref a1 :: .int sp :: .ref a0 :: st) := by
  intro H locs ls hP hS hl
  obtain ⟨ws, hL⟩ := vv_ls hP
  obtain ⟨q0, hq0⟩ := hL.1 53 a0 _ (by decide) he0
  obtain ⟨q1, hq1⟩ := hL.1 53 a1 _ (by decide) he1
  exact va_copyq C.1 C.2.1 (C.2.2.1.trans hl.1.symm) C.2.2.2.1 (C.w _ hlink) (C.w _ hnat) (C.w _ hstat) (C.w _ hini) C.2.2.2.2.1.1 (hL.P hP) (hL.D hP) hS q0 q1 3 3 hq0 hq1 rfl rfl h1 h2 h3 h4 h5
    (C := Cn) (fun i hi y hy => by obtain ⟨fs, h⟩ := hel i hi y hy; exact vv_recv C.2.2.2.2.1 hP h hc) (fun comp c0 g1 g2 => vb_asgC (va_Nw.of rfl (C.w _ hca)) comp c0 g1 g2) hfr hlo hd
    (fun H1 locs1 hP1 _ hS1 => k H1 locs1 ls (vv_set hP hL (by decide) he1 hq1 C.2.2.2.2.1.2.2.2.2 hS hS1 hP1) hS1 hl)
theorem v_tableOut (C : vC p s m args meth c cc nL ret own G) {dflt lo hi : Int} {offs : Array Int} {len : Nat} {x : Int32} (tgt : Nat) (hd : decode cc pc = .ok (.tableswitch dflt lo hi offs, len)) (h : x.toInt < lo ∨ hi < x.toInt) (ht : (pc : Int) + dflt = (tgt : Int)) (k : vV p l e R s m args below meth c Q G nL v kc ks tgt lv st) : vV p l e R s m args below meth c Q G nL v kc ks pc lv (.int x :: st) := fun H locs ls hP hS hl => lv_tableOut C.1 C.2.1 hd h ht (k H locs ls hP hS hl)
theorem v_tableIn (C : vC p s m args meth c cc nL ret own G) {dflt lo hi : Int} {offs : Array Int} {len : Nat} {x : Int32} {off : Int} (tgt : Nat) (hd : decode cc pc = .ok (.tableswitch dflt lo hi offs, len)) (h1 : ¬ x.toInt < lo) (h2 : ¬ hi < x.toInt) (ho : offs[(x.toInt - lo).toNat]? = some off) (ht : (pc : Int) + off = (tgt : Int)) (k : vV p l e R s m args below meth c Q G nL v kc ks tgt lv st) : vV p l e R s m args below meth c Q G nL v kc ks pc lv (.int x :: st) := fun H locs ls hP hS hl => lv_tableIn C.1 C.2.1 hd h1 h2 ho ht (k H locs ls hP hS hl)
end VI
theorem vv_metF {l : Launch} {y : MethodName} {cc : ByteArray} {maxL : Nat} {ret : Option FieldType} {f lo : Nat} {G : vv_G} {v : vv_V} {As : List Value} {post : Option Value → vv_V → Prop} {mc ms : Nat} {own nm : String} (hy : plainFor y = true) (hown : y.cls = own) (hnm : y.name = nm) (hlen : (lg_sl As).length ≤ maxL)
    (body : ∀ (p : Program) (e : Env) (s : State) (m : MethodId) (below : List Frame) (meth : Method) (c : Code), vC p s m As.toArray meth c cc maxL ret own G → meth.name = nm →
      vV p l e { frames := f, cells := mc, slots := ms, locals := lo } s m As.toArray below meth c (MQ below (vv_Q G post) As.toArray s mc ms (fun q => G.2.1 ≤ q)) G maxL v 0 0 0 (lv_args 0 As) []) : Mv l y cc maxL ret f lo G v As post mc ms := by
  refine va_MetF (cc := cc) (maxL := maxL) (ret := ret) hy rfl ?_
  intro p e s m args below meth c s₁ B hml hv
  obtain ⟨rfl, hP, hE⟩ := hv
  rw [lg_entry_eq]
  exact body p e s m below meth c ⟨B.exec, B.bytes, hml, by rw [← hown]; exact findClass_of_methodNamed B.named, hE, B.returns, B.notSynchronized⟩ (by rw [← hnm]; exact (name_of_methodNamed B.named B.method).1) s.heap [] _ hP va_S.rf (lv_entry As hlen)
/-- a weaker end -/
theorem Mv.weak {l : Launch} {y : MethodName} {cc : ByteArray} {maxL : Nat} {ret : Option FieldType} {f lo : Nat} {G : vv_G} {v : vv_V} {As : List Value} {post post' : Option Value → vv_V → Prop} {mc ms : Nat} (h : Mv l y cc maxL ret f lo G v As post mc ms) (hp : ∀ r v', post r v' → post' r v') : Mv l y cc maxL ret f lo G v As post' mc ms := by
  intro p e h1 h2 h3 s m args below a1 a2 a3 a4
  obtain ⟨k, o, b1, b2, b3, ⟨⟨⟨r, v', c1, c2, c3⟩, c4⟩, c5⟩⟩ := h p e h1 h2 h3 s m args below a1 a2 a3 a4
  exact ⟨k, o, b1, b2, b3, ⟨⟨⟨r, v', c1, hp r v' c2, c3⟩, c4⟩, c5⟩⟩
theorem mn_C_init : y_C_init.cls ≠ "java/lang/invoke/MethodHandle" ∧ y_C_init.cls ≠ "java/lang/invoke/VarHandle" ∧ (parseMethodDescriptor y_C_init.desc).map (fun d => d.parameters.length) = some 0 := by decide +kernel
theorem pf_C_init : plainFor y_C_init = true := by decide +kernel
theorem mn_Oj_init : y_Oj_init.cls ≠ "java/lang/invoke/MethodHandle" ∧ y_Oj_init.cls ≠ "java/lang/invoke/VarHandle" ∧ (parseMethodDescriptor y_Oj_init.desc).map (fun d => d.parameters.length) = some 0 := by decide +kernel
theorem mn_AL_init : y_AL_init.cls ≠ "java/lang/invoke/MethodHandle" ∧ y_AL_init.cls ≠ "java/lang/invoke/VarHandle" ∧ (parseMethodDescriptor y_AL_init.desc).map (fun d => d.parameters.length) = some 0 := by decide +kernel
theorem pf_AL_init : plainFor y_AL_init = true := by decide +kernel
theorem mn_AbL_init : y_AbL_init.cls ≠ "java/lang/invoke/MethodHandle" ∧ y_AbL_init.cls ≠ "java/lang/invoke/VarHandle" ∧ (parseMethodDescriptor y_AbL_init.desc).map (fun d => d.parameters.length) = some 0 := by decide +kernel
theorem pf_AbL_init : plainFor y_AbL_init = true := by decide +kernel
theorem mn_AbC_init : y_AbC_init.cls ≠ "java/lang/invoke/MethodHandle" ∧ y_AbC_init.cls ≠ "java/lang/invoke/VarHandle" ∧ (parseMethodDescriptor y_AbC_init.desc).map (fun d => d.parameters.length) = some 0 := by decide +kernel
theorem pf_AbC_init : plainFor y_AbC_init = true := by decide +kernel
theorem mn_C_customer : y_C_customer.cls ≠ "java/lang/invoke/MethodHandle" ∧ y_C_customer.cls ≠ "java/lang/invoke/VarHandle" ∧ (parseMethodDescriptor y_C_customer.desc).map (fun d => d.parameters.length) = some 2 := by decide +kernel
theorem pf_C_customer : plainFor y_C_customer = true := by decide +kernel
theorem mn_C_isWithin : y_C_isWithin.cls ≠ "java/lang/invoke/MethodHandle" ∧ y_C_isWithin.cls ≠ "java/lang/invoke/VarHandle" ∧ (parseMethodDescriptor y_C_isWithin.desc).map (fun d => d.parameters.length) = some 3 := by decide +kernel
theorem pf_C_isWithin : plainFor y_C_isWithin = true := by decide +kernel
theorem mn_AL_size : y_AL_size.cls ≠ "java/lang/invoke/MethodHandle" ∧ y_AL_size.cls ≠ "java/lang/invoke/VarHandle" ∧ (parseMethodDescriptor y_AL_size.desc).map (fun d => d.parameters.length) = some 0 := by decide +kernel
theorem pf_AL_size : plainFor y_AL_size = true := by decide +kernel
theorem mn_K_init : y_K_init.cls ≠ "java/lang/invoke/MethodHandle" ∧ y_K_init.cls ≠ "java/lang/invoke/VarHandle" ∧ (parseMethodDescriptor y_K_init.desc).map (fun d => d.parameters.length) = some 3 := by decide +kernel
theorem pf_K_init : plainFor y_K_init = true := by decide +kernel
theorem mn_AL_add : y_AL_add.cls ≠ "java/lang/invoke/MethodHandle" ∧ y_AL_add.cls ≠ "java/lang/invoke/VarHandle" ∧ (parseMethodDescriptor y_AL_add.desc).map (fun d => d.parameters.length) = some 1 := by decide +kernel
theorem pf_AL_add : plainFor y_AL_add = true := by decide +kernel
theorem mn_AL_add_LObjectALObjectIV : y_AL_add_LObjectALObjectIV.cls ≠ "java/lang/invoke/MethodHandle" ∧ y_AL_add_LObjectALObjectIV.cls ≠ "java/lang/invoke/VarHandle" ∧ (parseMethodDescriptor y_AL_add_LObjectALObjectIV.desc).map (fun d => d.parameters.length) = some 3 := by decide +kernel
theorem pf_AL_add_LObjectALObjectIV : plainFor y_AL_add_LObjectALObjectIV = true := by decide +kernel
theorem mn_AL_grow : y_AL_grow.cls ≠ "java/lang/invoke/MethodHandle" ∧ y_AL_grow.cls ≠ "java/lang/invoke/VarHandle" ∧ (parseMethodDescriptor y_AL_grow.desc).map (fun d => d.parameters.length) = some 0 := by decide +kernel
theorem pf_AL_grow : plainFor y_AL_grow = true := by decide +kernel
theorem mn_AL_grow_IALObject : y_AL_grow_IALObject.cls ≠ "java/lang/invoke/MethodHandle" ∧ y_AL_grow_IALObject.cls ≠ "java/lang/invoke/VarHandle" ∧ (parseMethodDescriptor y_AL_grow_IALObject.desc).map (fun d => d.parameters.length) = some 1 := by decide +kernel
theorem pf_AL_grow_IALObject : plainFor y_AL_grow_IALObject = true := by decide +kernel
theorem mn_AS_newLength : y_AS_newLength.cls ≠ "java/lang/invoke/MethodHandle" ∧ y_AS_newLength.cls ≠ "java/lang/invoke/VarHandle" ∧ (parseMethodDescriptor y_AS_newLength.desc).map (fun d => d.parameters.length) = some 3 := by decide +kernel
theorem pf_AS_newLength : plainFor y_AS_newLength = true := by decide +kernel
theorem mn_Ma_max : y_Ma_max.cls ≠ "java/lang/invoke/MethodHandle" ∧ y_Ma_max.cls ≠ "java/lang/invoke/VarHandle" ∧ (parseMethodDescriptor y_Ma_max.desc).map (fun d => d.parameters.length) = some 2 := by decide +kernel
theorem pf_Ma_max : plainFor y_Ma_max = true := by decide +kernel
theorem mn_AS_hugeLength : y_AS_hugeLength.cls ≠ "java/lang/invoke/MethodHandle" ∧ y_AS_hugeLength.cls ≠ "java/lang/invoke/VarHandle" ∧ (parseMethodDescriptor y_AS_hugeLength.desc).map (fun d => d.parameters.length) = some 2 := by decide +kernel
theorem pf_AS_hugeLength : plainFor y_AS_hugeLength = true := by decide +kernel
theorem mn_Ar_copyOf : y_Ar_copyOf.cls ≠ "java/lang/invoke/MethodHandle" ∧ y_Ar_copyOf.cls ≠ "java/lang/invoke/VarHandle" ∧ (parseMethodDescriptor y_Ar_copyOf.desc).map (fun d => d.parameters.length) = some 2 := by decide +kernel
theorem pf_Ar_copyOf : plainFor y_Ar_copyOf = true := by decide +kernel
theorem mn_Ar_copyOf_ALObjectILClassALObject : y_Ar_copyOf_ALObjectILClassALObject.cls ≠ "java/lang/invoke/MethodHandle" ∧ y_Ar_copyOf_ALObjectILClassALObject.cls ≠ "java/lang/invoke/VarHandle" ∧ (parseMethodDescriptor y_Ar_copyOf_ALObjectILClassALObject.desc).map (fun d => d.parameters.length) = some 3 := by decide +kernel
theorem pf_Ar_copyOf_ALObjectILClassALObject : plainFor y_Ar_copyOf_ALObjectILClassALObject = true := by decide +kernel
theorem mn_Ma_min : y_Ma_min.cls ≠ "java/lang/invoke/MethodHandle" ∧ y_Ma_min.cls ≠ "java/lang/invoke/VarHandle" ∧ (parseMethodDescriptor y_Ma_min.desc).map (fun d => d.parameters.length) = some 2 := by decide +kernel
theorem pf_Ma_min : plainFor y_Ma_min = true := by decide +kernel
theorem mn_C_wish : y_C_wish.cls ≠ "java/lang/invoke/MethodHandle" ∧ y_C_wish.cls ≠ "java/lang/invoke/VarHandle" ∧ (parseMethodDescriptor y_C_wish.desc).map (fun d => d.parameters.length) = some 4 := by decide +kernel
theorem pf_C_wish : plainFor y_C_wish = true := by decide +kernel
theorem mn_C_findCustomer : y_C_findCustomer.cls ≠ "java/lang/invoke/MethodHandle" ∧ y_C_findCustomer.cls ≠ "java/lang/invoke/VarHandle" ∧ (parseMethodDescriptor y_C_findCustomer.desc).map (fun d => d.parameters.length) = some 1 := by decide +kernel
theorem pf_C_findCustomer : plainFor y_C_findCustomer = true := by decide +kernel
theorem mn_AL_get : y_AL_get.cls ≠ "java/lang/invoke/MethodHandle" ∧ y_AL_get.cls ≠ "java/lang/invoke/VarHandle" ∧ (parseMethodDescriptor y_AL_get.desc).map (fun d => d.parameters.length) = some 1 := by decide +kernel
theorem pf_AL_get : plainFor y_AL_get = true := by decide +kernel
theorem mn_Ob_checkIndex : y_Ob_checkIndex.cls ≠ "java/lang/invoke/MethodHandle" ∧ y_Ob_checkIndex.cls ≠ "java/lang/invoke/VarHandle" ∧ (parseMethodDescriptor y_Ob_checkIndex.desc).map (fun d => d.parameters.length) = some 2 := by decide +kernel
theorem pf_Ob_checkIndex : plainFor y_Ob_checkIndex = true := by decide +kernel
theorem mn_Pr_checkIndex : y_Pr_checkIndex.cls ≠ "java/lang/invoke/MethodHandle" ∧ y_Pr_checkIndex.cls ≠ "java/lang/invoke/VarHandle" ∧ (parseMethodDescriptor y_Pr_checkIndex.desc).map (fun d => d.parameters.length) = some 3 := by decide +kernel
theorem pf_Pr_checkIndex : plainFor y_Pr_checkIndex = true := by decide +kernel
theorem mn_AL_elementData : y_AL_elementData.cls ≠ "java/lang/invoke/MethodHandle" ∧ y_AL_elementData.cls ≠ "java/lang/invoke/VarHandle" ∧ (parseMethodDescriptor y_AL_elementData.desc).map (fun d => d.parameters.length) = some 1 := by decide +kernel
theorem pf_AL_elementData : plainFor y_AL_elementData = true := by decide +kernel
theorem mn_C_isKind : y_C_isKind.cls ≠ "java/lang/invoke/MethodHandle" ∧ y_C_isKind.cls ≠ "java/lang/invoke/VarHandle" ∧ (parseMethodDescriptor y_C_isKind.desc).map (fun d => d.parameters.length) = some 1 := by decide +kernel
theorem pf_C_isKind : plainFor y_C_isKind = true := by decide +kernel
theorem mn_C_isChannel : y_C_isChannel.cls ≠ "java/lang/invoke/MethodHandle" ∧ y_C_isChannel.cls ≠ "java/lang/invoke/VarHandle" ∧ (parseMethodDescriptor y_C_isChannel.desc).map (fun d => d.parameters.length) = some 1 := by decide +kernel
theorem pf_C_isChannel : plainFor y_C_isChannel = true := by decide +kernel
theorem mn_K_setOrder : y_K_setOrder.cls ≠ "java/lang/invoke/MethodHandle" ∧ y_K_setOrder.cls ≠ "java/lang/invoke/VarHandle" ∧ (parseMethodDescriptor y_K_setOrder.desc).map (fun d => d.parameters.length) = some 3 := by decide +kernel
theorem pf_K_setOrder : plainFor y_K_setOrder = true := by decide +kernel
theorem mn_K_countWishes : y_K_countWishes.cls ≠ "java/lang/invoke/MethodHandle" ∧ y_K_countWishes.cls ≠ "java/lang/invoke/VarHandle" ∧ (parseMethodDescriptor y_K_countWishes.desc).map (fun d => d.parameters.length) = some 1 := by decide +kernel
theorem pf_K_countWishes : plainFor y_K_countWishes = true := by decide +kernel
theorem mn_K_orderOf : y_K_orderOf.cls ≠ "java/lang/invoke/MethodHandle" ∧ y_K_orderOf.cls ≠ "java/lang/invoke/VarHandle" ∧ (parseMethodDescriptor y_K_orderOf.desc).map (fun d => d.parameters.length) = some 2 := by decide +kernel
theorem pf_K_orderOf : plainFor y_K_orderOf = true := by decide +kernel
theorem mn_C_quiet : y_C_quiet.cls ≠ "java/lang/invoke/MethodHandle" ∧ y_C_quiet.cls ≠ "java/lang/invoke/VarHandle" ∧ (parseMethodDescriptor y_C_quiet.desc).map (fun d => d.parameters.length) = some 3 := by decide +kernel
theorem pf_C_quiet : plainFor y_C_quiet = true := by decide +kernel
theorem mn_C_isMinuteOfDay : y_C_isMinuteOfDay.cls ≠ "java/lang/invoke/MethodHandle" ∧ y_C_isMinuteOfDay.cls ≠ "java/lang/invoke/VarHandle" ∧ (parseMethodDescriptor y_C_isMinuteOfDay.desc).map (fun d => d.parameters.length) = some 1 := by decide +kernel
theorem pf_C_isMinuteOfDay : plainFor y_C_isMinuteOfDay = true := by decide +kernel
theorem mn_Ma_floorMod : y_Ma_floorMod.cls ≠ "java/lang/invoke/MethodHandle" ∧ y_Ma_floorMod.cls ≠ "java/lang/invoke/VarHandle" ∧ (parseMethodDescriptor y_Ma_floorMod.desc).map (fun d => d.parameters.length) = some 2 := by decide +kernel
theorem pf_Ma_floorMod : plainFor y_Ma_floorMod = true := by decide +kernel
theorem mn_C_event : y_C_event.cls ≠ "java/lang/invoke/MethodHandle" ∧ y_C_event.cls ≠ "java/lang/invoke/VarHandle" ∧ (parseMethodDescriptor y_C_event.desc).map (fun d => d.parameters.length) = some 4 := by decide +kernel
theorem pf_C_event : plainFor y_C_event = true := by decide +kernel
theorem mn_C_isItemNumber : y_C_isItemNumber.cls ≠ "java/lang/invoke/MethodHandle" ∧ y_C_isItemNumber.cls ≠ "java/lang/invoke/VarHandle" ∧ (parseMethodDescriptor y_C_isItemNumber.desc).map (fun d => d.parameters.length) = some 1 := by decide +kernel
theorem pf_C_isItemNumber : plainFor y_C_isItemNumber = true := by decide +kernel
theorem mn_C_isTimeFromNow : y_C_isTimeFromNow.cls ≠ "java/lang/invoke/MethodHandle" ∧ y_C_isTimeFromNow.cls ≠ "java/lang/invoke/VarHandle" ∧ (parseMethodDescriptor y_C_isTimeFromNow.desc).map (fun d => d.parameters.length) = some 1 := by decide +kernel
theorem pf_C_isTimeFromNow : plainFor y_C_isTimeFromNow = true := by decide +kernel
theorem mn_C_findItem : y_C_findItem.cls ≠ "java/lang/invoke/MethodHandle" ∧ y_C_findItem.cls ≠ "java/lang/invoke/VarHandle" ∧ (parseMethodDescriptor y_C_findItem.desc).map (fun d => d.parameters.length) = some 2 := by decide +kernel
theorem pf_C_findItem : plainFor y_C_findItem = true := by decide +kernel
theorem mn_C_isEnd : y_C_isEnd.cls ≠ "java/lang/invoke/MethodHandle" ∧ y_C_isEnd.cls ≠ "java/lang/invoke/VarHandle" ∧ (parseMethodDescriptor y_C_isEnd.desc).map (fun d => d.parameters.length) = some 1 := by decide +kernel
theorem pf_C_isEnd : plainFor y_C_isEnd = true := by decide +kernel
theorem mn_C_noticesAreFull : y_C_noticesAreFull.cls ≠ "java/lang/invoke/MethodHandle" ∧ y_C_noticesAreFull.cls ≠ "java/lang/invoke/VarHandle" ∧ (parseMethodDescriptor y_C_noticesAreFull.desc).map (fun d => d.parameters.length) = some 0 := by decide +kernel
theorem pf_C_noticesAreFull : plainFor y_C_noticesAreFull = true := by decide +kernel
theorem mn_C_itemsAreFull : y_C_itemsAreFull.cls ≠ "java/lang/invoke/MethodHandle" ∧ y_C_itemsAreFull.cls ≠ "java/lang/invoke/VarHandle" ∧ (parseMethodDescriptor y_C_itemsAreFull.desc).map (fun d => d.parameters.length) = some 0 := by decide +kernel
theorem pf_C_itemsAreFull : plainFor y_C_itemsAreFull = true := by decide +kernel
theorem mn_C_addItem : y_C_addItem.cls ≠ "java/lang/invoke/MethodHandle" ∧ y_C_addItem.cls ≠ "java/lang/invoke/VarHandle" ∧ (parseMethodDescriptor y_C_addItem.desc).map (fun d => d.parameters.length) = some 2 := by decide +kernel
theorem pf_C_addItem : plainFor y_C_addItem = true := by decide +kernel
theorem mn_I_init : y_I_init.cls ≠ "java/lang/invoke/MethodHandle" ∧ y_I_init.cls ≠ "java/lang/invoke/VarHandle" ∧ (parseMethodDescriptor y_I_init.desc).map (fun d => d.parameters.length) = some 2 := by decide +kernel
theorem pf_I_init : plainFor y_I_init = true := by decide +kernel
theorem mn_C_addNotice : y_C_addNotice.cls ≠ "java/lang/invoke/MethodHandle" ∧ y_C_addNotice.cls ≠ "java/lang/invoke/VarHandle" ∧ (parseMethodDescriptor y_C_addNotice.desc).map (fun d => d.parameters.length) = some 4 := by decide +kernel
theorem pf_C_addNotice : plainFor y_C_addNotice = true := by decide +kernel
theorem mn_N_init : y_N_init.cls ≠ "java/lang/invoke/MethodHandle" ∧ y_N_init.cls ≠ "java/lang/invoke/VarHandle" ∧ (parseMethodDescriptor y_N_init.desc).map (fun d => d.parameters.length) = some 5 := by decide +kernel
theorem pf_N_init : plainFor y_N_init = true := by decide +kernel
theorem mn_C_promise : y_C_promise.cls ≠ "java/lang/invoke/MethodHandle" ∧ y_C_promise.cls ≠ "java/lang/invoke/VarHandle" ∧ (parseMethodDescriptor y_C_promise.desc).map (fun d => d.parameters.length) = some 4 := by decide +kernel
theorem pf_C_promise : plainFor y_C_promise = true := by decide +kernel
theorem mn_C_addPromise : y_C_addPromise.cls ≠ "java/lang/invoke/MethodHandle" ∧ y_C_addPromise.cls ≠ "java/lang/invoke/VarHandle" ∧ (parseMethodDescriptor y_C_addPromise.desc).map (fun d => d.parameters.length) = some 4 := by decide +kernel
theorem pf_C_addPromise : plainFor y_C_addPromise = true := by decide +kernel
theorem mn_Ma_abs : y_Ma_abs.cls ≠ "java/lang/invoke/MethodHandle" ∧ y_Ma_abs.cls ≠ "java/lang/invoke/VarHandle" ∧ (parseMethodDescriptor y_Ma_abs.desc).map (fun d => d.parameters.length) = some 1 := by decide +kernel
theorem pf_Ma_abs : plainFor y_Ma_abs = true := by decide +kernel
theorem mn_C_tick : y_C_tick.cls ≠ "java/lang/invoke/MethodHandle" ∧ y_C_tick.cls ≠ "java/lang/invoke/VarHandle" ∧ (parseMethodDescriptor y_C_tick.desc).map (fun d => d.parameters.length) = some 1 := by decide +kernel
theorem pf_C_tick : plainFor y_C_tick = true := by decide +kernel
theorem mn_C_prepareCustomersForTick : y_C_prepareCustomersForTick.cls ≠ "java/lang/invoke/MethodHandle" ∧ y_C_prepareCustomersForTick.cls ≠ "java/lang/invoke/VarHandle" ∧ (parseMethodDescriptor y_C_prepareCustomersForTick.desc).map (fun d => d.parameters.length) = some 0 := by decide +kernel
theorem pf_C_prepareCustomersForTick : plainFor y_C_prepareCustomersForTick = true := by decide +kernel
theorem mn_N_isMarked : y_N_isMarked.cls ≠ "java/lang/invoke/MethodHandle" ∧ y_N_isMarked.cls ≠ "java/lang/invoke/VarHandle" ∧ (parseMethodDescriptor y_N_isMarked.desc).map (fun d => d.parameters.length) = some 0 := by decide +kernel
theorem pf_N_isMarked : plainFor y_N_isMarked = true := by decide +kernel
theorem mn_Ma_min_JJJ : y_Ma_min_JJJ.cls ≠ "java/lang/invoke/MethodHandle" ∧ y_Ma_min_JJJ.cls ≠ "java/lang/invoke/VarHandle" ∧ (parseMethodDescriptor y_Ma_min_JJJ.desc).map (fun d => d.parameters.length) = some 2 := by decide +kernel
theorem pf_Ma_min_JJJ : plainFor y_Ma_min_JJJ = true := by decide +kernel
theorem mn_C_isDue : y_C_isDue.cls ≠ "java/lang/invoke/MethodHandle" ∧ y_C_isDue.cls ≠ "java/lang/invoke/VarHandle" ∧ (parseMethodDescriptor y_C_isDue.desc).map (fun d => d.parameters.length) = some 1 := by decide +kernel
theorem pf_C_isDue : plainFor y_C_isDue = true := by decide +kernel
theorem mn_C_isHeldByQuiet : y_C_isHeldByQuiet.cls ≠ "java/lang/invoke/MethodHandle" ∧ y_C_isHeldByQuiet.cls ≠ "java/lang/invoke/VarHandle" ∧ (parseMethodDescriptor y_C_isHeldByQuiet.desc).map (fun d => d.parameters.length) = some 1 := by decide +kernel
theorem pf_C_isHeldByQuiet : plainFor y_C_isHeldByQuiet = true := by decide +kernel
theorem mn_K_isQuietAt : y_K_isQuietAt.cls ≠ "java/lang/invoke/MethodHandle" ∧ y_K_isQuietAt.cls ≠ "java/lang/invoke/VarHandle" ∧ (parseMethodDescriptor y_K_isQuietAt.desc).map (fun d => d.parameters.length) = some 1 := by decide +kernel
theorem pf_K_isQuietAt : plainFor y_K_isQuietAt = true := by decide +kernel
theorem mn_Ma_floorMod_JJJ : y_Ma_floorMod_JJJ.cls ≠ "java/lang/invoke/MethodHandle" ∧ y_Ma_floorMod_JJJ.cls ≠ "java/lang/invoke/VarHandle" ∧ (parseMethodDescriptor y_Ma_floorMod_JJJ.desc).map (fun d => d.parameters.length) = some 2 := by decide +kernel
theorem pf_Ma_floorMod_JJJ : plainFor y_Ma_floorMod_JJJ = true := by decide +kernel
theorem mn_C_deliver : y_C_deliver.cls ≠ "java/lang/invoke/MethodHandle" ∧ y_C_deliver.cls ≠ "java/lang/invoke/VarHandle" ∧ (parseMethodDescriptor y_C_deliver.desc).map (fun d => d.parameters.length) = some 1 := by decide +kernel
theorem pf_C_deliver : plainFor y_C_deliver = true := by decide +kernel
theorem mn_K_firstWorkingChannel : y_K_firstWorkingChannel.cls ≠ "java/lang/invoke/MethodHandle" ∧ y_K_firstWorkingChannel.cls ≠ "java/lang/invoke/VarHandle" ∧ (parseMethodDescriptor y_K_firstWorkingChannel.desc).map (fun d => d.parameters.length) = some 2 := by decide +kernel
theorem pf_K_firstWorkingChannel : plainFor y_K_firstWorkingChannel = true := by decide +kernel
theorem mn_C_sent : y_C_sent.cls ≠ "java/lang/invoke/MethodHandle" ∧ y_C_sent.cls ≠ "java/lang/invoke/VarHandle" ∧ (parseMethodDescriptor y_C_sent.desc).map (fun d => d.parameters.length) = some 2 := by decide +kernel
theorem pf_C_sent : plainFor y_C_sent = true := by decide +kernel
theorem mn_C_detail : y_C_detail.cls ≠ "java/lang/invoke/MethodHandle" ∧ y_C_detail.cls ≠ "java/lang/invoke/VarHandle" ∧ (parseMethodDescriptor y_C_detail.desc).map (fun d => d.parameters.length) = some 2 := by decide +kernel
theorem pf_C_detail : plainFor y_C_detail = true := by decide +kernel
theorem mn_N_text : y_N_text.cls ≠ "java/lang/invoke/MethodHandle" ∧ y_N_text.cls ≠ "java/lang/invoke/VarHandle" ∧ (parseMethodDescriptor y_N_text.desc).map (fun d => d.parameters.length) = some 0 := by decide +kernel
theorem pf_N_text : plainFor y_N_text = true := by decide +kernel
theorem mn_C_works : y_C_works.cls ≠ "java/lang/invoke/MethodHandle" ∧ y_C_works.cls ≠ "java/lang/invoke/VarHandle" ∧ (parseMethodDescriptor y_C_works.desc).map (fun d => d.parameters.length) = some 2 := by decide +kernel
theorem pf_C_works : plainFor y_C_works = true := by decide +kernel
theorem mn_C_out : y_C_out.cls ≠ "java/lang/invoke/MethodHandle" ∧ y_C_out.cls ≠ "java/lang/invoke/VarHandle" ∧ (parseMethodDescriptor y_C_out.desc).map (fun d => d.parameters.length) = some 2 := by decide +kernel
theorem pf_C_out : plainFor y_C_out = true := by decide +kernel
theorem mn_K_clearWishes : y_K_clearWishes.cls ≠ "java/lang/invoke/MethodHandle" ∧ y_K_clearWishes.cls ≠ "java/lang/invoke/VarHandle" ∧ (parseMethodDescriptor y_K_clearWishes.desc).map (fun d => d.parameters.length) = some 1 := by decide +kernel
theorem pf_K_clearWishes : plainFor y_K_clearWishes = true := by decide +kernel
theorem mn_C_failed : y_C_failed.cls ≠ "java/lang/invoke/MethodHandle" ∧ y_C_failed.cls ≠ "java/lang/invoke/VarHandle" ∧ (parseMethodDescriptor y_C_failed.desc).map (fun d => d.parameters.length) = some 1 := by decide +kernel
theorem pf_C_failed : plainFor y_C_failed = true := by decide +kernel
theorem mn_C_correct : y_C_correct.cls ≠ "java/lang/invoke/MethodHandle" ∧ y_C_correct.cls ≠ "java/lang/invoke/VarHandle" ∧ (parseMethodDescriptor y_C_correct.desc).map (fun d => d.parameters.length) = some 2 := by decide +kernel
theorem pf_C_correct : plainFor y_C_correct = true := by decide +kernel
theorem mn_C_findNotice : y_C_findNotice.cls ≠ "java/lang/invoke/MethodHandle" ∧ y_C_findNotice.cls ≠ "java/lang/invoke/VarHandle" ∧ (parseMethodDescriptor y_C_findNotice.desc).map (fun d => d.parameters.length) = some 1 := by decide +kernel
theorem pf_C_findNotice : plainFor y_C_findNotice = true := by decide +kernel
theorem mn_N_canBeCorrected : y_N_canBeCorrected.cls ≠ "java/lang/invoke/MethodHandle" ∧ y_N_canBeCorrected.cls ≠ "java/lang/invoke/VarHandle" ∧ (parseMethodDescriptor y_N_canBeCorrected.desc).map (fun d => d.parameters.length) = some 0 := by decide +kernel
theorem pf_N_canBeCorrected : plainFor y_N_canBeCorrected = true := by decide +kernel
theorem mn_C_reopenItem : y_C_reopenItem.cls ≠ "java/lang/invoke/MethodHandle" ∧ y_C_reopenItem.cls ≠ "java/lang/invoke/VarHandle" ∧ (parseMethodDescriptor y_C_reopenItem.desc).map (fun d => d.parameters.length) = some 2 := by decide +kernel
theorem pf_C_reopenItem : plainFor y_C_reopenItem = true := by decide +kernel
theorem mn_C_addCorrection : y_C_addCorrection.cls ≠ "java/lang/invoke/MethodHandle" ∧ y_C_addCorrection.cls ≠ "java/lang/invoke/VarHandle" ∧ (parseMethodDescriptor y_C_addCorrection.desc).map (fun d => d.parameters.length) = some 2 := by decide +kernel
theorem pf_C_addCorrection : plainFor y_C_addCorrection = true := by decide +kernel
theorem mn_C_join : y_C_join.cls ≠ "java/lang/invoke/MethodHandle" ∧ y_C_join.cls ≠ "java/lang/invoke/VarHandle" ∧ (parseMethodDescriptor y_C_join.desc).map (fun d => d.parameters.length) = some 1 := by decide +kernel
theorem pf_C_join : plainFor y_C_join = true := by decide +kernel
theorem mn_M_init : y_M_init.cls ≠ "java/lang/invoke/MethodHandle" ∧ y_M_init.cls ≠ "java/lang/invoke/VarHandle" ∧ (parseMethodDescriptor y_M_init.desc).map (fun d => d.parameters.length) = some 0 := by decide +kernel
theorem pf_M_init : plainFor y_M_init = true := by decide +kernel
theorem mn_M_customer : y_M_customer.cls ≠ "java/lang/invoke/MethodHandle" ∧ y_M_customer.cls ≠ "java/lang/invoke/VarHandle" ∧ (parseMethodDescriptor y_M_customer.desc).map (fun d => d.parameters.length) = some 2 := by decide +kernel
theorem pf_M_customer : plainFor y_M_customer = true := by decide +kernel
theorem mn_M_isIn : y_M_isIn.cls ≠ "java/lang/invoke/MethodHandle" ∧ y_M_isIn.cls ≠ "java/lang/invoke/VarHandle" ∧ (parseMethodDescriptor y_M_isIn.desc).map (fun d => d.parameters.length) = some 3 := by decide +kernel
theorem pf_M_isIn : plainFor y_M_isIn = true := by decide +kernel
theorem mn_M_wish : y_M_wish.cls ≠ "java/lang/invoke/MethodHandle" ∧ y_M_wish.cls ≠ "java/lang/invoke/VarHandle" ∧ (parseMethodDescriptor y_M_wish.desc).map (fun d => d.parameters.length) = some 4 := by decide +kernel
theorem pf_M_wish : plainFor y_M_wish = true := by decide +kernel
theorem mn_M_isCustomer : y_M_isCustomer.cls ≠ "java/lang/invoke/MethodHandle" ∧ y_M_isCustomer.cls ≠ "java/lang/invoke/VarHandle" ∧ (parseMethodDescriptor y_M_isCustomer.desc).map (fun d => d.parameters.length) = some 1 := by decide +kernel
theorem pf_M_isCustomer : plainFor y_M_isCustomer = true := by decide +kernel
theorem mn_M_wished : y_M_wished.cls ≠ "java/lang/invoke/MethodHandle" ∧ y_M_wished.cls ≠ "java/lang/invoke/VarHandle" ∧ (parseMethodDescriptor y_M_wished.desc).map (fun d => d.parameters.length) = some 2 := by decide +kernel
theorem pf_M_wished : plainFor y_M_wished = true := by decide +kernel
theorem mn_M_quiet : y_M_quiet.cls ≠ "java/lang/invoke/MethodHandle" ∧ y_M_quiet.cls ≠ "java/lang/invoke/VarHandle" ∧ (parseMethodDescriptor y_M_quiet.desc).map (fun d => d.parameters.length) = some 3 := by decide +kernel
theorem pf_M_quiet : plainFor y_M_quiet = true := by decide +kernel
theorem mn_M_event : y_M_event.cls ≠ "java/lang/invoke/MethodHandle" ∧ y_M_event.cls ≠ "java/lang/invoke/VarHandle" ∧ (parseMethodDescriptor y_M_event.desc).map (fun d => d.parameters.length) = some 4 := by decide +kernel
theorem pf_M_event : plainFor y_M_event = true := by decide +kernel
theorem mn_M_isTime : y_M_isTime.cls ≠ "java/lang/invoke/MethodHandle" ∧ y_M_isTime.cls ≠ "java/lang/invoke/VarHandle" ∧ (parseMethodDescriptor y_M_isTime.desc).map (fun d => d.parameters.length) = some 1 := by decide +kernel
theorem pf_M_isTime : plainFor y_M_isTime = true := by decide +kernel
theorem mn_M_pairOf : y_M_pairOf.cls ≠ "java/lang/invoke/MethodHandle" ∧ y_M_pairOf.cls ≠ "java/lang/invoke/VarHandle" ∧ (parseMethodDescriptor y_M_pairOf.desc).map (fun d => d.parameters.length) = some 2 := by decide +kernel
theorem pf_M_pairOf : plainFor y_M_pairOf = true := by decide +kernel
theorem mn_M_keep : y_M_keep.cls ≠ "java/lang/invoke/MethodHandle" ∧ y_M_keep.cls ≠ "java/lang/invoke/VarHandle" ∧ (parseMethodDescriptor y_M_keep.desc).map (fun d => d.parameters.length) = some 2 := by decide +kernel
theorem pf_M_keep : plainFor y_M_keep = true := by decide +kernel
theorem mn_M_put : y_M_put.cls ≠ "java/lang/invoke/MethodHandle" ∧ y_M_put.cls ≠ "java/lang/invoke/VarHandle" ∧ (parseMethodDescriptor y_M_put.desc).map (fun d => d.parameters.length) = some 6 := by decide +kernel
theorem pf_M_put : plainFor y_M_put = true := by decide +kernel
theorem mn_M_promise : y_M_promise.cls ≠ "java/lang/invoke/MethodHandle" ∧ y_M_promise.cls ≠ "java/lang/invoke/VarHandle" ∧ (parseMethodDescriptor y_M_promise.desc).map (fun d => d.parameters.length) = some 4 := by decide +kernel
theorem pf_M_promise : plainFor y_M_promise = true := by decide +kernel
theorem mn_M_tick : y_M_tick.cls ≠ "java/lang/invoke/MethodHandle" ∧ y_M_tick.cls ≠ "java/lang/invoke/VarHandle" ∧ (parseMethodDescriptor y_M_tick.desc).map (fun d => d.parameters.length) = some 1 := by decide +kernel
theorem pf_M_tick : plainFor y_M_tick = true := by decide +kernel
theorem mn_M_isDue : y_M_isDue.cls ≠ "java/lang/invoke/MethodHandle" ∧ y_M_isDue.cls ≠ "java/lang/invoke/VarHandle" ∧ (parseMethodDescriptor y_M_isDue.desc).map (fun d => d.parameters.length) = some 1 := by decide +kernel
theorem pf_M_isDue : plainFor y_M_isDue = true := by decide +kernel
theorem mn_M_isQuiet : y_M_isQuiet.cls ≠ "java/lang/invoke/MethodHandle" ∧ y_M_isQuiet.cls ≠ "java/lang/invoke/VarHandle" ∧ (parseMethodDescriptor y_M_isQuiet.desc).map (fun d => d.parameters.length) = some 1 := by decide +kernel
theorem pf_M_isQuiet : plainFor y_M_isQuiet = true := by decide +kernel
theorem mn_M_channelOf : y_M_channelOf.cls ≠ "java/lang/invoke/MethodHandle" ∧ y_M_channelOf.cls ≠ "java/lang/invoke/VarHandle" ∧ (parseMethodDescriptor y_M_channelOf.desc).map (fun d => d.parameters.length) = some 1 := by decide +kernel
theorem pf_M_channelOf : plainFor y_M_channelOf = true := by decide +kernel
theorem mn_M_sent : y_M_sent.cls ≠ "java/lang/invoke/MethodHandle" ∧ y_M_sent.cls ≠ "java/lang/invoke/VarHandle" ∧ (parseMethodDescriptor y_M_sent.desc).map (fun d => d.parameters.length) = some 2 := by decide +kernel
theorem pf_M_sent : plainFor y_M_sent = true := by decide +kernel
theorem mn_M_works : y_M_works.cls ≠ "java/lang/invoke/MethodHandle" ∧ y_M_works.cls ≠ "java/lang/invoke/VarHandle" ∧ (parseMethodDescriptor y_M_works.desc).map (fun d => d.parameters.length) = some 2 := by decide +kernel
theorem pf_M_works : plainFor y_M_works = true := by decide +kernel
theorem mn_M_out : y_M_out.cls ≠ "java/lang/invoke/MethodHandle" ∧ y_M_out.cls ≠ "java/lang/invoke/VarHandle" ∧ (parseMethodDescriptor y_M_out.desc).map (fun d => d.parameters.length) = some 2 := by decide +kernel
theorem pf_M_out : plainFor y_M_out = true := by decide +kernel
theorem mn_M_failed : y_M_failed.cls ≠ "java/lang/invoke/MethodHandle" ∧ y_M_failed.cls ≠ "java/lang/invoke/VarHandle" ∧ (parseMethodDescriptor y_M_failed.desc).map (fun d => d.parameters.length) = some 1 := by decide +kernel
theorem pf_M_failed : plainFor y_M_failed = true := by decide +kernel
theorem mn_M_correct : y_M_correct.cls ≠ "java/lang/invoke/MethodHandle" ∧ y_M_correct.cls ≠ "java/lang/invoke/VarHandle" ∧ (parseMethodDescriptor y_M_correct.desc).map (fun d => d.parameters.length) = some 2 := by decide +kernel
theorem pf_M_correct : plainFor y_M_correct = true := by decide +kernel
theorem mn_M_undo : y_M_undo.cls ≠ "java/lang/invoke/MethodHandle" ∧ y_M_undo.cls ≠ "java/lang/invoke/VarHandle" ∧ (parseMethodDescriptor y_M_undo.desc).map (fun d => d.parameters.length) = some 1 := by decide +kernel
theorem pf_M_undo : plainFor y_M_undo = true := by decide +kernel
theorem mn_M_join : y_M_join.cls ≠ "java/lang/invoke/MethodHandle" ∧ y_M_join.cls ≠ "java/lang/invoke/VarHandle" ∧ (parseMethodDescriptor y_M_join.desc).map (fun d => d.parameters.length) = some 1 := by decide +kernel
theorem pf_M_join : plainFor y_M_join = true := by decide +kernel
end
section
theorem tw_obj : Cond.code objectInit ⟨#[0xb1]⟩ 1 none ∈ vv_wds := tw_51
theorem nar_b {b : Int32} (h : b = 0 ∨ b = 1) : narrow .boolean (.int b) = .int b := by
  rcases h with rfl | rfl <;> decide
theorem fit_b {b : Int32} (h : b = 0 ∨ b = 1) : fits .boolean (.int b) = true := by
  rcases h with rfl | rfl <;> decide
theorem vnar_b {b : Int32} (h : b = 0 ∨ b = 1) : vp_nar .boolean b = b := by
  rcases h with rfl | rfl <;> decide
theorem lc_lt {x y : Int64} : lg_cmp x y < 0 ↔ x.toInt < y.toInt := by
  unfold lg_cmp
  by_cases h1 : y < x
  · have := Int64.lt_iff_toInt_lt.mp h1
    simp [h1]; omega
  · have h1' : ¬ y.toInt < x.toInt := fun z => h1 (Int64.lt_iff_toInt_lt.mpr z)
    by_cases h2 : x = y
    · subst h2; simp
    · have h2' : ¬ x.toInt = y.toInt := fun z => h2 (Int64.toInt_inj.mp z)
      simp [h1, h2]; omega
theorem lc_gt {x y : Int64} : 0 < lg_cmp x y ↔ y.toInt < x.toInt := by
  unfold lg_cmp
  by_cases h1 : y < x
  · have := Int64.lt_iff_toInt_lt.mp h1
    simp [h1]; omega
  · have h1' : ¬ y.toInt < x.toInt := fun z => h1 (Int64.lt_iff_toInt_lt.mpr z)
    by_cases h2 : x = y
    · subst h2; simp
    · have h2' : ¬ x.toInt = y.toInt := fun z => h2 (Int64.toInt_inj.mp z)
      simp [h1, h2]; omega
theorem lc_ge {x y : Int64} : 0 ≤ lg_cmp x y ↔ y.toInt ≤ x.toInt := by
  have := lc_lt (x := x) (y := y)
  rw [Int32.lt_iff_toInt_lt] at this
  rw [Int32.le_iff_toInt_le]
  simp at this ⊢
  omega
theorem lc_le {x y : Int64} : lg_cmp x y ≤ 0 ↔ x.toInt ≤ y.toInt := by
  have := lc_gt (x := x) (y := y)
  rw [Int32.lt_iff_toInt_lt] at this
  rw [Int32.le_iff_toInt_le]
  simp at this ⊢
  omega
theorem lc_eq {x y : Int64} : lg_cmp x y = 0 ↔ x = y := by
  constructor
  · intro h
    have h1 := mt lc_lt.mpr (by rw [h]; decide)
    have h2 := mt lc_gt.mpr (by rw [h]; decide)
    exact Int64.toInt_inj.mp (by omega)
  · intro h
    subst h
    simp [lg_cmp]
theorem i64_toInt (x : Int32) : x.toInt64.toInt = x.toInt := Int32.toInt_toInt64 x
set_option maxHeartbeats 4000000 in
set_option maxRecDepth 100000 in
/-- x lies within a .. b -/
theorem c_C_isWithin (l : Launch) (G : vv_G) (v : vv_V) (x a b : Int64) : Mv l y_C_isWithin b_C_isWithin 6 (some FieldType.boolean) 0 0 G v [.long x, .long a, .long b] (fun r v' => (r = some (.int 1) ∧ v' = v ∧ (a.toInt ≤ x.toInt ∧ x.toInt ≤ b.toInt)) ∨ (r = some (.int 0) ∧ v' = v ∧ ¬ (a.toInt ≤ x.toInt ∧ x.toInt ≤ b.toInt))) 0 0 := by
  refine vv_metF (own := "CustomerNotices") (nm := "isWithin") pf_C_isWithin rfl rfl (Nat.le_of_ble_eq_true rfl) ?_
  intro p e s m below meth c C hin
  show vV _ _ _ _ _ _ _ _ _ _ _ _ _ v 0 0 0 [(0, .long x), (2, .long a), (4, .long b)] []
  refine v_lload_n C 0 d_C_isWithin_0 rfl rfl ?_
  refine v_lload_n C 1 d_C_isWithin_1 rfl rfl ?_
  refine v_lcmp C d_C_isWithin_2 ?_
  refine v_if_lt C 17 d_C_isWithin_3 (by decide) (fun c_3 => ?_) (fun c_3 => ?_)
  · refine v_iconst (x := 0) C d_C_isWithin_17 (by decide) ?_
    exact v_zret C d_C_isWithin_18 (by first | exact Nat.le_of_ble_eq_true rfl | (show _ ≤ _; omega)) (by first | exact Nat.le_of_ble_eq_true rfl | (show _ ≤ _; omega)) (by decide) (Or.inr ⟨rfl, rfl, (by simp only [lc_lt, lc_gt, lc_ge, lc_le] at *; omega)⟩)
  · refine v_lload_n C 0 d_C_isWithin_6 rfl rfl ?_
    refine v_lload C 2 d_C_isWithin_7 rfl ?_
    refine v_lcmp C d_C_isWithin_9 ?_
    refine v_if_gt C 17 d_C_isWithin_10 (by decide) (fun c_10 => ?_) (fun c_10 => ?_)
    · refine v_iconst (x := 0) C d_C_isWithin_17 (by decide) ?_
      exact v_zret C d_C_isWithin_18 (by first | exact Nat.le_of_ble_eq_true rfl | (show _ ≤ _; omega)) (by first | exact Nat.le_of_ble_eq_true rfl | (show _ ≤ _; omega)) (by decide) (Or.inr ⟨rfl, rfl, (by simp only [lc_lt, lc_gt, lc_ge, lc_le] at *; omega)⟩)
    · refine v_iconst (x := 1) C d_C_isWithin_13 (by decide) ?_
      refine v_goto C 18 d_C_isWithin_14 (by decide) ?_
      exact v_zret C d_C_isWithin_18 (by first | exact Nat.le_of_ble_eq_true rfl | (show _ ≤ _; omega)) (by first | exact Nat.le_of_ble_eq_true rfl | (show _ ≤ _; omega)) (by decide) (Or.inl ⟨rfl, rfl, (by simp only [lc_lt, lc_gt, lc_ge, lc_le] at *; omega)⟩)
set_option maxHeartbeats 4000000 in
set_option maxRecDepth 100000 in
/-- x lies within a .. b -/
theorem c_M_isIn (l : Launch) (G : vv_G) (v : vv_V) (x a b : Int64) : Mv l y_M_isIn b_M_isIn 6 (some FieldType.boolean) 0 0 G v [.long x, .long a, .long b] (fun r v' => (r = some (.int 1) ∧ v' = v ∧ (a.toInt ≤ x.toInt ∧ x.toInt ≤ b.toInt)) ∨ (r = some (.int 0) ∧ v' = v ∧ ¬ (a.toInt ≤ x.toInt ∧ x.toInt ≤ b.toInt))) 0 0 := by
  refine vv_metF (own := "CustomerNoticesModel") (nm := "isIn") pf_M_isIn rfl rfl (Nat.le_of_ble_eq_true rfl) ?_
  intro p e s m below meth c C hin
  show vV _ _ _ _ _ _ _ _ _ _ _ _ _ v 0 0 0 [(0, .long x), (2, .long a), (4, .long b)] []
  refine v_lload_n C 0 d_M_isIn_0 rfl rfl ?_
  refine v_lload_n C 1 d_M_isIn_1 rfl rfl ?_
  refine v_lcmp C d_M_isIn_2 ?_
  refine v_if_lt C 17 d_M_isIn_3 (by decide) (fun c_3 => ?_) (fun c_3 => ?_)
  · refine v_iconst (x := 0) C d_M_isIn_17 (by decide) ?_
    exact v_zret C d_M_isIn_18 (by first | exact Nat.le_of_ble_eq_true rfl | (show _ ≤ _; omega)) (by first | exact Nat.le_of_ble_eq_true rfl | (show _ ≤ _; omega)) (by decide) (Or.inr ⟨rfl, rfl, (by simp only [lc_lt, lc_gt, lc_ge, lc_le] at *; omega)⟩)
  · refine v_lload_n C 0 d_M_isIn_6 rfl rfl ?_
    refine v_lload C 2 d_M_isIn_7 rfl ?_
    refine v_lcmp C d_M_isIn_9 ?_
    refine v_if_gt C 17 d_M_isIn_10 (by decide) (fun c_10 => ?_) (fun c_10 => ?_)
    · refine v_iconst (x := 0) C d_M_isIn_17 (by decide) ?_
      exact v_zret C d_M_isIn_18 (by first | exact Nat.le_of_ble_eq_true rfl | (show _ ≤ _; omega)) (by first | exact Nat.le_of_ble_eq_true rfl | (show _ ≤ _; omega)) (by decide) (Or.inr ⟨rfl, rfl, (by simp only [lc_lt, lc_gt, lc_ge, lc_le] at *; omega)⟩)
    · refine v_iconst (x := 1) C d_M_isIn_13 (by decide) ?_
      refine v_goto C 18 d_M_isIn_14 (by decide) ?_
      exact v_zret C d_M_isIn_18 (by first | exact Nat.le_of_ble_eq_true rfl | (show _ ≤ _; omega)) (by first | exact Nat.le_of_ble_eq_true rfl | (show _ ≤ _; omega)) (by decide) (Or.inl ⟨rfl, rfl, (by simp only [lc_lt, lc_gt, lc_ge, lc_le] at *; omega)⟩)
set_option maxHeartbeats 4000000 in
set_option maxRecDepth 100000 in
theorem c_C_isKind (l : Launch) (G : vv_G) (v : vv_V) (x : Int32) : Mv l y_C_isKind b_C_isKind 1 (some FieldType.boolean) 1 25 G v [.int x] (fun r v' => (r = some (.int 1) ∧ v' = v ∧ (0 ≤ x.toInt ∧ x.toInt ≤ 7)) ∨ (r = some (.int 0) ∧ v' = v ∧ ¬ (0 ≤ x.toInt ∧ x.toInt ≤ 7))) 0 0 := by
  refine vv_metF (own := "CustomerNotices") (nm := "isKind") pf_C_isKind rfl rfl (Nat.le_of_ble_eq_true rfl) ?_
  intro p e s m below meth c C hin
  show vV _ _ _ _ _ _ _ _ _ _ _ _ _ v 0 0 0 [(0, .int x)] []
  refine v_iload_n C 0 d_C_isKind_0 rfl rfl ?_
  refine v_i2l (y := (Int32.toInt64 x)) C d_C_isKind_1 rfl ?_
  refine v_lconst (x := 0) C d_C_isKind_2 (by decide) ?_
  refine v_ldc2 (x := 7) C d_C_isKind_3 tw_232 ?_
  refine v_callS (rest := []) C (c_C_isWithin l G v (Int32.toInt64 x) 0 7) tw_111 tw_30 tw_109 tw_110 mn_C_isWithin ⟨Nat.le_of_ble_eq_true rfl, Nat.le_of_ble_eq_true rfl⟩ rfl rfl (Nat.le_of_ble_eq_true rfl) d_C_isKind_6 ⟨(by first | exact Nat.le_of_ble_eq_true rfl | (show _ ≤ _; omega)), (by first | exact Nat.le_of_ble_eq_true rfl | (show _ ≤ _; omega))⟩ (fun r_1 v_2 hp_3 => ?_)
  rcases hp_3 with ⟨rfl, hv9, hb_6⟩ | ⟨rfl, hv9, hb_6⟩
  · obtain rfl := hv9.symm
    show vV _ _ _ _ _ _ _ _ _ _ _ _ _ v 0 0 9 [(0, .int x)] [.int 1]
    exact v_zret C d_C_isKind_9 (by first | exact Nat.le_of_ble_eq_true rfl | (show _ ≤ _; omega)) (by first | exact Nat.le_of_ble_eq_true rfl | (show _ ≤ _; omega)) (by decide) (Or.inl ⟨rfl, rfl, (by rw [i64_toInt] at hb_6; exact hb_6)⟩)
  · obtain rfl := hv9.symm
    show vV _ _ _ _ _ _ _ _ _ _ _ _ _ v 0 0 9 [(0, .int x)] [.int 0]
    exact v_zret C d_C_isKind_9 (by first | exact Nat.le_of_ble_eq_true rfl | (show _ ≤ _; omega)) (by first | exact Nat.le_of_ble_eq_true rfl | (show _ ≤ _; omega)) (by decide) (Or.inr ⟨rfl, rfl, (by rw [i64_toInt] at hb_6; exact hb_6)⟩)
set_option maxHeartbeats 4000000 in
set_option maxRecDepth 100000 in
theorem c_C_isChannel (l : Launch) (G : vv_G) (v : vv_V) (x : Int32) : Mv l y_C_isChannel b_C_isChannel 1 (some FieldType.boolean) 1 25 G v [.int x] (fun r v' => (r = some (.int 1) ∧ v' = v ∧ (0 ≤ x.toInt ∧ x.toInt ≤ 3)) ∨ (r = some (.int 0) ∧ v' = v ∧ ¬ (0 ≤ x.toInt ∧ x.toInt ≤ 3))) 0 0 := by
  refine vv_metF (own := "CustomerNotices") (nm := "isChannel") pf_C_isChannel rfl rfl (Nat.le_of_ble_eq_true rfl) ?_
  intro p e s m below meth c C hin
  show vV _ _ _ _ _ _ _ _ _ _ _ _ _ v 0 0 0 [(0, .int x)] []
  refine v_iload_n C 0 d_C_isChannel_0 rfl rfl ?_
  refine v_i2l (y := (Int32.toInt64 x)) C d_C_isChannel_1 rfl ?_
  refine v_lconst (x := 0) C d_C_isChannel_2 (by decide) ?_
  refine v_ldc2 (x := 3) C d_C_isChannel_3 tw_236 ?_
  refine v_callS (rest := []) C (c_C_isWithin l G v (Int32.toInt64 x) 0 3) tw_111 tw_30 tw_109 tw_110 mn_C_isWithin ⟨Nat.le_of_ble_eq_true rfl, Nat.le_of_ble_eq_true rfl⟩ rfl rfl (Nat.le_of_ble_eq_true rfl) d_C_isChannel_6 ⟨(by first | exact Nat.le_of_ble_eq_true rfl | (show _ ≤ _; omega)), (by first | exact Nat.le_of_ble_eq_true rfl | (show _ ≤ _; omega))⟩ (fun r_1 v_2 hp_3 => ?_)
  rcases hp_3 with ⟨rfl, hv9, hb_6⟩ | ⟨rfl, hv9, hb_6⟩
  · obtain rfl := hv9.symm
    show vV _ _ _ _ _ _ _ _ _ _ _ _ _ v 0 0 9 [(0, .int x)] [.int 1]
    exact v_zret C d_C_isChannel_9 (by first | exact Nat.le_of_ble_eq_true rfl | (show _ ≤ _; omega)) (by first | exact Nat.le_of_ble_eq_true rfl | (show _ ≤ _; omega)) (by decide) (Or.inl ⟨rfl, rfl, (by rw [i64_toInt] at hb_6; exact hb_6)⟩)
  · obtain rfl := hv9.symm
    show vV _ _ _ _ _ _ _ _ _ _ _ _ _ v 0 0 9 [(0, .int x)] [.int 0]
    exact v_zret C d_C_isChannel_9 (by first | exact Nat.le_of_ble_eq_true rfl | (show _ ≤ _; omega)) (by first | exact Nat.le_of_ble_eq_true rfl | (show _ ≤ _; omega)) (by decide) (Or.inr ⟨rfl, rfl, (by rw [i64_toInt] at hb_6; exact hb_6)⟩)
set_option maxHeartbeats 4000000 in
set_option maxRecDepth 100000 in
theorem c_C_isMinuteOfDay (l : Launch) (G : vv_G) (v : vv_V) (x : Int32) : Mv l y_C_isMinuteOfDay b_C_isMinuteOfDay 1 (some FieldType.boolean) 1 25 G v [.int x] (fun r v' => (r = some (.int 1) ∧ v' = v ∧ (0 ≤ x.toInt ∧ x.toInt ≤ 1439)) ∨ (r = some (.int 0) ∧ v' = v ∧ ¬ (0 ≤ x.toInt ∧ x.toInt ≤ 1439))) 0 0 := by
  refine vv_metF (own := "CustomerNotices") (nm := "isMinuteOfDay") pf_C_isMinuteOfDay rfl rfl (Nat.le_of_ble_eq_true rfl) ?_
  intro p e s m below meth c C hin
  show vV _ _ _ _ _ _ _ _ _ _ _ _ _ v 0 0 0 [(0, .int x)] []
  refine v_iload_n C 0 d_C_isMinuteOfDay_0 rfl rfl ?_
  refine v_i2l (y := (Int32.toInt64 x)) C d_C_isMinuteOfDay_1 rfl ?_
  refine v_lconst (x := 0) C d_C_isMinuteOfDay_2 (by decide) ?_
  refine v_ldc2 (x := 1439) C d_C_isMinuteOfDay_3 tw_258 ?_
  refine v_callS (rest := []) C (c_C_isWithin l G v (Int32.toInt64 x) 0 1439) tw_111 tw_30 tw_109 tw_110 mn_C_isWithin ⟨Nat.le_of_ble_eq_true rfl, Nat.le_of_ble_eq_true rfl⟩ rfl rfl (Nat.le_of_ble_eq_true rfl) d_C_isMinuteOfDay_6 ⟨(by first | exact Nat.le_of_ble_eq_true rfl | (show _ ≤ _; omega)), (by first | exact Nat.le_of_ble_eq_true rfl | (show _ ≤ _; omega))⟩ (fun r_1 v_2 hp_3 => ?_)
  rcases hp_3 with ⟨rfl, hv9, hb_6⟩ | ⟨rfl, hv9, hb_6⟩
  · obtain rfl := hv9.symm
    show vV _ _ _ _ _ _ _ _ _ _ _ _ _ v 0 0 9 [(0, .int x)] [.int 1]
    exact v_zret C d_C_isMinuteOfDay_9 (by first | exact Nat.le_of_ble_eq_true rfl | (show _ ≤ _; omega)) (by first | exact Nat.le_of_ble_eq_true rfl | (show _ ≤ _; omega)) (by decide) (Or.inl ⟨rfl, rfl, (by rw [i64_toInt] at hb_6; exact hb_6)⟩)
  · obtain rfl := hv9.symm
    show vV _ _ _ _ _ _ _ _ _ _ _ _ _ v 0 0 9 [(0, .int x)] [.int 0]
    exact v_zret C d_C_isMinuteOfDay_9 (by first | exact Nat.le_of_ble_eq_true rfl | (show _ ≤ _; omega)) (by first | exact Nat.le_of_ble_eq_true rfl | (show _ ≤ _; omega)) (by decide) (Or.inr ⟨rfl, rfl, (by rw [i64_toInt] at hb_6; exact hb_6)⟩)
set_option maxHeartbeats 4000000 in
set_option maxRecDepth 100000 in
theorem c_C_isItemNumber (l : Launch) (G : vv_G) (v : vv_V) (x : Int32) : Mv l y_C_isItemNumber b_C_isItemNumber 1 (some FieldType.boolean) 1 25 G v [.int x] (fun r v' => (r = some (.int 1) ∧ v' = v ∧ (1 ≤ x.toInt ∧ x.toInt ≤ 9999)) ∨ (r = some (.int 0) ∧ v' = v ∧ ¬ (1 ≤ x.toInt ∧ x.toInt ≤ 9999))) 0 0 := by
  refine vv_metF (own := "CustomerNotices") (nm := "isItemNumber") pf_C_isItemNumber rfl rfl (Nat.le_of_ble_eq_true rfl) ?_
  intro p e s m below meth c C hin
  show vV _ _ _ _ _ _ _ _ _ _ _ _ _ v 0 0 0 [(0, .int x)] []
  refine v_iload_n C 0 d_C_isItemNumber_0 rfl rfl ?_
  refine v_i2l (y := (Int32.toInt64 x)) C d_C_isItemNumber_1 rfl ?_
  refine v_lconst (x := 1) C d_C_isItemNumber_2 (by decide) ?_
  refine v_ldc2 (x := 9999) C d_C_isItemNumber_3 tw_269 ?_
  refine v_callS (rest := []) C (c_C_isWithin l G v (Int32.toInt64 x) 1 9999) tw_111 tw_30 tw_109 tw_110 mn_C_isWithin ⟨Nat.le_of_ble_eq_true rfl, Nat.le_of_ble_eq_true rfl⟩ rfl rfl (Nat.le_of_ble_eq_true rfl) d_C_isItemNumber_6 ⟨(by first | exact Nat.le_of_ble_eq_true rfl | (show _ ≤ _; omega)), (by first | exact Nat.le_of_ble_eq_true rfl | (show _ ≤ _; omega))⟩ (fun r_1 v_2 hp_3 => ?_)
  rcases hp_3 with ⟨rfl, hv9, hb_6⟩ | ⟨rfl, hv9, hb_6⟩
  · obtain rfl := hv9.symm
    show vV _ _ _ _ _ _ _ _ _ _ _ _ _ v 0 0 9 [(0, .int x)] [.int 1]
    exact v_zret C d_C_isItemNumber_9 (by first | exact Nat.le_of_ble_eq_true rfl | (show _ ≤ _; omega)) (by first | exact Nat.le_of_ble_eq_true rfl | (show _ ≤ _; omega)) (by decide) (Or.inl ⟨rfl, rfl, (by rw [i64_toInt] at hb_6; exact hb_6)⟩)
  · obtain rfl := hv9.symm
    show vV _ _ _ _ _ _ _ _ _ _ _ _ _ v 0 0 9 [(0, .int x)] [.int 0]
    exact v_zret C d_C_isItemNumber_9 (by first | exact Nat.le_of_ble_eq_true rfl | (show _ ≤ _; omega)) (by first | exact Nat.le_of_ble_eq_true rfl | (show _ ≤ _; omega)) (by decide) (Or.inr ⟨rfl, rfl, (by rw [i64_toInt] at hb_6; exact hb_6)⟩)
set_option maxHeartbeats 4000000 in
set_option maxRecDepth 100000 in
theorem c_C_isEnd (l : Launch) (G : vv_G) (v : vv_V) (x : Int32) : Mv l y_C_isEnd b_C_isEnd 1 (some FieldType.boolean) 0 0 G v [.int x] (fun r v' => (r = some (.int 1) ∧ v' = v ∧ (x = 5 ∨ x = 6)) ∨ (r = some (.int 0) ∧ v' = v ∧ ¬ (x = 5 ∨ x = 6))) 0 0 := by
  refine vv_metF (own := "CustomerNotices") (nm := "isEnd") pf_C_isEnd rfl rfl (Nat.le_of_ble_eq_true rfl) ?_
  intro p e s m below meth c C hin
  show vV _ _ _ _ _ _ _ _ _ _ _ _ _ v 0 0 0 [(0, .int x)] []
  refine v_iload_n C 0 d_C_isEnd_0 rfl rfl ?_
  refine v_iconst (x := 5) C d_C_isEnd_1 (by decide) ?_
  refine v_icmp_eq C 11 d_C_isEnd_2 (by decide) (fun c_2 => ?_) (fun c_2 => ?_)
  · refine v_iconst (x := 1) C d_C_isEnd_11 (by decide) ?_
    refine v_goto C 16 d_C_isEnd_12 (by decide) ?_
    exact v_zret C d_C_isEnd_16 (by first | exact Nat.le_of_ble_eq_true rfl | (show _ ≤ _; omega)) (by first | exact Nat.le_of_ble_eq_true rfl | (show _ ≤ _; omega)) (by decide) (Or.inl ⟨rfl, rfl, (by first | exact Or.inl (by assumption) | exact Or.inr (by assumption))⟩)
  · refine v_iload_n C 0 d_C_isEnd_5 rfl rfl ?_
    refine v_bipush (x := 6) C d_C_isEnd_6 (by decide) ?_
    refine v_icmp_ne C 15 d_C_isEnd_8 (by decide) (fun c_8 => ?_) (fun c_8 => ?_)
    · refine v_iconst (x := 0) C d_C_isEnd_15 (by decide) ?_
      exact v_zret C d_C_isEnd_16 (by first | exact Nat.le_of_ble_eq_true rfl | (show _ ≤ _; omega)) (by first | exact Nat.le_of_ble_eq_true rfl | (show _ ≤ _; omega)) (by decide) (Or.inr ⟨rfl, rfl, (by intro h; rcases h with h | h <;> contradiction)⟩)
    · refine v_iconst (x := 1) C d_C_isEnd_11 (by decide) ?_
      refine v_goto C 16 d_C_isEnd_12 (by decide) ?_
      exact v_zret C d_C_isEnd_16 (by first | exact Nat.le_of_ble_eq_true rfl | (show _ ≤ _; omega)) (by first | exact Nat.le_of_ble_eq_true rfl | (show _ ≤ _; omega)) (by decide) (Or.inl ⟨rfl, rfl, (by first | exact Or.inl (by assumption) | exact Or.inr (by assumption))⟩)
set_option maxHeartbeats 4000000 in
set_option maxRecDepth 100000 in
theorem c_Ma_max (l : Launch) (G : vv_G) (v : vv_V) (x y : Int32) : Mv l y_Ma_max b_Ma_max 2 (some FieldType.int) 0 0 G v [.int x, .int y] (fun r v' => r = some (.int (if x < y then y else x)) ∧ v' = v) 0 0 := by
  refine vv_metF (own := "java/lang/Math") (nm := "max") pf_Ma_max rfl rfl (Nat.le_of_ble_eq_true rfl) ?_
  intro p e s m below meth c C hin
  show vV _ _ _ _ _ _ _ _ _ _ _ _ _ v 0 0 0 [(0, .int x), (1, .int y)] []
  refine v_iload_n C 0 d_Ma_max_0 rfl rfl ?_
  refine v_iload_n C 1 d_Ma_max_1 rfl rfl ?_
  refine v_icmp_lt C 9 d_Ma_max_2 (by decide) (fun c_2 => ?_) (fun c_2 => ?_)
  · refine v_iload_n C 1 d_Ma_max_9 rfl rfl ?_
    exact v_iret C d_Ma_max_10 (by first | exact Nat.le_of_ble_eq_true rfl | (show _ ≤ _; omega)) (by first | exact Nat.le_of_ble_eq_true rfl | (show _ ≤ _; omega)) ⟨by first | rw [if_pos (by assumption)] | rw [if_neg (by assumption)], rfl⟩
  · refine v_iload_n C 0 d_Ma_max_5 rfl rfl ?_
    refine v_goto C 10 d_Ma_max_6 (by decide) ?_
    exact v_iret C d_Ma_max_10 (by first | exact Nat.le_of_ble_eq_true rfl | (show _ ≤ _; omega)) (by first | exact Nat.le_of_ble_eq_true rfl | (show _ ≤ _; omega)) ⟨by first | rw [if_pos (by assumption)] | rw [if_neg (by assumption)], rfl⟩
set_option maxHeartbeats 4000000 in
set_option maxRecDepth 100000 in
theorem c_Ma_min (l : Launch) (G : vv_G) (v : vv_V) (x y : Int32) : Mv l y_Ma_min b_Ma_min 2 (some FieldType.int) 0 0 G v [.int x, .int y] (fun r v' => r = some (.int (if y < x then y else x)) ∧ v' = v) 0 0 := by
  refine vv_metF (own := "java/lang/Math") (nm := "min") pf_Ma_min rfl rfl (Nat.le_of_ble_eq_true rfl) ?_
  intro p e s m below meth c C hin
  show vV _ _ _ _ _ _ _ _ _ _ _ _ _ v 0 0 0 [(0, .int x), (1, .int y)] []
  refine v_iload_n C 0 d_Ma_min_0 rfl rfl ?_
  refine v_iload_n C 1 d_Ma_min_1 rfl rfl ?_
  refine v_icmp_gt C 9 d_Ma_min_2 (by decide) (fun c_2 => ?_) (fun c_2 => ?_)
  · refine v_iload_n C 1 d_Ma_min_9 rfl rfl ?_
    exact v_iret C d_Ma_min_10 (by first | exact Nat.le_of_ble_eq_true rfl | (show _ ≤ _; omega)) (by first | exact Nat.le_of_ble_eq_true rfl | (show _ ≤ _; omega)) ⟨by first | rw [if_pos (by assumption)] | rw [if_neg (by assumption)], rfl⟩
  · refine v_iload_n C 0 d_Ma_min_5 rfl rfl ?_
    refine v_goto C 10 d_Ma_min_6 (by decide) ?_
    exact v_iret C d_Ma_min_10 (by first | exact Nat.le_of_ble_eq_true rfl | (show _ ≤ _; omega)) (by first | exact Nat.le_of_ble_eq_true rfl | (show _ ≤ _; omega)) ⟨by first | rw [if_pos (by assumption)] | rw [if_neg (by assumption)], rfl⟩
set_option maxHeartbeats 4000000 in
set_option maxRecDepth 100000 in
theorem c_Ma_min_JJJ (l : Launch) (G : vv_G) (v : vv_V) (x y : Int64) : Mv l y_Ma_min_JJJ b_Ma_min_JJJ 4 (some FieldType.long) 0 0 G v [.long x, .long y] (fun r v' => r = some (.long (if y.toInt < x.toInt then y else x)) ∧ v' = v) 0 0 := by
  refine vv_metF (own := "java/lang/Math") (nm := "min") pf_Ma_min_JJJ rfl rfl (Nat.le_of_ble_eq_true rfl) ?_
  intro p e s m below meth c C hin
  show vV _ _ _ _ _ _ _ _ _ _ _ _ _ v 0 0 0 [(0, .long x), (2, .long y)] []
  refine v_lload_n C 0 d_Ma_min_JJJ_0 rfl rfl ?_
  refine v_lload_n C 1 d_Ma_min_JJJ_1 rfl rfl ?_
  refine v_lcmp C d_Ma_min_JJJ_2 ?_
  refine v_if_gt C 10 d_Ma_min_JJJ_3 (by decide) (fun c_3 => ?_) (fun c_3 => ?_)
  · refine v_lload_n C 1 d_Ma_min_JJJ_10 rfl rfl ?_
    exact v_lret C d_Ma_min_JJJ_11 (by first | exact Nat.le_of_ble_eq_true rfl | (show _ ≤ _; omega)) (by first | exact Nat.le_of_ble_eq_true rfl | (show _ ≤ _; omega)) ⟨by first | rw [if_pos (by rw [← lc_gt]; assumption)] | rw [if_neg (by rw [← lc_gt]; assumption)], rfl⟩
  · refine v_lload_n C 0 d_Ma_min_JJJ_6 rfl rfl ?_
    refine v_goto C 11 d_Ma_min_JJJ_7 (by decide) ?_
    exact v_lret C d_Ma_min_JJJ_11 (by first | exact Nat.le_of_ble_eq_true rfl | (show _ ≤ _; omega)) (by first | exact Nat.le_of_ble_eq_true rfl | (show _ ≤ _; omega)) ⟨by first | rw [if_pos (by rw [← lc_gt]; assumption)] | rw [if_neg (by rw [← lc_gt]; assumption)], rfl⟩
set_option maxHeartbeats 4000000 in
set_option maxRecDepth 100000 in
theorem c_Ma_abs (l : Launch) (G : vv_G) (v : vv_V) (x : Int64) : Mv l y_Ma_abs b_Ma_abs 2 (some FieldType.long) 0 0 G v [.long x] (fun r v' => r = some (.long (if (0 : Int64).toInt ≤ x.toInt then x else -x)) ∧ v' = v) 0 0 := by
  refine vv_metF (own := "java/lang/Math") (nm := "abs") pf_Ma_abs rfl rfl (Nat.le_of_ble_eq_true rfl) ?_
  intro p e s m below meth c C hin
  show vV _ _ _ _ _ _ _ _ _ _ _ _ _ v 0 0 0 [(0, .long x)] []
  refine v_lload_n C 0 d_Ma_abs_0 rfl rfl ?_
  refine v_lconst (x := 0) C d_Ma_abs_1 (by decide) ?_
  refine v_lcmp C d_Ma_abs_2 ?_
  refine v_if_ge C 11 d_Ma_abs_3 (by decide) (fun c_3 => ?_) (fun c_3 => ?_)
  · refine v_lload_n C 0 d_Ma_abs_11 rfl rfl ?_
    exact v_lret C d_Ma_abs_12 (by first | exact Nat.le_of_ble_eq_true rfl | (show _ ≤ _; omega)) (by first | exact Nat.le_of_ble_eq_true rfl | (show _ ≤ _; omega)) ⟨by first | rw [if_pos (by first | rw [← lc_ge]; assumption)] | rw [if_neg (by rw [← lc_ge]; assumption)], rfl⟩
  · refine v_lload_n C 0 d_Ma_abs_6 rfl rfl ?_
    refine v_lneg C d_Ma_abs_7 ?_
    refine v_goto C 12 d_Ma_abs_8 (by decide) ?_
    exact v_lret C d_Ma_abs_12 (by first | exact Nat.le_of_ble_eq_true rfl | (show _ ≤ _; omega)) (by first | exact Nat.le_of_ble_eq_true rfl | (show _ ≤ _; omega)) ⟨by first | rw [if_pos (by first | rw [← lc_ge]; assumption)] | rw [if_neg (by rw [← lc_ge]; assumption)], rfl⟩
end
section
/-! THE STATE that both sides hold: counts c (0 customers, 1 notices, 2 pairs, 3 sent, 4 failed), ints and longs by the number of the reference's field and a place. -/
abbrev zS : Type := (Nat → Nat) × (Nat → Nat → Int32) × (Nat → Nat → Int64)
def zc (S : zS) (i : Nat) : Nat := S.1 i
def zi (S : zS) (f i : Nat) : Int32 := S.2.1 f i
def zl (S : zS) (f i : Nat) : Int64 := S.2.2 f i
def zuc (S : zS) (i n : Nat) : zS := (fun i' => if i' = i then n else S.1 i', S.2.1, S.2.2)
def zui (S : zS) (f i : Nat) (x : Int32) : zS := (S.1, fun f' i' => if f' = f then (if i' = i then x else S.2.1 f' i') else S.2.1 f' i', S.2.2)
def zul (S : zS) (f i : Nat) (x : Int64) : zS := (S.1, S.2.1, fun f' i' => if f' = f then (if i' = i then x else S.2.2 f' i') else S.2.2 f' i')
theorem zc_uc (S : zS) (i n j : Nat) : zc (zuc S i n) j = if j = i then n else zc S j := rfl
theorem zc_ui (S : zS) (f i j : Nat) (x : Int32) : zc (zui S f i x) j = zc S j := rfl
theorem zc_ul (S : zS) (f i j : Nat) (x : Int64) : zc (zul S f i x) j = zc S j := rfl
theorem zi_uc (S : zS) (i n f j : Nat) : zi (zuc S i n) f j = zi S f j := rfl
theorem zi_ui (S : zS) (f i g j : Nat) (x : Int32) : zi (zui S f i x) g j = if g = f then (if j = i then x else zi S g j) else zi S g j := rfl
theorem zi_ul (S : zS) (f i g j : Nat) (x : Int64) : zi (zul S f i x) g j = zi S g j := rfl
theorem zl_uc (S : zS) (i n f j : Nat) : zl (zuc S i n) f j = zl S f j := rfl
theorem zl_ui (S : zS) (f i g j : Nat) (x : Int32) : zl (zui S f i x) g j = zl S g j := rfl
theorem zl_ul (S : zS) (f i g j : Nat) (x : Int64) : zl (zul S f i x) g j = if g = f then (if j = i then x else zl S g j) else zl S g j := rfl
/-- the reference's arrays: ints, booleans, longs; their lengths -/
def mI (f : Nat) : Bool := [4, 5, 6, 7, 8, 10, 11, 12, 15, 19, 20, 22, 24, 25, 26, 29, 31].contains f
def mZ (f : Nat) : Bool := [2, 16, 17, 21].contains f
def mL (f : Nat) : Bool := [13, 14, 27, 30].contains f
def mN (f : Nat) : Nat := if f = 2 then 4 else if f = 8 then 1312 else if f < 8 ∨ f = 30 ∨ f = 31 then 41 else if f < 18 then 201 else if f < 23 then 60 else 200
def mA (f : Nat) : Bool := mI f || mZ f || mL f
def mFs (ad : Nat → Nat) (S : zS) : List Value := [.long (zl S 0 0), .int (zi S 1 0), .ref (ad 2), .int (nI (zc S 0)), .ref (ad 4), .ref (ad 5), .ref (ad 6), .ref (ad 7), .ref (ad 8), .int (nI (zc S 1)), .ref (ad 10), .ref (ad 11), .ref (ad 12), .ref (ad 13), .ref (ad 14), .ref (ad 15), .ref (ad 16), .ref (ad 17), .int (nI (zc S 2)), .ref (ad 19), .ref (ad 20), .ref (ad 21), .ref (ad 22), .int (nI (zc S 3)), .ref (ad 24), .ref (ad 25), .ref (ad 26), .ref (ad 27), .int (nI (zc S 4)), .ref (ad 29), .ref (ad 30), .ref (ad 31)]
/-- the reference's object at o, its arrays at ad: it holds S -/
def RM (G : vv_G) (v : vv_V) (o : Nat) (ad : Nat → Nat) (S : zS) : Prop :=
  v 4 o = some (.inr (4, mFs ad S)) ∧ (∀ f, mI f = true → v 50 (ad f) = some (.inl (G.2.2.2.2 0, mN f, .inl (zi S f)))) ∧ (∀ f, mZ f = true → v 51 (ad f) = some (.inl (G.2.2.2.2 1, mN f, .inl (zi S f)))) ∧ (∀ f, mL f = true → v 52 (ad f) = some (.inl (G.2.2.2.2 2, mN f, .inr (.inl (zl S f))))) ∧ ∀ f g, mA f = true → mA g = true → ad f = ad g → f = g
def mX (o : Nat) (ad : Nat → Nat) (a : Nat) : Prop := a = o ∨ ∃ f, mA f = true ∧ a = ad f
/-- what isn't in X stays -/
def vkeep (X : Nat → Prop) (v v' : vv_V) : Prop := ∀ (k a : Nat) (e : va_E), ¬ X a → v k a = some e → v' k a = some e
theorem vkeep.rf {X : Nat → Prop} {v : vv_V} : vkeep X v v := fun _ _ _ _ h => h
theorem vkeep.tr {X : Nat → Prop} {v v1 v2 : vv_V} (h1 : vkeep X v v1) (h2 : vkeep X v1 v2) : vkeep X v v2 := fun k a e hx h => h2 k a e hx (h1 k a e hx h)
theorem vkeep.up {X : Nat → Prop} {v v1 : vv_V} {k a : Nat} {e : va_E} (h : vkeep X v v1) (ha : X a) : vkeep X v (vv_up v1 k a e) := fun k' a' e' hx h' => by
  rw [vv_up_a _ _ _ _ (fun z => hx (by rw [z]; exact ha))]
  exact h k' a' e' hx h'
theorem RM.oi {G : vv_G} {v : vv_V} {o : Nat} {ad : Nat → Nat} {S : zS} (h : RM G v o ad S) {f : Nat} (hf : mI f = true) : v 50 (ad f) = some (.inl (G.2.2.2.2 0, mN f, .inl (zi S f))) := h.2.1 f hf
theorem RM.oz {G : vv_G} {v : vv_V} {o : Nat} {ad : Nat → Nat} {S : zS} (h : RM G v o ad S) {f : Nat} (hf : mZ f = true) : v 51 (ad f) = some (.inl (G.2.2.2.2 1, mN f, .inl (zi S f))) := h.2.2.1 f hf
theorem RM.ol {G : vv_G} {v : vv_V} {o : Nat} {ad : Nat → Nat} {S : zS} (h : RM G v o ad S) {f : Nat} (hf : mL f = true) : v 52 (ad f) = some (.inl (G.2.2.2.2 2, mN f, .inr (.inl (zl S f)))) := h.2.2.2.1 f hf
theorem m_iz {f : Nat} (h : mI f = true) : mZ f = false ∧ mL f = false ∧ mA f = true := by
  simp only [mI, List.contains_eq_mem, List.mem_cons, List.not_mem_nil, or_false, decide_eq_true_eq] at h
  rcases h with rfl | rfl | rfl | rfl | rfl | rfl | rfl | rfl | rfl | rfl | rfl | rfl | rfl | rfl | rfl | rfl | rfl <;> decide
theorem m_zz {f : Nat} (h : mZ f = true) : mI f = false ∧ mL f = false ∧ mA f = true := by
  simp only [mZ, List.contains_eq_mem, List.mem_cons, List.not_mem_nil, or_false, decide_eq_true_eq] at h
  rcases h with rfl | rfl | rfl | rfl <;> decide
theorem m_lz {f : Nat} (h : mL f = true) : mI f = false ∧ mZ f = false ∧ mA f = true := by
  simp only [mL, List.contains_eq_mem, List.mem_cons, List.not_mem_nil, or_false, decide_eq_true_eq] at h
  rcases h with rfl | rfl | rfl | rfl <;> decide
theorem mFs_i {ad : Nat → Nat} {S : zS} {f i : Nat} {x : Int32} (h : f ≠ 1) : mFs ad (zui S f i x) = mFs ad S := by
  unfold mFs
  rw [zi_ui, if_neg (Ne.symm h)]
  rfl
theorem mFs_l {ad : Nat → Nat} {S : zS} {f i : Nat} {x : Int64} (h : f ≠ 0) : mFs ad (zul S f i x) = mFs ad S := by
  unfold mFs
  rw [zl_ul, if_neg (Ne.symm h)]
  rfl
theorem zi_upd {S : zS} {f i : Nat} {x : Int32} : zi (zui S f i x) f = upd (zi S f) i x := by
  funext j
  rw [zi_ui, if_pos rfl]
  rfl
theorem zi_updn {S : zS} {f g i : Nat} {x : Int32} (h : g ≠ f) : zi (zui S f i x) g = zi S g := by
  funext j
  rw [zi_ui, if_neg h]
theorem zl_upd {S : zS} {f i : Nat} {x : Int64} : zl (zul S f i x) f = vp_updL (zl S f) i x := by
  funext j
  rw [zl_ul, if_pos rfl]
  rfl
theorem zl_updn {S : zS} {f g i : Nat} {x : Int64} (h : g ≠ f) : zl (zul S f i x) g = zl S g := by
  funext j
  rw [zl_ul, if_neg h]
theorem RM.puti {G : vv_G} {v : vv_V} {o : Nat} {ad : Nat → Nat} {S : zS} (h : RM G v o ad S) (f : Nat) (hf : mI f = true) (i : Nat) (x : Int32) : RM G (vv_up v 50 (ad f) (.inl (G.2.2.2.2 0, mN f, .inl (upd (zi S f) i x)))) o ad (zui S f i x) := by
  obtain ⟨h0, h1, h2, h3, h4⟩ := h
  obtain ⟨z1, z2, z3⟩ := m_iz hf
  have hf1 : f ≠ 1 := fun z => by rw [z] at hf; exact absurd hf (by decide)
  refine ⟨?_, fun g hg => ?_, fun g hg => ?_, fun g hg => ?_, h4⟩
  · rw [vv_up_k _ _ _ _ (by decide), mFs_i hf1]; exact h0
  · by_cases c : g = f
    · subst c
      rw [vv_up_s, zi_upd]
    · rw [vv_up_a _ _ _ _ (fun z => c (h4 g f (m_iz hg).2.2 z3 z)), zi_updn c]; exact h1 g hg
  · rw [vv_up_k _ _ _ _ (by decide), zi_updn (fun z => by rw [z] at hg; rw [hg] at z1; cases z1)]; exact h2 g hg
  · rw [vv_up_k _ _ _ _ (by decide)]; exact h3 g hg
theorem RM.putz {G : vv_G} {v : vv_V} {o : Nat} {ad : Nat → Nat} {S : zS} (h : RM G v o ad S) (f : Nat) (hf : mZ f = true) (i : Nat) (x y : Int32) (hx : vp_nar .boolean y = x) : RM G (vv_up v 51 (ad f) (.inl (G.2.2.2.2 1, mN f, .inl (upd (zi S f) i (vp_nar .boolean y))))) o ad (zui S f i x) := by
  rw [hx]
  obtain ⟨h0, h1, h2, h3, h4⟩ := h
  obtain ⟨z1, z2, z3⟩ := m_zz hf
  have hf1 : f ≠ 1 := fun z => by rw [z] at hf; exact absurd hf (by decide)
  refine ⟨?_, fun g hg => ?_, fun g hg => ?_, fun g hg => ?_, h4⟩
  · rw [vv_up_k _ _ _ _ (by decide), mFs_i hf1]; exact h0
  · rw [vv_up_k _ _ _ _ (by decide), zi_updn (fun z => by rw [z] at hg; rw [hg] at z1; cases z1)]; exact h1 g hg
  · by_cases c : g = f
    · subst c
      rw [vv_up_s, zi_upd]
    · rw [vv_up_a _ _ _ _ (fun z => c (h4 g f (m_zz hg).2.2 z3 z)), zi_updn c]; exact h2 g hg
  · rw [vv_up_k _ _ _ _ (by decide)]; exact h3 g hg
theorem RM.putl {G : vv_G} {v : vv_V} {o : Nat} {ad : Nat → Nat} {S : zS} (h : RM G v o ad S) (f : Nat) (hf : mL f = true) (i : Nat) (x : Int64) : RM G (vv_up v 52 (ad f) (.inl (G.2.2.2.2 2, mN f, .inr (.inl (vp_updL (zl S f) i x))))) o ad (zul S f i x) := by
  obtain ⟨h0, h1, h2, h3, h4⟩ := h
  obtain ⟨z1, z2, z3⟩ := m_lz hf
  have hf1 : f ≠ 0 := fun z => by rw [z] at hf; exact absurd hf (by decide)
  refine ⟨?_, fun g hg => ?_, fun g hg => ?_, fun g hg => ?_, h4⟩
  · rw [vv_up_k _ _ _ _ (by decide), mFs_l hf1]; exact h0
  · rw [vv_up_k _ _ _ _ (by decide)]; exact h1 g hg
  · rw [vv_up_k _ _ _ _ (by decide)]; exact h2 g hg
  · by_cases c : g = f
    · subst c
      rw [vv_up_s, zl_upd]
    · rw [vv_up_a _ _ _ _ (fun z => c (h4 g f (m_lz hg).2.2 z3 z)), zl_updn c]; exact h3 g hg
/-- a scalar field is written: fs are the new fields -/
theorem RM.puts {G : vv_G} {v : vv_V} {o : Nat} {ad : Nat → Nat} {S S' : zS} {fs : List Value} (h : RM G v o ad S) (hs : fs = mFs ad S') (hi : ∀ f, mI f = true ∨ mZ f = true → zi S' f = zi S f) (hl : ∀ f, mL f = true → zl S' f = zl S f) : RM G (vv_up v 4 o (.inr (4, fs))) o ad S' := by
  obtain ⟨h0, h1, h2, h3, h4⟩ := h
  refine ⟨?_, fun g hg => ?_, fun g hg => ?_, fun g hg => ?_, h4⟩
  · rw [vv_up_s, hs]
  · rw [vv_up_k _ _ _ _ (by decide), hi g (Or.inl hg)]; exact h1 g hg
  · rw [vv_up_k _ _ _ _ (by decide), hi g (Or.inr hg)]; exact h2 g hg
  · rw [vv_up_k _ _ _ _ (by decide), hl g hg]; exact h3 g hg
theorem mX_o {o : Nat} {ad : Nat → Nat} : mX o ad o := Or.inl rfl
theorem mX_f {o : Nat} {ad : Nat → Nat} {f : Nat} (h : mA f = true) : mX o ad (ad f) := Or.inr ⟨f, h, rfl⟩
section VN
variable {p : Program} {l : Launch} {e : Env} {R : Room} {s : State} {m : MethodId} {args : Array Value} {below : List Frame} {meth : Method} {c : Code} {Q : State → Prop} {G : vv_G} {cc : ByteArray} {nL : Nat} {ret : Option FieldType} {own : String} {v : vv_V} {kc ks pc : Nat} {lv : List (Nat × Value)} {st : List Value}
theorem v_toi {x y : Int32} (h : x = y) (k : vV p l e R s m args below meth c Q G nL v kc ks pc lv (.int y :: st)) : vV p l e R s m args below meth c Q G nL v kc ks pc lv (.int x :: st) := by rw [h]; exact k
theorem v_tol {x y : Int64} (h : x = y) (k : vV p l e R s m args below meth c Q G nL v kc ks pc lv (.long y :: st)) : vV p l e R s m args below meth c Q G nL v kc ks pc lv (.long x :: st) := by rw [h]; exact k
theorem v_toi2 {a : Value} {x y : Int32} (h : x = y) (k : vV p l e R s m args below meth c Q G nL v kc ks pc lv (a :: .int y :: st)) : vV p l e R s m args below meth c Q G nL v kc ks pc lv (a :: .int x :: st) := by rw [h]; exact k
variable {n i a : Nat} {f : Nat → Int32} {fl : Nat → Int64}
theorem v_ialdN (C : vC p s m args meth c cc nL ret own G) (he : v 50 a = some (.inl (G.2.2.2.2 0, n, .inl f))) (hi : i < n) (hn : n < 2 ^ 31) (hd : decode cc pc = .ok (.iaload, 1)) (k : vV p l e R s m args below meth c Q G nL v kc ks (pc + 1) lv (.int (f i) :: st)) : vV p l e R s m args below meth c Q G nL v kc ks pc lv (.int (nI i) :: .ref a :: st) := v_iald C he (vp_in_nI hi hn) hd (by rw [nI_clamp (Nat.lt_trans hi hn)]; exact k)
theorem v_zaldN (C : vC p s m args meth c cc nL ret own G) (he : v 51 a = some (.inl (G.2.2.2.2 1, n, .inl f))) (hi : i < n) (hn : n < 2 ^ 31) (hd : decode cc pc = .ok (.baload, 1)) (k : vV p l e R s m args below meth c Q G nL v kc ks (pc + 1) lv (.int (f i) :: st)) : vV p l e R s m args below meth c Q G nL v kc ks pc lv (.int (nI i) :: .ref a :: st) := v_zald C he (vp_in_nI hi hn) hd (by rw [nI_clamp (Nat.lt_trans hi hn)]; exact k)
theorem v_laldN (C : vC p s m args meth c cc nL ret own G) (he : v 52 a = some (.inl (G.2.2.2.2 2, n, .inr (.inl fl)))) (hi : i < n) (hn : n < 2 ^ 31) (hd : decode cc pc = .ok (.laload, 1)) (k : vV p l e R s m args below meth c Q G nL v kc ks (pc + 1) lv (.long (fl i) :: st)) : vV p l e R s m args below meth c Q G nL v kc ks pc lv (.int (nI i) :: .ref a :: st) := v_lald C he (vp_in_nI hi hn) hd (by rw [nI_clamp (Nat.lt_trans hi hn)]; exact k)
theorem v_iastN {x : Int32} (C : vC p s m args meth c cc nL ret own G) (he : v 50 a = some (.inl (G.2.2.2.2 0, n, .inl f))) (hi : i < n) (hn : n < 2 ^ 31) (hd : decode cc pc = .ok (.iastore, 1)) (k : vV p l e R s m args below meth c Q G nL (vv_up v 50 a (.inl (G.2.2.2.2 0, n, .inl (upd f i x)))) kc ks (pc + 1) lv st) : vV p l e R s m args below meth c Q G nL v kc ks pc lv (.int x :: .int (nI i) :: .ref a :: st) := v_iast C he (vp_in_nI hi hn) hd (by rw [nI_clamp (Nat.lt_trans hi hn)]; exact k)
theorem v_zastN {x : Int32} (C : vC p s m args meth c cc nL ret own G) (he : v 51 a = some (.inl (G.2.2.2.2 1, n, .inl f))) (hi : i < n) (hn : n < 2 ^ 31) (hd : decode cc pc = .ok (.bastore, 1)) (k : vV p l e R s m args below meth c Q G nL (vv_up v 51 a (.inl (G.2.2.2.2 1, n, .inl (upd f i (vp_nar .boolean x))))) kc ks (pc + 1) lv st) : vV p l e R s m args below meth c Q G nL v kc ks pc lv (.int x :: .int (nI i) :: .ref a :: st) := v_zast C he (vp_in_nI hi hn) hd (by rw [nI_clamp (Nat.lt_trans hi hn)]; exact k)
theorem v_lastN {x : Int64} (C : vC p s m args meth c cc nL ret own G) (he : v 52 a = some (.inl (G.2.2.2.2 2, n, .inr (.inl fl)))) (hi : i < n) (hn : n < 2 ^ 31) (hd : decode cc pc = .ok (.lastore, 1)) (k : vV p l e R s m args below meth c Q G nL (vv_up v 52 a (.inl (G.2.2.2.2 2, n, .inr (.inl (vp_updL fl i x))))) kc ks (pc + 1) lv st) : vV p l e R s m args below meth c Q G nL v kc ks pc lv (.long x :: .int (nI i) :: .ref a :: st) := v_last C he (vp_in_nI hi hn) hd (by rw [nI_clamp (Nat.lt_trans hi hn)]; exact k)
end VN
-- numbers
abbrev zIn (x : Int32) (a b : Int) : Prop := a ≤ x.toInt ∧ x.toInt ≤ b
theorem zIn_nI {x : Int32} {a b : Nat} (h : zIn x a b) : ∃ n : Nat, x = nI n ∧ a ≤ n ∧ n ≤ b ∧ n < 2 ^ 31 := by
  obtain ⟨h1, h2⟩ := h
  have h0 : ¬ x < 0 := fun z => by have := Int32.lt_iff_toInt_lt.mp z; simp at this; omega
  obtain ⟨n, hn, rfl⟩ := nI_of h0
  rw [nI_toInt hn] at h1 h2
  exact ⟨n, rfl, by omega, by omega, hn⟩
theorem zIn_of {n a b : Nat} (h1 : a ≤ n) (h2 : n ≤ b) (h : n < 2 ^ 31) : zIn (nI n) a b := by
  unfold zIn
  rw [nI_toInt h]
  omega
def zn (x : Int32) : Nat := x.toNatClampNeg
theorem zn_nI {n : Nat} (h : n < 2 ^ 31) : zn (nI n) = n := nI_clamp h
abbrev zTm (S : zS) (t : Int64) : Prop := (zl S 0 0).toInt ≤ t.toInt ∧ t.toInt ≤ 1000000000
end
section
-- THE OPERATIONS on the state
theorem i_ge {x y : Int32} : y ≤ x ↔ y.toInt ≤ x.toInt := Int32.le_iff_toInt_le
/-- how many of the first n channels are wished, at place b -/
def zwn (S : zS) (b : Nat) : Nat → Nat
  | 0 => 0
  | n + 1 => zwn S b n + (if 0 < (zi S 8 (b + n)).toInt then 1 else 0)
theorem zwn_le (S : zS) (b n : Nat) : zwn S b n ≤ n := by
  induction n with
  | zero => exact Nat.le_refl _
  | succ n ih => unfold zwn; split <;> omega
/-- the pair of a customer and an item -/
def zpf (S : zS) (x it : Int32) : Nat → Option Nat
  | 0 => none
  | n + 1 => if zi S 19 n = x ∧ zi S 20 n = it then some n else zpf S x it n
theorem zpf_lt {S : zS} {x it : Int32} {n k : Nat} (h : zpf S x it n = some k) : k < n ∧ zi S 19 k = x ∧ zi S 20 k = it := by
  induction n with
  | zero => cases h
  | succ n ih =>
    unfold zpf at h
    split at h
    · rename_i h1
      cases h
      exact ⟨Nat.lt_succ_self _, h1⟩
    · obtain ⟨h1, h2⟩ := ih h
      exact ⟨by omega, h2⟩
def zix (o : Option Nat) : Int32 := match o with
  | none => -1
  | some k => nI k
def zkeep (S : zS) (x it : Int32) : zS := match zpf S x it (zc S 2) with
  | some _ => S
  | none => zuc (zui (zui (zui (zui S 19 (zc S 2) x) 20 (zc S 2) it) 21 (zc S 2) 0) 22 (zc S 2) 0) 2 (zc S 2 + 1)
def zkix (S : zS) (x it : Int32) : Nat := match zpf S x it (zc S 2) with
  | some k => k
  | none => zc S 2
def zput (S : zS) (x it k : Int32) (t w : Int64) (cr : Int32) : zS :=
  zui (zui (zui (zul (zul (zui (zui (zui (zuc S 1 (zc S 1 + 1)) 10 (zc S 1 + 1) x) 11 (zc S 1 + 1) it) 12 (zc S 1 + 1) k) 13 (zc S 1 + 1) t) 14 (zc S 1 + 1) w) 15 (zc S 1 + 1) 0) 16 (zc S 1 + 1) cr) 17 (zc S 1 + 1) 0
def oCust (S : zS) (a b : Int32) : Int32 × zS := if zIn a 0 9 ∧ zIn b (-12) 14 then (if zc S 0 = 40 then (-14, S) else (nI (zc S 0 + 1), zui (zui (zuc S 0 (zc S 0 + 1)) 4 (zc S 0 + 1) a) 5 (zc S 0 + 1) b)) else (-12, S)
def oWish (S : zS) (x k ch od : Int32) : Int32 × zS := if zIn x 1 (zc S 0) then (if zIn k 0 7 ∧ zIn ch 0 3 ∧ zIn od 0 9 then (nI (zwn (zui S 8 (32 * zn x + 4 * zn k + zn ch) (od + 1)) (32 * zn x + 4 * zn k) 4), zui S 8 (32 * zn x + 4 * zn k + zn ch) (od + 1)) else (-12, S)) else (-11, S)
def oQuiet (S : zS) (x a b : Int32) : Int32 × zS := if zIn x 1 (zc S 0) then (if zIn a 0 1439 ∧ zIn b 0 1439 then (b - a + 1440 - (b - a + 1440) / 1440 * 1440, zui (zui S 6 (zn x) a) 7 (zn x) b) else (-12, S)) else (-11, S)
def oJoin (S : zS) (a : Int32) : Int32 × zS := if zIn a 0 1440 then (zi S 1 0, zui S 1 0 a) else (-12, S)
def oWorks (S : zS) (ch on : Int32) : Int32 × zS := if zIn ch 0 3 then (1 - zi S 2 (zn ch), zui S 2 (zn ch) (1 - on)) else (0, S)
def oFail (S : zS) (i : Int32) : Int32 × zS := (if zIn i 0 ((zc S 4 : Int) - 1) then zi S 29 (zn i) else -1, S)
theorem i_le0 {x : Int32} : x ≤ 0 ↔ ¬ 0 < x.toInt := by
  rw [Int32.le_iff_toInt_le, Int32.toInt_zero]; omega
theorem i_lt0 {x : Int32} : x < 0 ↔ x.toInt < 0 := by
  rw [Int32.lt_iff_toInt_lt, Int32.toInt_zero]
theorem i_gt0 {x : Int32} : 0 < x ↔ 0 < x.toInt := by
  rw [Int32.lt_iff_toInt_lt, Int32.toInt_zero]
theorem i_ge0 {x : Int32} : 0 ≤ x ↔ 0 ≤ x.toInt := by
  rw [Int32.le_iff_toInt_le, Int32.toInt_zero]
set_option maxHeartbeats 4000000 in
set_option maxRecDepth 100000 in
theorem c_M_isCustomer (l : Launch) (G : vv_G) (v : vv_V) (o : Nat) (ad : Nat → Nat) (S : zS) (x : Int32) (hR : RM G v o ad S) (hn : zc S 0 < 2 ^ 31) : Mv l y_M_isCustomer b_M_isCustomer 2 (some FieldType.boolean) 1 25 G v [.ref o, .int x] (fun r v' => (r = some (.int 1) ∧ v' = v ∧ (zIn x 1 (zc S 0))) ∨ (r = some (.int 0) ∧ v' = v ∧ ¬ (zIn x 1 (zc S 0)))) 0 0 := by
  refine vv_metF (own := "CustomerNoticesModel") (nm := "isCustomer") pf_M_isCustomer rfl rfl (Nat.le_of_ble_eq_true rfl) ?_
  intro p e s m below meth c C hin
  have hk : vkeep (mX o ad) v v := vkeep.rf
  show vV _ _ _ _ _ _ _ _ _ _ _ _ _ v 0 0 0 [(0, .ref o), (1, .int x)] []
  refine v_iload_n C 1 d_M_isCustomer_0 rfl rfl ?_
  refine v_i2l (y := (Int32.toInt64 x)) C d_M_isCustomer_1 rfl ?_
  refine v_lconst (x := 1) C d_M_isCustomer_2 (by decide) ?_
  refine v_aload_n C 0 d_M_isCustomer_3 rfl rfl ?_
  refine v_get C k_M hR.1 3 (by decide) tw_486 (fun _ h => h) rfl d_M_isCustomer_4 ?_
  refine v_i2l (y := (Int32.toInt64 (nI (zc S 0)))) C d_M_isCustomer_7 rfl ?_
  refine v_callS (rest := []) C (c_M_isIn l G v (Int32.toInt64 x) 1 (Int32.toInt64 (nI (zc S 0)))) tw_588 tw_34 tw_586 tw_587 mn_M_isIn ⟨Nat.le_of_ble_eq_true rfl, Nat.le_of_ble_eq_true rfl⟩ rfl rfl (Nat.le_of_ble_eq_true rfl) d_M_isCustomer_8 ⟨(by first | exact Nat.le_of_ble_eq_true rfl | (show _ ≤ _; omega)), (by first | exact Nat.le_of_ble_eq_true rfl | (show _ ≤ _; omega))⟩ (fun r_1 v_2 hp_3 => ?_)
  rcases hp_3 with ⟨rfl, hv9, hb_8⟩ | ⟨rfl, hv9, hb_8⟩
  · obtain rfl := hv9.symm
    show vV _ _ _ _ _ _ _ _ _ _ _ _ _ v 0 0 11 [(0, .ref o), (1, .int x)] [.int 1]
    exact v_zret C d_M_isCustomer_11 (by first | exact Nat.le_of_ble_eq_true rfl | (show _ ≤ _; omega)) (by first | exact Nat.le_of_ble_eq_true rfl | (show _ ≤ _; omega)) (by decide) (Or.inl ⟨rfl, rfl, (by rw [i64_toInt, i64_toInt, nI_toInt hn] at hb_8; exact hb_8)⟩)
  · obtain rfl := hv9.symm
    show vV _ _ _ _ _ _ _ _ _ _ _ _ _ v 0 0 11 [(0, .ref o), (1, .int x)] [.int 0]
    exact v_zret C d_M_isCustomer_11 (by first | exact Nat.le_of_ble_eq_true rfl | (show _ ≤ _; omega)) (by first | exact Nat.le_of_ble_eq_true rfl | (show _ ≤ _; omega)) (by decide) (Or.inr ⟨rfl, rfl, (by rw [i64_toInt, i64_toInt, nI_toInt hn] at hb_8; exact hb_8)⟩)
set_option maxHeartbeats 4000000 in
set_option maxRecDepth 100000 in
theorem c_M_isTime (l : Launch) (G : vv_G) (v : vv_V) (o : Nat) (ad : Nat → Nat) (S : zS) (t : Int64) (hR : RM G v o ad S) : Mv l y_M_isTime b_M_isTime 3 (some FieldType.boolean) 1 25 G v [.ref o, .long t] (fun r v' => (r = some (.int 1) ∧ v' = v ∧ (zTm S t)) ∨ (r = some (.int 0) ∧ v' = v ∧ ¬ (zTm S t))) 0 0 := by
  refine vv_metF (own := "CustomerNoticesModel") (nm := "isTime") pf_M_isTime rfl rfl (Nat.le_of_ble_eq_true rfl) ?_
  intro p e s m below meth c C hin
  have hk : vkeep (mX o ad) v v := vkeep.rf
  show vV _ _ _ _ _ _ _ _ _ _ _ _ _ v 0 0 0 [(0, .ref o), (1, .long t)] []
  refine v_lload_n C 1 d_M_isTime_0 rfl rfl ?_
  refine v_aload_n C 0 d_M_isTime_1 rfl rfl ?_
  refine v_get C k_M hR.1 0 (by decide) tw_483 (fun _ h => h) rfl d_M_isTime_2 ?_
  refine v_ldc2 (x := 1000000000) C d_M_isTime_5 tw_619 ?_
  refine v_callS (rest := []) C (c_M_isIn l G v t (zl S 0 0) 1000000000) tw_588 tw_34 tw_586 tw_587 mn_M_isIn ⟨Nat.le_of_ble_eq_true rfl, Nat.le_of_ble_eq_true rfl⟩ rfl rfl (Nat.le_of_ble_eq_true rfl) d_M_isTime_8 ⟨(by first | exact Nat.le_of_ble_eq_true rfl | (show _ ≤ _; omega)), (by first | exact Nat.le_of_ble_eq_true rfl | (show _ ≤ _; omega))⟩ (fun r_1 v_2 hp_3 => ?_)
  rcases hp_3 with ⟨rfl, hv9, hb_8⟩ | ⟨rfl, hv9, hb_8⟩
  · obtain rfl := hv9.symm
    show vV _ _ _ _ _ _ _ _ _ _ _ _ _ v 0 0 11 [(0, .ref o), (1, .long t)] [.int 1]
    exact v_zret C d_M_isTime_11 (by first | exact Nat.le_of_ble_eq_true rfl | (show _ ≤ _; omega)) (by first | exact Nat.le_of_ble_eq_true rfl | (show _ ≤ _; omega)) (by decide) (Or.inl ⟨rfl, rfl, hb_8⟩)
  · obtain rfl := hv9.symm
    show vV _ _ _ _ _ _ _ _ _ _ _ _ _ v 0 0 11 [(0, .ref o), (1, .long t)] [.int 0]
    exact v_zret C d_M_isTime_11 (by first | exact Nat.le_of_ble_eq_true rfl | (show _ ≤ _; omega)) (by first | exact Nat.le_of_ble_eq_true rfl | (show _ ≤ _; omega)) (by decide) (Or.inr ⟨rfl, rfl, hb_8⟩)
set_option maxHeartbeats 4000000 in
set_option maxRecDepth 100000 in
theorem c_M_customer (l : Launch) (G : vv_G) (v : vv_V) (o : Nat) (ad : Nat → Nat) (S : zS) (a b : Int32) (hR : RM G v o ad S) (hB : zc S 0 ≤ 40) : Mv l y_M_customer b_M_customer 3 (some FieldType.int) 1 25 G v [.ref o, .int a, .int b] (fun r v' => r = some (.int (oCust S a b).1) ∧ RM G v' o ad (oCust S a b).2 ∧ vkeep (mX o ad) v v') 0 0 := by
  refine vv_metF (own := "CustomerNoticesModel") (nm := "customer") pf_M_customer rfl rfl (Nat.le_of_ble_eq_true rfl) ?_
  intro p e s m below meth c C hin
  have hk : vkeep (mX o ad) v v := vkeep.rf
  show vV _ _ _ _ _ _ _ _ _ _ _ _ _ v 0 0 0 [(0, .ref o), (1, .int a), (2, .int b)] []
  refine v_iload_n C 1 d_M_customer_0 rfl rfl ?_
  refine v_i2l (y := (Int32.toInt64 a)) C d_M_customer_1 rfl ?_
  refine v_lconst (x := 0) C d_M_customer_2 (by decide) ?_
  refine v_ldc2 (x := 9) C d_M_customer_3 tw_585 ?_
  refine v_callS (rest := []) C (c_M_isIn l G v (Int32.toInt64 a) 0 9) tw_588 tw_34 tw_586 tw_587 mn_M_isIn ⟨Nat.le_of_ble_eq_true rfl, Nat.le_of_ble_eq_true rfl⟩ rfl rfl (Nat.le_of_ble_eq_true rfl) d_M_customer_6 ⟨(by first | exact Nat.le_of_ble_eq_true rfl | (show _ ≤ _; omega)), (by first | exact Nat.le_of_ble_eq_true rfl | (show _ ≤ _; omega))⟩ (fun r_1 v_2 hp_3 => ?_)
  rcases hp_3 with ⟨rfl, hv9, hb_6⟩ | ⟨rfl, hv9, hb_6⟩
  · obtain rfl := hv9.symm
    show vV _ _ _ _ _ _ _ _ _ _ _ _ _ v 0 0 9 [(0, .ref o), (1, .int a), (2, .int b)] [.int 1]
    refine v_if_eq C 26 d_M_customer_9 (by decide) (fun z => absurd z (by decide)) (fun _ => ?_)
    refine v_iload_n C 2 d_M_customer_12 rfl rfl ?_
    refine v_i2l (y := (Int32.toInt64 b)) C d_M_customer_13 rfl ?_
    refine v_ldc2 (x := -12) C d_M_customer_14 tw_589 ?_
    refine v_ldc2 (x := 14) C d_M_customer_17 tw_590 ?_
    refine v_callS (rest := []) C (c_M_isIn l G v (Int32.toInt64 b) (-12) 14) tw_588 tw_34 tw_586 tw_587 mn_M_isIn ⟨Nat.le_of_ble_eq_true rfl, Nat.le_of_ble_eq_true rfl⟩ rfl rfl (Nat.le_of_ble_eq_true rfl) d_M_customer_20 ⟨(by first | exact Nat.le_of_ble_eq_true rfl | (show _ ≤ _; omega)), (by first | exact Nat.le_of_ble_eq_true rfl | (show _ ≤ _; omega))⟩ (fun r_4 v_5 hp_6 => ?_)
    rcases hp_6 with ⟨rfl, hv9, hb_20⟩ | ⟨rfl, hv9, hb_20⟩
    · obtain rfl := hv9.symm
      show vV _ _ _ _ _ _ _ _ _ _ _ _ _ v 0 0 23 [(0, .ref o), (1, .int a), (2, .int b)] [.int 1]
      refine v_if_ne C 29 d_M_customer_23 (by decide) (fun _ => ?_) (fun z => absurd z (by decide))
      refine v_aload_n C 0 d_M_customer_29 rfl rfl ?_
      refine v_get C k_M hR.1 3 (by decide) tw_486 (fun _ h => h) rfl d_M_customer_30 ?_
      refine v_bipush (x := 40) C d_M_customer_33 (by decide) ?_
      by_cases hc40 : zc S 0 = 40
      · refine v_icmp_ne C 41 d_M_customer_35 (by decide) (fun z => absurd (by rw [hc40]; rfl) z) (fun _ => ?_)
        refine v_bipush (x := -14) C d_M_customer_38 (by decide) ?_
        exact v_iret C d_M_customer_40 (by first | exact Nat.le_of_ble_eq_true rfl | (show _ ≤ _; omega)) (by first | exact Nat.le_of_ble_eq_true rfl | (show _ ≤ _; omega)) ⟨(by rw [i64_toInt] at hb_6; rw [i64_toInt] at hb_20; rw [oCust, if_pos ⟨hb_6, hb_20⟩, if_pos hc40] <;> (try rfl)), (by rw [i64_toInt] at hb_6; rw [i64_toInt] at hb_20; rw [oCust, if_pos ⟨hb_6, hb_20⟩, if_pos hc40]; exact hR), hk⟩
      · refine v_icmp_ne C 41 d_M_customer_35 (by decide) (fun _ => ?_) (fun z => absurd ((nI_eq (b := 40) (by omega) (by decide)).mp z) hc40)
        refine v_aload_n C 0 d_M_customer_41 rfl rfl ?_
        refine v_dup C d_M_customer_42 rfl ?_
        refine v_get C k_M hR.1 3 (by decide) tw_486 (fun _ h => h) rfl d_M_customer_43 ?_
        refine v_iconst (x := 1) C d_M_customer_46 (by decide) ?_
        refine v_iadd C d_M_customer_47 ?_
        refine v_toi (y := nI ((zc S 0) + 1)) (nI_add (zc S 0) 1) ?_
        refine v_put C k_M hR.1 3 (by decide) tw_486 (fun _ h => h) rfl rfl rfl (Nat.le_of_ble_eq_true rfl) d_M_customer_48 ?_
        refine v_view (fun v1 ev1 => ?_)
        obtain ⟨S_7, eS_7⟩ : ∃ z, z = zuc S 0 ((zc S 0) + 1) := ⟨_, rfl⟩
        have hR_7 : RM G v1 o ad S_7 := by rw [eS_7]; exact (by rw [ev1]; exact hR.puts rfl (fun f hf => rfl) (fun f hf => rfl))
        have hk_7 : vkeep (mX o ad) v v1 := by rw [ev1]; exact hk.up mX_o
        refine v_aload_n C 0 d_M_customer_51 rfl rfl ?_
        refine v_get C k_M hR_7.1 4 (by decide) tw_487 (fun _ h => h) rfl d_M_customer_52 ?_
        refine v_aload_n C 0 d_M_customer_55 rfl rfl ?_
        refine v_get C k_M hR_7.1 3 (by decide) tw_486 (fun _ h => h) rfl d_M_customer_56 ?_
        refine v_toi (y := nI ((zc S 0) + 1)) (by rw [eS_7]; rfl) ?_
        refine v_iload_n C 1 d_M_customer_59 rfl rfl ?_
        refine v_iastN C (hR_7.oi (f := 4) (by decide)) (by show _ < 41; omega) (by decide) d_M_customer_60 ?_
        refine v_view (fun v2 ev2 => ?_)
        obtain ⟨S_8, eS_8⟩ : ∃ z, z = zui S_7 4 ((zc S 0) + 1) a := ⟨_, rfl⟩
        have hR_8 : RM G v2 o ad S_8 := by rw [eS_8]; exact (by rw [ev2]; exact hR_7.puti 4 (by decide) ((zc S 0) + 1) a)
        have hk_8 : vkeep (mX o ad) v v2 := by rw [ev2]; exact hk_7.up (mX_f (by decide))
        refine v_aload_n C 0 d_M_customer_61 rfl rfl ?_
        refine v_get C k_M hR_8.1 5 (by decide) tw_488 (fun _ h => h) rfl d_M_customer_62 ?_
        refine v_aload_n C 0 d_M_customer_65 rfl rfl ?_
        refine v_get C k_M hR_8.1 3 (by decide) tw_486 (fun _ h => h) rfl d_M_customer_66 ?_
        refine v_toi (y := nI ((zc S 0) + 1)) (by rw [eS_8, eS_7]; rfl) ?_
        refine v_iload_n C 2 d_M_customer_69 rfl rfl ?_
        refine v_iastN C (hR_8.oi (f := 5) (by decide)) (by show _ < 41; omega) (by decide) d_M_customer_70 ?_
        refine v_view (fun v3 ev3 => ?_)
        obtain ⟨S_9, eS_9⟩ : ∃ z, z = zui S_8 5 ((zc S 0) + 1) b := ⟨_, rfl⟩
        have hR_9 : RM G v3 o ad S_9 := by rw [eS_9]; exact (by rw [ev3]; exact hR_8.puti 5 (by decide) ((zc S 0) + 1) b)
        have hk_9 : vkeep (mX o ad) v v3 := by rw [ev3]; exact hk_8.up (mX_f (by decide))
        refine v_aload_n C 0 d_M_customer_71 rfl rfl ?_
        refine v_get C k_M hR_9.1 3 (by decide) tw_486 (fun _ h => h) rfl d_M_customer_72 ?_
        refine v_toi (y := nI ((zc S 0) + 1)) (by rw [eS_9, eS_8, eS_7]; rfl) ?_
        exact v_iret C d_M_customer_75 (by first | exact Nat.le_of_ble_eq_true rfl | (show _ ≤ _; omega)) (by first | exact Nat.le_of_ble_eq_true rfl | (show _ ≤ _; omega)) ⟨(by rw [i64_toInt] at hb_6; rw [i64_toInt] at hb_20; rw [oCust, if_pos ⟨hb_6, hb_20⟩, if_neg hc40] <;> (try rfl)), (by rw [i64_toInt] at hb_6; rw [i64_toInt] at hb_20; rw [oCust, if_pos ⟨hb_6, hb_20⟩, if_neg hc40]; subst eS_7 eS_8 eS_9; exact hR_9), hk_9⟩
    · obtain rfl := hv9.symm
      show vV _ _ _ _ _ _ _ _ _ _ _ _ _ v 0 0 23 [(0, .ref o), (1, .int a), (2, .int b)] [.int 0]
      refine v_if_ne C 29 d_M_customer_23 (by decide) (fun z => absurd (by decide) z) (fun _ => ?_)
      refine v_bipush (x := -12) C d_M_customer_26 (by decide) ?_
      exact v_iret C d_M_customer_28 (by first | exact Nat.le_of_ble_eq_true rfl | (show _ ≤ _; omega)) (by first | exact Nat.le_of_ble_eq_true rfl | (show _ ≤ _; omega)) ⟨(by rw [i64_toInt] at hb_6; rw [i64_toInt] at hb_20; rw [oCust, if_neg (fun z => hb_20 z.2)] <;> (try rfl)), (by rw [i64_toInt] at hb_6; rw [i64_toInt] at hb_20; rw [oCust, if_neg (fun z => hb_20 z.2)]; exact hR), hk⟩
  · obtain rfl := hv9.symm
    show vV _ _ _ _ _ _ _ _ _ _ _ _ _ v 0 0 9 [(0, .ref o), (1, .int a), (2, .int b)] [.int 0]
    refine v_if_eq C 26 d_M_customer_9 (by decide) (fun _ => ?_) (fun z => absurd (by decide) z)
    refine v_bipush (x := -12) C d_M_customer_26 (by decide) ?_
    exact v_iret C d_M_customer_28 (by first | exact Nat.le_of_ble_eq_true rfl | (show _ ≤ _; omega)) (by first | exact Nat.le_of_ble_eq_true rfl | (show _ ≤ _; omega)) ⟨(by rw [i64_toInt] at hb_6; rw [oCust, if_neg (fun z => hb_6 z.1)] <;> (try rfl)), (by rw [i64_toInt] at hb_6; rw [oCust, if_neg (fun z => hb_6 z.1)]; exact hR), hk⟩
set_option maxHeartbeats 4000000 in
set_option maxRecDepth 100000 in
theorem lp_M_wished {p : Program} {l : Launch} {e : Env} {R : Room} {s : State} {m : MethodId} {args : Array Value} {below : List Frame} {meth : Method} {c : Code} {Q : State → Prop} {G : vv_G} {o : Nat} {ad : Nat → Nat} {S : zS} {v : vv_V} {kc ks cu kd : Nat} (C : vC p s m args meth c b_M_wished 5 (some FieldType.int) "CustomerNoticesModel" G) (hR : RM G v o ad S) (hcu : cu ≤ 40) (hkd : kd ≤ 7) (kx : vV p l e R s m args below meth c Q G 5 v kc ks 44 [(4, .int (nI 4)), (3, .int (nI (zwn S ((32 * cu) + (4 * kd)) 4))), (0, .ref o), (1, .int (nI cu)), (2, .int (nI kd))] []) : ∀ (n : Nat) (j : Nat), j ≤ 4 → 5 ≤ j + n → vV p l e R s m args below meth c Q G 5 v kc ks 5 [(4, .int (nI j)), (3, .int (nI (zwn S ((32 * cu) + (4 * kd)) j))), (0, .ref o), (1, .int (nI cu)), (2, .int (nI kd))] [] := by
  intro n
  induction n with
  | zero => intro j h1 h2; exfalso; omega
  | succ n ih =>
    intro j h1 h2
    refine v_iload C 0 d_M_wished_5 rfl ?_
    refine v_iconst (x := 4) C d_M_wished_7 (by decide) ?_
    refine v_icmp_ge C 44 d_M_wished_8 (by decide) (fun c_8 => ?_) (fun c_8 => ?_)
    · have n_8 : 4 ≤ j := (nI_leI (a := 4) (b := j) (by omega) (by omega)).mp c_8
      have hj4 : j = 4 := by have := (nI_leI (a := 4) (by decide) (by omega)).mp c_8; omega
      subst hj4
      exact kx
    · have n_8 : ¬ 4 ≤ j := mt (nI_leI (a := 4) (b := j) (by omega) (by omega)).mpr c_8
      have hj : j < 4 := Nat.lt_of_not_le (fun z => c_8 ((nI_leI (a := 4) (by decide) (by omega)).mpr z))
      refine v_aload_n C 2 d_M_wished_11 rfl rfl ?_
      refine v_get C k_M hR.1 8 (by decide) tw_491 (fun _ h => h) rfl d_M_wished_12 ?_
      refine v_bipush (x := 32) C d_M_wished_15 (by decide) ?_
      refine v_iload_n C 3 d_M_wished_17 rfl rfl ?_
      refine v_imul C d_M_wished_18 ?_
      refine v_toi (y := nI (32 * cu)) (pk_mul 32 cu) ?_
      refine v_iconst (x := 4) C d_M_wished_19 (by decide) ?_
      refine v_iload_n C 4 d_M_wished_20 rfl rfl ?_
      refine v_imul C d_M_wished_21 ?_
      refine v_toi (y := nI (4 * kd)) (pk_mul 4 kd) ?_
      refine v_iadd C d_M_wished_22 ?_
      refine v_toi (y := nI ((32 * cu) + (4 * kd))) (nI_add (32 * cu) (4 * kd)) ?_
      refine v_iload C 0 d_M_wished_23 rfl ?_
      refine v_iadd C d_M_wished_25 ?_
      refine v_toi (y := nI (((32 * cu) + (4 * kd)) + j)) (nI_add ((32 * cu) + (4 * kd)) j) ?_
      refine v_ialdN C (hR.oi (f := 8) (by decide)) (by show _ < 1312; omega) (by decide) d_M_wished_26 ?_
      refine v_if_le C 36 d_M_wished_27 (by decide) (fun c_27 => ?_) (fun c_27 => ?_)
      · refine v_iload_n C 1 d_M_wished_36 rfl rfl ?_
        refine v_toi (y := nI (zwn S ((32 * cu) + (4 * kd)) (j + 1))) (by rw [zwn, if_neg (i_le0.mp c_27), Nat.add_zero]) ?_
        refine v_istore_n (lv' := [(3, .int (nI (zwn S ((32 * cu) + (4 * kd)) (j + 1)))), (4, .int (nI j)), (0, .ref o), (1, .int (nI cu)), (2, .int (nI kd))]) C d_M_wished_37 rfl (by decide) rfl ?_
        refine v_iinc (y := (nI (j + 1))) (lv' := [(4, .int (nI (j + 1))), (3, .int (nI (zwn S ((32 * cu) + (4 * kd)) (j + 1)))), (0, .ref o), (1, .int (nI cu)), (2, .int (nI kd))]) C 1 d_M_wished_38 rfl (nI_1 _) (by decide) rfl ?_
        refine v_goto C 5 d_M_wished_41 (by decide) ?_
        refine v_sub [0, 1, 2, 3, 4] rfl ?_
        exact ih (j + 1) (by omega) (by omega)
      · refine v_iload_n C 1 d_M_wished_30 rfl rfl ?_
        refine v_iconst (x := 1) C d_M_wished_31 (by decide) ?_
        refine v_iadd C d_M_wished_32 ?_
        refine v_toi (y := nI ((zwn S ((32 * cu) + (4 * kd)) j) + 1)) (nI_add (zwn S ((32 * cu) + (4 * kd)) j) 1) ?_
        refine v_goto C 37 d_M_wished_33 (by decide) ?_
        refine v_toi (y := nI (zwn S ((32 * cu) + (4 * kd)) (j + 1))) (by rw [zwn, if_pos (Decidable.not_not.mp (mt i_le0.mpr c_27))]) ?_
        refine v_istore_n (lv' := [(3, .int (nI (zwn S ((32 * cu) + (4 * kd)) (j + 1)))), (4, .int (nI j)), (0, .ref o), (1, .int (nI cu)), (2, .int (nI kd))]) C d_M_wished_37 rfl (by decide) rfl ?_
        refine v_iinc (y := (nI (j + 1))) (lv' := [(4, .int (nI (j + 1))), (3, .int (nI (zwn S ((32 * cu) + (4 * kd)) (j + 1)))), (0, .ref o), (1, .int (nI cu)), (2, .int (nI kd))]) C 1 d_M_wished_38 rfl (nI_1 _) (by decide) rfl ?_
        refine v_goto C 5 d_M_wished_41 (by decide) ?_
        refine v_sub [0, 1, 2, 3, 4] rfl ?_
        exact ih (j + 1) (by omega) (by omega)
set_option maxHeartbeats 4000000 in
set_option maxRecDepth 100000 in
theorem c_M_wished (l : Launch) (G : vv_G) (v : vv_V) (o : Nat) (ad : Nat → Nat) (S : zS) (cu kd : Nat) (hR : RM G v o ad S) (hcu : cu ≤ 40) (hkd : kd ≤ 7) : Mv l y_M_wished b_M_wished 5 (some FieldType.int) 0 0 G v [.ref o, .int (nI cu), .int (nI kd)] (fun r v' => r = some (.int (nI (zwn S (32 * cu + 4 * kd) 4))) ∧ v' = v) 0 0 := by
  refine vv_metF (own := "CustomerNoticesModel") (nm := "wished") pf_M_wished rfl rfl (Nat.le_of_ble_eq_true rfl) ?_
  intro p e s m below meth c C hin
  have hk : vkeep (mX o ad) v v := vkeep.rf
  show vV _ _ _ _ _ _ _ _ _ _ _ _ _ v 0 0 0 [(0, .ref o), (1, .int (nI cu)), (2, .int (nI kd))] []
  refine v_iconst (x := 0) C d_M_wished_0 (by decide) ?_
  refine v_istore_n (lv' := [(3, .int 0), (0, .ref o), (1, .int (nI cu)), (2, .int (nI kd))]) C d_M_wished_1 rfl (by decide) rfl ?_
  refine v_iconst (x := 0) C d_M_wished_2 (by decide) ?_
  refine v_istore (lv' := [(4, .int 0), (3, .int 0), (0, .ref o), (1, .int (nI cu)), (2, .int (nI kd))]) C d_M_wished_3 (by decide) rfl ?_
  refine v_sub [0, 1, 2, 3, 4] rfl ?_
  refine lp_M_wished C hR hcu hkd ?_ 5 0 (by omega) (by omega)
  refine v_iload_n C 1 d_M_wished_44 rfl rfl ?_
  exact v_iret C d_M_wished_45 (by first | exact Nat.le_of_ble_eq_true rfl | (show _ ≤ _; omega)) (by first | exact Nat.le_of_ble_eq_true rfl | (show _ ≤ _; omega)) ⟨rfl, rfl⟩
set_option maxHeartbeats 4000000 in
set_option maxRecDepth 100000 in
theorem c_M_wish (l : Launch) (G : vv_G) (v : vv_V) (o : Nat) (ad : Nat → Nat) (S : zS) (x k ch od : Int32) (hR : RM G v o ad S) (hB : zc S 0 ≤ 40) : Mv l y_M_wish b_M_wish 5 (some FieldType.int) 2 46 G v [.ref o, .int x, .int k, .int ch, .int od] (fun r v' => r = some (.int (oWish S x k ch od).1) ∧ RM G v' o ad (oWish S x k ch od).2 ∧ vkeep (mX o ad) v v') 0 0 := by
  refine vv_metF (own := "CustomerNoticesModel") (nm := "wish") pf_M_wish rfl rfl (Nat.le_of_ble_eq_true rfl) ?_
  intro p e s m below meth c C hin
  have hk : vkeep (mX o ad) v v := vkeep.rf
  show vV _ _ _ _ _ _ _ _ _ _ _ _ _ v 0 0 0 [(0, .ref o), (1, .int x), (2, .int k), (3, .int ch), (4, .int od)] []
  refine v_aload_n C 0 d_M_wish_0 rfl rfl ?_
  refine v_iload_n C 1 d_M_wish_1 rfl rfl ?_
  refine v_callV (rest := []) C (c_M_isCustomer l G v o ad S x hR (by omega)) tw_598 tw_34 tw_595 tw_597 tw_19 mn_M_isCustomer hR.1 k_M.1 ⟨Nat.le_of_ble_eq_true rfl, Nat.le_of_ble_eq_true rfl⟩ rfl rfl (Nat.le_of_ble_eq_true rfl) d_M_wish_2 ⟨(by first | exact Nat.le_of_ble_eq_true rfl | (show _ ≤ _; omega)), (by first | exact Nat.le_of_ble_eq_true rfl | (show _ ≤ _; omega))⟩ (fun r_1 v_2 hp_3 => ?_)
  rcases hp_3 with ⟨rfl, hv9, hb_2⟩ | ⟨rfl, hv9, hb_2⟩
  · obtain rfl := hv9.symm
    show vV _ _ _ _ _ _ _ _ _ _ _ _ _ v 0 0 5 [(0, .ref o), (1, .int x), (2, .int k), (3, .int ch), (4, .int od)] [.int 1]
    refine v_if_ne C 11 d_M_wish_5 (by decide) (fun _ => ?_) (fun z => absurd z (by decide))
    refine v_iload_n C 2 d_M_wish_11 rfl rfl ?_
    refine v_i2l (y := (Int32.toInt64 k)) C d_M_wish_12 rfl ?_
    refine v_lconst (x := 0) C d_M_wish_13 (by decide) ?_
    refine v_ldc2 (x := 7) C d_M_wish_14 tw_599 ?_
    refine v_callS (rest := []) C (c_M_isIn l G v (Int32.toInt64 k) 0 7) tw_588 tw_34 tw_586 tw_587 mn_M_isIn ⟨Nat.le_of_ble_eq_true rfl, Nat.le_of_ble_eq_true rfl⟩ rfl rfl (Nat.le_of_ble_eq_true rfl) d_M_wish_17 ⟨(by first | exact Nat.le_of_ble_eq_true rfl | (show _ ≤ _; omega)), (by first | exact Nat.le_of_ble_eq_true rfl | (show _ ≤ _; omega))⟩ (fun r_4 v_5 hp_6 => ?_)
    rcases hp_6 with ⟨rfl, hv9, hb_17⟩ | ⟨rfl, hv9, hb_17⟩
    · obtain rfl := hv9.symm
      show vV _ _ _ _ _ _ _ _ _ _ _ _ _ v 0 0 20 [(0, .ref o), (1, .int x), (2, .int k), (3, .int ch), (4, .int od)] [.int 1]
      refine v_if_eq C 48 d_M_wish_20 (by decide) (fun z => absurd z (by decide)) (fun _ => ?_)
      refine v_iload_n C 3 d_M_wish_23 rfl rfl ?_
      refine v_i2l (y := (Int32.toInt64 ch)) C d_M_wish_24 rfl ?_
      refine v_lconst (x := 0) C d_M_wish_25 (by decide) ?_
      refine v_ldc2 (x := 3) C d_M_wish_26 tw_600 ?_
      refine v_callS (rest := []) C (c_M_isIn l G v (Int32.toInt64 ch) 0 3) tw_588 tw_34 tw_586 tw_587 mn_M_isIn ⟨Nat.le_of_ble_eq_true rfl, Nat.le_of_ble_eq_true rfl⟩ rfl rfl (Nat.le_of_ble_eq_true rfl) d_M_wish_29 ⟨(by first | exact Nat.le_of_ble_eq_true rfl | (show _ ≤ _; omega)), (by first | exact Nat.le_of_ble_eq_true rfl | (show _ ≤ _; omega))⟩ (fun r_7 v_8 hp_9 => ?_)
      rcases hp_9 with ⟨rfl, hv9, hb_29⟩ | ⟨rfl, hv9, hb_29⟩
      · obtain rfl := hv9.symm
        show vV _ _ _ _ _ _ _ _ _ _ _ _ _ v 0 0 32 [(0, .ref o), (1, .int x), (2, .int k), (3, .int ch), (4, .int od)] [.int 1]
        refine v_if_eq C 48 d_M_wish_32 (by decide) (fun z => absurd z (by decide)) (fun _ => ?_)
        refine v_iload C 4 d_M_wish_35 rfl ?_
        refine v_i2l (y := (Int32.toInt64 od)) C d_M_wish_37 rfl ?_
        refine v_lconst (x := 0) C d_M_wish_38 (by decide) ?_
        refine v_ldc2 (x := 9) C d_M_wish_39 tw_585 ?_
        refine v_callS (rest := []) C (c_M_isIn l G v (Int32.toInt64 od) 0 9) tw_588 tw_34 tw_586 tw_587 mn_M_isIn ⟨Nat.le_of_ble_eq_true rfl, Nat.le_of_ble_eq_true rfl⟩ rfl rfl (Nat.le_of_ble_eq_true rfl) d_M_wish_42 ⟨(by first | exact Nat.le_of_ble_eq_true rfl | (show _ ≤ _; omega)), (by first | exact Nat.le_of_ble_eq_true rfl | (show _ ≤ _; omega))⟩ (fun r_10 v_11 hp_12 => ?_)
        rcases hp_12 with ⟨rfl, hv9, hb_42⟩ | ⟨rfl, hv9, hb_42⟩
        · obtain rfl := hv9.symm
          show vV _ _ _ _ _ _ _ _ _ _ _ _ _ v 0 0 45 [(0, .ref o), (1, .int x), (2, .int k), (3, .int ch), (4, .int od)] [.int 1]
          refine v_if_ne C 51 d_M_wish_45 (by decide) (fun _ => ?_) (fun z => absurd z (by decide))
          rw [i64_toInt] at hb_17
          rw [i64_toInt] at hb_29
          rw [i64_toInt] at hb_42
          have hz : zIn k 0 7 ∧ zIn ch 0 3 ∧ zIn od 0 9 := ⟨hb_17, hb_29, hb_42⟩
          have hx0 := hb_2
          obtain ⟨cu, rfl, hcu1, hcu2, hcu3⟩ := zIn_nI (a := 1) (b := zc S 0) hx0
          obtain ⟨kd, rfl, hkd1, hkd2, hkd3⟩ := zIn_nI (a := 0) (b := 7) hz.1
          obtain ⟨cn, rfl, hcn1, hcn2, hcn3⟩ := zIn_nI (a := 0) (b := 3) hz.2.1
          refine v_aload_n C 0 d_M_wish_51 rfl rfl ?_
          refine v_get C k_M hR.1 8 (by decide) tw_491 (fun _ h => h) rfl d_M_wish_52 ?_
          refine v_bipush (x := 32) C d_M_wish_55 (by decide) ?_
          refine v_iload_n C 1 d_M_wish_57 rfl rfl ?_
          refine v_imul C d_M_wish_58 ?_
          refine v_toi (y := nI (32 * cu)) (pk_mul 32 cu) ?_
          refine v_iconst (x := 4) C d_M_wish_59 (by decide) ?_
          refine v_iload_n C 2 d_M_wish_60 rfl rfl ?_
          refine v_imul C d_M_wish_61 ?_
          refine v_toi (y := nI (4 * kd)) (pk_mul 4 kd) ?_
          refine v_iadd C d_M_wish_62 ?_
          refine v_toi (y := nI ((32 * cu) + (4 * kd))) (nI_add (32 * cu) (4 * kd)) ?_
          refine v_iload_n C 3 d_M_wish_63 rfl rfl ?_
          refine v_iadd C d_M_wish_64 ?_
          refine v_toi (y := nI (((32 * cu) + (4 * kd)) + cn)) (nI_add ((32 * cu) + (4 * kd)) cn) ?_
          refine v_iload C 4 d_M_wish_65 rfl ?_
          refine v_iconst (x := 1) C d_M_wish_67 (by decide) ?_
          refine v_iadd C d_M_wish_68 ?_
          refine v_iastN C (hR.oi (f := 8) (by decide)) (by show _ < 1312; omega) (by decide) d_M_wish_69 ?_
          refine v_view (fun v1 ev1 => ?_)
          obtain ⟨S_13, eS_13⟩ : ∃ z, z = zui S 8 (((32 * cu) + (4 * kd)) + cn) (od + 1) := ⟨_, rfl⟩
          have hR_13 : RM G v1 o ad S_13 := by rw [eS_13]; exact (by rw [ev1]; exact hR.puti 8 (by decide) (((32 * cu) + (4 * kd)) + cn) (od + 1))
          have hk_13 : vkeep (mX o ad) v v1 := by rw [ev1]; exact hk.up (mX_f (by decide))
          refine v_aload_n C 0 d_M_wish_70 rfl rfl ?_
          refine v_iload_n C 1 d_M_wish_71 rfl rfl ?_
          refine v_iload_n C 2 d_M_wish_72 rfl rfl ?_
          have hwl_73 := zwn_le S_13 (32 * cu + 4 * kd) 4
          refine v_callV (rest := []) C (c_M_wished l G v1 o ad S_13 cu kd hR_13 (by omega) (by omega)) tw_604 tw_34 tw_601 tw_603 tw_20 mn_M_wished hR_13.1 k_M.1 ⟨Nat.le_of_ble_eq_true rfl, Nat.le_of_ble_eq_true rfl⟩ rfl rfl (Nat.le_of_ble_eq_true rfl) d_M_wish_73 ⟨(by first | exact Nat.le_of_ble_eq_true rfl | (show _ ≤ _; omega)), (by first | exact Nat.le_of_ble_eq_true rfl | (show _ ≤ _; omega))⟩ (fun r_14 v_15 hp_16 => ?_)
          obtain ⟨rfl, hv9⟩ := hp_16
          obtain rfl := hv9.symm
          show vV _ _ _ _ _ _ _ _ _ _ _ _ _ v1 0 0 76 [(0, .ref o), (1, .int (nI cu)), (2, .int (nI kd)), (3, .int (nI cn)), (4, .int od)] [.int (nI (zwn S_13 (32 * cu + 4 * kd) 4))]
          exact v_iret C d_M_wish_76 (by first | exact Nat.le_of_ble_eq_true rfl | (show _ ≤ _; omega)) (by first | exact Nat.le_of_ble_eq_true rfl | (show _ ≤ _; omega)) ⟨(by (try rw [eS_13]); rw [oWish, if_pos hx0, if_pos hz, zn_nI hcu3, zn_nI hkd3, zn_nI hcn3] <;> (try rfl)), (by (try rw [eS_13]); rw [oWish, if_pos hx0, if_pos hz, zn_nI hcu3, zn_nI hkd3, zn_nI hcn3]; subst eS_13; exact hR_13), hk_13⟩
        · obtain rfl := hv9.symm
          show vV _ _ _ _ _ _ _ _ _ _ _ _ _ v 0 0 45 [(0, .ref o), (1, .int x), (2, .int k), (3, .int ch), (4, .int od)] [.int 0]
          refine v_if_ne C 51 d_M_wish_45 (by decide) (fun z => absurd (by decide) z) (fun _ => ?_)
          refine v_bipush (x := -12) C d_M_wish_48 (by decide) ?_
          exact v_iret C d_M_wish_50 (by first | exact Nat.le_of_ble_eq_true rfl | (show _ ≤ _; omega)) (by first | exact Nat.le_of_ble_eq_true rfl | (show _ ≤ _; omega)) ⟨(by rw [i64_toInt] at hb_17; rw [i64_toInt] at hb_29; rw [i64_toInt] at hb_42; rw [oWish, if_pos hb_2, if_neg (fun z => hb_42 z.2.2)] <;> (try rfl)), (by rw [i64_toInt] at hb_17; rw [i64_toInt] at hb_29; rw [i64_toInt] at hb_42; rw [oWish, if_pos hb_2, if_neg (fun z => hb_42 z.2.2)]; exact hR), hk⟩
      · obtain rfl := hv9.symm
        show vV _ _ _ _ _ _ _ _ _ _ _ _ _ v 0 0 32 [(0, .ref o), (1, .int x), (2, .int k), (3, .int ch), (4, .int od)] [.int 0]
        refine v_if_eq C 48 d_M_wish_32 (by decide) (fun _ => ?_) (fun z => absurd (by decide) z)
        refine v_bipush (x := -12) C d_M_wish_48 (by decide) ?_
        exact v_iret C d_M_wish_50 (by first | exact Nat.le_of_ble_eq_true rfl | (show _ ≤ _; omega)) (by first | exact Nat.le_of_ble_eq_true rfl | (show _ ≤ _; omega)) ⟨(by rw [i64_toInt] at hb_17; rw [i64_toInt] at hb_29; rw [oWish, if_pos hb_2, if_neg (fun z => hb_29 z.2.1)] <;> (try rfl)), (by rw [i64_toInt] at hb_17; rw [i64_toInt] at hb_29; rw [oWish, if_pos hb_2, if_neg (fun z => hb_29 z.2.1)]; exact hR), hk⟩
    · obtain rfl := hv9.symm
      show vV _ _ _ _ _ _ _ _ _ _ _ _ _ v 0 0 20 [(0, .ref o), (1, .int x), (2, .int k), (3, .int ch), (4, .int od)] [.int 0]
      refine v_if_eq C 48 d_M_wish_20 (by decide) (fun _ => ?_) (fun z => absurd (by decide) z)
      refine v_bipush (x := -12) C d_M_wish_48 (by decide) ?_
      exact v_iret C d_M_wish_50 (by first | exact Nat.le_of_ble_eq_true rfl | (show _ ≤ _; omega)) (by first | exact Nat.le_of_ble_eq_true rfl | (show _ ≤ _; omega)) ⟨(by rw [i64_toInt] at hb_17; rw [oWish, if_pos hb_2, if_neg (fun z => hb_17 z.1)] <;> (try rfl)), (by rw [i64_toInt] at hb_17; rw [oWish, if_pos hb_2, if_neg (fun z => hb_17 z.1)]; exact hR), hk⟩
  · obtain rfl := hv9.symm
    show vV _ _ _ _ _ _ _ _ _ _ _ _ _ v 0 0 5 [(0, .ref o), (1, .int x), (2, .int k), (3, .int ch), (4, .int od)] [.int 0]
    refine v_if_ne C 11 d_M_wish_5 (by decide) (fun z => absurd (by decide) z) (fun _ => ?_)
    refine v_bipush (x := -11) C d_M_wish_8 (by decide) ?_
    exact v_iret C d_M_wish_10 (by first | exact Nat.le_of_ble_eq_true rfl | (show _ ≤ _; omega)) (by first | exact Nat.le_of_ble_eq_true rfl | (show _ ≤ _; omega)) ⟨(by  rw [oWish, if_neg hb_2] <;> (try rfl)), (by  rw [oWish, if_neg hb_2]; exact hR), hk⟩
end
section
abbrev zE (k : Int32) : Prop := k = 5 ∨ k = 6
def zended (S : zS) (x it : Int32) : Int32 := match zpf S x it (zc S 2) with
  | none => 0
  | some j => zi S 21 j
def zendS (S : zS) (x it k : Int32) : zS := if zE k then zui (zkeep S x it) 21 (zkix S x it) 1 else S
def oEvent (S : zS) (x it k : Int32) (t : Int64) : Int32 × zS :=
  if zIn x 1 (zc S 0) then (if zIn it 1 9999 ∧ zIn k 0 7 ∧ zTm S t then (if zended S x it = 0 then (if (0 < zwn S (32 * zn x + 4 * zn k) 4 ∧ zc S 1 = 200) ∨ (zE k ∧ zpf S x it (zc S 2) = none ∧ zc S 2 = 60) then (-14, S) else (if 0 < zwn S (32 * zn x + 4 * zn k) 4 then (nI (zc S 1 + 1), zput (zendS S x it k) x it k t (-1) 0) else (0, zendS S x it k))) else (0, S)) else (-12, S)) else (-11, S)
def zlast (S : zS) (x it : Int32) : Int32 := match zpf S x it (zc S 2) with
  | none => 0
  | some j => zi S 22 j
def oProm (S : zS) (x it : Int32) (w b : Int64) : Int32 × zS :=
  if zIn x 1 (zc S 0) then (if zIn it 1 9999 ∧ (0 ≤ w.toInt ∧ w.toInt ≤ 1000000000) ∧ (0 ≤ b.toInt ∧ b.toInt ≤ 1000000) then (if zended S x it = 0 ∧ ¬ zwn S (32 * zn x + 4 * 3) 4 = 0 then
    (if 0 < (zlast S x it).toInt ∧ (-b).toInt ≤ (w - zl S 14 (zn (zlast S x it))).toInt ∧ (w - zl S 14 (zn (zlast S x it))).toInt ≤ b.toInt then (0, S)
     else (if 0 < (zlast S x it).toInt ∧ zi S 15 (zn (zlast S x it)) = 0 then (zlast S x it, zul S 14 (zn (zlast S x it)) w)
     else (if zc S 1 = 200 ∨ (zpf S x it (zc S 2) = none ∧ zc S 2 = 60) then (-14, S)
     else (nI (zc S 1 + 1), zui (zkeep (zput S x it 3 (zl S 0 0) w 0) x it) 22 (zkix S x it) (nI (zc S 1 + 1))))))
   else (0, S)) else (-12, S)) else (-11, S)
/-- the state is in order, as the reference keeps it -/
def zB (S : zS) : Prop := zc S 0 ≤ 40 ∧ zc S 1 ≤ 200 ∧ zc S 2 ≤ 60 ∧ (∀ j, j < zc S 2 → ∃ n, n ≤ zc S 1 ∧ zi S 22 j = nI n)
theorem zkeep_c1 (S : zS) (x it : Int32) : zc (zkeep S x it) 1 = zc S 1 := by
  unfold zkeep; split <;> rfl
theorem zkix_n {S : zS} {x it : Int32} (h : zpf S x it (zc S 2) = none) : zkix S x it = zc S 2 := by unfold zkix; rw [h]
theorem zkix_s {S : zS} {x it : Int32} {j : Nat} (h : zpf S x it (zc S 2) = some j) : zkix S x it = j := by unfold zkix; rw [h]
set_option maxHeartbeats 4000000 in
set_option maxRecDepth 100000 in
theorem c_M_quiet (l : Launch) (G : vv_G) (v : vv_V) (o : Nat) (ad : Nat → Nat) (S : zS) (x a b : Int32) (hR : RM G v o ad S) (hB : zc S 0 ≤ 40) : Mv l y_M_quiet b_M_quiet 4 (some FieldType.int) 2 46 G v [.ref o, .int x, .int a, .int b] (fun r v' => r = some (.int (oQuiet S x a b).1) ∧ RM G v' o ad (oQuiet S x a b).2 ∧ vkeep (mX o ad) v v') 0 0 := by
  refine vv_metF (own := "CustomerNoticesModel") (nm := "quiet") pf_M_quiet rfl rfl (Nat.le_of_ble_eq_true rfl) ?_
  intro p e s m below meth c C hin
  have hk : vkeep (mX o ad) v v := vkeep.rf
  show vV _ _ _ _ _ _ _ _ _ _ _ _ _ v 0 0 0 [(0, .ref o), (1, .int x), (2, .int a), (3, .int b)] []
  refine v_aload_n C 0 d_M_quiet_0 rfl rfl ?_
  refine v_iload_n C 1 d_M_quiet_1 rfl rfl ?_
  refine v_callV (rest := []) C (c_M_isCustomer l G v o ad S x hR (by omega)) tw_598 tw_34 tw_595 tw_597 tw_19 mn_M_isCustomer hR.1 k_M.1 ⟨Nat.le_of_ble_eq_true rfl, Nat.le_of_ble_eq_true rfl⟩ rfl rfl (Nat.le_of_ble_eq_true rfl) d_M_quiet_2 ⟨(by first | exact Nat.le_of_ble_eq_true rfl | (show _ ≤ _; omega)), (by first | exact Nat.le_of_ble_eq_true rfl | (show _ ≤ _; omega))⟩ (fun r_1 v_2 hp_3 => ?_)
  rcases hp_3 with ⟨rfl, hv9, hb_2⟩ | ⟨rfl, hv9, hb_2⟩
  · obtain rfl := hv9.symm
    show vV _ _ _ _ _ _ _ _ _ _ _ _ _ v 0 0 5 [(0, .ref o), (1, .int x), (2, .int a), (3, .int b)] [.int 1]
    refine v_if_ne C 11 d_M_quiet_5 (by decide) (fun _ => ?_) (fun z => absurd z (by decide))
    refine v_iload_n C 2 d_M_quiet_11 rfl rfl ?_
    refine v_i2l (y := (Int32.toInt64 a)) C d_M_quiet_12 rfl ?_
    refine v_lconst (x := 0) C d_M_quiet_13 (by decide) ?_
    refine v_ldc2 (x := 1439) C d_M_quiet_14 tw_609 ?_
    refine v_callS (rest := []) C (c_M_isIn l G v (Int32.toInt64 a) 0 1439) tw_588 tw_34 tw_586 tw_587 mn_M_isIn ⟨Nat.le_of_ble_eq_true rfl, Nat.le_of_ble_eq_true rfl⟩ rfl rfl (Nat.le_of_ble_eq_true rfl) d_M_quiet_17 ⟨(by first | exact Nat.le_of_ble_eq_true rfl | (show _ ≤ _; omega)), (by first | exact Nat.le_of_ble_eq_true rfl | (show _ ≤ _; omega))⟩ (fun r_4 v_5 hp_6 => ?_)
    rcases hp_6 with ⟨rfl, hv9, hb_17⟩ | ⟨rfl, hv9, hb_17⟩
    · obtain rfl := hv9.symm
      show vV _ _ _ _ _ _ _ _ _ _ _ _ _ v 0 0 20 [(0, .ref o), (1, .int x), (2, .int a), (3, .int b)] [.int 1]
      refine v_if_eq C 35 d_M_quiet_20 (by decide) (fun z => absurd z (by decide)) (fun _ => ?_)
      refine v_iload_n C 3 d_M_quiet_23 rfl rfl ?_
      refine v_i2l (y := (Int32.toInt64 b)) C d_M_quiet_24 rfl ?_
      refine v_lconst (x := 0) C d_M_quiet_25 (by decide) ?_
      refine v_ldc2 (x := 1439) C d_M_quiet_26 tw_609 ?_
      refine v_callS (rest := []) C (c_M_isIn l G v (Int32.toInt64 b) 0 1439) tw_588 tw_34 tw_586 tw_587 mn_M_isIn ⟨Nat.le_of_ble_eq_true rfl, Nat.le_of_ble_eq_true rfl⟩ rfl rfl (Nat.le_of_ble_eq_true rfl) d_M_quiet_29 ⟨(by first | exact Nat.le_of_ble_eq_true rfl | (show _ ≤ _; omega)), (by first | exact Nat.le_of_ble_eq_true rfl | (show _ ≤ _; omega))⟩ (fun r_7 v_8 hp_9 => ?_)
      rcases hp_9 with ⟨rfl, hv9, hb_29⟩ | ⟨rfl, hv9, hb_29⟩
      · obtain rfl := hv9.symm
        show vV _ _ _ _ _ _ _ _ _ _ _ _ _ v 0 0 32 [(0, .ref o), (1, .int x), (2, .int a), (3, .int b)] [.int 1]
        refine v_if_ne C 38 d_M_quiet_32 (by decide) (fun _ => ?_) (fun z => absurd z (by decide))
        have hx0 := hb_2
        rw [i64_toInt] at hb_17 hb_29
        obtain ⟨cu, rfl, hcu1, hcu2, hcu3⟩ := zIn_nI (a := 1) (b := zc S 0) hx0
        refine v_aload_n C 0 d_M_quiet_38 rfl rfl ?_
        refine v_get C k_M hR.1 6 (by decide) tw_489 (fun _ h => h) rfl d_M_quiet_39 ?_
        refine v_iload_n C 1 d_M_quiet_42 rfl rfl ?_
        refine v_iload_n C 2 d_M_quiet_43 rfl rfl ?_
        refine v_iastN C (hR.oi (f := 6) (by decide)) (by show _ < 41; omega) (by decide) d_M_quiet_44 ?_
        refine v_view (fun v1 ev1 => ?_)
        obtain ⟨S_10, eS_10⟩ : ∃ z, z = zui S 6 cu a := ⟨_, rfl⟩
        have hR_10 : RM G v1 o ad S_10 := by rw [eS_10]; exact (by rw [ev1]; exact hR.puti 6 (by decide) cu a)
        have hk_10 : vkeep (mX o ad) v v1 := by rw [ev1]; exact hk.up (mX_f (by decide))
        refine v_aload_n C 0 d_M_quiet_45 rfl rfl ?_
        refine v_get C k_M hR_10.1 7 (by decide) tw_490 (fun _ h => h) rfl d_M_quiet_46 ?_
        refine v_iload_n C 1 d_M_quiet_49 rfl rfl ?_
        refine v_iload_n C 3 d_M_quiet_50 rfl rfl ?_
        refine v_iastN C (hR_10.oi (f := 7) (by decide)) (by show _ < 41; omega) (by decide) d_M_quiet_51 ?_
        refine v_view (fun v2 ev2 => ?_)
        obtain ⟨S_11, eS_11⟩ : ∃ z, z = zui S_10 7 cu b := ⟨_, rfl⟩
        have hR_11 : RM G v2 o ad S_11 := by rw [eS_11]; exact (by rw [ev2]; exact hR_10.puti 7 (by decide) cu b)
        have hk_11 : vkeep (mX o ad) v v2 := by rw [ev2]; exact hk_10.up (mX_f (by decide))
        refine v_iload_n C 3 d_M_quiet_52 rfl rfl ?_
        refine v_iload_n C 2 d_M_quiet_53 rfl rfl ?_
        refine v_isub C d_M_quiet_54 ?_
        refine v_sipush (x := 1440) C d_M_quiet_55 (by decide) ?_
        refine v_iadd C d_M_quiet_58 ?_
        refine v_sipush (x := 1440) C d_M_quiet_59 (by decide) ?_
        refine v_irem C d_M_quiet_62 (by decide) ?_
        exact v_iret C d_M_quiet_63 (by first | exact Nat.le_of_ble_eq_true rfl | (show _ ≤ _; omega)) (by first | exact Nat.le_of_ble_eq_true rfl | (show _ ≤ _; omega)) ⟨(by  rw [oQuiet, if_pos hx0, if_pos ⟨hb_17, hb_29⟩, zn_nI hcu3] <;> (try rfl)), (by  rw [oQuiet, if_pos hx0, if_pos ⟨hb_17, hb_29⟩, zn_nI hcu3]; subst eS_10 eS_11; exact hR_11), hk_11⟩
      · obtain rfl := hv9.symm
        show vV _ _ _ _ _ _ _ _ _ _ _ _ _ v 0 0 32 [(0, .ref o), (1, .int x), (2, .int a), (3, .int b)] [.int 0]
        refine v_if_ne C 38 d_M_quiet_32 (by decide) (fun z => absurd (by decide) z) (fun _ => ?_)
        refine v_bipush (x := -12) C d_M_quiet_35 (by decide) ?_
        exact v_iret C d_M_quiet_37 (by first | exact Nat.le_of_ble_eq_true rfl | (show _ ≤ _; omega)) (by first | exact Nat.le_of_ble_eq_true rfl | (show _ ≤ _; omega)) ⟨(by rw [i64_toInt] at hb_17; rw [i64_toInt] at hb_29; rw [oQuiet, if_pos hb_2, if_neg (fun z => hb_29 z.2)] <;> (try rfl)), (by rw [i64_toInt] at hb_17; rw [i64_toInt] at hb_29; rw [oQuiet, if_pos hb_2, if_neg (fun z => hb_29 z.2)]; exact hR), hk⟩
    · obtain rfl := hv9.symm
      show vV _ _ _ _ _ _ _ _ _ _ _ _ _ v 0 0 20 [(0, .ref o), (1, .int x), (2, .int a), (3, .int b)] [.int 0]
      refine v_if_eq C 35 d_M_quiet_20 (by decide) (fun _ => ?_) (fun z => absurd (by decide) z)
      refine v_bipush (x := -12) C d_M_quiet_35 (by decide) ?_
      exact v_iret C d_M_quiet_37 (by first | exact Nat.le_of_ble_eq_true rfl | (show _ ≤ _; omega)) (by first | exact Nat.le_of_ble_eq_true rfl | (show _ ≤ _; omega)) ⟨(by rw [i64_toInt] at hb_17; rw [oQuiet, if_pos hb_2, if_neg (fun z => hb_17 z.1)] <;> (try rfl)), (by rw [i64_toInt] at hb_17; rw [oQuiet, if_pos hb_2, if_neg (fun z => hb_17 z.1)]; exact hR), hk⟩
  · obtain rfl := hv9.symm
    show vV _ _ _ _ _ _ _ _ _ _ _ _ _ v 0 0 5 [(0, .ref o), (1, .int x), (2, .int a), (3, .int b)] [.int 0]
    refine v_if_ne C 11 d_M_quiet_5 (by decide) (fun z => absurd (by decide) z) (fun _ => ?_)
    refine v_bipush (x := -11) C d_M_quiet_8 (by decide) ?_
    exact v_iret C d_M_quiet_10 (by first | exact Nat.le_of_ble_eq_true rfl | (show _ ≤ _; omega)) (by first | exact Nat.le_of_ble_eq_true rfl | (show _ ≤ _; omega)) ⟨(by  rw [oQuiet, if_neg hb_2] <;> (try rfl)), (by  rw [oQuiet, if_neg hb_2]; exact hR), hk⟩
set_option maxHeartbeats 4000000 in
set_option maxRecDepth 100000 in
theorem c_M_join (l : Launch) (G : vv_G) (v : vv_V) (o : Nat) (ad : Nat → Nat) (S : zS) (a : Int32) (hR : RM G v o ad S) : Mv l y_M_join b_M_join 3 (some FieldType.int) 1 25 G v [.ref o, .int a] (fun r v' => r = some (.int (oJoin S a).1) ∧ RM G v' o ad (oJoin S a).2 ∧ vkeep (mX o ad) v v') 0 0 := by
  refine vv_metF (own := "CustomerNoticesModel") (nm := "join") pf_M_join rfl rfl (Nat.le_of_ble_eq_true rfl) ?_
  intro p e s m below meth c C hin
  have hk : vkeep (mX o ad) v v := vkeep.rf
  show vV _ _ _ _ _ _ _ _ _ _ _ _ _ v 0 0 0 [(0, .ref o), (1, .int a)] []
  refine v_iload_n C 1 d_M_join_0 rfl rfl ?_
  refine v_i2l (y := (Int32.toInt64 a)) C d_M_join_1 rfl ?_
  refine v_lconst (x := 0) C d_M_join_2 (by decide) ?_
  refine v_ldc2 (x := 1440) C d_M_join_3 tw_651 ?_
  refine v_callS (rest := []) C (c_M_isIn l G v (Int32.toInt64 a) 0 1440) tw_588 tw_34 tw_586 tw_587 mn_M_isIn ⟨Nat.le_of_ble_eq_true rfl, Nat.le_of_ble_eq_true rfl⟩ rfl rfl (Nat.le_of_ble_eq_true rfl) d_M_join_6 ⟨(by first | exact Nat.le_of_ble_eq_true rfl | (show _ ≤ _; omega)), (by first | exact Nat.le_of_ble_eq_true rfl | (show _ ≤ _; omega))⟩ (fun r_1 v_2 hp_3 => ?_)
  rcases hp_3 with ⟨rfl, hv9, hb_6⟩ | ⟨rfl, hv9, hb_6⟩
  · obtain rfl := hv9.symm
    show vV _ _ _ _ _ _ _ _ _ _ _ _ _ v 0 0 9 [(0, .ref o), (1, .int a)] [.int 1]
    refine v_if_ne C 15 d_M_join_9 (by decide) (fun _ => ?_) (fun z => absurd z (by decide))
    refine v_aload_n C 0 d_M_join_15 rfl rfl ?_
    refine v_get C k_M hR.1 1 (by decide) tw_484 (fun _ h => h) rfl d_M_join_16 ?_
    refine v_istore_n (lv' := [(2, .int (zi S 1 0)), (0, .ref o), (1, .int a)]) C d_M_join_19 rfl (by decide) rfl ?_
    refine v_aload_n C 1 d_M_join_20 rfl rfl ?_
    refine v_iload_n C 2 d_M_join_21 rfl rfl ?_
    refine v_put C k_M hR.1 1 (by decide) tw_484 (fun _ h => h) rfl rfl rfl (Nat.le_of_ble_eq_true rfl) d_M_join_22 ?_
    refine v_view (fun v1 ev1 => ?_)
    obtain ⟨S_4, eS_4⟩ : ∃ z, z = zui S 1 0 a := ⟨_, rfl⟩
    have hR_4 : RM G v1 o ad S_4 := by rw [eS_4]; exact (by rw [ev1]; exact hR.puts rfl (fun f hf => zi_updn (fun z => by subst z; revert hf; decide)) (fun f hf => rfl))
    have hk_4 : vkeep (mX o ad) v v1 := by rw [ev1]; exact hk.up mX_o
    refine v_iload_n C 0 d_M_join_25 rfl rfl ?_
    exact v_iret C d_M_join_26 (by first | exact Nat.le_of_ble_eq_true rfl | (show _ ≤ _; omega)) (by first | exact Nat.le_of_ble_eq_true rfl | (show _ ≤ _; omega)) ⟨(by rw [i64_toInt] at hb_6; rw [oJoin, if_pos (show zIn a 0 1440 from hb_6)] <;> (try rfl)), (by rw [i64_toInt] at hb_6; rw [oJoin, if_pos (show zIn a 0 1440 from hb_6)]; subst eS_4; exact hR_4), hk_4⟩
  · obtain rfl := hv9.symm
    show vV _ _ _ _ _ _ _ _ _ _ _ _ _ v 0 0 9 [(0, .ref o), (1, .int a)] [.int 0]
    refine v_if_ne C 15 d_M_join_9 (by decide) (fun z => absurd (by decide) z) (fun _ => ?_)
    refine v_bipush (x := -12) C d_M_join_12 (by decide) ?_
    exact v_iret C d_M_join_14 (by first | exact Nat.le_of_ble_eq_true rfl | (show _ ≤ _; omega)) (by first | exact Nat.le_of_ble_eq_true rfl | (show _ ≤ _; omega)) ⟨(by rw [i64_toInt] at hb_6; rw [oJoin, if_neg (show ¬ zIn a 0 1440 from hb_6)] <;> (try rfl)), (by rw [i64_toInt] at hb_6; rw [oJoin, if_neg (show ¬ zIn a 0 1440 from hb_6)]; exact hR), hk⟩
set_option maxHeartbeats 4000000 in
set_option maxRecDepth 100000 in
theorem c_M_works (l : Launch) (G : vv_G) (v : vv_V) (o : Nat) (ad : Nat → Nat) (S : zS) (ch on : Int32) (hR : RM G v o ad S) (hZ2 : ∀ j, j < 4 → zi S 2 j = 0 ∨ zi S 2 j = 1) (hon : on = 0 ∨ on = 1) : Mv l y_M_works b_M_works 4 (some FieldType.boolean) 1 25 G v [.ref o, .int ch, .int on] (fun r v' => r = some (.int (oWorks S ch on).1) ∧ RM G v' o ad (oWorks S ch on).2 ∧ vkeep (mX o ad) v v') 0 0 := by
  refine vv_metF (own := "CustomerNoticesModel") (nm := "works") pf_M_works rfl rfl (Nat.le_of_ble_eq_true rfl) ?_
  intro p e s m below meth c C hin
  have hk : vkeep (mX o ad) v v := vkeep.rf
  show vV _ _ _ _ _ _ _ _ _ _ _ _ _ v 0 0 0 [(0, .ref o), (1, .int ch), (2, .int on)] []
  refine v_iload_n C 1 d_M_works_0 rfl rfl ?_
  refine v_i2l (y := (Int32.toInt64 ch)) C d_M_works_1 rfl ?_
  refine v_lconst (x := 0) C d_M_works_2 (by decide) ?_
  refine v_ldc2 (x := 3) C d_M_works_3 tw_600 ?_
  refine v_callS (rest := []) C (c_M_isIn l G v (Int32.toInt64 ch) 0 3) tw_588 tw_34 tw_586 tw_587 mn_M_isIn ⟨Nat.le_of_ble_eq_true rfl, Nat.le_of_ble_eq_true rfl⟩ rfl rfl (Nat.le_of_ble_eq_true rfl) d_M_works_6 ⟨(by first | exact Nat.le_of_ble_eq_true rfl | (show _ ≤ _; omega)), (by first | exact Nat.le_of_ble_eq_true rfl | (show _ ≤ _; omega))⟩ (fun r_1 v_2 hp_3 => ?_)
  rcases hp_3 with ⟨rfl, hv9, hb_6⟩ | ⟨rfl, hv9, hb_6⟩
  · obtain rfl := hv9.symm
    show vV _ _ _ _ _ _ _ _ _ _ _ _ _ v 0 0 9 [(0, .ref o), (1, .int ch), (2, .int on)] [.int 1]
    refine v_if_ne C 14 d_M_works_9 (by decide) (fun _ => ?_) (fun z => absurd z (by decide))
    rw [i64_toInt] at hb_6
    have hx0 : zIn ch 0 3 := hb_6
    obtain ⟨cn, rfl, hcn1, hcn2, hcn3⟩ := zIn_nI (a := 0) (b := 3) hx0
    have hz2 := hZ2 cn (by omega)
    refine v_aload_n C 0 d_M_works_14 rfl rfl ?_
    refine v_get C k_M hR.1 2 (by decide) tw_485 (fun _ h => h) rfl d_M_works_15 ?_
    refine v_iload_n C 1 d_M_works_18 rfl rfl ?_
    refine v_zaldN C (hR.oz (f := 2) (by decide)) (by show _ < 4; omega) (by decide) d_M_works_19 ?_
    refine v_if_ne C 27 d_M_works_20 (by decide) (fun c_20 => ?_) (fun c_20 => ?_)
    · refine v_iconst (x := 0) C d_M_works_27 (by decide) ?_
      refine v_istore_n (lv' := [(3, .int 0), (0, .ref o), (1, .int (nI cn)), (2, .int on)]) C d_M_works_28 rfl (by decide) rfl ?_
      refine v_aload_n C 1 d_M_works_29 rfl rfl ?_
      refine v_get C k_M hR.1 2 (by decide) tw_485 (fun _ h => h) rfl d_M_works_30 ?_
      refine v_iload_n C 2 d_M_works_33 rfl rfl ?_
      refine v_iload_n C 3 d_M_works_34 rfl rfl ?_
      refine v_if_ne C 42 d_M_works_35 (by decide) (fun c_35 => ?_) (fun c_35 => ?_)
      · refine v_iconst (x := 0) C d_M_works_42 (by decide) ?_
        refine v_zastN C (hR.oz (f := 2) (by decide)) (by show _ < 4; omega) (by decide) d_M_works_43 ?_
        refine v_view (fun v1 ev1 => ?_)
        obtain ⟨S_4, eS_4⟩ : ∃ z, z = zui S 2 cn 0 := ⟨_, rfl⟩
        have hR_4 : RM G v1 o ad S_4 := by rw [eS_4]; exact (by rw [ev1]; exact hR.putz 2 (by decide) cn 0 0 (by decide))
        have hk_4 : vkeep (mX o ad) v v1 := by rw [ev1]; exact hk.up (mX_f (by decide))
        refine v_iload_n C 0 d_M_works_44 rfl rfl ?_
        exact v_zret C d_M_works_45 (by first | exact Nat.le_of_ble_eq_true rfl | (show _ ≤ _; omega)) (by first | exact Nat.le_of_ble_eq_true rfl | (show _ ≤ _; omega)) (by decide) ⟨(by have e1 : zi S 2 cn = 1 := hz2.resolve_left c_20; have e2 : on = 1 := hon.resolve_left c_35; rw [oWorks, if_pos hx0, zn_nI hcn3, e1] <;> (try rfl)), (by have e1 : zi S 2 cn = 1 := hz2.resolve_left c_20; have e2 : on = 1 := hon.resolve_left c_35; rw [oWorks, if_pos hx0, zn_nI hcn3, e2]; subst eS_4; exact hR_4), hk_4⟩
      · refine v_iconst (x := 1) C d_M_works_38 (by decide) ?_
        refine v_goto C 43 d_M_works_39 (by decide) ?_
        refine v_zastN C (hR.oz (f := 2) (by decide)) (by show _ < 4; omega) (by decide) d_M_works_43 ?_
        refine v_view (fun v2 ev2 => ?_)
        obtain ⟨S_5, eS_5⟩ : ∃ z, z = zui S 2 cn 1 := ⟨_, rfl⟩
        have hR_5 : RM G v2 o ad S_5 := by rw [eS_5]; exact (by rw [ev2]; exact hR.putz 2 (by decide) cn 1 1 (by decide))
        have hk_5 : vkeep (mX o ad) v v2 := by rw [ev2]; exact hk.up (mX_f (by decide))
        refine v_iload_n C 0 d_M_works_44 rfl rfl ?_
        exact v_zret C d_M_works_45 (by first | exact Nat.le_of_ble_eq_true rfl | (show _ ≤ _; omega)) (by first | exact Nat.le_of_ble_eq_true rfl | (show _ ≤ _; omega)) (by decide) ⟨(by have e1 : zi S 2 cn = 1 := hz2.resolve_left c_20; have e2 : on = 0 := c_35; rw [oWorks, if_pos hx0, zn_nI hcn3, e1] <;> (try rfl)), (by have e1 : zi S 2 cn = 1 := hz2.resolve_left c_20; have e2 : on = 0 := c_35; rw [oWorks, if_pos hx0, zn_nI hcn3, e2]; subst eS_5; exact hR_5), hk_5⟩
    · refine v_iconst (x := 1) C d_M_works_23 (by decide) ?_
      refine v_goto C 28 d_M_works_24 (by decide) ?_
      refine v_istore_n (lv' := [(3, .int 1), (0, .ref o), (1, .int (nI cn)), (2, .int on)]) C d_M_works_28 rfl (by decide) rfl ?_
      refine v_aload_n C 1 d_M_works_29 rfl rfl ?_
      refine v_get C k_M hR.1 2 (by decide) tw_485 (fun _ h => h) rfl d_M_works_30 ?_
      refine v_iload_n C 2 d_M_works_33 rfl rfl ?_
      refine v_iload_n C 3 d_M_works_34 rfl rfl ?_
      refine v_if_ne C 42 d_M_works_35 (by decide) (fun c_35 => ?_) (fun c_35 => ?_)
      · refine v_iconst (x := 0) C d_M_works_42 (by decide) ?_
        refine v_zastN C (hR.oz (f := 2) (by decide)) (by show _ < 4; omega) (by decide) d_M_works_43 ?_
        refine v_view (fun v3 ev3 => ?_)
        obtain ⟨S_6, eS_6⟩ : ∃ z, z = zui S 2 cn 0 := ⟨_, rfl⟩
        have hR_6 : RM G v3 o ad S_6 := by rw [eS_6]; exact (by rw [ev3]; exact hR.putz 2 (by decide) cn 0 0 (by decide))
        have hk_6 : vkeep (mX o ad) v v3 := by rw [ev3]; exact hk.up (mX_f (by decide))
        refine v_iload_n C 0 d_M_works_44 rfl rfl ?_
        exact v_zret C d_M_works_45 (by first | exact Nat.le_of_ble_eq_true rfl | (show _ ≤ _; omega)) (by first | exact Nat.le_of_ble_eq_true rfl | (show _ ≤ _; omega)) (by decide) ⟨(by have e1 : zi S 2 cn = 0 := c_20; have e2 : on = 1 := hon.resolve_left c_35; rw [oWorks, if_pos hx0, zn_nI hcn3, e1] <;> (try rfl)), (by have e1 : zi S 2 cn = 0 := c_20; have e2 : on = 1 := hon.resolve_left c_35; rw [oWorks, if_pos hx0, zn_nI hcn3, e2]; subst eS_6; exact hR_6), hk_6⟩
      · refine v_iconst (x := 1) C d_M_works_38 (by decide) ?_
        refine v_goto C 43 d_M_works_39 (by decide) ?_
        refine v_zastN C (hR.oz (f := 2) (by decide)) (by show _ < 4; omega) (by decide) d_M_works_43 ?_
        refine v_view (fun v4 ev4 => ?_)
        obtain ⟨S_7, eS_7⟩ : ∃ z, z = zui S 2 cn 1 := ⟨_, rfl⟩
        have hR_7 : RM G v4 o ad S_7 := by rw [eS_7]; exact (by rw [ev4]; exact hR.putz 2 (by decide) cn 1 1 (by decide))
        have hk_7 : vkeep (mX o ad) v v4 := by rw [ev4]; exact hk.up (mX_f (by decide))
        refine v_iload_n C 0 d_M_works_44 rfl rfl ?_
        exact v_zret C d_M_works_45 (by first | exact Nat.le_of_ble_eq_true rfl | (show _ ≤ _; omega)) (by first | exact Nat.le_of_ble_eq_true rfl | (show _ ≤ _; omega)) (by decide) ⟨(by have e1 : zi S 2 cn = 0 := c_20; have e2 : on = 0 := c_35; rw [oWorks, if_pos hx0, zn_nI hcn3, e1] <;> (try rfl)), (by have e1 : zi S 2 cn = 0 := c_20; have e2 : on = 0 := c_35; rw [oWorks, if_pos hx0, zn_nI hcn3, e2]; subst eS_7; exact hR_7), hk_7⟩
  · obtain rfl := hv9.symm
    show vV _ _ _ _ _ _ _ _ _ _ _ _ _ v 0 0 9 [(0, .ref o), (1, .int ch), (2, .int on)] [.int 0]
    refine v_if_ne C 14 d_M_works_9 (by decide) (fun z => absurd (by decide) z) (fun _ => ?_)
    refine v_iconst (x := 0) C d_M_works_12 (by decide) ?_
    exact v_zret C d_M_works_13 (by first | exact Nat.le_of_ble_eq_true rfl | (show _ ≤ _; omega)) (by first | exact Nat.le_of_ble_eq_true rfl | (show _ ≤ _; omega)) (by decide) ⟨(by rw [i64_toInt] at hb_6; rw [oWorks, if_neg (show ¬ zIn ch 0 3 from hb_6)] <;> (try rfl)), (by rw [i64_toInt] at hb_6; rw [oWorks, if_neg (show ¬ zIn ch 0 3 from hb_6)]; exact hR), hk⟩
set_option maxHeartbeats 4000000 in
set_option maxRecDepth 100000 in
theorem c_M_failed (l : Launch) (G : vv_G) (v : vv_V) (o : Nat) (ad : Nat → Nat) (S : zS) (i : Int32) (hR : RM G v o ad S) (hB : zc S 4 ≤ 200) : Mv l y_M_failed b_M_failed 2 (some FieldType.int) 1 25 G v [.ref o, .int i] (fun r v' => r = some (.int (oFail S i).1) ∧ RM G v' o ad (oFail S i).2 ∧ vkeep (mX o ad) v v') 0 0 := by
  refine vv_metF (own := "CustomerNoticesModel") (nm := "failed") pf_M_failed rfl rfl (Nat.le_of_ble_eq_true rfl) ?_
  intro p e s m below meth c C hin
  have hk : vkeep (mX o ad) v v := vkeep.rf
  show vV _ _ _ _ _ _ _ _ _ _ _ _ _ v 0 0 0 [(0, .ref o), (1, .int i)] []
  refine v_iload_n C 1 d_M_failed_0 rfl rfl ?_
  refine v_i2l (y := (Int32.toInt64 i)) C d_M_failed_1 rfl ?_
  refine v_lconst (x := 0) C d_M_failed_2 (by decide) ?_
  refine v_aload_n C 0 d_M_failed_3 rfl rfl ?_
  refine v_get C k_M hR.1 28 (by decide) tw_511 (fun _ h => h) rfl d_M_failed_4 ?_
  refine v_iconst (x := 1) C d_M_failed_7 (by decide) ?_
  refine v_isub C d_M_failed_8 ?_
  refine v_i2l (y := (Int32.toInt64 ((nI (zc S 4)) - 1))) C d_M_failed_9 rfl ?_
  refine v_callS (rest := []) C (c_M_isIn l G v (Int32.toInt64 i) 0 (Int32.toInt64 ((nI (zc S 4)) - 1))) tw_588 tw_34 tw_586 tw_587 mn_M_isIn ⟨Nat.le_of_ble_eq_true rfl, Nat.le_of_ble_eq_true rfl⟩ rfl rfl (Nat.le_of_ble_eq_true rfl) d_M_failed_10 ⟨(by first | exact Nat.le_of_ble_eq_true rfl | (show _ ≤ _; omega)), (by first | exact Nat.le_of_ble_eq_true rfl | (show _ ≤ _; omega))⟩ (fun r_1 v_2 hp_3 => ?_)
  rcases hp_3 with ⟨rfl, hv9, hb_10⟩ | ⟨rfl, hv9, hb_10⟩
  · obtain rfl := hv9.symm
    show vV _ _ _ _ _ _ _ _ _ _ _ _ _ v 0 0 13 [(0, .ref o), (1, .int i)] [.int 1]
    refine v_if_eq C 25 d_M_failed_13 (by decide) (fun z => absurd z (by decide)) (fun _ => ?_)
    have e1 : ((nI (zc S 4) - 1 : Int32)).toInt = (zc S 4 : Int) - 1 := pk_sub_toInt (b := 1) (by omega) (by decide)
    rw [i64_toInt, i64_toInt, e1] at hb_10
    have hx0 : zIn i 0 ((zc S 4 : Int) - 1) := hb_10
    obtain ⟨ni, rfl, hn1, hn2, hn3⟩ := zIn_nI (a := 0) (b := zc S 4 - 1) ⟨hx0.1, by have := hx0.1; have := hx0.2; omega⟩
    have hn4 : ni < zc S 4 := by have := hx0.2; rw [nI_toInt hn3] at this; omega
    refine v_aload_n C 0 d_M_failed_16 rfl rfl ?_
    refine v_get C k_M hR.1 29 (by decide) tw_512 (fun _ h => h) rfl d_M_failed_17 ?_
    refine v_iload_n C 1 d_M_failed_20 rfl rfl ?_
    refine v_ialdN C (hR.oi (f := 29) (by decide)) (by show _ < 200; omega) (by decide) d_M_failed_21 ?_
    refine v_goto C 26 d_M_failed_22 (by decide) ?_
    exact v_iret C d_M_failed_26 (by first | exact Nat.le_of_ble_eq_true rfl | (show _ ≤ _; omega)) (by first | exact Nat.le_of_ble_eq_true rfl | (show _ ≤ _; omega)) ⟨(by rw [oFail, if_pos hx0, zn_nI hn3]), hR, hk⟩
  · obtain rfl := hv9.symm
    show vV _ _ _ _ _ _ _ _ _ _ _ _ _ v 0 0 13 [(0, .ref o), (1, .int i)] [.int 0]
    refine v_if_eq C 25 d_M_failed_13 (by decide) (fun _ => ?_) (fun z => absurd (by decide) z)
    refine v_iconst (x := -1) C d_M_failed_25 (by decide) ?_
    exact v_iret C d_M_failed_26 (by first | exact Nat.le_of_ble_eq_true rfl | (show _ ≤ _; omega)) (by first | exact Nat.le_of_ble_eq_true rfl | (show _ ≤ _; omega)) ⟨(by have e1 : ((nI (zc S 4) - 1 : Int32)).toInt = (zc S 4 : Int) - 1 := pk_sub_toInt (b := 1) (by omega) (by decide); rw [i64_toInt, i64_toInt, e1] at hb_10; rw [oFail, if_neg (show ¬ zIn i 0 ((zc S 4 : Int) - 1) from hb_10)]), hR, hk⟩
set_option maxHeartbeats 4000000 in
set_option maxRecDepth 100000 in
theorem c_M_put (l : Launch) (G : vv_G) (v : vv_V) (o : Nat) (ad : Nat → Nat) (S : zS) (x it k : Int32) (t w : Int64) (cr : Int32) (hR : RM G v o ad S) (hB : zc S 1 < 200) (hcr : cr = 0 ∨ cr = 1) : Mv l y_M_put b_M_put 9 (some FieldType.int) 0 0 G v [.ref o, .int x, .int it, .int k, .long t, .long w, .int cr] (fun r v' => r = some (.int (nI (zc S 1 + 1))) ∧ RM G v' o ad (zput S x it k t w cr) ∧ vkeep (mX o ad) v v') 0 0 := by
  refine vv_metF (own := "CustomerNoticesModel") (nm := "put") pf_M_put rfl rfl (Nat.le_of_ble_eq_true rfl) ?_
  intro p e s m below meth c C hin
  have hk : vkeep (mX o ad) v v := vkeep.rf
  show vV _ _ _ _ _ _ _ _ _ _ _ _ _ v 0 0 0 [(0, .ref o), (1, .int x), (2, .int it), (3, .int k), (4, .long t), (6, .long w), (8, .int cr)] []
  refine v_aload_n C 0 d_M_put_0 rfl rfl ?_
  refine v_dup C d_M_put_1 rfl ?_
  refine v_get C k_M hR.1 9 (by decide) tw_492 (fun _ h => h) rfl d_M_put_2 ?_
  refine v_iconst (x := 1) C d_M_put_5 (by decide) ?_
  refine v_iadd C d_M_put_6 ?_
  refine v_toi (y := nI ((zc S 1) + 1)) (nI_add (zc S 1) 1) ?_
  refine v_put C k_M hR.1 9 (by decide) tw_492 (fun _ h => h) rfl rfl rfl (Nat.le_of_ble_eq_true rfl) d_M_put_7 ?_
  refine v_view (fun v1 ev1 => ?_)
  obtain ⟨S_1, eS_1⟩ : ∃ z, z = zuc S 1 ((zc S 1) + 1) := ⟨_, rfl⟩
  have hR_1 : RM G v1 o ad S_1 := by rw [eS_1]; exact (by rw [ev1]; exact hR.puts rfl (fun f hf => rfl) (fun f hf => rfl))
  have hk_1 : vkeep (mX o ad) v v1 := by rw [ev1]; exact hk.up mX_o
  refine v_aload_n C 0 d_M_put_10 rfl rfl ?_
  refine v_get C k_M hR_1.1 10 (by decide) tw_493 (fun _ h => h) rfl d_M_put_11 ?_
  refine v_aload_n C 0 d_M_put_14 rfl rfl ?_
  refine v_get C k_M hR_1.1 9 (by decide) tw_492 (fun _ h => h) rfl d_M_put_15 ?_
  refine v_toi (y := nI ((zc S 1) + 1)) (by rw [eS_1]; rfl) ?_
  refine v_iload_n C 1 d_M_put_18 rfl rfl ?_
  refine v_iastN C (hR_1.oi (f := 10) (by decide)) (by show _ < 201; omega) (by decide) d_M_put_19 ?_
  refine v_view (fun v2 ev2 => ?_)
  obtain ⟨S_2, eS_2⟩ : ∃ z, z = zui S_1 10 ((zc S 1) + 1) x := ⟨_, rfl⟩
  have hR_2 : RM G v2 o ad S_2 := by rw [eS_2]; exact (by rw [ev2]; exact hR_1.puti 10 (by decide) ((zc S 1) + 1) x)
  have hk_2 : vkeep (mX o ad) v v2 := by rw [ev2]; exact hk_1.up (mX_f (by decide))
  refine v_aload_n C 0 d_M_put_20 rfl rfl ?_
  refine v_get C k_M hR_2.1 11 (by decide) tw_494 (fun _ h => h) rfl d_M_put_21 ?_
  refine v_aload_n C 0 d_M_put_24 rfl rfl ?_
  refine v_get C k_M hR_2.1 9 (by decide) tw_492 (fun _ h => h) rfl d_M_put_25 ?_
  refine v_toi (y := nI ((zc S 1) + 1)) (by rw [eS_2, eS_1]; rfl) ?_
  refine v_iload_n C 2 d_M_put_28 rfl rfl ?_
  refine v_iastN C (hR_2.oi (f := 11) (by decide)) (by show _ < 201; omega) (by decide) d_M_put_29 ?_
  refine v_view (fun v3 ev3 => ?_)
  obtain ⟨S_3, eS_3⟩ : ∃ z, z = zui S_2 11 ((zc S 1) + 1) it := ⟨_, rfl⟩
  have hR_3 : RM G v3 o ad S_3 := by rw [eS_3]; exact (by rw [ev3]; exact hR_2.puti 11 (by decide) ((zc S 1) + 1) it)
  have hk_3 : vkeep (mX o ad) v v3 := by rw [ev3]; exact hk_2.up (mX_f (by decide))
  refine v_aload_n C 0 d_M_put_30 rfl rfl ?_
  refine v_get C k_M hR_3.1 12 (by decide) tw_495 (fun _ h => h) rfl d_M_put_31 ?_
  refine v_aload_n C 0 d_M_put_34 rfl rfl ?_
  refine v_get C k_M hR_3.1 9 (by decide) tw_492 (fun _ h => h) rfl d_M_put_35 ?_
  refine v_toi (y := nI ((zc S 1) + 1)) (by rw [eS_3, eS_2, eS_1]; rfl) ?_
  refine v_iload_n C 3 d_M_put_38 rfl rfl ?_
  refine v_iastN C (hR_3.oi (f := 12) (by decide)) (by show _ < 201; omega) (by decide) d_M_put_39 ?_
  refine v_view (fun v4 ev4 => ?_)
  obtain ⟨S_4, eS_4⟩ : ∃ z, z = zui S_3 12 ((zc S 1) + 1) k := ⟨_, rfl⟩
  have hR_4 : RM G v4 o ad S_4 := by rw [eS_4]; exact (by rw [ev4]; exact hR_3.puti 12 (by decide) ((zc S 1) + 1) k)
  have hk_4 : vkeep (mX o ad) v v4 := by rw [ev4]; exact hk_3.up (mX_f (by decide))
  refine v_aload_n C 0 d_M_put_40 rfl rfl ?_
  refine v_get C k_M hR_4.1 13 (by decide) tw_496 (fun _ h => h) rfl d_M_put_41 ?_
  refine v_aload_n C 0 d_M_put_44 rfl rfl ?_
  refine v_get C k_M hR_4.1 9 (by decide) tw_492 (fun _ h => h) rfl d_M_put_45 ?_
  refine v_toi (y := nI ((zc S 1) + 1)) (by rw [eS_4, eS_3, eS_2, eS_1]; rfl) ?_
  refine v_lload C 4 d_M_put_48 rfl ?_
  refine v_lastN C (hR_4.ol (f := 13) (by decide)) (by show _ < 201; omega) (by decide) d_M_put_50 ?_
  refine v_view (fun v5 ev5 => ?_)
  obtain ⟨S_5, eS_5⟩ : ∃ z, z = zul S_4 13 ((zc S 1) + 1) t := ⟨_, rfl⟩
  have hR_5 : RM G v5 o ad S_5 := by rw [eS_5]; exact (by rw [ev5]; exact hR_4.putl 13 (by decide) ((zc S 1) + 1) t)
  have hk_5 : vkeep (mX o ad) v v5 := by rw [ev5]; exact hk_4.up (mX_f (by decide))
  refine v_aload_n C 0 d_M_put_51 rfl rfl ?_
  refine v_get C k_M hR_5.1 14 (by decide) tw_497 (fun _ h => h) rfl d_M_put_52 ?_
  refine v_aload_n C 0 d_M_put_55 rfl rfl ?_
  refine v_get C k_M hR_5.1 9 (by decide) tw_492 (fun _ h => h) rfl d_M_put_56 ?_
  refine v_toi (y := nI ((zc S 1) + 1)) (by rw [eS_5, eS_4, eS_3, eS_2, eS_1]; rfl) ?_
  refine v_lload C 5 d_M_put_59 rfl ?_
  refine v_lastN C (hR_5.ol (f := 14) (by decide)) (by show _ < 201; omega) (by decide) d_M_put_61 ?_
  refine v_view (fun v6 ev6 => ?_)
  obtain ⟨S_6, eS_6⟩ : ∃ z, z = zul S_5 14 ((zc S 1) + 1) w := ⟨_, rfl⟩
  have hR_6 : RM G v6 o ad S_6 := by rw [eS_6]; exact (by rw [ev6]; exact hR_5.putl 14 (by decide) ((zc S 1) + 1) w)
  have hk_6 : vkeep (mX o ad) v v6 := by rw [ev6]; exact hk_5.up (mX_f (by decide))
  refine v_aload_n C 0 d_M_put_62 rfl rfl ?_
  refine v_get C k_M hR_6.1 15 (by decide) tw_498 (fun _ h => h) rfl d_M_put_63 ?_
  refine v_aload_n C 0 d_M_put_66 rfl rfl ?_
  refine v_get C k_M hR_6.1 9 (by decide) tw_492 (fun _ h => h) rfl d_M_put_67 ?_
  refine v_toi (y := nI ((zc S 1) + 1)) (by rw [eS_6, eS_5, eS_4, eS_3, eS_2, eS_1]; rfl) ?_
  refine v_iconst (x := 0) C d_M_put_70 (by decide) ?_
  refine v_iastN C (hR_6.oi (f := 15) (by decide)) (by show _ < 201; omega) (by decide) d_M_put_71 ?_
  refine v_view (fun v7 ev7 => ?_)
  obtain ⟨S_7, eS_7⟩ : ∃ z, z = zui S_6 15 ((zc S 1) + 1) 0 := ⟨_, rfl⟩
  have hR_7 : RM G v7 o ad S_7 := by rw [eS_7]; exact (by rw [ev7]; exact hR_6.puti 15 (by decide) ((zc S 1) + 1) 0)
  have hk_7 : vkeep (mX o ad) v v7 := by rw [ev7]; exact hk_6.up (mX_f (by decide))
  refine v_aload_n C 0 d_M_put_72 rfl rfl ?_
  refine v_get C k_M hR_7.1 16 (by decide) tw_499 (fun _ h => h) rfl d_M_put_73 ?_
  refine v_aload_n C 0 d_M_put_76 rfl rfl ?_
  refine v_get C k_M hR_7.1 9 (by decide) tw_492 (fun _ h => h) rfl d_M_put_77 ?_
  refine v_toi (y := nI ((zc S 1) + 1)) (by rw [eS_7, eS_6, eS_5, eS_4, eS_3, eS_2, eS_1]; rfl) ?_
  refine v_iload C 6 d_M_put_80 rfl ?_
  refine v_zastN C (hR_7.oz (f := 16) (by decide)) (by show _ < 201; omega) (by decide) d_M_put_82 ?_
  refine v_view (fun v8 ev8 => ?_)
  obtain ⟨S_8, eS_8⟩ : ∃ z, z = zui S_7 16 ((zc S 1) + 1) cr := ⟨_, rfl⟩
  have hR_8 : RM G v8 o ad S_8 := by rw [eS_8]; exact (by rw [ev8]; exact hR_7.putz 16 (by decide) ((zc S 1) + 1) cr cr (vnar_b (by first | assumption | omega)))
  have hk_8 : vkeep (mX o ad) v v8 := by rw [ev8]; exact hk_7.up (mX_f (by decide))
  refine v_aload_n C 0 d_M_put_83 rfl rfl ?_
  refine v_get C k_M hR_8.1 17 (by decide) tw_500 (fun _ h => h) rfl d_M_put_84 ?_
  refine v_aload_n C 0 d_M_put_87 rfl rfl ?_
  refine v_get C k_M hR_8.1 9 (by decide) tw_492 (fun _ h => h) rfl d_M_put_88 ?_
  refine v_toi (y := nI ((zc S 1) + 1)) (by rw [eS_8, eS_7, eS_6, eS_5, eS_4, eS_3, eS_2, eS_1]; rfl) ?_
  refine v_iconst (x := 0) C d_M_put_91 (by decide) ?_
  refine v_zastN C (hR_8.oz (f := 17) (by decide)) (by show _ < 201; omega) (by decide) d_M_put_92 ?_
  refine v_view (fun v9 ev9 => ?_)
  obtain ⟨S_9, eS_9⟩ : ∃ z, z = zui S_8 17 ((zc S 1) + 1) 0 := ⟨_, rfl⟩
  have hR_9 : RM G v9 o ad S_9 := by rw [eS_9]; exact (by rw [ev9]; exact hR_8.putz 17 (by decide) ((zc S 1) + 1) 0 0 (by decide))
  have hk_9 : vkeep (mX o ad) v v9 := by rw [ev9]; exact hk_8.up (mX_f (by decide))
  refine v_aload_n C 0 d_M_put_93 rfl rfl ?_
  refine v_get C k_M hR_9.1 9 (by decide) tw_492 (fun _ h => h) rfl d_M_put_94 ?_
  refine v_toi (y := nI ((zc S 1) + 1)) (by rw [eS_9, eS_8, eS_7, eS_6, eS_5, eS_4, eS_3, eS_2, eS_1]; rfl) ?_
  exact v_iret C d_M_put_97 (by first | exact Nat.le_of_ble_eq_true rfl | (show _ ≤ _; omega)) (by first | exact Nat.le_of_ble_eq_true rfl | (show _ ≤ _; omega)) ⟨rfl, (by subst eS_1 eS_2 eS_3 eS_4 eS_5 eS_6 eS_7 eS_8 eS_9; exact hR_9), hk_9⟩
set_option maxHeartbeats 4000000 in
set_option maxRecDepth 100000 in
theorem lp_M_pairOf {p : Program} {l : Launch} {e : Env} {R : Room} {s : State} {m : MethodId} {args : Array Value} {below : List Frame} {meth : Method} {c : Code} {Q : State → Prop} {G : vv_G} {o : Nat} {ad : Nat → Nat} {S : zS} {v : vv_V} {kc ks : Nat} {x it : Int32} (C : vC p s m args meth c b_M_pairOf 5 (some FieldType.int) "CustomerNoticesModel" G) (hR : RM G v o ad S) (hB : zc S 2 ≤ 60) (kx : vV p l e R s m args below meth c Q G 5 v kc ks 49 [(4, .int (nI (zc S 2))), (3, .int (zix (zpf S x it (zc S 2)))), (0, .ref o), (1, .int x), (2, .int it)] []) : ∀ (n : Nat) (j : Nat), j ≤ zc S 2 → zc S 2 + 1 ≤ j + n → vV p l e R s m args below meth c Q G 5 v kc ks 5 [(4, .int (nI j)), (3, .int (zix (zpf S x it j))), (0, .ref o), (1, .int x), (2, .int it)] [] := by
  intro n
  induction n with
  | zero => intro j h1 h2; exfalso; omega
  | succ n ih =>
    intro j h1 h2
    refine v_iload C 0 d_M_pairOf_5 rfl ?_
    refine v_aload_n C 2 d_M_pairOf_7 rfl rfl ?_
    refine v_get C k_M hR.1 18 (by decide) tw_501 (fun _ h => h) rfl d_M_pairOf_8 ?_
    refine v_icmp_ge C 49 d_M_pairOf_11 (by decide) (fun c_11 => ?_) (fun c_11 => ?_)
    · have n_11 : (zc S 2) ≤ j := (nI_leI (a := (zc S 2)) (b := j) (by omega) (by omega)).mp c_11
      have hj4 : j = zc S 2 := by omega
      subst hj4
      exact kx
    · have n_11 : ¬ (zc S 2) ≤ j := mt (nI_leI (a := (zc S 2)) (b := j) (by omega) (by omega)).mpr c_11
      refine v_aload_n C 2 d_M_pairOf_14 rfl rfl ?_
      refine v_get C k_M hR.1 19 (by decide) tw_502 (fun _ h => h) rfl d_M_pairOf_15 ?_
      refine v_iload C 0 d_M_pairOf_18 rfl ?_
      refine v_ialdN C (hR.oi (f := 19) (by decide)) (by show _ < 60; omega) (by decide) d_M_pairOf_20 ?_
      refine v_iload_n C 3 d_M_pairOf_21 rfl rfl ?_
      refine v_icmp_ne C 41 d_M_pairOf_22 (by decide) (fun c_22 => ?_) (fun c_22 => ?_)
      · refine v_iload_n C 1 d_M_pairOf_41 rfl rfl ?_
        refine v_toi (y := zix (zpf S x it (j + 1))) (by rw [zpf, if_neg (fun z => c_22 z.1)]) ?_
        refine v_istore_n (lv' := [(3, .int (zix (zpf S x it (j + 1)))), (4, .int (nI j)), (0, .ref o), (1, .int x), (2, .int it)]) C d_M_pairOf_42 rfl (by decide) rfl ?_
        refine v_iinc (y := (nI (j + 1))) (lv' := [(4, .int (nI (j + 1))), (3, .int (zix (zpf S x it (j + 1)))), (0, .ref o), (1, .int x), (2, .int it)]) C 1 d_M_pairOf_43 rfl (nI_1 _) (by decide) rfl ?_
        refine v_goto C 5 d_M_pairOf_46 (by decide) ?_
        refine v_sub [0, 1, 2, 3, 4] rfl ?_
        exact ih (j + 1) (by omega) (by omega)
      · refine v_aload_n C 2 d_M_pairOf_25 rfl rfl ?_
        refine v_get C k_M hR.1 20 (by decide) tw_503 (fun _ h => h) rfl d_M_pairOf_26 ?_
        refine v_iload C 0 d_M_pairOf_29 rfl ?_
        refine v_ialdN C (hR.oi (f := 20) (by decide)) (by show _ < 60; omega) (by decide) d_M_pairOf_31 ?_
        refine v_iload_n C 4 d_M_pairOf_32 rfl rfl ?_
        refine v_icmp_ne C 41 d_M_pairOf_33 (by decide) (fun c_33 => ?_) (fun c_33 => ?_)
        · refine v_iload_n C 1 d_M_pairOf_41 rfl rfl ?_
          refine v_toi (y := zix (zpf S x it (j + 1))) (by rw [zpf, if_neg (fun z => c_33 z.2)]) ?_
          refine v_istore_n (lv' := [(3, .int (zix (zpf S x it (j + 1)))), (4, .int (nI j)), (0, .ref o), (1, .int x), (2, .int it)]) C d_M_pairOf_42 rfl (by decide) rfl ?_
          refine v_iinc (y := (nI (j + 1))) (lv' := [(4, .int (nI (j + 1))), (3, .int (zix (zpf S x it (j + 1)))), (0, .ref o), (1, .int x), (2, .int it)]) C 1 d_M_pairOf_43 rfl (nI_1 _) (by decide) rfl ?_
          refine v_goto C 5 d_M_pairOf_46 (by decide) ?_
          refine v_sub [0, 1, 2, 3, 4] rfl ?_
          exact ih (j + 1) (by omega) (by omega)
        · refine v_iload C 0 d_M_pairOf_36 rfl ?_
          refine v_goto C 42 d_M_pairOf_38 (by decide) ?_
          refine v_toi (y := zix (zpf S x it (j + 1))) (by rw [zpf, if_pos ⟨c_22, c_33⟩]; rfl) ?_
          refine v_istore_n (lv' := [(3, .int (zix (zpf S x it (j + 1)))), (4, .int (nI j)), (0, .ref o), (1, .int x), (2, .int it)]) C d_M_pairOf_42 rfl (by decide) rfl ?_
          refine v_iinc (y := (nI (j + 1))) (lv' := [(4, .int (nI (j + 1))), (3, .int (zix (zpf S x it (j + 1)))), (0, .ref o), (1, .int x), (2, .int it)]) C 1 d_M_pairOf_43 rfl (nI_1 _) (by decide) rfl ?_
          refine v_goto C 5 d_M_pairOf_46 (by decide) ?_
          refine v_sub [0, 1, 2, 3, 4] rfl ?_
          exact ih (j + 1) (by omega) (by omega)
set_option maxHeartbeats 4000000 in
set_option maxRecDepth 100000 in
theorem c_M_pairOf (l : Launch) (G : vv_G) (v : vv_V) (o : Nat) (ad : Nat → Nat) (S : zS) (x it : Int32) (hR : RM G v o ad S) (hB : zc S 2 ≤ 60) : Mv l y_M_pairOf b_M_pairOf 5 (some FieldType.int) 0 0 G v [.ref o, .int x, .int it] (fun r v' => r = some (.int (zix (zpf S x it (zc S 2)))) ∧ v' = v) 0 0 := by
  refine vv_metF (own := "CustomerNoticesModel") (nm := "pairOf") pf_M_pairOf rfl rfl (Nat.le_of_ble_eq_true rfl) ?_
  intro p e s m below meth c C hin
  have hk : vkeep (mX o ad) v v := vkeep.rf
  show vV _ _ _ _ _ _ _ _ _ _ _ _ _ v 0 0 0 [(0, .ref o), (1, .int x), (2, .int it)] []
  refine v_iconst (x := -1) C d_M_pairOf_0 (by decide) ?_
  refine v_istore_n (lv' := [(3, .int (-1)), (0, .ref o), (1, .int x), (2, .int it)]) C d_M_pairOf_1 rfl (by decide) rfl ?_
  refine v_iconst (x := 0) C d_M_pairOf_2 (by decide) ?_
  refine v_istore (lv' := [(4, .int 0), (3, .int (-1)), (0, .ref o), (1, .int x), (2, .int it)]) C d_M_pairOf_3 (by decide) rfl ?_
  refine v_sub [0, 1, 2, 3, 4] rfl ?_
  refine lp_M_pairOf C hR hB ?_ (zc S 2 + 1) 0 (by omega) (by omega)
  refine v_iload_n C 1 d_M_pairOf_49 rfl rfl ?_
  exact v_iret C d_M_pairOf_50 (by first | exact Nat.le_of_ble_eq_true rfl | (show _ ≤ _; omega)) (by first | exact Nat.le_of_ble_eq_true rfl | (show _ ≤ _; omega)) ⟨rfl, rfl⟩
set_option maxHeartbeats 4000000 in
set_option maxRecDepth 100000 in
theorem c_M_keep (l : Launch) (G : vv_G) (v : vv_V) (o : Nat) (ad : Nat → Nat) (S : zS) (x it : Int32) (hR : RM G v o ad S) (hB : zc S 2 ≤ 60) (hB2 : zpf S x it (zc S 2) = none → zc S 2 < 60) : Mv l y_M_keep b_M_keep 4 (some FieldType.int) 1 24 G v [.ref o, .int x, .int it] (fun r v' => r = some (.int (nI (zkix S x it))) ∧ RM G v' o ad (zkeep S x it) ∧ vkeep (mX o ad) v v') 0 0 := by
  refine vv_metF (own := "CustomerNoticesModel") (nm := "keep") pf_M_keep rfl rfl (Nat.le_of_ble_eq_true rfl) ?_
  intro p e s m below meth c C hin
  have hk : vkeep (mX o ad) v v := vkeep.rf
  show vV _ _ _ _ _ _ _ _ _ _ _ _ _ v 0 0 0 [(0, .ref o), (1, .int x), (2, .int it)] []
  refine v_aload_n C 0 d_M_keep_0 rfl rfl ?_
  refine v_iload_n C 1 d_M_keep_1 rfl rfl ?_
  refine v_iload_n C 2 d_M_keep_2 rfl rfl ?_
  refine v_callV (rest := []) C (c_M_pairOf l G v o ad S x it hR (by omega)) tw_623 tw_34 tw_620 tw_622 tw_22 mn_M_pairOf hR.1 k_M.1 ⟨Nat.le_of_ble_eq_true rfl, Nat.le_of_ble_eq_true rfl⟩ rfl rfl (Nat.le_of_ble_eq_true rfl) d_M_keep_3 ⟨(by first | exact Nat.le_of_ble_eq_true rfl | (show _ ≤ _; omega)), (by first | exact Nat.le_of_ble_eq_true rfl | (show _ ≤ _; omega))⟩ (fun r_1 v_2 hp_3 => ?_)
  obtain ⟨rfl, hv9⟩ := hp_3
  obtain rfl := hv9.symm
  rcases hpr : zpf S x it (zc S 2) with _ | pk
  · show vV _ _ _ _ _ _ _ _ _ _ _ _ _ v 0 0 6 [(0, .ref o), (1, .int x), (2, .int it)] [.int (-1)]
    refine v_istore_n (lv' := [(3, .int (-1)), (0, .ref o), (1, .int x), (2, .int it)]) C d_M_keep_6 rfl (by decide) rfl ?_
    refine v_iload_n C 0 d_M_keep_7 rfl rfl ?_
    refine v_if_lt C 13 d_M_keep_8 (by decide) (fun _ => ?_) (fun z => absurd (by decide) z)
    have hB3 := hB2 hpr
    refine v_aload_n C 1 d_M_keep_13 rfl rfl ?_
    refine v_get C k_M hR.1 19 (by decide) tw_502 (fun _ h => h) rfl d_M_keep_14 ?_
    refine v_aload_n C 1 d_M_keep_17 rfl rfl ?_
    refine v_get C k_M hR.1 18 (by decide) tw_501 (fun _ h => h) rfl d_M_keep_18 ?_
    refine v_iload_n C 2 d_M_keep_21 rfl rfl ?_
    refine v_iastN C (hR.oi (f := 19) (by decide)) (by show _ < 60; omega) (by decide) d_M_keep_22 ?_
    refine v_view (fun v1 ev1 => ?_)
    obtain ⟨S_4, eS_4⟩ : ∃ z, z = zui S 19 (zc S 2) x := ⟨_, rfl⟩
    have hR_4 : RM G v1 o ad S_4 := by rw [eS_4]; exact (by rw [ev1]; exact hR.puti 19 (by decide) (zc S 2) x)
    have hk_4 : vkeep (mX o ad) v v1 := by rw [ev1]; exact hk.up (mX_f (by decide))
    refine v_aload_n C 1 d_M_keep_23 rfl rfl ?_
    refine v_get C k_M hR_4.1 20 (by decide) tw_503 (fun _ h => h) rfl d_M_keep_24 ?_
    refine v_aload_n C 1 d_M_keep_27 rfl rfl ?_
    refine v_get C k_M hR_4.1 18 (by decide) tw_501 (fun _ h => h) rfl d_M_keep_28 ?_
    refine v_toi (y := nI (zc S 2)) (by rw [eS_4]; rfl) ?_
    refine v_iload_n C 3 d_M_keep_31 rfl rfl ?_
    refine v_iastN C (hR_4.oi (f := 20) (by decide)) (by show _ < 60; omega) (by decide) d_M_keep_32 ?_
    refine v_view (fun v2 ev2 => ?_)
    obtain ⟨S_5, eS_5⟩ : ∃ z, z = zui S_4 20 (zc S 2) it := ⟨_, rfl⟩
    have hR_5 : RM G v2 o ad S_5 := by rw [eS_5]; exact (by rw [ev2]; exact hR_4.puti 20 (by decide) (zc S 2) it)
    have hk_5 : vkeep (mX o ad) v v2 := by rw [ev2]; exact hk_4.up (mX_f (by decide))
    refine v_aload_n C 1 d_M_keep_33 rfl rfl ?_
    refine v_get C k_M hR_5.1 21 (by decide) tw_504 (fun _ h => h) rfl d_M_keep_34 ?_
    refine v_aload_n C 1 d_M_keep_37 rfl rfl ?_
    refine v_get C k_M hR_5.1 18 (by decide) tw_501 (fun _ h => h) rfl d_M_keep_38 ?_
    refine v_toi (y := nI (zc S 2)) (by rw [eS_5, eS_4]; rfl) ?_
    refine v_iconst (x := 0) C d_M_keep_41 (by decide) ?_
    refine v_zastN C (hR_5.oz (f := 21) (by decide)) (by show _ < 60; omega) (by decide) d_M_keep_42 ?_
    refine v_view (fun v3 ev3 => ?_)
    obtain ⟨S_6, eS_6⟩ : ∃ z, z = zui S_5 21 (zc S 2) 0 := ⟨_, rfl⟩
    have hR_6 : RM G v3 o ad S_6 := by rw [eS_6]; exact (by rw [ev3]; exact hR_5.putz 21 (by decide) (zc S 2) 0 0 (by decide))
    have hk_6 : vkeep (mX o ad) v v3 := by rw [ev3]; exact hk_5.up (mX_f (by decide))
    refine v_aload_n C 1 d_M_keep_43 rfl rfl ?_
    refine v_get C k_M hR_6.1 22 (by decide) tw_505 (fun _ h => h) rfl d_M_keep_44 ?_
    refine v_aload_n C 1 d_M_keep_47 rfl rfl ?_
    refine v_get C k_M hR_6.1 18 (by decide) tw_501 (fun _ h => h) rfl d_M_keep_48 ?_
    refine v_toi (y := nI (zc S 2)) (by rw [eS_6, eS_5, eS_4]; rfl) ?_
    refine v_iconst (x := 0) C d_M_keep_51 (by decide) ?_
    refine v_iastN C (hR_6.oi (f := 22) (by decide)) (by show _ < 60; omega) (by decide) d_M_keep_52 ?_
    refine v_view (fun v4 ev4 => ?_)
    obtain ⟨S_7, eS_7⟩ : ∃ z, z = zui S_6 22 (zc S 2) 0 := ⟨_, rfl⟩
    have hR_7 : RM G v4 o ad S_7 := by rw [eS_7]; exact (by rw [ev4]; exact hR_6.puti 22 (by decide) (zc S 2) 0)
    have hk_7 : vkeep (mX o ad) v v4 := by rw [ev4]; exact hk_6.up (mX_f (by decide))
    refine v_aload_n C 1 d_M_keep_53 rfl rfl ?_
    refine v_dup C d_M_keep_54 rfl ?_
    refine v_get C k_M hR_7.1 18 (by decide) tw_501 (fun _ h => h) rfl d_M_keep_55 ?_
    refine v_toi (y := nI (zc S 2)) (by rw [eS_7, eS_6, eS_5, eS_4]; rfl) ?_
    refine v_iconst (x := 1) C d_M_keep_58 (by decide) ?_
    refine v_iadd C d_M_keep_59 ?_
    refine v_toi (y := nI ((zc S 2) + 1)) (nI_add (zc S 2) 1) ?_
    refine v_put C k_M hR_7.1 18 (by decide) tw_501 (fun _ h => h) rfl rfl rfl (Nat.le_of_ble_eq_true rfl) d_M_keep_60 ?_
    refine v_view (fun v5 ev5 => ?_)
    obtain ⟨S_8, eS_8⟩ : ∃ z, z = zuc S_7 2 ((zc S 2) + 1) := ⟨_, rfl⟩
    have hR_8 : RM G v5 o ad S_8 := by rw [eS_8]; exact (by rw [ev5]; exact hR_7.puts rfl (fun f hf => rfl) (fun f hf => rfl))
    have hk_8 : vkeep (mX o ad) v v5 := by rw [ev5]; exact hk_7.up mX_o
    refine v_aload_n C 1 d_M_keep_63 rfl rfl ?_
    refine v_get C k_M hR_8.1 18 (by decide) tw_501 (fun _ h => h) rfl d_M_keep_64 ?_
    refine v_toi (y := nI ((zc S 2) + 1)) (by rw [eS_8, eS_7, eS_6, eS_5, eS_4]; rfl) ?_
    refine v_iconst (x := 1) C d_M_keep_67 (by decide) ?_
    refine v_isub C d_M_keep_68 ?_
    exact v_iret C d_M_keep_69 (by first | exact Nat.le_of_ble_eq_true rfl | (show _ ≤ _; omega)) (by first | exact Nat.le_of_ble_eq_true rfl | (show _ ≤ _; omega)) ⟨(by rw [zkix, hpr]; exact congrArg (fun z => some (Value.int z)) (nI_pred (zc S 2))), (by rw [zkeep, hpr]; subst eS_4 eS_5 eS_6 eS_7 eS_8; exact hR_8), hk_8⟩
  · have hpl := zpf_lt hpr
    show vV _ _ _ _ _ _ _ _ _ _ _ _ _ v 0 0 6 [(0, .ref o), (1, .int x), (2, .int it)] [.int (nI pk)]
    refine v_istore_n (lv' := [(3, .int (nI pk)), (0, .ref o), (1, .int x), (2, .int it)]) C d_M_keep_6 rfl (by decide) rfl ?_
    refine v_iload_n C 0 d_M_keep_7 rfl rfl ?_
    refine v_if_lt C 13 d_M_keep_8 (by decide) (fun z => absurd z (nI_pos (by omega))) (fun _ => ?_)
    refine v_iload_n C 0 d_M_keep_11 rfl rfl ?_
    exact v_iret C d_M_keep_12 (by first | exact Nat.le_of_ble_eq_true rfl | (show _ ≤ _; omega)) (by first | exact Nat.le_of_ble_eq_true rfl | (show _ ≤ _; omega)) ⟨(by rw [zkix, hpr]), (by rw [zkeep, hpr]; exact hR), hk⟩
set_option maxHeartbeats 4000000 in
set_option maxRecDepth 100000 in
theorem c_M_event (l : Launch) (G : vv_G) (v : vv_V) (o : Nat) (ad : Nat → Nat) (S : zS) (x it k : Int32) (t : Int64) (hR : RM G v o ad S) (hB0 : zB S) : Mv l y_M_event b_M_event 9 (some FieldType.int) 2 47 G v [.ref o, .int x, .int it, .int k, .long t] (fun r v' => r = some (.int (oEvent S x it k t).1) ∧ RM G v' o ad (oEvent S x it k t).2 ∧ vkeep (mX o ad) v v') 0 0 := by
  refine vv_metF (own := "CustomerNoticesModel") (nm := "event") pf_M_event rfl rfl (Nat.le_of_ble_eq_true rfl) ?_
  intro p e s m below meth c C hin
  have hk : vkeep (mX o ad) v v := vkeep.rf
  obtain ⟨hB, hB1, hB2, hB3⟩ := hB0
  show vV _ _ _ _ _ _ _ _ _ _ _ _ _ v 0 0 0 [(0, .ref o), (1, .int x), (2, .int it), (3, .int k), (4, .long t)] []
  refine v_aload_n C 0 d_M_event_0 rfl rfl ?_
  refine v_iload_n C 1 d_M_event_1 rfl rfl ?_
  refine v_callV (rest := []) C (c_M_isCustomer l G v o ad S x hR (by omega)) tw_598 tw_34 tw_595 tw_597 tw_19 mn_M_isCustomer hR.1 k_M.1 ⟨Nat.le_of_ble_eq_true rfl, Nat.le_of_ble_eq_true rfl⟩ rfl rfl (Nat.le_of_ble_eq_true rfl) d_M_event_2 ⟨(by first | exact Nat.le_of_ble_eq_true rfl | (show _ ≤ _; omega)), (by first | exact Nat.le_of_ble_eq_true rfl | (show _ ≤ _; omega))⟩ (fun r_1 v_2 hp_3 => ?_)
  rcases hp_3 with ⟨rfl, hv9, hb_2⟩ | ⟨rfl, hv9, hb_2⟩
  · obtain rfl := hv9.symm
    show vV _ _ _ _ _ _ _ _ _ _ _ _ _ v 0 0 5 [(0, .ref o), (1, .int x), (2, .int it), (3, .int k), (4, .long t)] [.int 1]
    refine v_if_ne C 11 d_M_event_5 (by decide) (fun _ => ?_) (fun z => absurd z (by decide))
    refine v_iload_n C 2 d_M_event_11 rfl rfl ?_
    refine v_i2l (y := (Int32.toInt64 it)) C d_M_event_12 rfl ?_
    refine v_lconst (x := 1) C d_M_event_13 (by decide) ?_
    refine v_ldc2 (x := 9999) C d_M_event_14 tw_614 ?_
    refine v_callS (rest := []) C (c_M_isIn l G v (Int32.toInt64 it) 1 9999) tw_588 tw_34 tw_586 tw_587 mn_M_isIn ⟨Nat.le_of_ble_eq_true rfl, Nat.le_of_ble_eq_true rfl⟩ rfl rfl (Nat.le_of_ble_eq_true rfl) d_M_event_17 ⟨(by first | exact Nat.le_of_ble_eq_true rfl | (show _ ≤ _; omega)), (by first | exact Nat.le_of_ble_eq_true rfl | (show _ ≤ _; omega))⟩ (fun r_4 v_5 hp_6 => ?_)
    rcases hp_6 with ⟨rfl, hv9, hb_17⟩ | ⟨rfl, hv9, hb_17⟩
    · obtain rfl := hv9.symm
      show vV _ _ _ _ _ _ _ _ _ _ _ _ _ v 0 0 20 [(0, .ref o), (1, .int x), (2, .int it), (3, .int k), (4, .long t)] [.int 1]
      refine v_if_eq C 44 d_M_event_20 (by decide) (fun z => absurd z (by decide)) (fun _ => ?_)
      refine v_iload_n C 3 d_M_event_23 rfl rfl ?_
      refine v_i2l (y := (Int32.toInt64 k)) C d_M_event_24 rfl ?_
      refine v_lconst (x := 0) C d_M_event_25 (by decide) ?_
      refine v_ldc2 (x := 7) C d_M_event_26 tw_599 ?_
      refine v_callS (rest := []) C (c_M_isIn l G v (Int32.toInt64 k) 0 7) tw_588 tw_34 tw_586 tw_587 mn_M_isIn ⟨Nat.le_of_ble_eq_true rfl, Nat.le_of_ble_eq_true rfl⟩ rfl rfl (Nat.le_of_ble_eq_true rfl) d_M_event_29 ⟨(by first | exact Nat.le_of_ble_eq_true rfl | (show _ ≤ _; omega)), (by first | exact Nat.le_of_ble_eq_true rfl | (show _ ≤ _; omega))⟩ (fun r_7 v_8 hp_9 => ?_)
      rcases hp_9 with ⟨rfl, hv9, hb_29⟩ | ⟨rfl, hv9, hb_29⟩
      · obtain rfl := hv9.symm
        show vV _ _ _ _ _ _ _ _ _ _ _ _ _ v 0 0 32 [(0, .ref o), (1, .int x), (2, .int it), (3, .int k), (4, .long t)] [.int 1]
        refine v_if_eq C 44 d_M_event_32 (by decide) (fun z => absurd z (by decide)) (fun _ => ?_)
        refine v_aload_n C 0 d_M_event_35 rfl rfl ?_
        refine v_lload C 4 d_M_event_36 rfl ?_
        refine v_callV (rest := []) C (c_M_isTime l G v o ad S t hR) tw_618 tw_34 tw_615 tw_617 tw_21 mn_M_isTime hR.1 k_M.1 ⟨Nat.le_of_ble_eq_true rfl, Nat.le_of_ble_eq_true rfl⟩ rfl rfl (Nat.le_of_ble_eq_true rfl) d_M_event_38 ⟨(by first | exact Nat.le_of_ble_eq_true rfl | (show _ ≤ _; omega)), (by first | exact Nat.le_of_ble_eq_true rfl | (show _ ≤ _; omega))⟩ (fun r_10 v_11 hp_12 => ?_)
        rcases hp_12 with ⟨rfl, hv9, hb_38⟩ | ⟨rfl, hv9, hb_38⟩
        · obtain rfl := hv9.symm
          show vV _ _ _ _ _ _ _ _ _ _ _ _ _ v 0 0 41 [(0, .ref o), (1, .int x), (2, .int it), (3, .int k), (4, .long t)] [.int 1]
          refine v_if_ne C 47 d_M_event_41 (by decide) (fun _ => ?_) (fun z => absurd z (by decide))
          rw [i64_toInt] at hb_17 hb_29
          have hz : zIn it 1 9999 ∧ zIn k 0 7 ∧ zTm S t := ⟨hb_17, hb_29, hb_38⟩
          have hx0 := hb_2
          obtain ⟨cu, rfl, hcu1, hcu2, hcu3⟩ := zIn_nI (a := 1) (b := zc S 0) hx0
          obtain ⟨kd, rfl, hkd1, hkd2, hkd3⟩ := zIn_nI (a := 0) (b := 7) hz.2.1
          refine v_aload_n C 0 d_M_event_47 rfl rfl ?_
          refine v_iload_n C 1 d_M_event_48 rfl rfl ?_
          refine v_iload_n C 2 d_M_event_49 rfl rfl ?_
          refine v_callV (rest := []) C (c_M_pairOf l G v o ad S (nI cu) it hR (by omega)) tw_623 tw_34 tw_620 tw_622 tw_22 mn_M_pairOf hR.1 k_M.1 ⟨Nat.le_of_ble_eq_true rfl, Nat.le_of_ble_eq_true rfl⟩ rfl rfl (Nat.le_of_ble_eq_true rfl) d_M_event_50 ⟨(by first | exact Nat.le_of_ble_eq_true rfl | (show _ ≤ _; omega)), (by first | exact Nat.le_of_ble_eq_true rfl | (show _ ≤ _; omega))⟩ (fun r_13 v_14 hp_15 => ?_)
          obtain ⟨rfl, hv9⟩ := hp_15
          obtain rfl := hv9.symm
          rcases hpr : zpf S (nI cu) it (zc S 2) with _ | pk
          · show vV _ _ _ _ _ _ _ _ _ _ _ _ _ v 0 0 53 [(0, .ref o), (1, .int (nI cu)), (2, .int it), (3, .int (nI kd)), (4, .long t)] [.int (-1)]
            refine v_istore (lv' := [(6, .int (-1)), (0, .ref o), (1, .int (nI cu)), (2, .int it), (3, .int (nI kd)), (4, .long t)]) C d_M_event_53 (by decide) rfl ?_
            refine v_iload C 0 d_M_event_55 rfl ?_
            refine v_if_lt C 72 d_M_event_57 (by decide) (fun _ => ?_) (fun z => absurd (by decide) z)
            refine v_iload_n C 4 d_M_event_72 rfl rfl ?_
            refine v_iconst (x := 5) C d_M_event_73 (by decide) ?_
            refine v_icmp_eq C 83 d_M_event_74 (by decide) (fun c_74 => ?_) (fun c_74 => ?_)
            · have n_74 : kd = 5 := (nI_eq (a := kd) (b := 5) (by omega) (by omega)).mp c_74
              refine v_iconst (x := 1) C d_M_event_83 (by decide) ?_
              refine v_goto C 88 d_M_event_84 (by decide) ?_
              refine v_istore (lv' := [(7, .int 1), (6, .int (-1)), (0, .ref o), (1, .int (nI cu)), (2, .int it), (3, .int (nI kd)), (4, .long t)]) C d_M_event_88 (by decide) rfl ?_
              refine v_aload_n C 2 d_M_event_90 rfl rfl ?_
              refine v_iload_n C 3 d_M_event_91 rfl rfl ?_
              refine v_iload_n C 5 d_M_event_92 rfl rfl ?_
              have hwl_93 := zwn_le S (32 * cu + 4 * kd) 4
              refine v_callV (rest := []) C (c_M_wished l G v o ad S cu kd hR (by omega) (by omega)) tw_604 tw_34 tw_601 tw_603 tw_20 mn_M_wished hR.1 k_M.1 ⟨Nat.le_of_ble_eq_true rfl, Nat.le_of_ble_eq_true rfl⟩ rfl rfl (Nat.le_of_ble_eq_true rfl) d_M_event_93 ⟨(by first | exact Nat.le_of_ble_eq_true rfl | (show _ ≤ _; omega)), (by first | exact Nat.le_of_ble_eq_true rfl | (show _ ≤ _; omega))⟩ (fun r_16 v_17 hp_18 => ?_)
              obtain ⟨rfl, hv9⟩ := hp_18
              obtain rfl := hv9.symm
              show vV _ _ _ _ _ _ _ _ _ _ _ _ _ v 0 0 96 [(7, .int 1), (6, .int (-1)), (0, .ref o), (1, .int (nI cu)), (2, .int it), (3, .int (nI kd)), (4, .long t)] [.int (nI (zwn S (32 * cu + 4 * kd) 4))]
              refine v_if_le C 103 d_M_event_96 (by decide) (fun c_96 => ?_) (fun c_96 => ?_)
              · have n_96 : (zwn S (32 * cu + 4 * kd) 4) ≤ 0 := (nI_leI (a := (zwn S (32 * cu + 4 * kd) 4)) (b := 0) (by omega) (by omega)).mp c_96
                refine v_iconst (x := 0) C d_M_event_103 (by decide) ?_
                refine v_istore (lv' := [(8, .int 0), (7, .int 1), (6, .int (-1)), (0, .ref o), (1, .int (nI cu)), (2, .int it), (3, .int (nI kd)), (4, .long t)]) C d_M_event_104 (by decide) rfl ?_
                refine v_iload C 0 d_M_event_106 rfl ?_
                refine v_if_eq C 121 d_M_event_108 (by decide) (fun _ => ?_) (fun z => absurd (by decide) z)
                refine v_iload C 1 d_M_event_121 rfl ?_
                refine v_if_eq C 143 d_M_event_123 (by decide) (fun z => absurd z (by decide)) (fun _ => ?_)
                refine v_iload C 2 d_M_event_126 rfl ?_
                refine v_if_ge C 143 d_M_event_128 (by decide) (fun z => absurd z (by decide)) (fun _ => ?_)
                refine v_aload_n C 3 d_M_event_131 rfl rfl ?_
                refine v_get C k_M hR.1 18 (by decide) tw_501 (fun _ h => h) rfl d_M_event_132 ?_
                refine v_bipush (x := 60) C d_M_event_135 (by decide) ?_
                refine v_icmp_ne C 143 d_M_event_137 (by decide) (fun c_137 => ?_) (fun c_137 => ?_)
                · have n_137 : ¬ (zc S 2) = 60 := mt (nI_eq (a := (zc S 2)) (b := 60) (by omega) (by omega)).mpr c_137
                  refine v_iload C 1 d_M_event_143 rfl ?_
                  refine v_if_eq C 160 d_M_event_145 (by decide) (fun z => absurd z (by decide)) (fun _ => ?_)
                  refine v_aload_n C 3 d_M_event_148 rfl rfl ?_
                  refine v_get C k_M hR.1 21 (by decide) tw_504 (fun _ h => h) rfl d_M_event_149 ?_
                  refine v_aload_n C 3 d_M_event_152 rfl rfl ?_
                  refine v_iload_n C 4 d_M_event_153 rfl rfl ?_
                  refine v_iload_n C 5 d_M_event_154 rfl rfl ?_
                  refine v_callV (rest := [.ref (ad 21)]) C (c_M_keep l G v o ad S (nI cu) it hR (by omega) (by intro z; first | (rw [hpr] at z; exact absurd z (Option.some_ne_none _)) | omega)) tw_627 tw_34 tw_624 tw_626 tw_23 mn_M_keep hR.1 k_M.1 ⟨Nat.le_of_ble_eq_true rfl, Nat.le_of_ble_eq_true rfl⟩ rfl rfl (Nat.le_of_ble_eq_true rfl) d_M_event_155 ⟨(by first | exact Nat.le_of_ble_eq_true rfl | (show _ ≤ _; omega)), (by first | exact Nat.le_of_ble_eq_true rfl | (show _ ≤ _; omega))⟩ (fun r_19 v_20 hp_21 => ?_)
                  obtain ⟨rfl, hRc_hp_21, hkc_hp_21⟩ := hp_21
                  obtain ⟨S_22, eS_22⟩ : ∃ z, z = zkeep S (nI cu) it := ⟨_, rfl⟩
                  have hR_22 : RM G v_20 o ad S_22 := by rw [eS_22]; exact hRc_hp_21
                  have hk_22 : vkeep (mX o ad) v v_20 := hk.tr hkc_hp_21
                  show vV _ _ _ _ _ _ _ _ _ _ _ _ _ v_20 0 0 158 [(8, .int 0), (7, .int 1), (6, .int (-1)), (0, .ref o), (1, .int (nI cu)), (2, .int it), (3, .int (nI kd)), (4, .long t)] [.int (nI (zkix S (nI cu) it)), .ref (ad 21)]
                  refine v_iconst (x := 1) C d_M_event_158 (by decide) ?_
                  have hkx : zkix S (nI cu) it < 60 := by first | (rw [zkix_n hpr]; omega) | (rw [zkix_s hpr]; omega)
                  refine v_zastN C (hR_22.oz (f := 21) (by decide)) hkx (by decide) d_M_event_159 ?_
                  refine v_view (fun v1 ev1 => ?_)
                  obtain ⟨S_23, eS_23⟩ : ∃ z, z = zui S_22 21 (zkix S (nI cu) it) 1 := ⟨_, rfl⟩
                  have hR_23 : RM G v1 o ad S_23 := by rw [eS_23]; exact (by rw [ev1]; exact hR_22.putz 21 (by decide) (zkix S (nI cu) it) 1 1 (by decide))
                  have hk_23 : vkeep (mX o ad) v v1 := by rw [ev1]; exact hk_22.up (mX_f (by decide))
                  have hc1 : zc S_23 1 = zc S 1 := by rw [eS_23, eS_22]; exact zkeep_c1 _ _ _
                  refine v_iload C 0 d_M_event_160 rfl ?_
                  refine v_if_eq C 181 d_M_event_162 (by decide) (fun _ => ?_) (fun z => absurd (by decide) z)
                  refine v_iconst (x := 0) C d_M_event_181 (by decide) ?_
                  exact v_iret C d_M_event_182 (by first | exact Nat.le_of_ble_eq_true rfl | (show _ ≤ _; omega)) (by first | exact Nat.le_of_ble_eq_true rfl | (show _ ≤ _; omega)) ⟨(by  rw [oEvent, zn_nI hcu3, zn_nI hkd3, if_pos hx0, if_pos hz, if_pos (by rw [zended, hpr]), if_neg (by intro z; rcases z with ⟨z1, z2⟩ | ⟨z1, z2, z3⟩; all_goals first | exact n_118 z2 | exact n_137 z3 | (rw [hpr] at z2; cases z2; done) | (rcases z1 with z1 | z1 <;> first | exact c_74 z1 | exact c_80 z1) | omega), if_neg (by omega), zendS, if_pos (Or.inl c_74)] <;> (try rfl)), (by  rw [oEvent, zn_nI hcu3, zn_nI hkd3, if_pos hx0, if_pos hz, if_pos (by rw [zended, hpr]), if_neg (by intro z; rcases z with ⟨z1, z2⟩ | ⟨z1, z2, z3⟩; all_goals first | exact n_118 z2 | exact n_137 z3 | (rw [hpr] at z2; cases z2; done) | (rcases z1 with z1 | z1 <;> first | exact c_74 z1 | exact c_80 z1) | omega), if_neg (by omega), zendS, if_pos (Or.inl c_74)]; subst eS_22 eS_23; exact hR_23), hk_23⟩
                · have n_137 : (zc S 2) = 60 := (nI_eq (a := (zc S 2)) (b := 60) (by omega) (by omega)).mp c_137
                  refine v_bipush (x := -14) C d_M_event_140 (by decide) ?_
                  exact v_iret C d_M_event_142 (by first | exact Nat.le_of_ble_eq_true rfl | (show _ ≤ _; omega)) (by first | exact Nat.le_of_ble_eq_true rfl | (show _ ≤ _; omega)) ⟨(by  rw [oEvent, zn_nI hcu3, zn_nI hkd3, if_pos hx0, if_pos hz, if_pos (by rw [zended, hpr]), if_pos (Or.inr ⟨(Or.inl c_74), hpr, n_137⟩)] <;> (try rfl)), (by  rw [oEvent, zn_nI hcu3, zn_nI hkd3, if_pos hx0, if_pos hz, if_pos (by rw [zended, hpr]), if_pos (Or.inr ⟨(Or.inl c_74), hpr, n_137⟩)]; exact hR), hk⟩
              · have n_96 : ¬ (zwn S (32 * cu + 4 * kd) 4) ≤ 0 := mt (nI_leI (a := (zwn S (32 * cu + 4 * kd) 4)) (b := 0) (by omega) (by omega)).mpr c_96
                refine v_iconst (x := 1) C d_M_event_99 (by decide) ?_
                refine v_goto C 104 d_M_event_100 (by decide) ?_
                refine v_istore (lv' := [(8, .int 1), (7, .int 1), (6, .int (-1)), (0, .ref o), (1, .int (nI cu)), (2, .int it), (3, .int (nI kd)), (4, .long t)]) C d_M_event_104 (by decide) rfl ?_
                refine v_iload C 0 d_M_event_106 rfl ?_
                refine v_if_eq C 121 d_M_event_108 (by decide) (fun z => absurd z (by decide)) (fun _ => ?_)
                refine v_aload_n C 3 d_M_event_111 rfl rfl ?_
                refine v_get C k_M hR.1 9 (by decide) tw_492 (fun _ h => h) rfl d_M_event_112 ?_
                refine v_sipush (x := 200) C d_M_event_115 (by decide) ?_
                refine v_icmp_eq C 140 d_M_event_118 (by decide) (fun c_118 => ?_) (fun c_118 => ?_)
                · have n_118 : (zc S 1) = 200 := (nI_eq (a := (zc S 1)) (b := 200) (by omega) (by omega)).mp c_118
                  refine v_bipush (x := -14) C d_M_event_140 (by decide) ?_
                  exact v_iret C d_M_event_142 (by first | exact Nat.le_of_ble_eq_true rfl | (show _ ≤ _; omega)) (by first | exact Nat.le_of_ble_eq_true rfl | (show _ ≤ _; omega)) ⟨(by  rw [oEvent, zn_nI hcu3, zn_nI hkd3, if_pos hx0, if_pos hz, if_pos (by rw [zended, hpr]), if_pos (Or.inl ⟨by omega, n_118⟩)] <;> (try rfl)), (by  rw [oEvent, zn_nI hcu3, zn_nI hkd3, if_pos hx0, if_pos hz, if_pos (by rw [zended, hpr]), if_pos (Or.inl ⟨by omega, n_118⟩)]; exact hR), hk⟩
                · have n_118 : ¬ (zc S 1) = 200 := mt (nI_eq (a := (zc S 1)) (b := 200) (by omega) (by omega)).mpr c_118
                  refine v_iload C 1 d_M_event_121 rfl ?_
                  refine v_if_eq C 143 d_M_event_123 (by decide) (fun z => absurd z (by decide)) (fun _ => ?_)
                  refine v_iload C 2 d_M_event_126 rfl ?_
                  refine v_if_ge C 143 d_M_event_128 (by decide) (fun z => absurd z (by decide)) (fun _ => ?_)
                  refine v_aload_n C 3 d_M_event_131 rfl rfl ?_
                  refine v_get C k_M hR.1 18 (by decide) tw_501 (fun _ h => h) rfl d_M_event_132 ?_
                  refine v_bipush (x := 60) C d_M_event_135 (by decide) ?_
                  refine v_icmp_ne C 143 d_M_event_137 (by decide) (fun c_137 => ?_) (fun c_137 => ?_)
                  · have n_137 : ¬ (zc S 2) = 60 := mt (nI_eq (a := (zc S 2)) (b := 60) (by omega) (by omega)).mpr c_137
                    refine v_iload C 1 d_M_event_143 rfl ?_
                    refine v_if_eq C 160 d_M_event_145 (by decide) (fun z => absurd z (by decide)) (fun _ => ?_)
                    refine v_aload_n C 3 d_M_event_148 rfl rfl ?_
                    refine v_get C k_M hR.1 21 (by decide) tw_504 (fun _ h => h) rfl d_M_event_149 ?_
                    refine v_aload_n C 3 d_M_event_152 rfl rfl ?_
                    refine v_iload_n C 4 d_M_event_153 rfl rfl ?_
                    refine v_iload_n C 5 d_M_event_154 rfl rfl ?_
                    refine v_callV (rest := [.ref (ad 21)]) C (c_M_keep l G v o ad S (nI cu) it hR (by omega) (by intro z; first | (rw [hpr] at z; exact absurd z (Option.some_ne_none _)) | omega)) tw_627 tw_34 tw_624 tw_626 tw_23 mn_M_keep hR.1 k_M.1 ⟨Nat.le_of_ble_eq_true rfl, Nat.le_of_ble_eq_true rfl⟩ rfl rfl (Nat.le_of_ble_eq_true rfl) d_M_event_155 ⟨(by first | exact Nat.le_of_ble_eq_true rfl | (show _ ≤ _; omega)), (by first | exact Nat.le_of_ble_eq_true rfl | (show _ ≤ _; omega))⟩ (fun r_24 v_25 hp_26 => ?_)
                    obtain ⟨rfl, hRc_hp_26, hkc_hp_26⟩ := hp_26
                    obtain ⟨S_27, eS_27⟩ : ∃ z, z = zkeep S (nI cu) it := ⟨_, rfl⟩
                    have hR_27 : RM G v_25 o ad S_27 := by rw [eS_27]; exact hRc_hp_26
                    have hk_27 : vkeep (mX o ad) v v_25 := hk.tr hkc_hp_26
                    show vV _ _ _ _ _ _ _ _ _ _ _ _ _ v_25 0 0 158 [(8, .int 1), (7, .int 1), (6, .int (-1)), (0, .ref o), (1, .int (nI cu)), (2, .int it), (3, .int (nI kd)), (4, .long t)] [.int (nI (zkix S (nI cu) it)), .ref (ad 21)]
                    refine v_iconst (x := 1) C d_M_event_158 (by decide) ?_
                    have hkx : zkix S (nI cu) it < 60 := by first | (rw [zkix_n hpr]; omega) | (rw [zkix_s hpr]; omega)
                    refine v_zastN C (hR_27.oz (f := 21) (by decide)) hkx (by decide) d_M_event_159 ?_
                    refine v_view (fun v2 ev2 => ?_)
                    obtain ⟨S_28, eS_28⟩ : ∃ z, z = zui S_27 21 (zkix S (nI cu) it) 1 := ⟨_, rfl⟩
                    have hR_28 : RM G v2 o ad S_28 := by rw [eS_28]; exact (by rw [ev2]; exact hR_27.putz 21 (by decide) (zkix S (nI cu) it) 1 1 (by decide))
                    have hk_28 : vkeep (mX o ad) v v2 := by rw [ev2]; exact hk_27.up (mX_f (by decide))
                    have hc1 : zc S_28 1 = zc S 1 := by rw [eS_28, eS_27]; exact zkeep_c1 _ _ _
                    refine v_iload C 0 d_M_event_160 rfl ?_
                    refine v_if_eq C 181 d_M_event_162 (by decide) (fun z => absurd z (by decide)) (fun _ => ?_)
                    refine v_aload_n C 3 d_M_event_165 rfl rfl ?_
                    refine v_iload_n C 4 d_M_event_166 rfl rfl ?_
                    refine v_iload_n C 5 d_M_event_167 rfl rfl ?_
                    refine v_iload_n C 6 d_M_event_168 rfl rfl ?_
                    refine v_lload C 7 d_M_event_169 rfl ?_
                    refine v_ldc2 (x := -1) C d_M_event_171 tw_628 ?_
                    refine v_iconst (x := 0) C d_M_event_174 (by decide) ?_
                    refine v_callV (rest := []) C (c_M_put l G v2 o ad S_28 (nI cu) it (nI kd) t (-1) 0 hR_28 (by rw [hc1]; omega) (by first | exact Or.inl rfl | exact Or.inr rfl)) tw_632 tw_34 tw_629 tw_631 tw_24 mn_M_put hR_28.1 k_M.1 ⟨Nat.le_of_ble_eq_true rfl, Nat.le_of_ble_eq_true rfl⟩ rfl rfl (Nat.le_of_ble_eq_true rfl) d_M_event_175 ⟨(by first | exact Nat.le_of_ble_eq_true rfl | (show _ ≤ _; omega)), (by first | exact Nat.le_of_ble_eq_true rfl | (show _ ≤ _; omega))⟩ (fun r_29 v_30 hp_31 => ?_)
                    obtain ⟨rfl, hRc_hp_31, hkc_hp_31⟩ := hp_31
                    obtain ⟨S_32, eS_32⟩ : ∃ z, z = zput S_28 (nI cu) it (nI kd) t (-1) 0 := ⟨_, rfl⟩
                    have hR_32 : RM G v_30 o ad S_32 := by rw [eS_32]; exact hRc_hp_31
                    have hk_32 : vkeep (mX o ad) v v_30 := hk_28.tr hkc_hp_31
                    show vV _ _ _ _ _ _ _ _ _ _ _ _ _ v_30 0 0 178 [(8, .int 1), (7, .int 1), (6, .int (-1)), (0, .ref o), (1, .int (nI cu)), (2, .int it), (3, .int (nI kd)), (4, .long t)] [.int (nI (zc S_28 1 + 1))]
                    refine v_toi (y := nI (zc S 1 + 1)) (by rw [hc1]) ?_
                    refine v_goto C 182 d_M_event_178 (by decide) ?_
                    exact v_iret C d_M_event_182 (by first | exact Nat.le_of_ble_eq_true rfl | (show _ ≤ _; omega)) (by first | exact Nat.le_of_ble_eq_true rfl | (show _ ≤ _; omega)) ⟨(by  rw [oEvent, zn_nI hcu3, zn_nI hkd3, if_pos hx0, if_pos hz, if_pos (by rw [zended, hpr]), if_neg (by intro z; rcases z with ⟨z1, z2⟩ | ⟨z1, z2, z3⟩; all_goals first | exact n_118 z2 | exact n_137 z3 | (rw [hpr] at z2; cases z2; done) | (rcases z1 with z1 | z1 <;> first | exact c_74 z1 | exact c_80 z1) | omega), if_pos (by omega), zendS, if_pos (Or.inl c_74)] <;> (try rfl)), (by  rw [oEvent, zn_nI hcu3, zn_nI hkd3, if_pos hx0, if_pos hz, if_pos (by rw [zended, hpr]), if_neg (by intro z; rcases z with ⟨z1, z2⟩ | ⟨z1, z2, z3⟩; all_goals first | exact n_118 z2 | exact n_137 z3 | (rw [hpr] at z2; cases z2; done) | (rcases z1 with z1 | z1 <;> first | exact c_74 z1 | exact c_80 z1) | omega), if_pos (by omega), zendS, if_pos (Or.inl c_74)]; subst eS_27 eS_28 eS_32; exact hR_32), hk_32⟩
                  · have n_137 : (zc S 2) = 60 := (nI_eq (a := (zc S 2)) (b := 60) (by omega) (by omega)).mp c_137
                    refine v_bipush (x := -14) C d_M_event_140 (by decide) ?_
                    exact v_iret C d_M_event_142 (by first | exact Nat.le_of_ble_eq_true rfl | (show _ ≤ _; omega)) (by first | exact Nat.le_of_ble_eq_true rfl | (show _ ≤ _; omega)) ⟨(by  rw [oEvent, zn_nI hcu3, zn_nI hkd3, if_pos hx0, if_pos hz, if_pos (by rw [zended, hpr]), if_pos (Or.inr ⟨(Or.inl c_74), hpr, n_137⟩)] <;> (try rfl)), (by  rw [oEvent, zn_nI hcu3, zn_nI hkd3, if_pos hx0, if_pos hz, if_pos (by rw [zended, hpr]), if_pos (Or.inr ⟨(Or.inl c_74), hpr, n_137⟩)]; exact hR), hk⟩
            · have n_74 : ¬ kd = 5 := mt (nI_eq (a := kd) (b := 5) (by omega) (by omega)).mpr c_74
              refine v_iload_n C 4 d_M_event_77 rfl rfl ?_
              refine v_bipush (x := 6) C d_M_event_78 (by decide) ?_
              refine v_icmp_ne C 87 d_M_event_80 (by decide) (fun c_80 => ?_) (fun c_80 => ?_)
              · have n_80 : ¬ kd = 6 := mt (nI_eq (a := kd) (b := 6) (by omega) (by omega)).mpr c_80
                refine v_iconst (x := 0) C d_M_event_87 (by decide) ?_
                refine v_istore (lv' := [(7, .int 0), (6, .int (-1)), (0, .ref o), (1, .int (nI cu)), (2, .int it), (3, .int (nI kd)), (4, .long t)]) C d_M_event_88 (by decide) rfl ?_
                refine v_aload_n C 2 d_M_event_90 rfl rfl ?_
                refine v_iload_n C 3 d_M_event_91 rfl rfl ?_
                refine v_iload_n C 5 d_M_event_92 rfl rfl ?_
                have hwl_93 := zwn_le S (32 * cu + 4 * kd) 4
                refine v_callV (rest := []) C (c_M_wished l G v o ad S cu kd hR (by omega) (by omega)) tw_604 tw_34 tw_601 tw_603 tw_20 mn_M_wished hR.1 k_M.1 ⟨Nat.le_of_ble_eq_true rfl, Nat.le_of_ble_eq_true rfl⟩ rfl rfl (Nat.le_of_ble_eq_true rfl) d_M_event_93 ⟨(by first | exact Nat.le_of_ble_eq_true rfl | (show _ ≤ _; omega)), (by first | exact Nat.le_of_ble_eq_true rfl | (show _ ≤ _; omega))⟩ (fun r_33 v_34 hp_35 => ?_)
                obtain ⟨rfl, hv9⟩ := hp_35
                obtain rfl := hv9.symm
                show vV _ _ _ _ _ _ _ _ _ _ _ _ _ v 0 0 96 [(7, .int 0), (6, .int (-1)), (0, .ref o), (1, .int (nI cu)), (2, .int it), (3, .int (nI kd)), (4, .long t)] [.int (nI (zwn S (32 * cu + 4 * kd) 4))]
                refine v_if_le C 103 d_M_event_96 (by decide) (fun c_96 => ?_) (fun c_96 => ?_)
                · have n_96 : (zwn S (32 * cu + 4 * kd) 4) ≤ 0 := (nI_leI (a := (zwn S (32 * cu + 4 * kd) 4)) (b := 0) (by omega) (by omega)).mp c_96
                  refine v_iconst (x := 0) C d_M_event_103 (by decide) ?_
                  refine v_istore (lv' := [(8, .int 0), (7, .int 0), (6, .int (-1)), (0, .ref o), (1, .int (nI cu)), (2, .int it), (3, .int (nI kd)), (4, .long t)]) C d_M_event_104 (by decide) rfl ?_
                  refine v_iload C 0 d_M_event_106 rfl ?_
                  refine v_if_eq C 121 d_M_event_108 (by decide) (fun _ => ?_) (fun z => absurd (by decide) z)
                  refine v_iload C 1 d_M_event_121 rfl ?_
                  refine v_if_eq C 143 d_M_event_123 (by decide) (fun _ => ?_) (fun z => absurd (by decide) z)
                  refine v_iload C 1 d_M_event_143 rfl ?_
                  refine v_if_eq C 160 d_M_event_145 (by decide) (fun _ => ?_) (fun z => absurd (by decide) z)
                  refine v_iload C 0 d_M_event_160 rfl ?_
                  refine v_if_eq C 181 d_M_event_162 (by decide) (fun _ => ?_) (fun z => absurd (by decide) z)
                  refine v_iconst (x := 0) C d_M_event_181 (by decide) ?_
                  exact v_iret C d_M_event_182 (by first | exact Nat.le_of_ble_eq_true rfl | (show _ ≤ _; omega)) (by first | exact Nat.le_of_ble_eq_true rfl | (show _ ≤ _; omega)) ⟨(by  rw [oEvent, zn_nI hcu3, zn_nI hkd3, if_pos hx0, if_pos hz, if_pos (by rw [zended, hpr]), if_neg (by intro z; rcases z with ⟨z1, z2⟩ | ⟨z1, z2, z3⟩; all_goals first | exact n_118 z2 | exact n_137 z3 | (rw [hpr] at z2; cases z2; done) | (rcases z1 with z1 | z1 <;> first | exact c_74 z1 | exact c_80 z1) | omega), if_neg (by omega), zendS, if_neg (fun z => by rcases z with z | z; exact c_74 z; exact c_80 z)] <;> (try rfl)), (by  rw [oEvent, zn_nI hcu3, zn_nI hkd3, if_pos hx0, if_pos hz, if_pos (by rw [zended, hpr]), if_neg (by intro z; rcases z with ⟨z1, z2⟩ | ⟨z1, z2, z3⟩; all_goals first | exact n_118 z2 | exact n_137 z3 | (rw [hpr] at z2; cases z2; done) | (rcases z1 with z1 | z1 <;> first | exact c_74 z1 | exact c_80 z1) | omega), if_neg (by omega), zendS, if_neg (fun z => by rcases z with z | z; exact c_74 z; exact c_80 z)]; exact hR), hk⟩
                · have n_96 : ¬ (zwn S (32 * cu + 4 * kd) 4) ≤ 0 := mt (nI_leI (a := (zwn S (32 * cu + 4 * kd) 4)) (b := 0) (by omega) (by omega)).mpr c_96
                  refine v_iconst (x := 1) C d_M_event_99 (by decide) ?_
                  refine v_goto C 104 d_M_event_100 (by decide) ?_
                  refine v_istore (lv' := [(8, .int 1), (7, .int 0), (6, .int (-1)), (0, .ref o), (1, .int (nI cu)), (2, .int it), (3, .int (nI kd)), (4, .long t)]) C d_M_event_104 (by decide) rfl ?_
                  refine v_iload C 0 d_M_event_106 rfl ?_
                  refine v_if_eq C 121 d_M_event_108 (by decide) (fun z => absurd z (by decide)) (fun _ => ?_)
                  refine v_aload_n C 3 d_M_event_111 rfl rfl ?_
                  refine v_get C k_M hR.1 9 (by decide) tw_492 (fun _ h => h) rfl d_M_event_112 ?_
                  refine v_sipush (x := 200) C d_M_event_115 (by decide) ?_
                  refine v_icmp_eq C 140 d_M_event_118 (by decide) (fun c_118 => ?_) (fun c_118 => ?_)
                  · have n_118 : (zc S 1) = 200 := (nI_eq (a := (zc S 1)) (b := 200) (by omega) (by omega)).mp c_118
                    refine v_bipush (x := -14) C d_M_event_140 (by decide) ?_
                    exact v_iret C d_M_event_142 (by first | exact Nat.le_of_ble_eq_true rfl | (show _ ≤ _; omega)) (by first | exact Nat.le_of_ble_eq_true rfl | (show _ ≤ _; omega)) ⟨(by  rw [oEvent, zn_nI hcu3, zn_nI hkd3, if_pos hx0, if_pos hz, if_pos (by rw [zended, hpr]), if_pos (Or.inl ⟨by omega, n_118⟩)] <;> (try rfl)), (by  rw [oEvent, zn_nI hcu3, zn_nI hkd3, if_pos hx0, if_pos hz, if_pos (by rw [zended, hpr]), if_pos (Or.inl ⟨by omega, n_118⟩)]; exact hR), hk⟩
                  · have n_118 : ¬ (zc S 1) = 200 := mt (nI_eq (a := (zc S 1)) (b := 200) (by omega) (by omega)).mpr c_118
                    refine v_iload C 1 d_M_event_121 rfl ?_
                    refine v_if_eq C 143 d_M_event_123 (by decide) (fun _ => ?_) (fun z => absurd (by decide) z)
                    refine v_iload C 1 d_M_event_143 rfl ?_
                    refine v_if_eq C 160 d_M_event_145 (by decide) (fun _ => ?_) (fun z => absurd (by decide) z)
                    refine v_iload C 0 d_M_event_160 rfl ?_
                    refine v_if_eq C 181 d_M_event_162 (by decide) (fun z => absurd z (by decide)) (fun _ => ?_)
                    refine v_aload_n C 3 d_M_event_165 rfl rfl ?_
                    refine v_iload_n C 4 d_M_event_166 rfl rfl ?_
                    refine v_iload_n C 5 d_M_event_167 rfl rfl ?_
                    refine v_iload_n C 6 d_M_event_168 rfl rfl ?_
                    refine v_lload C 7 d_M_event_169 rfl ?_
                    refine v_ldc2 (x := -1) C d_M_event_171 tw_628 ?_
                    refine v_iconst (x := 0) C d_M_event_174 (by decide) ?_
                    refine v_callV (rest := []) C (c_M_put l G v o ad S (nI cu) it (nI kd) t (-1) 0 hR (by omega) (by first | exact Or.inl rfl | exact Or.inr rfl)) tw_632 tw_34 tw_629 tw_631 tw_24 mn_M_put hR.1 k_M.1 ⟨Nat.le_of_ble_eq_true rfl, Nat.le_of_ble_eq_true rfl⟩ rfl rfl (Nat.le_of_ble_eq_true rfl) d_M_event_175 ⟨(by first | exact Nat.le_of_ble_eq_true rfl | (show _ ≤ _; omega)), (by first | exact Nat.le_of_ble_eq_true rfl | (show _ ≤ _; omega))⟩ (fun r_36 v_37 hp_38 => ?_)
                    obtain ⟨rfl, hRc_hp_38, hkc_hp_38⟩ := hp_38
                    obtain ⟨S_39, eS_39⟩ : ∃ z, z = zput S (nI cu) it (nI kd) t (-1) 0 := ⟨_, rfl⟩
                    have hR_39 : RM G v_37 o ad S_39 := by rw [eS_39]; exact hRc_hp_38
                    have hk_39 : vkeep (mX o ad) v v_37 := hk.tr hkc_hp_38
                    show vV _ _ _ _ _ _ _ _ _ _ _ _ _ v_37 0 0 178 [(8, .int 1), (7, .int 0), (6, .int (-1)), (0, .ref o), (1, .int (nI cu)), (2, .int it), (3, .int (nI kd)), (4, .long t)] [.int (nI (zc S 1 + 1))]
                    refine v_goto C 182 d_M_event_178 (by decide) ?_
                    exact v_iret C d_M_event_182 (by first | exact Nat.le_of_ble_eq_true rfl | (show _ ≤ _; omega)) (by first | exact Nat.le_of_ble_eq_true rfl | (show _ ≤ _; omega)) ⟨(by  rw [oEvent, zn_nI hcu3, zn_nI hkd3, if_pos hx0, if_pos hz, if_pos (by rw [zended, hpr]), if_neg (by intro z; rcases z with ⟨z1, z2⟩ | ⟨z1, z2, z3⟩; all_goals first | exact n_118 z2 | exact n_137 z3 | (rw [hpr] at z2; cases z2; done) | (rcases z1 with z1 | z1 <;> first | exact c_74 z1 | exact c_80 z1) | omega), if_pos (by omega), zendS, if_neg (fun z => by rcases z with z | z; exact c_74 z; exact c_80 z)] <;> (try rfl)), (by  rw [oEvent, zn_nI hcu3, zn_nI hkd3, if_pos hx0, if_pos hz, if_pos (by rw [zended, hpr]), if_neg (by intro z; rcases z with ⟨z1, z2⟩ | ⟨z1, z2, z3⟩; all_goals first | exact n_118 z2 | exact n_137 z3 | (rw [hpr] at z2; cases z2; done) | (rcases z1 with z1 | z1 <;> first | exact c_74 z1 | exact c_80 z1) | omega), if_pos (by omega), zendS, if_neg (fun z => by rcases z with z | z; exact c_74 z; exact c_80 z)]; subst eS_39; exact hR_39), hk_39⟩
              · have n_80 : kd = 6 := (nI_eq (a := kd) (b := 6) (by omega) (by omega)).mp c_80
                refine v_iconst (x := 1) C d_M_event_83 (by decide) ?_
                refine v_goto C 88 d_M_event_84 (by decide) ?_
                refine v_istore (lv' := [(7, .int 1), (6, .int (-1)), (0, .ref o), (1, .int (nI cu)), (2, .int it), (3, .int (nI kd)), (4, .long t)]) C d_M_event_88 (by decide) rfl ?_
                refine v_aload_n C 2 d_M_event_90 rfl rfl ?_
                refine v_iload_n C 3 d_M_event_91 rfl rfl ?_
                refine v_iload_n C 5 d_M_event_92 rfl rfl ?_
                have hwl_93 := zwn_le S (32 * cu + 4 * kd) 4
                refine v_callV (rest := []) C (c_M_wished l G v o ad S cu kd hR (by omega) (by omega)) tw_604 tw_34 tw_601 tw_603 tw_20 mn_M_wished hR.1 k_M.1 ⟨Nat.le_of_ble_eq_true rfl, Nat.le_of_ble_eq_true rfl⟩ rfl rfl (Nat.le_of_ble_eq_true rfl) d_M_event_93 ⟨(by first | exact Nat.le_of_ble_eq_true rfl | (show _ ≤ _; omega)), (by first | exact Nat.le_of_ble_eq_true rfl | (show _ ≤ _; omega))⟩ (fun r_40 v_41 hp_42 => ?_)
                obtain ⟨rfl, hv9⟩ := hp_42
                obtain rfl := hv9.symm
                show vV _ _ _ _ _ _ _ _ _ _ _ _ _ v 0 0 96 [(7, .int 1), (6, .int (-1)), (0, .ref o), (1, .int (nI cu)), (2, .int it), (3, .int (nI kd)), (4, .long t)] [.int (nI (zwn S (32 * cu + 4 * kd) 4))]
                refine v_if_le C 103 d_M_event_96 (by decide) (fun c_96 => ?_) (fun c_96 => ?_)
                · have n_96 : (zwn S (32 * cu + 4 * kd) 4) ≤ 0 := (nI_leI (a := (zwn S (32 * cu + 4 * kd) 4)) (b := 0) (by omega) (by omega)).mp c_96
                  refine v_iconst (x := 0) C d_M_event_103 (by decide) ?_
                  refine v_istore (lv' := [(8, .int 0), (7, .int 1), (6, .int (-1)), (0, .ref o), (1, .int (nI cu)), (2, .int it), (3, .int (nI kd)), (4, .long t)]) C d_M_event_104 (by decide) rfl ?_
                  refine v_iload C 0 d_M_event_106 rfl ?_
                  refine v_if_eq C 121 d_M_event_108 (by decide) (fun _ => ?_) (fun z => absurd (by decide) z)
                  refine v_iload C 1 d_M_event_121 rfl ?_
                  refine v_if_eq C 143 d_M_event_123 (by decide) (fun z => absurd z (by decide)) (fun _ => ?_)
                  refine v_iload C 2 d_M_event_126 rfl ?_
                  refine v_if_ge C 143 d_M_event_128 (by decide) (fun z => absurd z (by decide)) (fun _ => ?_)
                  refine v_aload_n C 3 d_M_event_131 rfl rfl ?_
                  refine v_get C k_M hR.1 18 (by decide) tw_501 (fun _ h => h) rfl d_M_event_132 ?_
                  refine v_bipush (x := 60) C d_M_event_135 (by decide) ?_
                  refine v_icmp_ne C 143 d_M_event_137 (by decide) (fun c_137 => ?_) (fun c_137 => ?_)
                  · have n_137 : ¬ (zc S 2) = 60 := mt (nI_eq (a := (zc S 2)) (b := 60) (by omega) (by omega)).mpr c_137
                    refine v_iload C 1 d_M_event_143 rfl ?_
                    refine v_if_eq C 160 d_M_event_145 (by decide) (fun z => absurd z (by decide)) (fun _ => ?_)
                    refine v_aload_n C 3 d_M_event_148 rfl rfl ?_
                    refine v_get C k_M hR.1 21 (by decide) tw_504 (fun _ h => h) rfl d_M_event_149 ?_
                    refine v_aload_n C 3 d_M_event_152 rfl rfl ?_
                    refine v_iload_n C 4 d_M_event_153 rfl rfl ?_
                    refine v_iload_n C 5 d_M_event_154 rfl rfl ?_
                    refine v_callV (rest := [.ref (ad 21)]) C (c_M_keep l G v o ad S (nI cu) it hR (by omega) (by intro z; first | (rw [hpr] at z; exact absurd z (Option.some_ne_none _)) | omega)) tw_627 tw_34 tw_624 tw_626 tw_23 mn_M_keep hR.1 k_M.1 ⟨Nat.le_of_ble_eq_true rfl, Nat.le_of_ble_eq_true rfl⟩ rfl rfl (Nat.le_of_ble_eq_true rfl) d_M_event_155 ⟨(by first | exact Nat.le_of_ble_eq_true rfl | (show _ ≤ _; omega)), (by first | exact Nat.le_of_ble_eq_true rfl | (show _ ≤ _; omega))⟩ (fun r_43 v_44 hp_45 => ?_)
                    obtain ⟨rfl, hRc_hp_45, hkc_hp_45⟩ := hp_45
                    obtain ⟨S_46, eS_46⟩ : ∃ z, z = zkeep S (nI cu) it := ⟨_, rfl⟩
                    have hR_46 : RM G v_44 o ad S_46 := by rw [eS_46]; exact hRc_hp_45
                    have hk_46 : vkeep (mX o ad) v v_44 := hk.tr hkc_hp_45
                    show vV _ _ _ _ _ _ _ _ _ _ _ _ _ v_44 0 0 158 [(8, .int 0), (7, .int 1), (6, .int (-1)), (0, .ref o), (1, .int (nI cu)), (2, .int it), (3, .int (nI kd)), (4, .long t)] [.int (nI (zkix S (nI cu) it)), .ref (ad 21)]
                    refine v_iconst (x := 1) C d_M_event_158 (by decide) ?_
                    have hkx : zkix S (nI cu) it < 60 := by first | (rw [zkix_n hpr]; omega) | (rw [zkix_s hpr]; omega)
                    refine v_zastN C (hR_46.oz (f := 21) (by decide)) hkx (by decide) d_M_event_159 ?_
                    refine v_view (fun v3 ev3 => ?_)
                    obtain ⟨S_47, eS_47⟩ : ∃ z, z = zui S_46 21 (zkix S (nI cu) it) 1 := ⟨_, rfl⟩
                    have hR_47 : RM G v3 o ad S_47 := by rw [eS_47]; exact (by rw [ev3]; exact hR_46.putz 21 (by decide) (zkix S (nI cu) it) 1 1 (by decide))
                    have hk_47 : vkeep (mX o ad) v v3 := by rw [ev3]; exact hk_46.up (mX_f (by decide))
                    have hc1 : zc S_47 1 = zc S 1 := by rw [eS_47, eS_46]; exact zkeep_c1 _ _ _
                    refine v_iload C 0 d_M_event_160 rfl ?_
                    refine v_if_eq C 181 d_M_event_162 (by decide) (fun _ => ?_) (fun z => absurd (by decide) z)
                    refine v_iconst (x := 0) C d_M_event_181 (by decide) ?_
                    exact v_iret C d_M_event_182 (by first | exact Nat.le_of_ble_eq_true rfl | (show _ ≤ _; omega)) (by first | exact Nat.le_of_ble_eq_true rfl | (show _ ≤ _; omega)) ⟨(by  rw [oEvent, zn_nI hcu3, zn_nI hkd3, if_pos hx0, if_pos hz, if_pos (by rw [zended, hpr]), if_neg (by intro z; rcases z with ⟨z1, z2⟩ | ⟨z1, z2, z3⟩; all_goals first | exact n_118 z2 | exact n_137 z3 | (rw [hpr] at z2; cases z2; done) | (rcases z1 with z1 | z1 <;> first | exact c_74 z1 | exact c_80 z1) | omega), if_neg (by omega), zendS, if_pos (Or.inr c_80)] <;> (try rfl)), (by  rw [oEvent, zn_nI hcu3, zn_nI hkd3, if_pos hx0, if_pos hz, if_pos (by rw [zended, hpr]), if_neg (by intro z; rcases z with ⟨z1, z2⟩ | ⟨z1, z2, z3⟩; all_goals first | exact n_118 z2 | exact n_137 z3 | (rw [hpr] at z2; cases z2; done) | (rcases z1 with z1 | z1 <;> first | exact c_74 z1 | exact c_80 z1) | omega), if_neg (by omega), zendS, if_pos (Or.inr c_80)]; subst eS_46 eS_47; exact hR_47), hk_47⟩
                  · have n_137 : (zc S 2) = 60 := (nI_eq (a := (zc S 2)) (b := 60) (by omega) (by omega)).mp c_137
                    refine v_bipush (x := -14) C d_M_event_140 (by decide) ?_
                    exact v_iret C d_M_event_142 (by first | exact Nat.le_of_ble_eq_true rfl | (show _ ≤ _; omega)) (by first | exact Nat.le_of_ble_eq_true rfl | (show _ ≤ _; omega)) ⟨(by  rw [oEvent, zn_nI hcu3, zn_nI hkd3, if_pos hx0, if_pos hz, if_pos (by rw [zended, hpr]), if_pos (Or.inr ⟨(Or.inr c_80), hpr, n_137⟩)] <;> (try rfl)), (by  rw [oEvent, zn_nI hcu3, zn_nI hkd3, if_pos hx0, if_pos hz, if_pos (by rw [zended, hpr]), if_pos (Or.inr ⟨(Or.inr c_80), hpr, n_137⟩)]; exact hR), hk⟩
                · have n_96 : ¬ (zwn S (32 * cu + 4 * kd) 4) ≤ 0 := mt (nI_leI (a := (zwn S (32 * cu + 4 * kd) 4)) (b := 0) (by omega) (by omega)).mpr c_96
                  refine v_iconst (x := 1) C d_M_event_99 (by decide) ?_
                  refine v_goto C 104 d_M_event_100 (by decide) ?_
                  refine v_istore (lv' := [(8, .int 1), (7, .int 1), (6, .int (-1)), (0, .ref o), (1, .int (nI cu)), (2, .int it), (3, .int (nI kd)), (4, .long t)]) C d_M_event_104 (by decide) rfl ?_
                  refine v_iload C 0 d_M_event_106 rfl ?_
                  refine v_if_eq C 121 d_M_event_108 (by decide) (fun z => absurd z (by decide)) (fun _ => ?_)
                  refine v_aload_n C 3 d_M_event_111 rfl rfl ?_
                  refine v_get C k_M hR.1 9 (by decide) tw_492 (fun _ h => h) rfl d_M_event_112 ?_
                  refine v_sipush (x := 200) C d_M_event_115 (by decide) ?_
                  refine v_icmp_eq C 140 d_M_event_118 (by decide) (fun c_118 => ?_) (fun c_118 => ?_)
                  · have n_118 : (zc S 1) = 200 := (nI_eq (a := (zc S 1)) (b := 200) (by omega) (by omega)).mp c_118
                    refine v_bipush (x := -14) C d_M_event_140 (by decide) ?_
                    exact v_iret C d_M_event_142 (by first | exact Nat.le_of_ble_eq_true rfl | (show _ ≤ _; omega)) (by first | exact Nat.le_of_ble_eq_true rfl | (show _ ≤ _; omega)) ⟨(by  rw [oEvent, zn_nI hcu3, zn_nI hkd3, if_pos hx0, if_pos hz, if_pos (by rw [zended, hpr]), if_pos (Or.inl ⟨by omega, n_118⟩)] <;> (try rfl)), (by  rw [oEvent, zn_nI hcu3, zn_nI hkd3, if_pos hx0, if_pos hz, if_pos (by rw [zended, hpr]), if_pos (Or.inl ⟨by omega, n_118⟩)]; exact hR), hk⟩
                  · have n_118 : ¬ (zc S 1) = 200 := mt (nI_eq (a := (zc S 1)) (b := 200) (by omega) (by omega)).mpr c_118
                    refine v_iload C 1 d_M_event_121 rfl ?_
                    refine v_if_eq C 143 d_M_event_123 (by decide) (fun z => absurd z (by decide)) (fun _ => ?_)
                    refine v_iload C 2 d_M_event_126 rfl ?_
                    refine v_if_ge C 143 d_M_event_128 (by decide) (fun z => absurd z (by decide)) (fun _ => ?_)
                    refine v_aload_n C 3 d_M_event_131 rfl rfl ?_
                    refine v_get C k_M hR.1 18 (by decide) tw_501 (fun _ h => h) rfl d_M_event_132 ?_
                    refine v_bipush (x := 60) C d_M_event_135 (by decide) ?_
                    refine v_icmp_ne C 143 d_M_event_137 (by decide) (fun c_137 => ?_) (fun c_137 => ?_)
                    · have n_137 : ¬ (zc S 2) = 60 := mt (nI_eq (a := (zc S 2)) (b := 60) (by omega) (by omega)).mpr c_137
                      refine v_iload C 1 d_M_event_143 rfl ?_
                      refine v_if_eq C 160 d_M_event_145 (by decide) (fun z => absurd z (by decide)) (fun _ => ?_)
                      refine v_aload_n C 3 d_M_event_148 rfl rfl ?_
                      refine v_get C k_M hR.1 21 (by decide) tw_504 (fun _ h => h) rfl d_M_event_149 ?_
                      refine v_aload_n C 3 d_M_event_152 rfl rfl ?_
                      refine v_iload_n C 4 d_M_event_153 rfl rfl ?_
                      refine v_iload_n C 5 d_M_event_154 rfl rfl ?_
                      refine v_callV (rest := [.ref (ad 21)]) C (c_M_keep l G v o ad S (nI cu) it hR (by omega) (by intro z; first | (rw [hpr] at z; exact absurd z (Option.some_ne_none _)) | omega)) tw_627 tw_34 tw_624 tw_626 tw_23 mn_M_keep hR.1 k_M.1 ⟨Nat.le_of_ble_eq_true rfl, Nat.le_of_ble_eq_true rfl⟩ rfl rfl (Nat.le_of_ble_eq_true rfl) d_M_event_155 ⟨(by first | exact Nat.le_of_ble_eq_true rfl | (show _ ≤ _; omega)), (by first | exact Nat.le_of_ble_eq_true rfl | (show _ ≤ _; omega))⟩ (fun r_48 v_49 hp_50 => ?_)
                      obtain ⟨rfl, hRc_hp_50, hkc_hp_50⟩ := hp_50
                      obtain ⟨S_51, eS_51⟩ : ∃ z, z = zkeep S (nI cu) it := ⟨_, rfl⟩
                      have hR_51 : RM G v_49 o ad S_51 := by rw [eS_51]; exact hRc_hp_50
                      have hk_51 : vkeep (mX o ad) v v_49 := hk.tr hkc_hp_50
                      show vV _ _ _ _ _ _ _ _ _ _ _ _ _ v_49 0 0 158 [(8, .int 1), (7, .int 1), (6, .int (-1)), (0, .ref o), (1, .int (nI cu)), (2, .int it), (3, .int (nI kd)), (4, .long t)] [.int (nI (zkix S (nI cu) it)), .ref (ad 21)]
                      refine v_iconst (x := 1) C d_M_event_158 (by decide) ?_
                      have hkx : zkix S (nI cu) it < 60 := by first | (rw [zkix_n hpr]; omega) | (rw [zkix_s hpr]; omega)
                      refine v_zastN C (hR_51.oz (f := 21) (by decide)) hkx (by decide) d_M_event_159 ?_
                      refine v_view (fun v4 ev4 => ?_)
                      obtain ⟨S_52, eS_52⟩ : ∃ z, z = zui S_51 21 (zkix S (nI cu) it) 1 := ⟨_, rfl⟩
                      have hR_52 : RM G v4 o ad S_52 := by rw [eS_52]; exact (by rw [ev4]; exact hR_51.putz 21 (by decide) (zkix S (nI cu) it) 1 1 (by decide))
                      have hk_52 : vkeep (mX o ad) v v4 := by rw [ev4]; exact hk_51.up (mX_f (by decide))
                      have hc1 : zc S_52 1 = zc S 1 := by rw [eS_52, eS_51]; exact zkeep_c1 _ _ _
                      refine v_iload C 0 d_M_event_160 rfl ?_
                      refine v_if_eq C 181 d_M_event_162 (by decide) (fun z => absurd z (by decide)) (fun _ => ?_)
                      refine v_aload_n C 3 d_M_event_165 rfl rfl ?_
                      refine v_iload_n C 4 d_M_event_166 rfl rfl ?_
                      refine v_iload_n C 5 d_M_event_167 rfl rfl ?_
                      refine v_iload_n C 6 d_M_event_168 rfl rfl ?_
                      refine v_lload C 7 d_M_event_169 rfl ?_
                      refine v_ldc2 (x := -1) C d_M_event_171 tw_628 ?_
                      refine v_iconst (x := 0) C d_M_event_174 (by decide) ?_
                      refine v_callV (rest := []) C (c_M_put l G v4 o ad S_52 (nI cu) it (nI kd) t (-1) 0 hR_52 (by rw [hc1]; omega) (by first | exact Or.inl rfl | exact Or.inr rfl)) tw_632 tw_34 tw_629 tw_631 tw_24 mn_M_put hR_52.1 k_M.1 ⟨Nat.le_of_ble_eq_true rfl, Nat.le_of_ble_eq_true rfl⟩ rfl rfl (Nat.le_of_ble_eq_true rfl) d_M_event_175 ⟨(by first | exact Nat.le_of_ble_eq_true rfl | (show _ ≤ _; omega)), (by first | exact Nat.le_of_ble_eq_true rfl | (show _ ≤ _; omega))⟩ (fun r_53 v_54 hp_55 => ?_)
                      obtain ⟨rfl, hRc_hp_55, hkc_hp_55⟩ := hp_55
                      obtain ⟨S_56, eS_56⟩ : ∃ z, z = zput S_52 (nI cu) it (nI kd) t (-1) 0 := ⟨_, rfl⟩
                      have hR_56 : RM G v_54 o ad S_56 := by rw [eS_56]; exact hRc_hp_55
                      have hk_56 : vkeep (mX o ad) v v_54 := hk_52.tr hkc_hp_55
                      show vV _ _ _ _ _ _ _ _ _ _ _ _ _ v_54 0 0 178 [(8, .int 1), (7, .int 1), (6, .int (-1)), (0, .ref o), (1, .int (nI cu)), (2, .int it), (3, .int (nI kd)), (4, .long t)] [.int (nI (zc S_52 1 + 1))]
                      refine v_toi (y := nI (zc S 1 + 1)) (by rw [hc1]) ?_
                      refine v_goto C 182 d_M_event_178 (by decide) ?_
                      exact v_iret C d_M_event_182 (by first | exact Nat.le_of_ble_eq_true rfl | (show _ ≤ _; omega)) (by first | exact Nat.le_of_ble_eq_true rfl | (show _ ≤ _; omega)) ⟨(by  rw [oEvent, zn_nI hcu3, zn_nI hkd3, if_pos hx0, if_pos hz, if_pos (by rw [zended, hpr]), if_neg (by intro z; rcases z with ⟨z1, z2⟩ | ⟨z1, z2, z3⟩; all_goals first | exact n_118 z2 | exact n_137 z3 | (rw [hpr] at z2; cases z2; done) | (rcases z1 with z1 | z1 <;> first | exact c_74 z1 | exact c_80 z1) | omega), if_pos (by omega), zendS, if_pos (Or.inr c_80)] <;> (try rfl)), (by  rw [oEvent, zn_nI hcu3, zn_nI hkd3, if_pos hx0, if_pos hz, if_pos (by rw [zended, hpr]), if_neg (by intro z; rcases z with ⟨z1, z2⟩ | ⟨z1, z2, z3⟩; all_goals first | exact n_118 z2 | exact n_137 z3 | (rw [hpr] at z2; cases z2; done) | (rcases z1 with z1 | z1 <;> first | exact c_74 z1 | exact c_80 z1) | omega), if_pos (by omega), zendS, if_pos (Or.inr c_80)]; subst eS_51 eS_52 eS_56; exact hR_56), hk_56⟩
                    · have n_137 : (zc S 2) = 60 := (nI_eq (a := (zc S 2)) (b := 60) (by omega) (by omega)).mp c_137
                      refine v_bipush (x := -14) C d_M_event_140 (by decide) ?_
                      exact v_iret C d_M_event_142 (by first | exact Nat.le_of_ble_eq_true rfl | (show _ ≤ _; omega)) (by first | exact Nat.le_of_ble_eq_true rfl | (show _ ≤ _; omega)) ⟨(by  rw [oEvent, zn_nI hcu3, zn_nI hkd3, if_pos hx0, if_pos hz, if_pos (by rw [zended, hpr]), if_pos (Or.inr ⟨(Or.inr c_80), hpr, n_137⟩)] <;> (try rfl)), (by  rw [oEvent, zn_nI hcu3, zn_nI hkd3, if_pos hx0, if_pos hz, if_pos (by rw [zended, hpr]), if_pos (Or.inr ⟨(Or.inr c_80), hpr, n_137⟩)]; exact hR), hk⟩
          · have hpl := zpf_lt hpr
            show vV _ _ _ _ _ _ _ _ _ _ _ _ _ v 0 0 53 [(0, .ref o), (1, .int (nI cu)), (2, .int it), (3, .int (nI kd)), (4, .long t)] [.int (nI pk)]
            refine v_istore (lv' := [(6, .int (nI pk)), (0, .ref o), (1, .int (nI cu)), (2, .int it), (3, .int (nI kd)), (4, .long t)]) C d_M_event_53 (by decide) rfl ?_
            refine v_iload C 0 d_M_event_55 rfl ?_
            refine v_if_lt C 72 d_M_event_57 (by decide) (fun z => absurd z (nI_pos (by omega))) (fun _ => ?_)
            refine v_aload_n C 1 d_M_event_60 rfl rfl ?_
            refine v_get C k_M hR.1 21 (by decide) tw_504 (fun _ h => h) rfl d_M_event_61 ?_
            refine v_iload C 0 d_M_event_64 rfl ?_
            refine v_zaldN C (hR.oz (f := 21) (by decide)) (by show _ < 60; omega) (by decide) d_M_event_66 ?_
            refine v_if_eq C 72 d_M_event_67 (by decide) (fun c_67 => ?_) (fun c_67 => ?_)
            · refine v_iload_n C 4 d_M_event_72 rfl rfl ?_
              refine v_iconst (x := 5) C d_M_event_73 (by decide) ?_
              refine v_icmp_eq C 83 d_M_event_74 (by decide) (fun c_74 => ?_) (fun c_74 => ?_)
              · have n_74 : kd = 5 := (nI_eq (a := kd) (b := 5) (by omega) (by omega)).mp c_74
                refine v_iconst (x := 1) C d_M_event_83 (by decide) ?_
                refine v_goto C 88 d_M_event_84 (by decide) ?_
                refine v_istore (lv' := [(7, .int 1), (6, .int (nI pk)), (0, .ref o), (1, .int (nI cu)), (2, .int it), (3, .int (nI kd)), (4, .long t)]) C d_M_event_88 (by decide) rfl ?_
                refine v_aload_n C 2 d_M_event_90 rfl rfl ?_
                refine v_iload_n C 3 d_M_event_91 rfl rfl ?_
                refine v_iload_n C 5 d_M_event_92 rfl rfl ?_
                have hwl_93 := zwn_le S (32 * cu + 4 * kd) 4
                refine v_callV (rest := []) C (c_M_wished l G v o ad S cu kd hR (by omega) (by omega)) tw_604 tw_34 tw_601 tw_603 tw_20 mn_M_wished hR.1 k_M.1 ⟨Nat.le_of_ble_eq_true rfl, Nat.le_of_ble_eq_true rfl⟩ rfl rfl (Nat.le_of_ble_eq_true rfl) d_M_event_93 ⟨(by first | exact Nat.le_of_ble_eq_true rfl | (show _ ≤ _; omega)), (by first | exact Nat.le_of_ble_eq_true rfl | (show _ ≤ _; omega))⟩ (fun r_57 v_58 hp_59 => ?_)
                obtain ⟨rfl, hv9⟩ := hp_59
                obtain rfl := hv9.symm
                show vV _ _ _ _ _ _ _ _ _ _ _ _ _ v 0 0 96 [(7, .int 1), (6, .int (nI pk)), (0, .ref o), (1, .int (nI cu)), (2, .int it), (3, .int (nI kd)), (4, .long t)] [.int (nI (zwn S (32 * cu + 4 * kd) 4))]
                refine v_if_le C 103 d_M_event_96 (by decide) (fun c_96 => ?_) (fun c_96 => ?_)
                · have n_96 : (zwn S (32 * cu + 4 * kd) 4) ≤ 0 := (nI_leI (a := (zwn S (32 * cu + 4 * kd) 4)) (b := 0) (by omega) (by omega)).mp c_96
                  refine v_iconst (x := 0) C d_M_event_103 (by decide) ?_
                  refine v_istore (lv' := [(8, .int 0), (7, .int 1), (6, .int (nI pk)), (0, .ref o), (1, .int (nI cu)), (2, .int it), (3, .int (nI kd)), (4, .long t)]) C d_M_event_104 (by decide) rfl ?_
                  refine v_iload C 0 d_M_event_106 rfl ?_
                  refine v_if_eq C 121 d_M_event_108 (by decide) (fun _ => ?_) (fun z => absurd (by decide) z)
                  refine v_iload C 1 d_M_event_121 rfl ?_
                  refine v_if_eq C 143 d_M_event_123 (by decide) (fun z => absurd z (by decide)) (fun _ => ?_)
                  refine v_iload C 2 d_M_event_126 rfl ?_
                  refine v_if_ge C 143 d_M_event_128 (by decide) (fun _ => ?_) (fun z => absurd (nI_pos' (by omega)) z)
                  refine v_iload C 1 d_M_event_143 rfl ?_
                  refine v_if_eq C 160 d_M_event_145 (by decide) (fun z => absurd z (by decide)) (fun _ => ?_)
                  refine v_aload_n C 3 d_M_event_148 rfl rfl ?_
                  refine v_get C k_M hR.1 21 (by decide) tw_504 (fun _ h => h) rfl d_M_event_149 ?_
                  refine v_aload_n C 3 d_M_event_152 rfl rfl ?_
                  refine v_iload_n C 4 d_M_event_153 rfl rfl ?_
                  refine v_iload_n C 5 d_M_event_154 rfl rfl ?_
                  refine v_callV (rest := [.ref (ad 21)]) C (c_M_keep l G v o ad S (nI cu) it hR (by omega) (by intro z; first | (rw [hpr] at z; exact absurd z (Option.some_ne_none _)) | omega)) tw_627 tw_34 tw_624 tw_626 tw_23 mn_M_keep hR.1 k_M.1 ⟨Nat.le_of_ble_eq_true rfl, Nat.le_of_ble_eq_true rfl⟩ rfl rfl (Nat.le_of_ble_eq_true rfl) d_M_event_155 ⟨(by first | exact Nat.le_of_ble_eq_true rfl | (show _ ≤ _; omega)), (by first | exact Nat.le_of_ble_eq_true rfl | (show _ ≤ _; omega))⟩ (fun r_60 v_61 hp_62 => ?_)
                  obtain ⟨rfl, hRc_hp_62, hkc_hp_62⟩ := hp_62
                  obtain ⟨S_63, eS_63⟩ : ∃ z, z = zkeep S (nI cu) it := ⟨_, rfl⟩
                  have hR_63 : RM G v_61 o ad S_63 := by rw [eS_63]; exact hRc_hp_62
                  have hk_63 : vkeep (mX o ad) v v_61 := hk.tr hkc_hp_62
                  show vV _ _ _ _ _ _ _ _ _ _ _ _ _ v_61 0 0 158 [(8, .int 0), (7, .int 1), (6, .int (nI pk)), (0, .ref o), (1, .int (nI cu)), (2, .int it), (3, .int (nI kd)), (4, .long t)] [.int (nI (zkix S (nI cu) it)), .ref (ad 21)]
                  refine v_iconst (x := 1) C d_M_event_158 (by decide) ?_
                  have hkx : zkix S (nI cu) it < 60 := by first | (rw [zkix_n hpr]; omega) | (rw [zkix_s hpr]; omega)
                  refine v_zastN C (hR_63.oz (f := 21) (by decide)) hkx (by decide) d_M_event_159 ?_
                  refine v_view (fun v5 ev5 => ?_)
                  obtain ⟨S_64, eS_64⟩ : ∃ z, z = zui S_63 21 (zkix S (nI cu) it) 1 := ⟨_, rfl⟩
                  have hR_64 : RM G v5 o ad S_64 := by rw [eS_64]; exact (by rw [ev5]; exact hR_63.putz 21 (by decide) (zkix S (nI cu) it) 1 1 (by decide))
                  have hk_64 : vkeep (mX o ad) v v5 := by rw [ev5]; exact hk_63.up (mX_f (by decide))
                  have hc1 : zc S_64 1 = zc S 1 := by rw [eS_64, eS_63]; exact zkeep_c1 _ _ _
                  refine v_iload C 0 d_M_event_160 rfl ?_
                  refine v_if_eq C 181 d_M_event_162 (by decide) (fun _ => ?_) (fun z => absurd (by decide) z)
                  refine v_iconst (x := 0) C d_M_event_181 (by decide) ?_
                  exact v_iret C d_M_event_182 (by first | exact Nat.le_of_ble_eq_true rfl | (show _ ≤ _; omega)) (by first | exact Nat.le_of_ble_eq_true rfl | (show _ ≤ _; omega)) ⟨(by  rw [oEvent, zn_nI hcu3, zn_nI hkd3, if_pos hx0, if_pos hz, if_pos (by rw [zended, hpr]; exact c_67), if_neg (by intro z; rcases z with ⟨z1, z2⟩ | ⟨z1, z2, z3⟩; all_goals first | exact n_118 z2 | exact n_137 z3 | (rw [hpr] at z2; cases z2; done) | (rcases z1 with z1 | z1 <;> first | exact c_74 z1 | exact c_80 z1) | omega), if_neg (by omega), zendS, if_pos (Or.inl c_74)] <;> (try rfl)), (by  rw [oEvent, zn_nI hcu3, zn_nI hkd3, if_pos hx0, if_pos hz, if_pos (by rw [zended, hpr]; exact c_67), if_neg (by intro z; rcases z with ⟨z1, z2⟩ | ⟨z1, z2, z3⟩; all_goals first | exact n_118 z2 | exact n_137 z3 | (rw [hpr] at z2; cases z2; done) | (rcases z1 with z1 | z1 <;> first | exact c_74 z1 | exact c_80 z1) | omega), if_neg (by omega), zendS, if_pos (Or.inl c_74)]; subst eS_63 eS_64; exact hR_64), hk_64⟩
                · have n_96 : ¬ (zwn S (32 * cu + 4 * kd) 4) ≤ 0 := mt (nI_leI (a := (zwn S (32 * cu + 4 * kd) 4)) (b := 0) (by omega) (by omega)).mpr c_96
                  refine v_iconst (x := 1) C d_M_event_99 (by decide) ?_
                  refine v_goto C 104 d_M_event_100 (by decide) ?_
                  refine v_istore (lv' := [(8, .int 1), (7, .int 1), (6, .int (nI pk)), (0, .ref o), (1, .int (nI cu)), (2, .int it), (3, .int (nI kd)), (4, .long t)]) C d_M_event_104 (by decide) rfl ?_
                  refine v_iload C 0 d_M_event_106 rfl ?_
                  refine v_if_eq C 121 d_M_event_108 (by decide) (fun z => absurd z (by decide)) (fun _ => ?_)
                  refine v_aload_n C 3 d_M_event_111 rfl rfl ?_
                  refine v_get C k_M hR.1 9 (by decide) tw_492 (fun _ h => h) rfl d_M_event_112 ?_
                  refine v_sipush (x := 200) C d_M_event_115 (by decide) ?_
                  refine v_icmp_eq C 140 d_M_event_118 (by decide) (fun c_118 => ?_) (fun c_118 => ?_)
                  · have n_118 : (zc S 1) = 200 := (nI_eq (a := (zc S 1)) (b := 200) (by omega) (by omega)).mp c_118
                    refine v_bipush (x := -14) C d_M_event_140 (by decide) ?_
                    exact v_iret C d_M_event_142 (by first | exact Nat.le_of_ble_eq_true rfl | (show _ ≤ _; omega)) (by first | exact Nat.le_of_ble_eq_true rfl | (show _ ≤ _; omega)) ⟨(by  rw [oEvent, zn_nI hcu3, zn_nI hkd3, if_pos hx0, if_pos hz, if_pos (by rw [zended, hpr]; exact c_67), if_pos (Or.inl ⟨by omega, n_118⟩)] <;> (try rfl)), (by  rw [oEvent, zn_nI hcu3, zn_nI hkd3, if_pos hx0, if_pos hz, if_pos (by rw [zended, hpr]; exact c_67), if_pos (Or.inl ⟨by omega, n_118⟩)]; exact hR), hk⟩
                  · have n_118 : ¬ (zc S 1) = 200 := mt (nI_eq (a := (zc S 1)) (b := 200) (by omega) (by omega)).mpr c_118
                    refine v_iload C 1 d_M_event_121 rfl ?_
                    refine v_if_eq C 143 d_M_event_123 (by decide) (fun z => absurd z (by decide)) (fun _ => ?_)
                    refine v_iload C 2 d_M_event_126 rfl ?_
                    refine v_if_ge C 143 d_M_event_128 (by decide) (fun _ => ?_) (fun z => absurd (nI_pos' (by omega)) z)
                    refine v_iload C 1 d_M_event_143 rfl ?_
                    refine v_if_eq C 160 d_M_event_145 (by decide) (fun z => absurd z (by decide)) (fun _ => ?_)
                    refine v_aload_n C 3 d_M_event_148 rfl rfl ?_
                    refine v_get C k_M hR.1 21 (by decide) tw_504 (fun _ h => h) rfl d_M_event_149 ?_
                    refine v_aload_n C 3 d_M_event_152 rfl rfl ?_
                    refine v_iload_n C 4 d_M_event_153 rfl rfl ?_
                    refine v_iload_n C 5 d_M_event_154 rfl rfl ?_
                    refine v_callV (rest := [.ref (ad 21)]) C (c_M_keep l G v o ad S (nI cu) it hR (by omega) (by intro z; first | (rw [hpr] at z; exact absurd z (Option.some_ne_none _)) | omega)) tw_627 tw_34 tw_624 tw_626 tw_23 mn_M_keep hR.1 k_M.1 ⟨Nat.le_of_ble_eq_true rfl, Nat.le_of_ble_eq_true rfl⟩ rfl rfl (Nat.le_of_ble_eq_true rfl) d_M_event_155 ⟨(by first | exact Nat.le_of_ble_eq_true rfl | (show _ ≤ _; omega)), (by first | exact Nat.le_of_ble_eq_true rfl | (show _ ≤ _; omega))⟩ (fun r_65 v_66 hp_67 => ?_)
                    obtain ⟨rfl, hRc_hp_67, hkc_hp_67⟩ := hp_67
                    obtain ⟨S_68, eS_68⟩ : ∃ z, z = zkeep S (nI cu) it := ⟨_, rfl⟩
                    have hR_68 : RM G v_66 o ad S_68 := by rw [eS_68]; exact hRc_hp_67
                    have hk_68 : vkeep (mX o ad) v v_66 := hk.tr hkc_hp_67
                    show vV _ _ _ _ _ _ _ _ _ _ _ _ _ v_66 0 0 158 [(8, .int 1), (7, .int 1), (6, .int (nI pk)), (0, .ref o), (1, .int (nI cu)), (2, .int it), (3, .int (nI kd)), (4, .long t)] [.int (nI (zkix S (nI cu) it)), .ref (ad 21)]
                    refine v_iconst (x := 1) C d_M_event_158 (by decide) ?_
                    have hkx : zkix S (nI cu) it < 60 := by first | (rw [zkix_n hpr]; omega) | (rw [zkix_s hpr]; omega)
                    refine v_zastN C (hR_68.oz (f := 21) (by decide)) hkx (by decide) d_M_event_159 ?_
                    refine v_view (fun v6 ev6 => ?_)
                    obtain ⟨S_69, eS_69⟩ : ∃ z, z = zui S_68 21 (zkix S (nI cu) it) 1 := ⟨_, rfl⟩
                    have hR_69 : RM G v6 o ad S_69 := by rw [eS_69]; exact (by rw [ev6]; exact hR_68.putz 21 (by decide) (zkix S (nI cu) it) 1 1 (by decide))
                    have hk_69 : vkeep (mX o ad) v v6 := by rw [ev6]; exact hk_68.up (mX_f (by decide))
                    have hc1 : zc S_69 1 = zc S 1 := by rw [eS_69, eS_68]; exact zkeep_c1 _ _ _
                    refine v_iload C 0 d_M_event_160 rfl ?_
                    refine v_if_eq C 181 d_M_event_162 (by decide) (fun z => absurd z (by decide)) (fun _ => ?_)
                    refine v_aload_n C 3 d_M_event_165 rfl rfl ?_
                    refine v_iload_n C 4 d_M_event_166 rfl rfl ?_
                    refine v_iload_n C 5 d_M_event_167 rfl rfl ?_
                    refine v_iload_n C 6 d_M_event_168 rfl rfl ?_
                    refine v_lload C 7 d_M_event_169 rfl ?_
                    refine v_ldc2 (x := -1) C d_M_event_171 tw_628 ?_
                    refine v_iconst (x := 0) C d_M_event_174 (by decide) ?_
                    refine v_callV (rest := []) C (c_M_put l G v6 o ad S_69 (nI cu) it (nI kd) t (-1) 0 hR_69 (by rw [hc1]; omega) (by first | exact Or.inl rfl | exact Or.inr rfl)) tw_632 tw_34 tw_629 tw_631 tw_24 mn_M_put hR_69.1 k_M.1 ⟨Nat.le_of_ble_eq_true rfl, Nat.le_of_ble_eq_true rfl⟩ rfl rfl (Nat.le_of_ble_eq_true rfl) d_M_event_175 ⟨(by first | exact Nat.le_of_ble_eq_true rfl | (show _ ≤ _; omega)), (by first | exact Nat.le_of_ble_eq_true rfl | (show _ ≤ _; omega))⟩ (fun r_70 v_71 hp_72 => ?_)
                    obtain ⟨rfl, hRc_hp_72, hkc_hp_72⟩ := hp_72
                    obtain ⟨S_73, eS_73⟩ : ∃ z, z = zput S_69 (nI cu) it (nI kd) t (-1) 0 := ⟨_, rfl⟩
                    have hR_73 : RM G v_71 o ad S_73 := by rw [eS_73]; exact hRc_hp_72
                    have hk_73 : vkeep (mX o ad) v v_71 := hk_69.tr hkc_hp_72
                    show vV _ _ _ _ _ _ _ _ _ _ _ _ _ v_71 0 0 178 [(8, .int 1), (7, .int 1), (6, .int (nI pk)), (0, .ref o), (1, .int (nI cu)), (2, .int it), (3, .int (nI kd)), (4, .long t)] [.int (nI (zc S_69 1 + 1))]
                    refine v_toi (y := nI (zc S 1 + 1)) (by rw [hc1]) ?_
                    refine v_goto C 182 d_M_event_178 (by decide) ?_
                    exact v_iret C d_M_event_182 (by first | exact Nat.le_of_ble_eq_true rfl | (show _ ≤ _; omega)) (by first | exact Nat.le_of_ble_eq_true rfl | (show _ ≤ _; omega)) ⟨(by  rw [oEvent, zn_nI hcu3, zn_nI hkd3, if_pos hx0, if_pos hz, if_pos (by rw [zended, hpr]; exact c_67), if_neg (by intro z; rcases z with ⟨z1, z2⟩ | ⟨z1, z2, z3⟩; all_goals first | exact n_118 z2 | exact n_137 z3 | (rw [hpr] at z2; cases z2; done) | (rcases z1 with z1 | z1 <;> first | exact c_74 z1 | exact c_80 z1) | omega), if_pos (by omega), zendS, if_pos (Or.inl c_74)] <;> (try rfl)), (by  rw [oEvent, zn_nI hcu3, zn_nI hkd3, if_pos hx0, if_pos hz, if_pos (by rw [zended, hpr]; exact c_67), if_neg (by intro z; rcases z with ⟨z1, z2⟩ | ⟨z1, z2, z3⟩; all_goals first | exact n_118 z2 | exact n_137 z3 | (rw [hpr] at z2; cases z2; done) | (rcases z1 with z1 | z1 <;> first | exact c_74 z1 | exact c_80 z1) | omega), if_pos (by omega), zendS, if_pos (Or.inl c_74)]; subst eS_68 eS_69 eS_73; exact hR_73), hk_73⟩
              · have n_74 : ¬ kd = 5 := mt (nI_eq (a := kd) (b := 5) (by omega) (by omega)).mpr c_74
                refine v_iload_n C 4 d_M_event_77 rfl rfl ?_
                refine v_bipush (x := 6) C d_M_event_78 (by decide) ?_
                refine v_icmp_ne C 87 d_M_event_80 (by decide) (fun c_80 => ?_) (fun c_80 => ?_)
                · have n_80 : ¬ kd = 6 := mt (nI_eq (a := kd) (b := 6) (by omega) (by omega)).mpr c_80
                  refine v_iconst (x := 0) C d_M_event_87 (by decide) ?_
                  refine v_istore (lv' := [(7, .int 0), (6, .int (nI pk)), (0, .ref o), (1, .int (nI cu)), (2, .int it), (3, .int (nI kd)), (4, .long t)]) C d_M_event_88 (by decide) rfl ?_
                  refine v_aload_n C 2 d_M_event_90 rfl rfl ?_
                  refine v_iload_n C 3 d_M_event_91 rfl rfl ?_
                  refine v_iload_n C 5 d_M_event_92 rfl rfl ?_
                  have hwl_93 := zwn_le S (32 * cu + 4 * kd) 4
                  refine v_callV (rest := []) C (c_M_wished l G v o ad S cu kd hR (by omega) (by omega)) tw_604 tw_34 tw_601 tw_603 tw_20 mn_M_wished hR.1 k_M.1 ⟨Nat.le_of_ble_eq_true rfl, Nat.le_of_ble_eq_true rfl⟩ rfl rfl (Nat.le_of_ble_eq_true rfl) d_M_event_93 ⟨(by first | exact Nat.le_of_ble_eq_true rfl | (show _ ≤ _; omega)), (by first | exact Nat.le_of_ble_eq_true rfl | (show _ ≤ _; omega))⟩ (fun r_74 v_75 hp_76 => ?_)
                  obtain ⟨rfl, hv9⟩ := hp_76
                  obtain rfl := hv9.symm
                  show vV _ _ _ _ _ _ _ _ _ _ _ _ _ v 0 0 96 [(7, .int 0), (6, .int (nI pk)), (0, .ref o), (1, .int (nI cu)), (2, .int it), (3, .int (nI kd)), (4, .long t)] [.int (nI (zwn S (32 * cu + 4 * kd) 4))]
                  refine v_if_le C 103 d_M_event_96 (by decide) (fun c_96 => ?_) (fun c_96 => ?_)
                  · have n_96 : (zwn S (32 * cu + 4 * kd) 4) ≤ 0 := (nI_leI (a := (zwn S (32 * cu + 4 * kd) 4)) (b := 0) (by omega) (by omega)).mp c_96
                    refine v_iconst (x := 0) C d_M_event_103 (by decide) ?_
                    refine v_istore (lv' := [(8, .int 0), (7, .int 0), (6, .int (nI pk)), (0, .ref o), (1, .int (nI cu)), (2, .int it), (3, .int (nI kd)), (4, .long t)]) C d_M_event_104 (by decide) rfl ?_
                    refine v_iload C 0 d_M_event_106 rfl ?_
                    refine v_if_eq C 121 d_M_event_108 (by decide) (fun _ => ?_) (fun z => absurd (by decide) z)
                    refine v_iload C 1 d_M_event_121 rfl ?_
                    refine v_if_eq C 143 d_M_event_123 (by decide) (fun _ => ?_) (fun z => absurd (by decide) z)
                    refine v_iload C 1 d_M_event_143 rfl ?_
                    refine v_if_eq C 160 d_M_event_145 (by decide) (fun _ => ?_) (fun z => absurd (by decide) z)
                    refine v_iload C 0 d_M_event_160 rfl ?_
                    refine v_if_eq C 181 d_M_event_162 (by decide) (fun _ => ?_) (fun z => absurd (by decide) z)
                    refine v_iconst (x := 0) C d_M_event_181 (by decide) ?_
                    exact v_iret C d_M_event_182 (by first | exact Nat.le_of_ble_eq_true rfl | (show _ ≤ _; omega)) (by first | exact Nat.le_of_ble_eq_true rfl | (show _ ≤ _; omega)) ⟨(by  rw [oEvent, zn_nI hcu3, zn_nI hkd3, if_pos hx0, if_pos hz, if_pos (by rw [zended, hpr]; exact c_67), if_neg (by intro z; rcases z with ⟨z1, z2⟩ | ⟨z1, z2, z3⟩; all_goals first | exact n_118 z2 | exact n_137 z3 | (rw [hpr] at z2; cases z2; done) | (rcases z1 with z1 | z1 <;> first | exact c_74 z1 | exact c_80 z1) | omega), if_neg (by omega), zendS, if_neg (fun z => by rcases z with z | z; exact c_74 z; exact c_80 z)] <;> (try rfl)), (by  rw [oEvent, zn_nI hcu3, zn_nI hkd3, if_pos hx0, if_pos hz, if_pos (by rw [zended, hpr]; exact c_67), if_neg (by intro z; rcases z with ⟨z1, z2⟩ | ⟨z1, z2, z3⟩; all_goals first | exact n_118 z2 | exact n_137 z3 | (rw [hpr] at z2; cases z2; done) | (rcases z1 with z1 | z1 <;> first | exact c_74 z1 | exact c_80 z1) | omega), if_neg (by omega), zendS, if_neg (fun z => by rcases z with z | z; exact c_74 z; exact c_80 z)]; exact hR), hk⟩
                  · have n_96 : ¬ (zwn S (32 * cu + 4 * kd) 4) ≤ 0 := mt (nI_leI (a := (zwn S (32 * cu + 4 * kd) 4)) (b := 0) (by omega) (by omega)).mpr c_96
                    refine v_iconst (x := 1) C d_M_event_99 (by decide) ?_
                    refine v_goto C 104 d_M_event_100 (by decide) ?_
                    refine v_istore (lv' := [(8, .int 1), (7, .int 0), (6, .int (nI pk)), (0, .ref o), (1, .int (nI cu)), (2, .int it), (3, .int (nI kd)), (4, .long t)]) C d_M_event_104 (by decide) rfl ?_
                    refine v_iload C 0 d_M_event_106 rfl ?_
                    refine v_if_eq C 121 d_M_event_108 (by decide) (fun z => absurd z (by decide)) (fun _ => ?_)
                    refine v_aload_n C 3 d_M_event_111 rfl rfl ?_
                    refine v_get C k_M hR.1 9 (by decide) tw_492 (fun _ h => h) rfl d_M_event_112 ?_
                    refine v_sipush (x := 200) C d_M_event_115 (by decide) ?_
                    refine v_icmp_eq C 140 d_M_event_118 (by decide) (fun c_118 => ?_) (fun c_118 => ?_)
                    · have n_118 : (zc S 1) = 200 := (nI_eq (a := (zc S 1)) (b := 200) (by omega) (by omega)).mp c_118
                      refine v_bipush (x := -14) C d_M_event_140 (by decide) ?_
                      exact v_iret C d_M_event_142 (by first | exact Nat.le_of_ble_eq_true rfl | (show _ ≤ _; omega)) (by first | exact Nat.le_of_ble_eq_true rfl | (show _ ≤ _; omega)) ⟨(by  rw [oEvent, zn_nI hcu3, zn_nI hkd3, if_pos hx0, if_pos hz, if_pos (by rw [zended, hpr]; exact c_67), if_pos (Or.inl ⟨by omega, n_118⟩)] <;> (try rfl)), (by  rw [oEvent, zn_nI hcu3, zn_nI hkd3, if_pos hx0, if_pos hz, if_pos (by rw [zended, hpr]; exact c_67), if_pos (Or.inl ⟨by omega, n_118⟩)]; exact hR), hk⟩
                    · have n_118 : ¬ (zc S 1) = 200 := mt (nI_eq (a := (zc S 1)) (b := 200) (by omega) (by omega)).mpr c_118
                      refine v_iload C 1 d_M_event_121 rfl ?_
                      refine v_if_eq C 143 d_M_event_123 (by decide) (fun _ => ?_) (fun z => absurd (by decide) z)
                      refine v_iload C 1 d_M_event_143 rfl ?_
                      refine v_if_eq C 160 d_M_event_145 (by decide) (fun _ => ?_) (fun z => absurd (by decide) z)
                      refine v_iload C 0 d_M_event_160 rfl ?_
                      refine v_if_eq C 181 d_M_event_162 (by decide) (fun z => absurd z (by decide)) (fun _ => ?_)
                      refine v_aload_n C 3 d_M_event_165 rfl rfl ?_
                      refine v_iload_n C 4 d_M_event_166 rfl rfl ?_
                      refine v_iload_n C 5 d_M_event_167 rfl rfl ?_
                      refine v_iload_n C 6 d_M_event_168 rfl rfl ?_
                      refine v_lload C 7 d_M_event_169 rfl ?_
                      refine v_ldc2 (x := -1) C d_M_event_171 tw_628 ?_
                      refine v_iconst (x := 0) C d_M_event_174 (by decide) ?_
                      refine v_callV (rest := []) C (c_M_put l G v o ad S (nI cu) it (nI kd) t (-1) 0 hR (by omega) (by first | exact Or.inl rfl | exact Or.inr rfl)) tw_632 tw_34 tw_629 tw_631 tw_24 mn_M_put hR.1 k_M.1 ⟨Nat.le_of_ble_eq_true rfl, Nat.le_of_ble_eq_true rfl⟩ rfl rfl (Nat.le_of_ble_eq_true rfl) d_M_event_175 ⟨(by first | exact Nat.le_of_ble_eq_true rfl | (show _ ≤ _; omega)), (by first | exact Nat.le_of_ble_eq_true rfl | (show _ ≤ _; omega))⟩ (fun r_77 v_78 hp_79 => ?_)
                      obtain ⟨rfl, hRc_hp_79, hkc_hp_79⟩ := hp_79
                      obtain ⟨S_80, eS_80⟩ : ∃ z, z = zput S (nI cu) it (nI kd) t (-1) 0 := ⟨_, rfl⟩
                      have hR_80 : RM G v_78 o ad S_80 := by rw [eS_80]; exact hRc_hp_79
                      have hk_80 : vkeep (mX o ad) v v_78 := hk.tr hkc_hp_79
                      show vV _ _ _ _ _ _ _ _ _ _ _ _ _ v_78 0 0 178 [(8, .int 1), (7, .int 0), (6, .int (nI pk)), (0, .ref o), (1, .int (nI cu)), (2, .int it), (3, .int (nI kd)), (4, .long t)] [.int (nI (zc S 1 + 1))]
                      refine v_goto C 182 d_M_event_178 (by decide) ?_
                      exact v_iret C d_M_event_182 (by first | exact Nat.le_of_ble_eq_true rfl | (show _ ≤ _; omega)) (by first | exact Nat.le_of_ble_eq_true rfl | (show _ ≤ _; omega)) ⟨(by  rw [oEvent, zn_nI hcu3, zn_nI hkd3, if_pos hx0, if_pos hz, if_pos (by rw [zended, hpr]; exact c_67), if_neg (by intro z; rcases z with ⟨z1, z2⟩ | ⟨z1, z2, z3⟩; all_goals first | exact n_118 z2 | exact n_137 z3 | (rw [hpr] at z2; cases z2; done) | (rcases z1 with z1 | z1 <;> first | exact c_74 z1 | exact c_80 z1) | omega), if_pos (by omega), zendS, if_neg (fun z => by rcases z with z | z; exact c_74 z; exact c_80 z)] <;> (try rfl)), (by  rw [oEvent, zn_nI hcu3, zn_nI hkd3, if_pos hx0, if_pos hz, if_pos (by rw [zended, hpr]; exact c_67), if_neg (by intro z; rcases z with ⟨z1, z2⟩ | ⟨z1, z2, z3⟩; all_goals first | exact n_118 z2 | exact n_137 z3 | (rw [hpr] at z2; cases z2; done) | (rcases z1 with z1 | z1 <;> first | exact c_74 z1 | exact c_80 z1) | omega), if_pos (by omega), zendS, if_neg (fun z => by rcases z with z | z; exact c_74 z; exact c_80 z)]; subst eS_80; exact hR_80), hk_80⟩
                · have n_80 : kd = 6 := (nI_eq (a := kd) (b := 6) (by omega) (by omega)).mp c_80
                  refine v_iconst (x := 1) C d_M_event_83 (by decide) ?_
                  refine v_goto C 88 d_M_event_84 (by decide) ?_
                  refine v_istore (lv' := [(7, .int 1), (6, .int (nI pk)), (0, .ref o), (1, .int (nI cu)), (2, .int it), (3, .int (nI kd)), (4, .long t)]) C d_M_event_88 (by decide) rfl ?_
                  refine v_aload_n C 2 d_M_event_90 rfl rfl ?_
                  refine v_iload_n C 3 d_M_event_91 rfl rfl ?_
                  refine v_iload_n C 5 d_M_event_92 rfl rfl ?_
                  have hwl_93 := zwn_le S (32 * cu + 4 * kd) 4
                  refine v_callV (rest := []) C (c_M_wished l G v o ad S cu kd hR (by omega) (by omega)) tw_604 tw_34 tw_601 tw_603 tw_20 mn_M_wished hR.1 k_M.1 ⟨Nat.le_of_ble_eq_true rfl, Nat.le_of_ble_eq_true rfl⟩ rfl rfl (Nat.le_of_ble_eq_true rfl) d_M_event_93 ⟨(by first | exact Nat.le_of_ble_eq_true rfl | (show _ ≤ _; omega)), (by first | exact Nat.le_of_ble_eq_true rfl | (show _ ≤ _; omega))⟩ (fun r_81 v_82 hp_83 => ?_)
                  obtain ⟨rfl, hv9⟩ := hp_83
                  obtain rfl := hv9.symm
                  show vV _ _ _ _ _ _ _ _ _ _ _ _ _ v 0 0 96 [(7, .int 1), (6, .int (nI pk)), (0, .ref o), (1, .int (nI cu)), (2, .int it), (3, .int (nI kd)), (4, .long t)] [.int (nI (zwn S (32 * cu + 4 * kd) 4))]
                  refine v_if_le C 103 d_M_event_96 (by decide) (fun c_96 => ?_) (fun c_96 => ?_)
                  · have n_96 : (zwn S (32 * cu + 4 * kd) 4) ≤ 0 := (nI_leI (a := (zwn S (32 * cu + 4 * kd) 4)) (b := 0) (by omega) (by omega)).mp c_96
                    refine v_iconst (x := 0) C d_M_event_103 (by decide) ?_
                    refine v_istore (lv' := [(8, .int 0), (7, .int 1), (6, .int (nI pk)), (0, .ref o), (1, .int (nI cu)), (2, .int it), (3, .int (nI kd)), (4, .long t)]) C d_M_event_104 (by decide) rfl ?_
                    refine v_iload C 0 d_M_event_106 rfl ?_
                    refine v_if_eq C 121 d_M_event_108 (by decide) (fun _ => ?_) (fun z => absurd (by decide) z)
                    refine v_iload C 1 d_M_event_121 rfl ?_
                    refine v_if_eq C 143 d_M_event_123 (by decide) (fun z => absurd z (by decide)) (fun _ => ?_)
                    refine v_iload C 2 d_M_event_126 rfl ?_
                    refine v_if_ge C 143 d_M_event_128 (by decide) (fun _ => ?_) (fun z => absurd (nI_pos' (by omega)) z)
                    refine v_iload C 1 d_M_event_143 rfl ?_
                    refine v_if_eq C 160 d_M_event_145 (by decide) (fun z => absurd z (by decide)) (fun _ => ?_)
                    refine v_aload_n C 3 d_M_event_148 rfl rfl ?_
                    refine v_get C k_M hR.1 21 (by decide) tw_504 (fun _ h => h) rfl d_M_event_149 ?_
                    refine v_aload_n C 3 d_M_event_152 rfl rfl ?_
                    refine v_iload_n C 4 d_M_event_153 rfl rfl ?_
                    refine v_iload_n C 5 d_M_event_154 rfl rfl ?_
                    refine v_callV (rest := [.ref (ad 21)]) C (c_M_keep l G v o ad S (nI cu) it hR (by omega) (by intro z; first | (rw [hpr] at z; exact absurd z (Option.some_ne_none _)) | omega)) tw_627 tw_34 tw_624 tw_626 tw_23 mn_M_keep hR.1 k_M.1 ⟨Nat.le_of_ble_eq_true rfl, Nat.le_of_ble_eq_true rfl⟩ rfl rfl (Nat.le_of_ble_eq_true rfl) d_M_event_155 ⟨(by first | exact Nat.le_of_ble_eq_true rfl | (show _ ≤ _; omega)), (by first | exact Nat.le_of_ble_eq_true rfl | (show _ ≤ _; omega))⟩ (fun r_84 v_85 hp_86 => ?_)
                    obtain ⟨rfl, hRc_hp_86, hkc_hp_86⟩ := hp_86
                    obtain ⟨S_87, eS_87⟩ : ∃ z, z = zkeep S (nI cu) it := ⟨_, rfl⟩
                    have hR_87 : RM G v_85 o ad S_87 := by rw [eS_87]; exact hRc_hp_86
                    have hk_87 : vkeep (mX o ad) v v_85 := hk.tr hkc_hp_86
                    show vV _ _ _ _ _ _ _ _ _ _ _ _ _ v_85 0 0 158 [(8, .int 0), (7, .int 1), (6, .int (nI pk)), (0, .ref o), (1, .int (nI cu)), (2, .int it), (3, .int (nI kd)), (4, .long t)] [.int (nI (zkix S (nI cu) it)), .ref (ad 21)]
                    refine v_iconst (x := 1) C d_M_event_158 (by decide) ?_
                    have hkx : zkix S (nI cu) it < 60 := by first | (rw [zkix_n hpr]; omega) | (rw [zkix_s hpr]; omega)
                    refine v_zastN C (hR_87.oz (f := 21) (by decide)) hkx (by decide) d_M_event_159 ?_
                    refine v_view (fun v7 ev7 => ?_)
                    obtain ⟨S_88, eS_88⟩ : ∃ z, z = zui S_87 21 (zkix S (nI cu) it) 1 := ⟨_, rfl⟩
                    have hR_88 : RM G v7 o ad S_88 := by rw [eS_88]; exact (by rw [ev7]; exact hR_87.putz 21 (by decide) (zkix S (nI cu) it) 1 1 (by decide))
                    have hk_88 : vkeep (mX o ad) v v7 := by rw [ev7]; exact hk_87.up (mX_f (by decide))
                    have hc1 : zc S_88 1 = zc S 1 := by rw [eS_88, eS_87]; exact zkeep_c1 _ _ _
                    refine v_iload C 0 d_M_event_160 rfl ?_
                    refine v_if_eq C 181 d_M_event_162 (by decide) (fun _ => ?_) (fun z => absurd (by decide) z)
                    refine v_iconst (x := 0) C d_M_event_181 (by decide) ?_
                    exact v_iret C d_M_event_182 (by first | exact Nat.le_of_ble_eq_true rfl | (show _ ≤ _; omega)) (by first | exact Nat.le_of_ble_eq_true rfl | (show _ ≤ _; omega)) ⟨(by  rw [oEvent, zn_nI hcu3, zn_nI hkd3, if_pos hx0, if_pos hz, if_pos (by rw [zended, hpr]; exact c_67), if_neg (by intro z; rcases z with ⟨z1, z2⟩ | ⟨z1, z2, z3⟩; all_goals first | exact n_118 z2 | exact n_137 z3 | (rw [hpr] at z2; cases z2; done) | (rcases z1 with z1 | z1 <;> first | exact c_74 z1 | exact c_80 z1) | omega), if_neg (by omega), zendS, if_pos (Or.inr c_80)] <;> (try rfl)), (by  rw [oEvent, zn_nI hcu3, zn_nI hkd3, if_pos hx0, if_pos hz, if_pos (by rw [zended, hpr]; exact c_67), if_neg (by intro z; rcases z with ⟨z1, z2⟩ | ⟨z1, z2, z3⟩; all_goals first | exact n_118 z2 | exact n_137 z3 | (rw [hpr] at z2; cases z2; done) | (rcases z1 with z1 | z1 <;> first | exact c_74 z1 | exact c_80 z1) | omega), if_neg (by omega), zendS, if_pos (Or.inr c_80)]; subst eS_87 eS_88; exact hR_88), hk_88⟩
                  · have n_96 : ¬ (zwn S (32 * cu + 4 * kd) 4) ≤ 0 := mt (nI_leI (a := (zwn S (32 * cu + 4 * kd) 4)) (b := 0) (by omega) (by omega)).mpr c_96
                    refine v_iconst (x := 1) C d_M_event_99 (by decide) ?_
                    refine v_goto C 104 d_M_event_100 (by decide) ?_
                    refine v_istore (lv' := [(8, .int 1), (7, .int 1), (6, .int (nI pk)), (0, .ref o), (1, .int (nI cu)), (2, .int it), (3, .int (nI kd)), (4, .long t)]) C d_M_event_104 (by decide) rfl ?_
                    refine v_iload C 0 d_M_event_106 rfl ?_
                    refine v_if_eq C 121 d_M_event_108 (by decide) (fun z => absurd z (by decide)) (fun _ => ?_)
                    refine v_aload_n C 3 d_M_event_111 rfl rfl ?_
                    refine v_get C k_M hR.1 9 (by decide) tw_492 (fun _ h => h) rfl d_M_event_112 ?_
                    refine v_sipush (x := 200) C d_M_event_115 (by decide) ?_
                    refine v_icmp_eq C 140 d_M_event_118 (by decide) (fun c_118 => ?_) (fun c_118 => ?_)
                    · have n_118 : (zc S 1) = 200 := (nI_eq (a := (zc S 1)) (b := 200) (by omega) (by omega)).mp c_118
                      refine v_bipush (x := -14) C d_M_event_140 (by decide) ?_
                      exact v_iret C d_M_event_142 (by first | exact Nat.le_of_ble_eq_true rfl | (show _ ≤ _; omega)) (by first | exact Nat.le_of_ble_eq_true rfl | (show _ ≤ _; omega)) ⟨(by  rw [oEvent, zn_nI hcu3, zn_nI hkd3, if_pos hx0, if_pos hz, if_pos (by rw [zended, hpr]; exact c_67), if_pos (Or.inl ⟨by omega, n_118⟩)] <;> (try rfl)), (by  rw [oEvent, zn_nI hcu3, zn_nI hkd3, if_pos hx0, if_pos hz, if_pos (by rw [zended, hpr]; exact c_67), if_pos (Or.inl ⟨by omega, n_118⟩)]; exact hR), hk⟩
                    · have n_118 : ¬ (zc S 1) = 200 := mt (nI_eq (a := (zc S 1)) (b := 200) (by omega) (by omega)).mpr c_118
                      refine v_iload C 1 d_M_event_121 rfl ?_
                      refine v_if_eq C 143 d_M_event_123 (by decide) (fun z => absurd z (by decide)) (fun _ => ?_)
                      refine v_iload C 2 d_M_event_126 rfl ?_
                      refine v_if_ge C 143 d_M_event_128 (by decide) (fun _ => ?_) (fun z => absurd (nI_pos' (by omega)) z)
                      refine v_iload C 1 d_M_event_143 rfl ?_
                      refine v_if_eq C 160 d_M_event_145 (by decide) (fun z => absurd z (by decide)) (fun _ => ?_)
                      refine v_aload_n C 3 d_M_event_148 rfl rfl ?_
                      refine v_get C k_M hR.1 21 (by decide) tw_504 (fun _ h => h) rfl d_M_event_149 ?_
                      refine v_aload_n C 3 d_M_event_152 rfl rfl ?_
                      refine v_iload_n C 4 d_M_event_153 rfl rfl ?_
                      refine v_iload_n C 5 d_M_event_154 rfl rfl ?_
                      refine v_callV (rest := [.ref (ad 21)]) C (c_M_keep l G v o ad S (nI cu) it hR (by omega) (by intro z; first | (rw [hpr] at z; exact absurd z (Option.some_ne_none _)) | omega)) tw_627 tw_34 tw_624 tw_626 tw_23 mn_M_keep hR.1 k_M.1 ⟨Nat.le_of_ble_eq_true rfl, Nat.le_of_ble_eq_true rfl⟩ rfl rfl (Nat.le_of_ble_eq_true rfl) d_M_event_155 ⟨(by first | exact Nat.le_of_ble_eq_true rfl | (show _ ≤ _; omega)), (by first | exact Nat.le_of_ble_eq_true rfl | (show _ ≤ _; omega))⟩ (fun r_89 v_90 hp_91 => ?_)
                      obtain ⟨rfl, hRc_hp_91, hkc_hp_91⟩ := hp_91
                      obtain ⟨S_92, eS_92⟩ : ∃ z, z = zkeep S (nI cu) it := ⟨_, rfl⟩
                      have hR_92 : RM G v_90 o ad S_92 := by rw [eS_92]; exact hRc_hp_91
                      have hk_92 : vkeep (mX o ad) v v_90 := hk.tr hkc_hp_91
                      show vV _ _ _ _ _ _ _ _ _ _ _ _ _ v_90 0 0 158 [(8, .int 1), (7, .int 1), (6, .int (nI pk)), (0, .ref o), (1, .int (nI cu)), (2, .int it), (3, .int (nI kd)), (4, .long t)] [.int (nI (zkix S (nI cu) it)), .ref (ad 21)]
                      refine v_iconst (x := 1) C d_M_event_158 (by decide) ?_
                      have hkx : zkix S (nI cu) it < 60 := by first | (rw [zkix_n hpr]; omega) | (rw [zkix_s hpr]; omega)
                      refine v_zastN C (hR_92.oz (f := 21) (by decide)) hkx (by decide) d_M_event_159 ?_
                      refine v_view (fun v8 ev8 => ?_)
                      obtain ⟨S_93, eS_93⟩ : ∃ z, z = zui S_92 21 (zkix S (nI cu) it) 1 := ⟨_, rfl⟩
                      have hR_93 : RM G v8 o ad S_93 := by rw [eS_93]; exact (by rw [ev8]; exact hR_92.putz 21 (by decide) (zkix S (nI cu) it) 1 1 (by decide))
                      have hk_93 : vkeep (mX o ad) v v8 := by rw [ev8]; exact hk_92.up (mX_f (by decide))
                      have hc1 : zc S_93 1 = zc S 1 := by rw [eS_93, eS_92]; exact zkeep_c1 _ _ _
                      refine v_iload C 0 d_M_event_160 rfl ?_
                      refine v_if_eq C 181 d_M_event_162 (by decide) (fun z => absurd z (by decide)) (fun _ => ?_)
                      refine v_aload_n C 3 d_M_event_165 rfl rfl ?_
                      refine v_iload_n C 4 d_M_event_166 rfl rfl ?_
                      refine v_iload_n C 5 d_M_event_167 rfl rfl ?_
                      refine v_iload_n C 6 d_M_event_168 rfl rfl ?_
                      refine v_lload C 7 d_M_event_169 rfl ?_
                      refine v_ldc2 (x := -1) C d_M_event_171 tw_628 ?_
                      refine v_iconst (x := 0) C d_M_event_174 (by decide) ?_
                      refine v_callV (rest := []) C (c_M_put l G v8 o ad S_93 (nI cu) it (nI kd) t (-1) 0 hR_93 (by rw [hc1]; omega) (by first | exact Or.inl rfl | exact Or.inr rfl)) tw_632 tw_34 tw_629 tw_631 tw_24 mn_M_put hR_93.1 k_M.1 ⟨Nat.le_of_ble_eq_true rfl, Nat.le_of_ble_eq_true rfl⟩ rfl rfl (Nat.le_of_ble_eq_true rfl) d_M_event_175 ⟨(by first | exact Nat.le_of_ble_eq_true rfl | (show _ ≤ _; omega)), (by first | exact Nat.le_of_ble_eq_true rfl | (show _ ≤ _; omega))⟩ (fun r_94 v_95 hp_96 => ?_)
                      obtain ⟨rfl, hRc_hp_96, hkc_hp_96⟩ := hp_96
                      obtain ⟨S_97, eS_97⟩ : ∃ z, z = zput S_93 (nI cu) it (nI kd) t (-1) 0 := ⟨_, rfl⟩
                      have hR_97 : RM G v_95 o ad S_97 := by rw [eS_97]; exact hRc_hp_96
                      have hk_97 : vkeep (mX o ad) v v_95 := hk_93.tr hkc_hp_96
                      show vV _ _ _ _ _ _ _ _ _ _ _ _ _ v_95 0 0 178 [(8, .int 1), (7, .int 1), (6, .int (nI pk)), (0, .ref o), (1, .int (nI cu)), (2, .int it), (3, .int (nI kd)), (4, .long t)] [.int (nI (zc S_93 1 + 1))]
                      refine v_toi (y := nI (zc S 1 + 1)) (by rw [hc1]) ?_
                      refine v_goto C 182 d_M_event_178 (by decide) ?_
                      exact v_iret C d_M_event_182 (by first | exact Nat.le_of_ble_eq_true rfl | (show _ ≤ _; omega)) (by first | exact Nat.le_of_ble_eq_true rfl | (show _ ≤ _; omega)) ⟨(by  rw [oEvent, zn_nI hcu3, zn_nI hkd3, if_pos hx0, if_pos hz, if_pos (by rw [zended, hpr]; exact c_67), if_neg (by intro z; rcases z with ⟨z1, z2⟩ | ⟨z1, z2, z3⟩; all_goals first | exact n_118 z2 | exact n_137 z3 | (rw [hpr] at z2; cases z2; done) | (rcases z1 with z1 | z1 <;> first | exact c_74 z1 | exact c_80 z1) | omega), if_pos (by omega), zendS, if_pos (Or.inr c_80)] <;> (try rfl)), (by  rw [oEvent, zn_nI hcu3, zn_nI hkd3, if_pos hx0, if_pos hz, if_pos (by rw [zended, hpr]; exact c_67), if_neg (by intro z; rcases z with ⟨z1, z2⟩ | ⟨z1, z2, z3⟩; all_goals first | exact n_118 z2 | exact n_137 z3 | (rw [hpr] at z2; cases z2; done) | (rcases z1 with z1 | z1 <;> first | exact c_74 z1 | exact c_80 z1) | omega), if_pos (by omega), zendS, if_pos (Or.inr c_80)]; subst eS_92 eS_93 eS_97; exact hR_97), hk_97⟩
            · refine v_iconst (x := 0) C d_M_event_70 (by decide) ?_
              exact v_iret C d_M_event_71 (by first | exact Nat.le_of_ble_eq_true rfl | (show _ ≤ _; omega)) (by first | exact Nat.le_of_ble_eq_true rfl | (show _ ≤ _; omega)) ⟨(by  rw [oEvent, zn_nI hcu3, zn_nI hkd3, if_pos hx0, if_pos hz, if_neg (by rw [zended, hpr]; exact c_67)] <;> (try rfl)), (by  rw [oEvent, zn_nI hcu3, zn_nI hkd3, if_pos hx0, if_pos hz, if_neg (by rw [zended, hpr]; exact c_67)]; exact hR), hk⟩
        · obtain rfl := hv9.symm
          show vV _ _ _ _ _ _ _ _ _ _ _ _ _ v 0 0 41 [(0, .ref o), (1, .int x), (2, .int it), (3, .int k), (4, .long t)] [.int 0]
          refine v_if_ne C 47 d_M_event_41 (by decide) (fun z => absurd (by decide) z) (fun _ => ?_)
          refine v_bipush (x := -12) C d_M_event_44 (by decide) ?_
          exact v_iret C d_M_event_46 (by first | exact Nat.le_of_ble_eq_true rfl | (show _ ≤ _; omega)) (by first | exact Nat.le_of_ble_eq_true rfl | (show _ ≤ _; omega)) ⟨(by rw [i64_toInt] at hb_17; rw [i64_toInt] at hb_29; rw [oEvent, if_pos hb_2, if_neg (fun z => hb_38 z.2.2)] <;> (try rfl)), (by rw [i64_toInt] at hb_17; rw [i64_toInt] at hb_29; rw [oEvent, if_pos hb_2, if_neg (fun z => hb_38 z.2.2)]; exact hR), hk⟩
      · obtain rfl := hv9.symm
        show vV _ _ _ _ _ _ _ _ _ _ _ _ _ v 0 0 32 [(0, .ref o), (1, .int x), (2, .int it), (3, .int k), (4, .long t)] [.int 0]
        refine v_if_eq C 44 d_M_event_32 (by decide) (fun _ => ?_) (fun z => absurd (by decide) z)
        refine v_bipush (x := -12) C d_M_event_44 (by decide) ?_
        exact v_iret C d_M_event_46 (by first | exact Nat.le_of_ble_eq_true rfl | (show _ ≤ _; omega)) (by first | exact Nat.le_of_ble_eq_true rfl | (show _ ≤ _; omega)) ⟨(by rw [i64_toInt] at hb_17; rw [i64_toInt] at hb_29; rw [oEvent, if_pos hb_2, if_neg (fun z => hb_29 z.2.1)] <;> (try rfl)), (by rw [i64_toInt] at hb_17; rw [i64_toInt] at hb_29; rw [oEvent, if_pos hb_2, if_neg (fun z => hb_29 z.2.1)]; exact hR), hk⟩
    · obtain rfl := hv9.symm
      show vV _ _ _ _ _ _ _ _ _ _ _ _ _ v 0 0 20 [(0, .ref o), (1, .int x), (2, .int it), (3, .int k), (4, .long t)] [.int 0]
      refine v_if_eq C 44 d_M_event_20 (by decide) (fun _ => ?_) (fun z => absurd (by decide) z)
      refine v_bipush (x := -12) C d_M_event_44 (by decide) ?_
      exact v_iret C d_M_event_46 (by first | exact Nat.le_of_ble_eq_true rfl | (show _ ≤ _; omega)) (by first | exact Nat.le_of_ble_eq_true rfl | (show _ ≤ _; omega)) ⟨(by rw [i64_toInt] at hb_17; rw [oEvent, if_pos hb_2, if_neg (fun z => hb_17 z.1)] <;> (try rfl)), (by rw [i64_toInt] at hb_17; rw [oEvent, if_pos hb_2, if_neg (fun z => hb_17 z.1)]; exact hR), hk⟩
  · obtain rfl := hv9.symm
    show vV _ _ _ _ _ _ _ _ _ _ _ _ _ v 0 0 5 [(0, .ref o), (1, .int x), (2, .int it), (3, .int k), (4, .long t)] [.int 0]
    refine v_if_ne C 11 d_M_event_5 (by decide) (fun z => absurd (by decide) z) (fun _ => ?_)
    refine v_bipush (x := -11) C d_M_event_8 (by decide) ?_
    exact v_iret C d_M_event_10 (by first | exact Nat.le_of_ble_eq_true rfl | (show _ ≤ _; omega)) (by first | exact Nat.le_of_ble_eq_true rfl | (show _ ≤ _; omega)) ⟨(by  rw [oEvent, if_neg hb_2] <;> (try rfl)), (by  rw [oEvent, if_neg hb_2]; exact hR), hk⟩
end
section
theorem zpf_put (S : zS) (x it k : Int32) (t w : Int64) (cr a b : Int32) (n : Nat) : zpf (zput S x it k t w cr) a b n = zpf S a b n := by
  induction n with
  | zero => rfl
  | succ n ih =>
    unfold zpf
    rw [ih]
    rfl
theorem zkix_put (S : zS) (x it k : Int32) (t w : Int64) (cr a b : Int32) : zkix (zput S x it k t w cr) a b = zkix S a b := by
  unfold zkix
  show (match zpf (zput S x it k t w cr) a b (zc S 2) with | some k => k | none => zc S 2) = _
  rw [zpf_put]
  rfl
set_option maxHeartbeats 4000000 in
set_option maxRecDepth 100000 in
theorem c_M_promise (l : Launch) (G : vv_G) (v : vv_V) (o : Nat) (ad : Nat → Nat) (S : zS) (x it : Int32) (w b : Int64) (hR : RM G v o ad S) (hB0 : zB S) : Mv l y_M_promise b_M_promise 11 (some FieldType.int) 2 47 G v [.ref o, .int x, .int it, .long w, .long b] (fun r v' => r = some (.int (oProm S x it w b).1) ∧ RM G v' o ad (oProm S x it w b).2 ∧ vkeep (mX o ad) v v') 0 0 := by
  refine vv_metF (own := "CustomerNoticesModel") (nm := "promise") pf_M_promise rfl rfl (Nat.le_of_ble_eq_true rfl) ?_
  intro p e s m below meth c C hin
  have hk : vkeep (mX o ad) v v := vkeep.rf
  obtain ⟨hB, hB1, hB2, hB3⟩ := hB0
  show vV _ _ _ _ _ _ _ _ _ _ _ _ _ v 0 0 0 [(0, .ref o), (1, .int x), (2, .int it), (3, .long w), (5, .long b)] []
  refine v_aload_n C 0 d_M_promise_0 rfl rfl ?_
  refine v_iload_n C 1 d_M_promise_1 rfl rfl ?_
  refine v_callV (rest := []) C (c_M_isCustomer l G v o ad S x hR (by omega)) tw_598 tw_34 tw_595 tw_597 tw_19 mn_M_isCustomer hR.1 k_M.1 ⟨Nat.le_of_ble_eq_true rfl, Nat.le_of_ble_eq_true rfl⟩ rfl rfl (Nat.le_of_ble_eq_true rfl) d_M_promise_2 ⟨(by first | exact Nat.le_of_ble_eq_true rfl | (show _ ≤ _; omega)), (by first | exact Nat.le_of_ble_eq_true rfl | (show _ ≤ _; omega))⟩ (fun r_1 v_2 hp_3 => ?_)
  rcases hp_3 with ⟨rfl, hv9, hb_2⟩ | ⟨rfl, hv9, hb_2⟩
  · obtain rfl := hv9.symm
    show vV _ _ _ _ _ _ _ _ _ _ _ _ _ v 0 0 5 [(0, .ref o), (1, .int x), (2, .int it), (3, .long w), (5, .long b)] [.int 1]
    refine v_if_ne C 11 d_M_promise_5 (by decide) (fun _ => ?_) (fun z => absurd z (by decide))
    refine v_iload_n C 2 d_M_promise_11 rfl rfl ?_
    refine v_i2l (y := (Int32.toInt64 it)) C d_M_promise_12 rfl ?_
    refine v_lconst (x := 1) C d_M_promise_13 (by decide) ?_
    refine v_ldc2 (x := 9999) C d_M_promise_14 tw_614 ?_
    refine v_callS (rest := []) C (c_M_isIn l G v (Int32.toInt64 it) 1 9999) tw_588 tw_34 tw_586 tw_587 mn_M_isIn ⟨Nat.le_of_ble_eq_true rfl, Nat.le_of_ble_eq_true rfl⟩ rfl rfl (Nat.le_of_ble_eq_true rfl) d_M_promise_17 ⟨(by first | exact Nat.le_of_ble_eq_true rfl | (show _ ≤ _; omega)), (by first | exact Nat.le_of_ble_eq_true rfl | (show _ ≤ _; omega))⟩ (fun r_4 v_5 hp_6 => ?_)
    rcases hp_6 with ⟨rfl, hv9, hb_17⟩ | ⟨rfl, hv9, hb_17⟩
    · obtain rfl := hv9.symm
      show vV _ _ _ _ _ _ _ _ _ _ _ _ _ v 0 0 20 [(0, .ref o), (1, .int x), (2, .int it), (3, .long w), (5, .long b)] [.int 1]
      refine v_if_eq C 46 d_M_promise_20 (by decide) (fun z => absurd z (by decide)) (fun _ => ?_)
      refine v_lload_n C 3 d_M_promise_23 rfl rfl ?_
      refine v_lconst (x := 0) C d_M_promise_24 (by decide) ?_
      refine v_ldc2 (x := 1000000000) C d_M_promise_25 tw_619 ?_
      refine v_callS (rest := []) C (c_M_isIn l G v w 0 1000000000) tw_588 tw_34 tw_586 tw_587 mn_M_isIn ⟨Nat.le_of_ble_eq_true rfl, Nat.le_of_ble_eq_true rfl⟩ rfl rfl (Nat.le_of_ble_eq_true rfl) d_M_promise_28 ⟨(by first | exact Nat.le_of_ble_eq_true rfl | (show _ ≤ _; omega)), (by first | exact Nat.le_of_ble_eq_true rfl | (show _ ≤ _; omega))⟩ (fun r_7 v_8 hp_9 => ?_)
      rcases hp_9 with ⟨rfl, hv9, hb_28⟩ | ⟨rfl, hv9, hb_28⟩
      · obtain rfl := hv9.symm
        show vV _ _ _ _ _ _ _ _ _ _ _ _ _ v 0 0 31 [(0, .ref o), (1, .int x), (2, .int it), (3, .long w), (5, .long b)] [.int 1]
        refine v_if_eq C 46 d_M_promise_31 (by decide) (fun z => absurd z (by decide)) (fun _ => ?_)
        refine v_lload C 4 d_M_promise_34 rfl ?_
        refine v_lconst (x := 0) C d_M_promise_36 (by decide) ?_
        refine v_ldc2 (x := 1000000) C d_M_promise_37 tw_637 ?_
        refine v_callS (rest := []) C (c_M_isIn l G v b 0 1000000) tw_588 tw_34 tw_586 tw_587 mn_M_isIn ⟨Nat.le_of_ble_eq_true rfl, Nat.le_of_ble_eq_true rfl⟩ rfl rfl (Nat.le_of_ble_eq_true rfl) d_M_promise_40 ⟨(by first | exact Nat.le_of_ble_eq_true rfl | (show _ ≤ _; omega)), (by first | exact Nat.le_of_ble_eq_true rfl | (show _ ≤ _; omega))⟩ (fun r_10 v_11 hp_12 => ?_)
        rcases hp_12 with ⟨rfl, hv9, hb_40⟩ | ⟨rfl, hv9, hb_40⟩
        · obtain rfl := hv9.symm
          show vV _ _ _ _ _ _ _ _ _ _ _ _ _ v 0 0 43 [(0, .ref o), (1, .int x), (2, .int it), (3, .long w), (5, .long b)] [.int 1]
          refine v_if_ne C 49 d_M_promise_43 (by decide) (fun _ => ?_) (fun z => absurd z (by decide))
          rw [i64_toInt] at hb_17
          have hz : zIn it 1 9999 ∧ (0 ≤ w.toInt ∧ w.toInt ≤ 1000000000) ∧ (0 ≤ b.toInt ∧ b.toInt ≤ 1000000) := ⟨hb_17, hb_28, hb_40⟩
          have hx0 := hb_2
          obtain ⟨cu, rfl, hcu1, hcu2, hcu3⟩ := zIn_nI (a := 1) (b := zc S 0) hx0
          refine v_aload_n C 0 d_M_promise_49 rfl rfl ?_
          refine v_iload_n C 1 d_M_promise_50 rfl rfl ?_
          refine v_iload_n C 2 d_M_promise_51 rfl rfl ?_
          refine v_callV (rest := []) C (c_M_pairOf l G v o ad S (nI cu) it hR (by omega)) tw_623 tw_34 tw_620 tw_622 tw_22 mn_M_pairOf hR.1 k_M.1 ⟨Nat.le_of_ble_eq_true rfl, Nat.le_of_ble_eq_true rfl⟩ rfl rfl (Nat.le_of_ble_eq_true rfl) d_M_promise_52 ⟨(by first | exact Nat.le_of_ble_eq_true rfl | (show _ ≤ _; omega)), (by first | exact Nat.le_of_ble_eq_true rfl | (show _ ≤ _; omega))⟩ (fun r_13 v_14 hp_15 => ?_)
          obtain ⟨rfl, hv9⟩ := hp_15
          obtain rfl := hv9.symm
          rcases hpr : zpf S (nI cu) it (zc S 2) with _ | pk
          · show vV _ _ _ _ _ _ _ _ _ _ _ _ _ v 0 0 55 [(0, .ref o), (1, .int (nI cu)), (2, .int it), (3, .long w), (5, .long b)] [.int (-1)]
            refine v_istore (lv' := [(7, .int (-1)), (0, .ref o), (1, .int (nI cu)), (2, .int it), (3, .long w), (5, .long b)]) C d_M_promise_55 (by decide) rfl ?_
            refine v_iload C 0 d_M_promise_57 rfl ?_
            refine v_if_lt C 72 d_M_promise_59 (by decide) (fun _ => ?_) (fun z => absurd (by decide) z)
            refine v_aload_n C 1 d_M_promise_72 rfl rfl ?_
            refine v_iload_n C 2 d_M_promise_73 rfl rfl ?_
            refine v_iconst (x := 3) C d_M_promise_74 (by decide) ?_
            have hwl_75 := zwn_le S (32 * cu + 4 * 3) 4
            refine v_callV (rest := []) C (c_M_wished l G v o ad S cu 3 hR (by omega) (by omega)) tw_604 tw_34 tw_601 tw_603 tw_20 mn_M_wished hR.1 k_M.1 ⟨Nat.le_of_ble_eq_true rfl, Nat.le_of_ble_eq_true rfl⟩ rfl rfl (Nat.le_of_ble_eq_true rfl) d_M_promise_75 ⟨(by first | exact Nat.le_of_ble_eq_true rfl | (show _ ≤ _; omega)), (by first | exact Nat.le_of_ble_eq_true rfl | (show _ ≤ _; omega))⟩ (fun r_16 v_17 hp_18 => ?_)
            obtain ⟨rfl, hv9⟩ := hp_18
            obtain rfl := hv9.symm
            show vV _ _ _ _ _ _ _ _ _ _ _ _ _ v 0 0 78 [(7, .int (-1)), (0, .ref o), (1, .int (nI cu)), (2, .int it), (3, .long w), (5, .long b)] [.int (nI (zwn S (32 * cu + 4 * 3) 4))]
            refine v_if_ne C 83 d_M_promise_78 (by decide) (fun c_78 => ?_) (fun c_78 => ?_)
            · have n_78 : ¬ (zwn S (32 * cu + 4 * 3) 4) = 0 := mt (nI_eq (a := (zwn S (32 * cu + 4 * 3) 4)) (b := 0) (by omega) (by omega)).mpr c_78
              refine v_iload C 0 d_M_promise_83 rfl ?_
              refine v_if_ge C 92 d_M_promise_85 (by decide) (fun z => absurd z (by decide)) (fun _ => ?_)
              refine v_iconst (x := 0) C d_M_promise_88 (by decide) ?_
              refine v_goto C 99 d_M_promise_89 (by decide) ?_
              have hla : zlast S (nI cu) it = 0 := by unfold zlast; rw [hpr]
              refine v_istore (lv' := [(8, .int 0), (7, .int (-1)), (0, .ref o), (1, .int (nI cu)), (2, .int it), (3, .long w), (5, .long b)]) C d_M_promise_99 (by decide) rfl ?_
              refine v_iload C 0 d_M_promise_101 rfl ?_
              refine v_if_le C 153 d_M_promise_103 (by decide) (fun _ => ?_) (fun z => absurd (by decide) z)
              refine v_aload_n C 2 d_M_promise_153 rfl rfl ?_
              refine v_get C k_M hR.1 9 (by decide) tw_492 (fun _ h => h) rfl d_M_promise_154 ?_
              refine v_sipush (x := 200) C d_M_promise_157 (by decide) ?_
              refine v_icmp_eq C 177 d_M_promise_160 (by decide) (fun c_160 => ?_) (fun c_160 => ?_)
              · have n_160 : (zc S 1) = 200 := (nI_eq (a := (zc S 1)) (b := 200) (by omega) (by omega)).mp c_160
                refine v_bipush (x := -14) C d_M_promise_177 (by decide) ?_
                exact v_iret C d_M_promise_179 (by first | exact Nat.le_of_ble_eq_true rfl | (show _ ≤ _; omega)) (by first | exact Nat.le_of_ble_eq_true rfl | (show _ ≤ _; omega)) ⟨(by  rw [oProm, zn_nI hcu3, if_pos hx0, if_pos hz, if_pos ⟨(by rw [zended, hpr]), n_78⟩, hla, if_neg (fun z => absurd z.1 (by decide)), if_neg (fun z => absurd z.1 (by decide)), if_pos (Or.inl n_160)] <;> (try rfl)), (by  rw [oProm, zn_nI hcu3, if_pos hx0, if_pos hz, if_pos ⟨(by rw [zended, hpr]), n_78⟩, hla, if_neg (fun z => absurd z.1 (by decide)), if_neg (fun z => absurd z.1 (by decide)), if_pos (Or.inl n_160)]; exact hR), hk⟩
              · have n_160 : ¬ (zc S 1) = 200 := mt (nI_eq (a := (zc S 1)) (b := 200) (by omega) (by omega)).mpr c_160
                refine v_iload C 1 d_M_promise_163 rfl ?_
                refine v_if_ge C 180 d_M_promise_165 (by decide) (fun z => absurd z (by decide)) (fun _ => ?_)
                refine v_aload_n C 2 d_M_promise_168 rfl rfl ?_
                refine v_get C k_M hR.1 18 (by decide) tw_501 (fun _ h => h) rfl d_M_promise_169 ?_
                refine v_bipush (x := 60) C d_M_promise_172 (by decide) ?_
                refine v_icmp_ne C 180 d_M_promise_174 (by decide) (fun c_174 => ?_) (fun c_174 => ?_)
                · have n_174 : ¬ (zc S 2) = 60 := mt (nI_eq (a := (zc S 2)) (b := 60) (by omega) (by omega)).mpr c_174
                  refine v_aload_n C 2 d_M_promise_180 rfl rfl ?_
                  refine v_iload_n C 3 d_M_promise_181 rfl rfl ?_
                  refine v_iload_n C 4 d_M_promise_182 rfl rfl ?_
                  refine v_iconst (x := 3) C d_M_promise_183 (by decide) ?_
                  refine v_aload_n C 2 d_M_promise_184 rfl rfl ?_
                  refine v_get C k_M hR.1 0 (by decide) tw_483 (fun _ h => h) rfl d_M_promise_185 ?_
                  refine v_lload_n C 5 d_M_promise_188 rfl rfl ?_
                  refine v_iconst (x := 0) C d_M_promise_189 (by decide) ?_
                  refine v_callV (rest := []) C (c_M_put l G v o ad S (nI cu) it 3 (zl S 0 0) w 0 hR (by omega) (by first | exact Or.inl rfl | exact Or.inr rfl)) tw_632 tw_34 tw_629 tw_631 tw_24 mn_M_put hR.1 k_M.1 ⟨Nat.le_of_ble_eq_true rfl, Nat.le_of_ble_eq_true rfl⟩ rfl rfl (Nat.le_of_ble_eq_true rfl) d_M_promise_190 ⟨(by first | exact Nat.le_of_ble_eq_true rfl | (show _ ≤ _; omega)), (by first | exact Nat.le_of_ble_eq_true rfl | (show _ ≤ _; omega))⟩ (fun r_19 v_20 hp_21 => ?_)
                  obtain ⟨rfl, hRc_hp_21, hkc_hp_21⟩ := hp_21
                  obtain ⟨S_22, eS_22⟩ : ∃ z, z = zput S (nI cu) it 3 (zl S 0 0) w 0 := ⟨_, rfl⟩
                  have hR_22 : RM G v_20 o ad S_22 := by rw [eS_22]; exact hRc_hp_21
                  have hk_22 : vkeep (mX o ad) v v_20 := hk.tr hkc_hp_21
                  show vV _ _ _ _ _ _ _ _ _ _ _ _ _ v_20 0 0 193 [(8, .int 0), (7, .int (-1)), (0, .ref o), (1, .int (nI cu)), (2, .int it), (3, .long w), (5, .long b)] [.int (nI (zc S 1 + 1))]
                  refine v_istore (lv' := [(9, .int (nI (zc S 1 + 1))), (8, .int 0), (7, .int (-1)), (0, .ref o), (1, .int (nI cu)), (2, .int it), (3, .long w), (5, .long b)]) C d_M_promise_193 (by decide) rfl ?_
                  refine v_aload_n C 3 d_M_promise_195 rfl rfl ?_
                  refine v_get C k_M hR_22.1 22 (by decide) tw_505 (fun _ h => h) rfl d_M_promise_196 ?_
                  refine v_aload_n C 3 d_M_promise_199 rfl rfl ?_
                  refine v_iload_n C 4 d_M_promise_200 rfl rfl ?_
                  refine v_iload_n C 5 d_M_promise_201 rfl rfl ?_
                  refine v_callV (rest := [.ref (ad 22)]) C (c_M_keep l G v_20 o ad S_22 (nI cu) it hR_22 (by rw [eS_22]; show zc S 2 ≤ 60; omega) (by intro z; rw [eS_22, zpf_put] at z; have z : zpf S (nI cu) it (zc S 2) = none := z; rw [eS_22]; show zc S 2 < 60; first | (rw [hpr] at z; exact absurd z (Option.some_ne_none _)) | omega)) tw_627 tw_34 tw_624 tw_626 tw_23 mn_M_keep hR_22.1 k_M.1 ⟨Nat.le_of_ble_eq_true rfl, Nat.le_of_ble_eq_true rfl⟩ rfl rfl (Nat.le_of_ble_eq_true rfl) d_M_promise_202 ⟨(by first | exact Nat.le_of_ble_eq_true rfl | (show _ ≤ _; omega)), (by first | exact Nat.le_of_ble_eq_true rfl | (show _ ≤ _; omega))⟩ (fun r_23 v_24 hp_25 => ?_)
                  obtain ⟨rfl, hRc_hp_25, hkc_hp_25⟩ := hp_25
                  obtain ⟨S_26, eS_26⟩ : ∃ z, z = zkeep S_22 (nI cu) it := ⟨_, rfl⟩
                  have hR_26 : RM G v_24 o ad S_26 := by rw [eS_26]; exact hRc_hp_25
                  have hk_26 : vkeep (mX o ad) v v_24 := hk_22.tr hkc_hp_25
                  show vV _ _ _ _ _ _ _ _ _ _ _ _ _ v_24 0 0 205 [(9, .int (nI (zc S 1 + 1))), (8, .int 0), (7, .int (-1)), (0, .ref o), (1, .int (nI cu)), (2, .int it), (3, .long w), (5, .long b)] [.int (nI (zkix S_22 (nI cu) it)), .ref (ad 22)]
                  refine v_iload C 0 d_M_promise_205 rfl ?_
                  have hkx : zkix S (nI cu) it < 60 := by first | (rw [zkix_n hpr]; omega) | (rw [zkix_s hpr]; omega)
                  refine v_toi2 (y := nI (zkix S (nI cu) it)) (by rw [eS_22, zkix_put]) ?_
                  refine v_iastN C (hR_26.oi (f := 22) (by decide)) hkx (by decide) d_M_promise_207 ?_
                  refine v_view (fun v1 ev1 => ?_)
                  obtain ⟨S_27, eS_27⟩ : ∃ z, z = zui S_26 22 (zkix S (nI cu) it) (nI (zc S 1 + 1)) := ⟨_, rfl⟩
                  have hR_27 : RM G v1 o ad S_27 := by rw [eS_27]; exact (by rw [ev1]; exact hR_26.puti 22 (by decide) (zkix S (nI cu) it) (nI (zc S 1 + 1)))
                  have hk_27 : vkeep (mX o ad) v v1 := by rw [ev1]; exact hk_26.up (mX_f (by decide))
                  refine v_iload C 0 d_M_promise_208 rfl ?_
                  exact v_iret C d_M_promise_210 (by first | exact Nat.le_of_ble_eq_true rfl | (show _ ≤ _; omega)) (by first | exact Nat.le_of_ble_eq_true rfl | (show _ ≤ _; omega)) ⟨(by  rw [oProm, zn_nI hcu3, if_pos hx0, if_pos hz, if_pos ⟨(by rw [zended, hpr]), n_78⟩, hla, if_neg (fun z => absurd z.1 (by decide)), if_neg (fun z => absurd z.1 (by decide)), if_neg (by intro z; rcases z with z | ⟨z1, z2⟩; exact n_160 z; first | exact n_174 z2 | (rw [hpr] at z1; exact absurd z1 (Option.some_ne_none _)))] <;> (try rfl)), (by  rw [oProm, zn_nI hcu3, if_pos hx0, if_pos hz, if_pos ⟨(by rw [zended, hpr]), n_78⟩, hla, if_neg (fun z => absurd z.1 (by decide)), if_neg (fun z => absurd z.1 (by decide)), if_neg (by intro z; rcases z with z | ⟨z1, z2⟩; exact n_160 z; first | exact n_174 z2 | (rw [hpr] at z1; exact absurd z1 (Option.some_ne_none _)))]; subst eS_22 eS_26 eS_27; exact hR_27), hk_27⟩
                · have n_174 : (zc S 2) = 60 := (nI_eq (a := (zc S 2)) (b := 60) (by omega) (by omega)).mp c_174
                  refine v_bipush (x := -14) C d_M_promise_177 (by decide) ?_
                  exact v_iret C d_M_promise_179 (by first | exact Nat.le_of_ble_eq_true rfl | (show _ ≤ _; omega)) (by first | exact Nat.le_of_ble_eq_true rfl | (show _ ≤ _; omega)) ⟨(by  rw [oProm, zn_nI hcu3, if_pos hx0, if_pos hz, if_pos ⟨(by rw [zended, hpr]), n_78⟩, hla, if_neg (fun z => absurd z.1 (by decide)), if_neg (fun z => absurd z.1 (by decide)), if_pos (Or.inr ⟨hpr, n_174⟩)] <;> (try rfl)), (by  rw [oProm, zn_nI hcu3, if_pos hx0, if_pos hz, if_pos ⟨(by rw [zended, hpr]), n_78⟩, hla, if_neg (fun z => absurd z.1 (by decide)), if_neg (fun z => absurd z.1 (by decide)), if_pos (Or.inr ⟨hpr, n_174⟩)]; exact hR), hk⟩
            · have n_78 : (zwn S (32 * cu + 4 * 3) 4) = 0 := (nI_eq (a := (zwn S (32 * cu + 4 * 3) 4)) (b := 0) (by omega) (by omega)).mp c_78
              refine v_iconst (x := 0) C d_M_promise_81 (by decide) ?_
              exact v_iret C d_M_promise_82 (by first | exact Nat.le_of_ble_eq_true rfl | (show _ ≤ _; omega)) (by first | exact Nat.le_of_ble_eq_true rfl | (show _ ≤ _; omega)) ⟨(by  rw [oProm, zn_nI hcu3, if_pos hx0, if_pos hz, if_neg (fun z => z.2 n_78)] <;> (try rfl)), (by  rw [oProm, zn_nI hcu3, if_pos hx0, if_pos hz, if_neg (fun z => z.2 n_78)]; exact hR), hk⟩
          · have hpl := zpf_lt hpr
            show vV _ _ _ _ _ _ _ _ _ _ _ _ _ v 0 0 55 [(0, .ref o), (1, .int (nI cu)), (2, .int it), (3, .long w), (5, .long b)] [.int (nI pk)]
            refine v_istore (lv' := [(7, .int (nI pk)), (0, .ref o), (1, .int (nI cu)), (2, .int it), (3, .long w), (5, .long b)]) C d_M_promise_55 (by decide) rfl ?_
            refine v_iload C 0 d_M_promise_57 rfl ?_
            refine v_if_lt C 72 d_M_promise_59 (by decide) (fun z => absurd z (nI_pos (by omega))) (fun _ => ?_)
            refine v_aload_n C 1 d_M_promise_62 rfl rfl ?_
            refine v_get C k_M hR.1 21 (by decide) tw_504 (fun _ h => h) rfl d_M_promise_63 ?_
            refine v_iload C 0 d_M_promise_66 rfl ?_
            refine v_zaldN C (hR.oz (f := 21) (by decide)) (by show _ < 60; omega) (by decide) d_M_promise_68 ?_
            refine v_if_ne C 81 d_M_promise_69 (by decide) (fun c_69 => ?_) (fun c_69 => ?_)
            · refine v_iconst (x := 0) C d_M_promise_81 (by decide) ?_
              exact v_iret C d_M_promise_82 (by first | exact Nat.le_of_ble_eq_true rfl | (show _ ≤ _; omega)) (by first | exact Nat.le_of_ble_eq_true rfl | (show _ ≤ _; omega)) ⟨(by  rw [oProm, zn_nI hcu3, if_pos hx0, if_pos hz, if_neg (fun z => c_69 (by have z1 := z.1; rw [zended, hpr] at z1; exact z1))] <;> (try rfl)), (by  rw [oProm, zn_nI hcu3, if_pos hx0, if_pos hz, if_neg (fun z => c_69 (by have z1 := z.1; rw [zended, hpr] at z1; exact z1))]; exact hR), hk⟩
            · refine v_aload_n C 1 d_M_promise_72 rfl rfl ?_
              refine v_iload_n C 2 d_M_promise_73 rfl rfl ?_
              refine v_iconst (x := 3) C d_M_promise_74 (by decide) ?_
              have hwl_75 := zwn_le S (32 * cu + 4 * 3) 4
              refine v_callV (rest := []) C (c_M_wished l G v o ad S cu 3 hR (by omega) (by omega)) tw_604 tw_34 tw_601 tw_603 tw_20 mn_M_wished hR.1 k_M.1 ⟨Nat.le_of_ble_eq_true rfl, Nat.le_of_ble_eq_true rfl⟩ rfl rfl (Nat.le_of_ble_eq_true rfl) d_M_promise_75 ⟨(by first | exact Nat.le_of_ble_eq_true rfl | (show _ ≤ _; omega)), (by first | exact Nat.le_of_ble_eq_true rfl | (show _ ≤ _; omega))⟩ (fun r_28 v_29 hp_30 => ?_)
              obtain ⟨rfl, hv9⟩ := hp_30
              obtain rfl := hv9.symm
              show vV _ _ _ _ _ _ _ _ _ _ _ _ _ v 0 0 78 [(7, .int (nI pk)), (0, .ref o), (1, .int (nI cu)), (2, .int it), (3, .long w), (5, .long b)] [.int (nI (zwn S (32 * cu + 4 * 3) 4))]
              refine v_if_ne C 83 d_M_promise_78 (by decide) (fun c_78 => ?_) (fun c_78 => ?_)
              · have n_78 : ¬ (zwn S (32 * cu + 4 * 3) 4) = 0 := mt (nI_eq (a := (zwn S (32 * cu + 4 * 3) 4)) (b := 0) (by omega) (by omega)).mpr c_78
                refine v_iload C 0 d_M_promise_83 rfl ?_
                refine v_if_ge C 92 d_M_promise_85 (by decide) (fun _ => ?_) (fun z => absurd (nI_pos' (by omega)) z)
                refine v_aload_n C 1 d_M_promise_92 rfl rfl ?_
                refine v_get C k_M hR.1 22 (by decide) tw_505 (fun _ h => h) rfl d_M_promise_93 ?_
                refine v_iload C 0 d_M_promise_96 rfl ?_
                refine v_ialdN C (hR.oi (f := 22) (by decide)) (by show _ < 60; omega) (by decide) d_M_promise_98 ?_
                obtain ⟨ln, hln, eln⟩ := hB3 pk hpl.1
                refine v_toi (y := nI ln) eln ?_
                have hla : zlast S (nI cu) it = nI ln := by unfold zlast; rw [hpr]; exact eln
                refine v_istore (lv' := [(8, .int (nI ln)), (7, .int (nI pk)), (0, .ref o), (1, .int (nI cu)), (2, .int it), (3, .long w), (5, .long b)]) C d_M_promise_99 (by decide) rfl ?_
                refine v_iload C 0 d_M_promise_101 rfl ?_
                refine v_if_le C 153 d_M_promise_103 (by decide) (fun c_103 => ?_) (fun c_103 => ?_)
                · have n_103 : ln ≤ 0 := (nI_leI (a := ln) (b := 0) (by omega) (by omega)).mp c_103
                  refine v_aload_n C 2 d_M_promise_153 rfl rfl ?_
                  refine v_get C k_M hR.1 9 (by decide) tw_492 (fun _ h => h) rfl d_M_promise_154 ?_
                  refine v_sipush (x := 200) C d_M_promise_157 (by decide) ?_
                  refine v_icmp_eq C 177 d_M_promise_160 (by decide) (fun c_160 => ?_) (fun c_160 => ?_)
                  · have n_160 : (zc S 1) = 200 := (nI_eq (a := (zc S 1)) (b := 200) (by omega) (by omega)).mp c_160
                    refine v_bipush (x := -14) C d_M_promise_177 (by decide) ?_
                    exact v_iret C d_M_promise_179 (by first | exact Nat.le_of_ble_eq_true rfl | (show _ ≤ _; omega)) (by first | exact Nat.le_of_ble_eq_true rfl | (show _ ≤ _; omega)) ⟨(by  rw [oProm, zn_nI hcu3, if_pos hx0, if_pos hz, if_pos ⟨(by rw [zended, hpr]; exact c_69), n_78⟩, hla, if_neg (fun z => by have z1 := z.1; rw [nI_toInt (by omega)] at z1; omega), if_neg (fun z => by have z1 := z.1; rw [nI_toInt (by omega)] at z1; omega), if_pos (Or.inl n_160)] <;> (try rfl)), (by  rw [oProm, zn_nI hcu3, if_pos hx0, if_pos hz, if_pos ⟨(by rw [zended, hpr]; exact c_69), n_78⟩, hla, if_neg (fun z => by have z1 := z.1; rw [nI_toInt (by omega)] at z1; omega), if_neg (fun z => by have z1 := z.1; rw [nI_toInt (by omega)] at z1; omega), if_pos (Or.inl n_160)]; exact hR), hk⟩
                  · have n_160 : ¬ (zc S 1) = 200 := mt (nI_eq (a := (zc S 1)) (b := 200) (by omega) (by omega)).mpr c_160
                    refine v_iload C 1 d_M_promise_163 rfl ?_
                    refine v_if_ge C 180 d_M_promise_165 (by decide) (fun _ => ?_) (fun z => absurd (nI_pos' (by omega)) z)
                    refine v_aload_n C 2 d_M_promise_180 rfl rfl ?_
                    refine v_iload_n C 3 d_M_promise_181 rfl rfl ?_
                    refine v_iload_n C 4 d_M_promise_182 rfl rfl ?_
                    refine v_iconst (x := 3) C d_M_promise_183 (by decide) ?_
                    refine v_aload_n C 2 d_M_promise_184 rfl rfl ?_
                    refine v_get C k_M hR.1 0 (by decide) tw_483 (fun _ h => h) rfl d_M_promise_185 ?_
                    refine v_lload_n C 5 d_M_promise_188 rfl rfl ?_
                    refine v_iconst (x := 0) C d_M_promise_189 (by decide) ?_
                    refine v_callV (rest := []) C (c_M_put l G v o ad S (nI cu) it 3 (zl S 0 0) w 0 hR (by omega) (by first | exact Or.inl rfl | exact Or.inr rfl)) tw_632 tw_34 tw_629 tw_631 tw_24 mn_M_put hR.1 k_M.1 ⟨Nat.le_of_ble_eq_true rfl, Nat.le_of_ble_eq_true rfl⟩ rfl rfl (Nat.le_of_ble_eq_true rfl) d_M_promise_190 ⟨(by first | exact Nat.le_of_ble_eq_true rfl | (show _ ≤ _; omega)), (by first | exact Nat.le_of_ble_eq_true rfl | (show _ ≤ _; omega))⟩ (fun r_31 v_32 hp_33 => ?_)
                    obtain ⟨rfl, hRc_hp_33, hkc_hp_33⟩ := hp_33
                    obtain ⟨S_34, eS_34⟩ : ∃ z, z = zput S (nI cu) it 3 (zl S 0 0) w 0 := ⟨_, rfl⟩
                    have hR_34 : RM G v_32 o ad S_34 := by rw [eS_34]; exact hRc_hp_33
                    have hk_34 : vkeep (mX o ad) v v_32 := hk.tr hkc_hp_33
                    show vV _ _ _ _ _ _ _ _ _ _ _ _ _ v_32 0 0 193 [(8, .int (nI ln)), (7, .int (nI pk)), (0, .ref o), (1, .int (nI cu)), (2, .int it), (3, .long w), (5, .long b)] [.int (nI (zc S 1 + 1))]
                    refine v_istore (lv' := [(9, .int (nI (zc S 1 + 1))), (8, .int (nI ln)), (7, .int (nI pk)), (0, .ref o), (1, .int (nI cu)), (2, .int it), (3, .long w), (5, .long b)]) C d_M_promise_193 (by decide) rfl ?_
                    refine v_aload_n C 3 d_M_promise_195 rfl rfl ?_
                    refine v_get C k_M hR_34.1 22 (by decide) tw_505 (fun _ h => h) rfl d_M_promise_196 ?_
                    refine v_aload_n C 3 d_M_promise_199 rfl rfl ?_
                    refine v_iload_n C 4 d_M_promise_200 rfl rfl ?_
                    refine v_iload_n C 5 d_M_promise_201 rfl rfl ?_
                    refine v_callV (rest := [.ref (ad 22)]) C (c_M_keep l G v_32 o ad S_34 (nI cu) it hR_34 (by rw [eS_34]; show zc S 2 ≤ 60; omega) (by intro z; rw [eS_34, zpf_put] at z; have z : zpf S (nI cu) it (zc S 2) = none := z; rw [eS_34]; show zc S 2 < 60; first | (rw [hpr] at z; exact absurd z (Option.some_ne_none _)) | omega)) tw_627 tw_34 tw_624 tw_626 tw_23 mn_M_keep hR_34.1 k_M.1 ⟨Nat.le_of_ble_eq_true rfl, Nat.le_of_ble_eq_true rfl⟩ rfl rfl (Nat.le_of_ble_eq_true rfl) d_M_promise_202 ⟨(by first | exact Nat.le_of_ble_eq_true rfl | (show _ ≤ _; omega)), (by first | exact Nat.le_of_ble_eq_true rfl | (show _ ≤ _; omega))⟩ (fun r_35 v_36 hp_37 => ?_)
                    obtain ⟨rfl, hRc_hp_37, hkc_hp_37⟩ := hp_37
                    obtain ⟨S_38, eS_38⟩ : ∃ z, z = zkeep S_34 (nI cu) it := ⟨_, rfl⟩
                    have hR_38 : RM G v_36 o ad S_38 := by rw [eS_38]; exact hRc_hp_37
                    have hk_38 : vkeep (mX o ad) v v_36 := hk_34.tr hkc_hp_37
                    show vV _ _ _ _ _ _ _ _ _ _ _ _ _ v_36 0 0 205 [(9, .int (nI (zc S 1 + 1))), (8, .int (nI ln)), (7, .int (nI pk)), (0, .ref o), (1, .int (nI cu)), (2, .int it), (3, .long w), (5, .long b)] [.int (nI (zkix S_34 (nI cu) it)), .ref (ad 22)]
                    refine v_iload C 0 d_M_promise_205 rfl ?_
                    have hkx : zkix S (nI cu) it < 60 := by first | (rw [zkix_n hpr]; omega) | (rw [zkix_s hpr]; omega)
                    refine v_toi2 (y := nI (zkix S (nI cu) it)) (by rw [eS_34, zkix_put]) ?_
                    refine v_iastN C (hR_38.oi (f := 22) (by decide)) hkx (by decide) d_M_promise_207 ?_
                    refine v_view (fun v2 ev2 => ?_)
                    obtain ⟨S_39, eS_39⟩ : ∃ z, z = zui S_38 22 (zkix S (nI cu) it) (nI (zc S 1 + 1)) := ⟨_, rfl⟩
                    have hR_39 : RM G v2 o ad S_39 := by rw [eS_39]; exact (by rw [ev2]; exact hR_38.puti 22 (by decide) (zkix S (nI cu) it) (nI (zc S 1 + 1)))
                    have hk_39 : vkeep (mX o ad) v v2 := by rw [ev2]; exact hk_38.up (mX_f (by decide))
                    refine v_iload C 0 d_M_promise_208 rfl ?_
                    exact v_iret C d_M_promise_210 (by first | exact Nat.le_of_ble_eq_true rfl | (show _ ≤ _; omega)) (by first | exact Nat.le_of_ble_eq_true rfl | (show _ ≤ _; omega)) ⟨(by  rw [oProm, zn_nI hcu3, if_pos hx0, if_pos hz, if_pos ⟨(by rw [zended, hpr]; exact c_69), n_78⟩, hla, if_neg (fun z => by have z1 := z.1; rw [nI_toInt (by omega)] at z1; omega), if_neg (fun z => by have z1 := z.1; rw [nI_toInt (by omega)] at z1; omega), if_neg (by intro z; rcases z with z | ⟨z1, z2⟩; exact n_160 z; first | exact n_174 z2 | (rw [hpr] at z1; exact absurd z1 (Option.some_ne_none _)))] <;> (try rfl)), (by  rw [oProm, zn_nI hcu3, if_pos hx0, if_pos hz, if_pos ⟨(by rw [zended, hpr]; exact c_69), n_78⟩, hla, if_neg (fun z => by have z1 := z.1; rw [nI_toInt (by omega)] at z1; omega), if_neg (fun z => by have z1 := z.1; rw [nI_toInt (by omega)] at z1; omega), if_neg (by intro z; rcases z with z | ⟨z1, z2⟩; exact n_160 z; first | exact n_174 z2 | (rw [hpr] at z1; exact absurd z1 (Option.some_ne_none _)))]; subst eS_34 eS_38 eS_39; exact hR_39), hk_39⟩
                · have n_103 : ¬ ln ≤ 0 := mt (nI_leI (a := ln) (b := 0) (by omega) (by omega)).mpr c_103
                  have hpos : 0 < (nI ln).toInt := by rw [nI_toInt (by omega)]; omega
                  refine v_lload_n C 5 d_M_promise_106 rfl rfl ?_
                  refine v_aload_n C 2 d_M_promise_107 rfl rfl ?_
                  refine v_get C k_M hR.1 14 (by decide) tw_497 (fun _ h => h) rfl d_M_promise_108 ?_
                  refine v_iload C 0 d_M_promise_111 rfl ?_
                  refine v_laldN C (hR.ol (f := 14) (by decide)) (by show _ < 201; omega) (by decide) d_M_promise_113 ?_
                  refine v_lsub C d_M_promise_114 ?_
                  refine v_lstore (lv' := [(9, .long (w - (zl S 14 ln))), (8, .int (nI ln)), (7, .int (nI pk)), (0, .ref o), (1, .int (nI cu)), (2, .int it), (3, .long w), (5, .long b)]) C d_M_promise_115 (by decide) rfl ?_
                  refine v_lload C 0 d_M_promise_117 rfl ?_
                  refine v_lload C 7 d_M_promise_119 rfl ?_
                  refine v_lneg C d_M_promise_121 ?_
                  refine v_lload C 7 d_M_promise_122 rfl ?_
                  refine v_callS (rest := []) C (c_M_isIn l G v (w - (zl S 14 ln)) (-b) b) tw_588 tw_34 tw_586 tw_587 mn_M_isIn ⟨Nat.le_of_ble_eq_true rfl, Nat.le_of_ble_eq_true rfl⟩ rfl rfl (Nat.le_of_ble_eq_true rfl) d_M_promise_124 ⟨(by first | exact Nat.le_of_ble_eq_true rfl | (show _ ≤ _; omega)), (by first | exact Nat.le_of_ble_eq_true rfl | (show _ ≤ _; omega))⟩ (fun r_40 v_41 hp_42 => ?_)
                  rcases hp_42 with ⟨rfl, hv9, hb_124⟩ | ⟨rfl, hv9, hb_124⟩
                  · obtain rfl := hv9.symm
                    show vV _ _ _ _ _ _ _ _ _ _ _ _ _ v 0 0 127 [(9, .long (w - (zl S 14 ln))), (8, .int (nI ln)), (7, .int (nI pk)), (0, .ref o), (1, .int (nI cu)), (2, .int it), (3, .long w), (5, .long b)] [.int 1]
                    refine v_if_eq C 132 d_M_promise_127 (by decide) (fun z => absurd z (by decide)) (fun _ => ?_)
                    refine v_iconst (x := 0) C d_M_promise_130 (by decide) ?_
                    exact v_iret C d_M_promise_131 (by first | exact Nat.le_of_ble_eq_true rfl | (show _ ≤ _; omega)) (by first | exact Nat.le_of_ble_eq_true rfl | (show _ ≤ _; omega)) ⟨(by  rw [oProm, zn_nI hcu3, if_pos hx0, if_pos hz, if_pos ⟨(by rw [zended, hpr]; exact c_69), n_78⟩, hla, zn_nI (show ln < 2 ^ 31 by omega), if_pos ⟨hpos, hb_124⟩] <;> (try rfl)), (by  rw [oProm, zn_nI hcu3, if_pos hx0, if_pos hz, if_pos ⟨(by rw [zended, hpr]; exact c_69), n_78⟩, hla, zn_nI (show ln < 2 ^ 31 by omega), if_pos ⟨hpos, hb_124⟩]; exact hR), hk⟩
                  · obtain rfl := hv9.symm
                    show vV _ _ _ _ _ _ _ _ _ _ _ _ _ v 0 0 127 [(9, .long (w - (zl S 14 ln))), (8, .int (nI ln)), (7, .int (nI pk)), (0, .ref o), (1, .int (nI cu)), (2, .int it), (3, .long w), (5, .long b)] [.int 0]
                    refine v_if_eq C 132 d_M_promise_127 (by decide) (fun _ => ?_) (fun z => absurd (by decide) z)
                    refine v_aload_n C 3 d_M_promise_132 rfl rfl ?_
                    refine v_get C k_M hR.1 15 (by decide) tw_498 (fun _ h => h) rfl d_M_promise_133 ?_
                    refine v_iload C 1 d_M_promise_136 rfl ?_
                    refine v_ialdN C (hR.oi (f := 15) (by decide)) (by show _ < 201; omega) (by decide) d_M_promise_138 ?_
                    refine v_if_ne C 153 d_M_promise_139 (by decide) (fun c_139 => ?_) (fun c_139 => ?_)
                    · refine v_aload_n C 3 d_M_promise_153 rfl rfl ?_
                      refine v_get C k_M hR.1 9 (by decide) tw_492 (fun _ h => h) rfl d_M_promise_154 ?_
                      refine v_sipush (x := 200) C d_M_promise_157 (by decide) ?_
                      refine v_icmp_eq C 177 d_M_promise_160 (by decide) (fun c_160 => ?_) (fun c_160 => ?_)
                      · have n_160 : (zc S 1) = 200 := (nI_eq (a := (zc S 1)) (b := 200) (by omega) (by omega)).mp c_160
                        refine v_bipush (x := -14) C d_M_promise_177 (by decide) ?_
                        exact v_iret C d_M_promise_179 (by first | exact Nat.le_of_ble_eq_true rfl | (show _ ≤ _; omega)) (by first | exact Nat.le_of_ble_eq_true rfl | (show _ ≤ _; omega)) ⟨(by  rw [oProm, zn_nI hcu3, if_pos hx0, if_pos hz, if_pos ⟨(by rw [zended, hpr]; exact c_69), n_78⟩, hla, zn_nI (show ln < 2 ^ 31 by omega), if_neg (fun z => hb_124 z.2), if_neg (fun z => c_139 z.2), if_pos (Or.inl n_160)] <;> (try rfl)), (by  rw [oProm, zn_nI hcu3, if_pos hx0, if_pos hz, if_pos ⟨(by rw [zended, hpr]; exact c_69), n_78⟩, hla, zn_nI (show ln < 2 ^ 31 by omega), if_neg (fun z => hb_124 z.2), if_neg (fun z => c_139 z.2), if_pos (Or.inl n_160)]; exact hR), hk⟩
                      · have n_160 : ¬ (zc S 1) = 200 := mt (nI_eq (a := (zc S 1)) (b := 200) (by omega) (by omega)).mpr c_160
                        refine v_iload C 2 d_M_promise_163 rfl ?_
                        refine v_if_ge C 180 d_M_promise_165 (by decide) (fun _ => ?_) (fun z => absurd (nI_pos' (by omega)) z)
                        refine v_aload_n C 3 d_M_promise_180 rfl rfl ?_
                        refine v_iload_n C 4 d_M_promise_181 rfl rfl ?_
                        refine v_iload_n C 5 d_M_promise_182 rfl rfl ?_
                        refine v_iconst (x := 3) C d_M_promise_183 (by decide) ?_
                        refine v_aload_n C 3 d_M_promise_184 rfl rfl ?_
                        refine v_get C k_M hR.1 0 (by decide) tw_483 (fun _ h => h) rfl d_M_promise_185 ?_
                        refine v_lload_n C 6 d_M_promise_188 rfl rfl ?_
                        refine v_iconst (x := 0) C d_M_promise_189 (by decide) ?_
                        refine v_callV (rest := []) C (c_M_put l G v o ad S (nI cu) it 3 (zl S 0 0) w 0 hR (by omega) (by first | exact Or.inl rfl | exact Or.inr rfl)) tw_632 tw_34 tw_629 tw_631 tw_24 mn_M_put hR.1 k_M.1 ⟨Nat.le_of_ble_eq_true rfl, Nat.le_of_ble_eq_true rfl⟩ rfl rfl (Nat.le_of_ble_eq_true rfl) d_M_promise_190 ⟨(by first | exact Nat.le_of_ble_eq_true rfl | (show _ ≤ _; omega)), (by first | exact Nat.le_of_ble_eq_true rfl | (show _ ≤ _; omega))⟩ (fun r_43 v_44 hp_45 => ?_)
                        obtain ⟨rfl, hRc_hp_45, hkc_hp_45⟩ := hp_45
                        obtain ⟨S_46, eS_46⟩ : ∃ z, z = zput S (nI cu) it 3 (zl S 0 0) w 0 := ⟨_, rfl⟩
                        have hR_46 : RM G v_44 o ad S_46 := by rw [eS_46]; exact hRc_hp_45
                        have hk_46 : vkeep (mX o ad) v v_44 := hk.tr hkc_hp_45
                        show vV _ _ _ _ _ _ _ _ _ _ _ _ _ v_44 0 0 193 [(9, .long (w - (zl S 14 ln))), (8, .int (nI ln)), (7, .int (nI pk)), (0, .ref o), (1, .int (nI cu)), (2, .int it), (3, .long w), (5, .long b)] [.int (nI (zc S 1 + 1))]
                        refine v_istore (lv' := [(9, .int (nI (zc S 1 + 1))), (8, .int (nI ln)), (7, .int (nI pk)), (0, .ref o), (1, .int (nI cu)), (2, .int it), (3, .long w), (5, .long b)]) C d_M_promise_193 (by decide) rfl ?_
                        refine v_aload_n C 3 d_M_promise_195 rfl rfl ?_
                        refine v_get C k_M hR_46.1 22 (by decide) tw_505 (fun _ h => h) rfl d_M_promise_196 ?_
                        refine v_aload_n C 3 d_M_promise_199 rfl rfl ?_
                        refine v_iload_n C 4 d_M_promise_200 rfl rfl ?_
                        refine v_iload_n C 5 d_M_promise_201 rfl rfl ?_
                        refine v_callV (rest := [.ref (ad 22)]) C (c_M_keep l G v_44 o ad S_46 (nI cu) it hR_46 (by rw [eS_46]; show zc S 2 ≤ 60; omega) (by intro z; rw [eS_46, zpf_put] at z; have z : zpf S (nI cu) it (zc S 2) = none := z; rw [eS_46]; show zc S 2 < 60; first | (rw [hpr] at z; exact absurd z (Option.some_ne_none _)) | omega)) tw_627 tw_34 tw_624 tw_626 tw_23 mn_M_keep hR_46.1 k_M.1 ⟨Nat.le_of_ble_eq_true rfl, Nat.le_of_ble_eq_true rfl⟩ rfl rfl (Nat.le_of_ble_eq_true rfl) d_M_promise_202 ⟨(by first | exact Nat.le_of_ble_eq_true rfl | (show _ ≤ _; omega)), (by first | exact Nat.le_of_ble_eq_true rfl | (show _ ≤ _; omega))⟩ (fun r_47 v_48 hp_49 => ?_)
                        obtain ⟨rfl, hRc_hp_49, hkc_hp_49⟩ := hp_49
                        obtain ⟨S_50, eS_50⟩ : ∃ z, z = zkeep S_46 (nI cu) it := ⟨_, rfl⟩
                        have hR_50 : RM G v_48 o ad S_50 := by rw [eS_50]; exact hRc_hp_49
                        have hk_50 : vkeep (mX o ad) v v_48 := hk_46.tr hkc_hp_49
                        show vV _ _ _ _ _ _ _ _ _ _ _ _ _ v_48 0 0 205 [(9, .int (nI (zc S 1 + 1))), (8, .int (nI ln)), (7, .int (nI pk)), (0, .ref o), (1, .int (nI cu)), (2, .int it), (3, .long w), (5, .long b)] [.int (nI (zkix S_46 (nI cu) it)), .ref (ad 22)]
                        refine v_iload C 0 d_M_promise_205 rfl ?_
                        have hkx : zkix S (nI cu) it < 60 := by first | (rw [zkix_n hpr]; omega) | (rw [zkix_s hpr]; omega)
                        refine v_toi2 (y := nI (zkix S (nI cu) it)) (by rw [eS_46, zkix_put]) ?_
                        refine v_iastN C (hR_50.oi (f := 22) (by decide)) hkx (by decide) d_M_promise_207 ?_
                        refine v_view (fun v3 ev3 => ?_)
                        obtain ⟨S_51, eS_51⟩ : ∃ z, z = zui S_50 22 (zkix S (nI cu) it) (nI (zc S 1 + 1)) := ⟨_, rfl⟩
                        have hR_51 : RM G v3 o ad S_51 := by rw [eS_51]; exact (by rw [ev3]; exact hR_50.puti 22 (by decide) (zkix S (nI cu) it) (nI (zc S 1 + 1)))
                        have hk_51 : vkeep (mX o ad) v v3 := by rw [ev3]; exact hk_50.up (mX_f (by decide))
                        refine v_iload C 0 d_M_promise_208 rfl ?_
                        exact v_iret C d_M_promise_210 (by first | exact Nat.le_of_ble_eq_true rfl | (show _ ≤ _; omega)) (by first | exact Nat.le_of_ble_eq_true rfl | (show _ ≤ _; omega)) ⟨(by  rw [oProm, zn_nI hcu3, if_pos hx0, if_pos hz, if_pos ⟨(by rw [zended, hpr]; exact c_69), n_78⟩, hla, zn_nI (show ln < 2 ^ 31 by omega), if_neg (fun z => hb_124 z.2), if_neg (fun z => c_139 z.2), if_neg (by intro z; rcases z with z | ⟨z1, z2⟩; exact n_160 z; first | exact n_174 z2 | (rw [hpr] at z1; exact absurd z1 (Option.some_ne_none _)))] <;> (try rfl)), (by  rw [oProm, zn_nI hcu3, if_pos hx0, if_pos hz, if_pos ⟨(by rw [zended, hpr]; exact c_69), n_78⟩, hla, zn_nI (show ln < 2 ^ 31 by omega), if_neg (fun z => hb_124 z.2), if_neg (fun z => c_139 z.2), if_neg (by intro z; rcases z with z | ⟨z1, z2⟩; exact n_160 z; first | exact n_174 z2 | (rw [hpr] at z1; exact absurd z1 (Option.some_ne_none _)))]; subst eS_46 eS_50 eS_51; exact hR_51), hk_51⟩
                    · refine v_aload_n C 3 d_M_promise_142 rfl rfl ?_
                      refine v_get C k_M hR.1 14 (by decide) tw_497 (fun _ h => h) rfl d_M_promise_143 ?_
                      refine v_iload C 1 d_M_promise_146 rfl ?_
                      refine v_lload_n C 6 d_M_promise_148 rfl rfl ?_
                      refine v_lastN C (hR.ol (f := 14) (by decide)) (by show _ < 201; omega) (by decide) d_M_promise_149 ?_
                      refine v_view (fun v4 ev4 => ?_)
                      obtain ⟨S_52, eS_52⟩ : ∃ z, z = zul S 14 ln w := ⟨_, rfl⟩
                      have hR_52 : RM G v4 o ad S_52 := by rw [eS_52]; exact (by rw [ev4]; exact hR.putl 14 (by decide) ln w)
                      have hk_52 : vkeep (mX o ad) v v4 := by rw [ev4]; exact hk.up (mX_f (by decide))
                      refine v_iload C 1 d_M_promise_150 rfl ?_
                      exact v_iret C d_M_promise_152 (by first | exact Nat.le_of_ble_eq_true rfl | (show _ ≤ _; omega)) (by first | exact Nat.le_of_ble_eq_true rfl | (show _ ≤ _; omega)) ⟨(by  rw [oProm, zn_nI hcu3, if_pos hx0, if_pos hz, if_pos ⟨(by rw [zended, hpr]; exact c_69), n_78⟩, hla, zn_nI (show ln < 2 ^ 31 by omega), if_neg (fun z => hb_124 z.2), if_pos ⟨hpos, c_139⟩] <;> (try rfl)), (by  rw [oProm, zn_nI hcu3, if_pos hx0, if_pos hz, if_pos ⟨(by rw [zended, hpr]; exact c_69), n_78⟩, hla, zn_nI (show ln < 2 ^ 31 by omega), if_neg (fun z => hb_124 z.2), if_pos ⟨hpos, c_139⟩]; subst eS_52; exact hR_52), hk_52⟩
              · have n_78 : (zwn S (32 * cu + 4 * 3) 4) = 0 := (nI_eq (a := (zwn S (32 * cu + 4 * 3) 4)) (b := 0) (by omega) (by omega)).mp c_78
                refine v_iconst (x := 0) C d_M_promise_81 (by decide) ?_
                exact v_iret C d_M_promise_82 (by first | exact Nat.le_of_ble_eq_true rfl | (show _ ≤ _; omega)) (by first | exact Nat.le_of_ble_eq_true rfl | (show _ ≤ _; omega)) ⟨(by  rw [oProm, zn_nI hcu3, if_pos hx0, if_pos hz, if_neg (fun z => z.2 n_78)] <;> (try rfl)), (by  rw [oProm, zn_nI hcu3, if_pos hx0, if_pos hz, if_neg (fun z => z.2 n_78)]; exact hR), hk⟩
        · obtain rfl := hv9.symm
          show vV _ _ _ _ _ _ _ _ _ _ _ _ _ v 0 0 43 [(0, .ref o), (1, .int x), (2, .int it), (3, .long w), (5, .long b)] [.int 0]
          refine v_if_ne C 49 d_M_promise_43 (by decide) (fun z => absurd (by decide) z) (fun _ => ?_)
          refine v_bipush (x := -12) C d_M_promise_46 (by decide) ?_
          exact v_iret C d_M_promise_48 (by first | exact Nat.le_of_ble_eq_true rfl | (show _ ≤ _; omega)) (by first | exact Nat.le_of_ble_eq_true rfl | (show _ ≤ _; omega)) ⟨(by rw [i64_toInt] at hb_17; rw [oProm, if_pos hb_2, if_neg (fun z => hb_40 z.2.2)] <;> (try rfl)), (by rw [i64_toInt] at hb_17; rw [oProm, if_pos hb_2, if_neg (fun z => hb_40 z.2.2)]; exact hR), hk⟩
      · obtain rfl := hv9.symm
        show vV _ _ _ _ _ _ _ _ _ _ _ _ _ v 0 0 31 [(0, .ref o), (1, .int x), (2, .int it), (3, .long w), (5, .long b)] [.int 0]
        refine v_if_eq C 46 d_M_promise_31 (by decide) (fun _ => ?_) (fun z => absurd (by decide) z)
        refine v_bipush (x := -12) C d_M_promise_46 (by decide) ?_
        exact v_iret C d_M_promise_48 (by first | exact Nat.le_of_ble_eq_true rfl | (show _ ≤ _; omega)) (by first | exact Nat.le_of_ble_eq_true rfl | (show _ ≤ _; omega)) ⟨(by rw [i64_toInt] at hb_17; rw [oProm, if_pos hb_2, if_neg (fun z => hb_28 z.2.1)] <;> (try rfl)), (by rw [i64_toInt] at hb_17; rw [oProm, if_pos hb_2, if_neg (fun z => hb_28 z.2.1)]; exact hR), hk⟩
    · obtain rfl := hv9.symm
      show vV _ _ _ _ _ _ _ _ _ _ _ _ _ v 0 0 20 [(0, .ref o), (1, .int x), (2, .int it), (3, .long w), (5, .long b)] [.int 0]
      refine v_if_eq C 46 d_M_promise_20 (by decide) (fun _ => ?_) (fun z => absurd (by decide) z)
      refine v_bipush (x := -12) C d_M_promise_46 (by decide) ?_
      exact v_iret C d_M_promise_48 (by first | exact Nat.le_of_ble_eq_true rfl | (show _ ≤ _; omega)) (by first | exact Nat.le_of_ble_eq_true rfl | (show _ ≤ _; omega)) ⟨(by rw [i64_toInt] at hb_17; rw [oProm, if_pos hb_2, if_neg (fun z => hb_17 z.1)] <;> (try rfl)), (by rw [i64_toInt] at hb_17; rw [oProm, if_pos hb_2, if_neg (fun z => hb_17 z.1)]; exact hR), hk⟩
  · obtain rfl := hv9.symm
    show vV _ _ _ _ _ _ _ _ _ _ _ _ _ v 0 0 5 [(0, .ref o), (1, .int x), (2, .int it), (3, .long w), (5, .long b)] [.int 0]
    refine v_if_ne C 11 d_M_promise_5 (by decide) (fun z => absurd (by decide) z) (fun _ => ?_)
    refine v_bipush (x := -11) C d_M_promise_8 (by decide) ?_
    exact v_iret C d_M_promise_10 (by first | exact Nat.le_of_ble_eq_true rfl | (show _ ≤ _; omega)) (by first | exact Nat.le_of_ble_eq_true rfl | (show _ ≤ _; omega)) ⟨(by  rw [oProm, if_neg hb_2] <;> (try rfl)), (by  rw [oProm, if_neg hb_2]; exact hR), hk⟩
end
section
def zT0 (S : zS) (c : Nat) : Int64 := zl S 0 0 + (60 * zi S 5 c).toInt64 + 1440
def zloc (S : zS) (c : Nat) : Int32 := (zT0 S c - zT0 S c / 1440 * 1440).toInt32
abbrev zqu (S : zS) (c : Nat) : Prop := (zi S 6 c ≤ zi S 7 c ∧ zi S 6 c ≤ zloc S c ∧ zloc S c < zi S 7 c) ∨ (¬ zi S 6 c ≤ zi S 7 c ∧ (zi S 6 c ≤ zloc S c ∨ zloc S c < zi S 7 c))
abbrev zdue (S : zS) (n : Nat) : Prop := (zl S 13 n).toInt ≤ (zl S 0 0).toInt ∧ (zi S 12 n = 7 ∨ ((zl S 30 (zn (zi S 10 n)) + (zi S 1 0).toInt64).toInt ≤ (zl S 0 0).toInt ∧ ¬ zqu S (zn (zi S 10 n))))
def zltb (S : zS) (b : Nat) (o : Option Nat) (j : Nat) : Bool := match o with
  | none => true
  | some q => decide (zi S 8 (b + j) < zi S 8 (b + q))
/-- the best of the first j channels -/
def zbo (S : zS) (b : Nat) : Nat → Option Nat
  | 0 => none
  | j + 1 => if 0 < (zi S 8 (b + j)).toInt ∧ zi S 2 j = 0 ∧ zltb S b (zbo S b j) j = true then some j else zbo S b j
theorem zbo_lt {S : zS} {b j q : Nat} (h : zbo S b j = some q) : q < j := by
  induction j with
  | zero => cases h
  | succ j ih =>
    unfold zbo at h
    split at h
    · cases h; exact Nat.lt_succ_self _
    · exact Nat.lt_succ_of_lt (ih h)
def zcho (S : zS) (n : Nat) : Option Nat := if zi S 12 n = 4 then (if zi S 2 0 = 0 ∧ ¬ zi S 8 (32 * zn (zi S 10 n) + 16) = 0 then some 0 else none) else zbo S (32 * zn (zi S 10 n) + 4 * zn (zi S 12 n)) 4
/-- owners and kinds of notices -/
def zB2 (S : zS) : Prop := ∀ n, 1 ≤ n → n ≤ zc S 1 → ∃ c k : Nat, zi S 10 n = nI c ∧ 1 ≤ c ∧ c ≤ zc S 0 ∧ zi S 12 n = nI k ∧ k ≤ 7
def zr1 (S : zS) : Nat → zS
  | 0 => S
  | j + 1 => zui (zul (zr1 S j) 30 (j + 1) 1000000001) 31 (j + 1) 0
def zr2 (S : zS) : Nat → zS
  | 0 => S
  | j + 1 => if zi (zr2 S j) 15 (j + 1) = 0 ∧ ¬ zi (zr2 S j) 12 (j + 1) = 7 ∧ (zl (zr2 S j) 13 (j + 1)).toInt < (zl (zr2 S j) 30 (zn (zi (zr2 S j) 10 (j + 1)))).toInt then zul (zr2 S j) 30 (zn (zi (zr2 S j) 10 (j + 1))) (zl (zr2 S j) 13 (j + 1)) else zr2 S j
def zfail (S : zS) (n : Nat) : zS := zuc (zui (zui S 15 n 2) 29 (zc S 4) (nI n)) 4 (zc S 4 + 1)
def zsnd (S : zS) (n q : Nat) : zS :=
  zuc (zul (zui (zui (zui (zui (zui S 15 n 1) 31 (zn (zi S 10 n)) (if zi S 31 (zn (zi S 10 n)) = 0 then nI n else zi S 31 (zn (zi S 10 n)))) 24 (zc S 3) (nI n)) 25 (zc S 3) (nI q)) 26 (zc S 3) (if zi S 31 (zn (zi S 10 n)) = 0 then nI n else zi S 31 (zn (zi S 10 n)))) 27 (zc S 3) (zl S 0 0)) 3 (zc S 3 + 1)
def zstep (S : zS) (n : Nat) : zS := if zi S 15 n = 0 ∧ zdue S n then (match zcho S n with
  | none => zfail S n
  | some q => zsnd S n q) else S
def zr3 (S : zS) : Nat → zS
  | 0 => S
  | j + 1 => zstep (zr3 S j) (j + 1)
def ztick (S : zS) (t : Int64) : zS := zr2 (zr1 (zul S 0 0 t) (zc S 0)) (zc S 1)
def oTick (S : zS) (t : Int64) : Int32 × zS := if zTm S t then (nI (zc (zr3 (ztick S t) (zc S 1)) 3 - zc S 3), zr3 (ztick S t) (zc S 1)) else (-12, S)
theorem zr1_c (S : zS) (j i : Nat) : zc (zr1 S j) i = zc S i := by
  induction j with
  | zero => rfl
  | succ j ih => exact ih
theorem zr1_i (S : zS) (j f i : Nat) (h : f ≠ 31) : zi (zr1 S j) f i = zi S f i := by
  induction j with
  | zero => rfl
  | succ j ih => unfold zr1; rw [zi_ui, if_neg h, zi_ul, ih]
theorem zr1_l (S : zS) (j f i : Nat) (h : f ≠ 30) : zl (zr1 S j) f i = zl S f i := by
  induction j with
  | zero => rfl
  | succ j ih => unfold zr1; rw [zl_ui, zl_ul, if_neg h, ih]
theorem zr2_c (S : zS) (j i : Nat) : zc (zr2 S j) i = zc S i := by
  induction j with
  | zero => rfl
  | succ j ih => unfold zr2; split <;> exact ih
theorem zr2_i (S : zS) (j f i : Nat) : zi (zr2 S j) f i = zi S f i := by
  induction j with
  | zero => rfl
  | succ j ih => unfold zr2; split <;> exact ih
theorem zr2_l (S : zS) (j f i : Nat) (h : f ≠ 30) : zl (zr2 S j) f i = zl S f i := by
  induction j with
  | zero => rfl
  | succ j ih =>
    unfold zr2
    split
    · rw [zl_ul, if_neg h, ih]
    · exact ih
/-- what a turn of the third loop leaves -/
theorem zstep_k (S : zS) (n : Nat) : (∀ i, i ≠ 3 → i ≠ 4 → zc (zstep S n) i = zc S i) ∧ (∀ f i, f ≠ 15 → f ≠ 24 → f ≠ 25 → f ≠ 26 → f ≠ 29 → f ≠ 31 → zi (zstep S n) f i = zi S f i) ∧ (∀ f i, f ≠ 27 → zl (zstep S n) f i = zl S f i) := by
  unfold zstep
  split
  · split
    · refine ⟨fun i h1 h2 => ?_, fun f i h1 h2 h3 h4 h5 h6 => ?_, fun f i h => rfl⟩
      · unfold zfail; rw [zc_uc, if_neg h2]; rfl
      · unfold zfail; rw [zi_uc, zi_ui, if_neg h5, zi_ui, if_neg h1]
    · refine ⟨fun i h1 h2 => ?_, fun f i h1 h2 h3 h4 h5 h6 => ?_, fun f i h => ?_⟩
      · unfold zsnd; rw [zc_uc, if_neg h1]; rfl
      · unfold zsnd; rw [zi_uc, zi_ul, zi_ui, if_neg h4, zi_ui, if_neg h3, zi_ui, if_neg h2, zi_ui, if_neg h6, zi_ui, if_neg h1]
      · unfold zsnd; rw [zl_uc, zl_ul, if_neg h]; rfl
  · exact ⟨fun _ _ _ => rfl, fun _ _ _ _ _ _ _ _ => rfl, fun _ _ _ => rfl⟩
theorem zr3_k (S : zS) (j : Nat) : (∀ i, i ≠ 3 → i ≠ 4 → zc (zr3 S j) i = zc S i) ∧ (∀ f i, f ≠ 15 → f ≠ 24 → f ≠ 25 → f ≠ 26 → f ≠ 29 → f ≠ 31 → zi (zr3 S j) f i = zi S f i) ∧ (∀ f i, f ≠ 27 → zl (zr3 S j) f i = zl S f i) := by
  induction j with
  | zero => exact ⟨fun _ _ _ => rfl, fun _ _ _ _ _ _ _ _ => rfl, fun _ _ _ => rfl⟩
  | succ j ih =>
    obtain ⟨a1, a2, a3⟩ := ih
    obtain ⟨b1, b2, b3⟩ := zstep_k (zr3 S j) (j + 1)
    exact ⟨fun i h1 h2 => (b1 i h1 h2).trans (a1 i h1 h2), fun f i h1 h2 h3 h4 h5 h6 => (b2 f i h1 h2 h3 h4 h5 h6).trans (a2 f i h1 h2 h3 h4 h5 h6), fun f i h => (b3 f i h).trans (a3 f i h)⟩
/-- how many of the first n notices wait -/
def zwc (S : zS) : Nat → Nat
  | 0 => 0
  | n + 1 => zwc S n + (if zi S 15 (n + 1) = 0 then 1 else 0)
theorem zwc_eq {S S' : zS} {n : Nat} (h : ∀ i, 1 ≤ i → i ≤ n → zi S' 15 i = zi S 15 i) : zwc S' n = zwc S n := by
  induction n with
  | zero => rfl
  | succ n ih =>
    unfold zwc
    rw [ih (fun i h1 h2 => h i h1 (by omega)), h (n + 1) (by omega) (Nat.le_refl _)]
theorem zwc_set {S S' : zS} {m : Nat} {x : Int32} (hx : ¬ x = 0) (h0 : zi S 15 m = 0) (hS : ∀ i, zi S' 15 i = if i = m then x else zi S 15 i) : ∀ n, 1 ≤ m → m ≤ n → zwc S' n + 1 = zwc S n := by
  intro n
  induction n with
  | zero => intro h1 h2; omega
  | succ n ih =>
    intro h1 h2
    unfold zwc
    by_cases c : m = n + 1
    · subst c
      have e := zwc_eq (S := S) (S' := S') (n := n) (fun i hi1 hi2 => by rw [hS i, if_neg (by omega)])
      have e2 : zi S' 15 (n + 1) = x := by rw [hS (n + 1), if_pos rfl]
      rw [e2, if_neg hx, if_pos h0, e]
    · have := ih h1 (by omega)
      have e2 : zi S' 15 (n + 1) = zi S 15 (n + 1) := by rw [hS (n + 1), if_neg (fun z => c z.symm)]
      rw [e2]
      omega
theorem zwc_pos {S : zS} {m n : Nat} (h0 : zi S 15 m = 0) (h1 : 1 ≤ m) (h2 : m ≤ n) : 1 ≤ zwc S n := by
  induction n with
  | zero => omega
  | succ n ih =>
    unfold zwc
    by_cases c : m = n + 1
    · subst c; rw [if_pos h0]; omega
    · have := ih (by omega); omega
/-- room for what is sent and what fails -/
def zB3 (S : zS) : Prop := zc S 3 + zc S 4 + zwc S (zc S 1) ≤ zc S 1 ∧ zc S 1 ≤ 200
theorem zstep_B3 {S : zS} {n : Nat} (h : zB3 S) (h1 : 1 ≤ n) (h2 : n ≤ zc S 1) : zB3 (zstep S n) ∧ zc S 3 ≤ zc (zstep S n) 3 := by
  obtain ⟨g1, g2⟩ := h
  unfold zstep
  split
  · rename_i hw
    split
    · refine ⟨⟨?_, g2⟩, Nat.le_refl _⟩
      have e := zwc_set (S := S) (S' := zfail S n) (m := n) (x := 2) (by decide) hw.1 (fun i => by unfold zfail; rw [zi_uc, zi_ui, if_neg (by decide), zi_ui, if_pos rfl]) (zc S 1) h1 h2
      show zc S 3 + (zc S 4 + 1) + zwc (zfail S n) (zc S 1) ≤ zc S 1
      omega
    · rename_i q hq
      refine ⟨⟨?_, g2⟩, Nat.le_succ _⟩
      have e := zwc_set (S := S) (S' := zsnd S n q) (m := n) (x := 1) (by decide) hw.1 (fun i => by unfold zsnd; rw [zi_uc, zi_ul, zi_ui, if_neg (by decide), zi_ui, if_neg (by decide), zi_ui, if_neg (by decide), zi_ui, if_neg (by decide), zi_ui, if_pos rfl]) (zc S 1) h1 h2
      show zc S 3 + 1 + zc S 4 + zwc (zsnd S n q) (zc S 1) ≤ zc S 1
      omega
  · exact ⟨⟨g1, g2⟩, Nat.le_refl _⟩
theorem zr3_B3 {S : zS} (h : zB3 S) : ∀ j, j ≤ zc S 1 → zB3 (zr3 S j) ∧ zc S 3 ≤ zc (zr3 S j) 3 := by
  intro j
  induction j with
  | zero => intro _; exact ⟨h, Nat.le_refl _⟩
  | succ j ih =>
    intro hj
    obtain ⟨a1, a2⟩ := ih (by omega)
    obtain ⟨b1, b2⟩ := zstep_B3 (n := j + 1) a1 (by omega) (by rw [(zr3_k S j).1 1 (by decide) (by decide)]; omega)
    exact ⟨b1, Nat.le_trans a2 b2⟩
end
section
section VO
variable {p : Program} {l : Launch} {e : Env} {R : Room} {s : State} {m : MethodId} {args : Array Value} {below : List Frame} {meth : Method} {c : Code} {Q : State → Prop} {G : vv_G} {nL : Nat} {v : vv_V} {kc ks pc : Nat} {lv : List (Nat × Value)} {st : List Value}
theorem v_lv {lv' : List (Nat × Value)} (h : lv = lv') (k : vV p l e R s m args below meth c Q G nL v kc ks pc lv' st) : vV p l e R s m args below meth c Q G nL v kc ks pc lv st := by subst h; exact k
end VO
theorem zr3_B2 {S : zS} (h : zB2 S) (j : Nat) : zB2 (zr3 S j) := by
  intro n h1 h2
  obtain ⟨a1, a2, a3⟩ := zr3_k S j
  rw [a1 1 (by decide) (by decide)] at h2
  rw [a1 0 (by decide) (by decide), a2 10 n (by decide) (by decide) (by decide) (by decide) (by decide) (by decide), a2 12 n (by decide) (by decide) (by decide) (by decide) (by decide) (by decide)]
  exact h n h1 h2
set_option maxHeartbeats 4000000 in
set_option maxRecDepth 100000 in
theorem c_M_isQuiet (l : Launch) (G : vv_G) (v : vv_V) (o : Nat) (ad : Nat → Nat) (S : zS) (cn : Nat) (hR : RM G v o ad S) (hcn : cn ≤ 40) : Mv l y_M_isQuiet b_M_isQuiet 5 (some FieldType.boolean) 0 0 G v [.ref o, .int (nI cn)] (fun r v' => (r = some (.int 1) ∧ v' = v ∧ (zqu S cn)) ∨ (r = some (.int 0) ∧ v' = v ∧ ¬ (zqu S cn))) 0 0 := by
  refine vv_metF (own := "CustomerNoticesModel") (nm := "isQuiet") pf_M_isQuiet rfl rfl (Nat.le_of_ble_eq_true rfl) ?_
  intro p e s m below meth c C hin
  have hk : vkeep (mX o ad) v v := vkeep.rf
  show vV _ _ _ _ _ _ _ _ _ _ _ _ _ v 0 0 0 [(0, .ref o), (1, .int (nI cn))] []
  refine v_aload_n C 0 d_M_isQuiet_0 rfl rfl ?_
  refine v_get C k_M hR.1 0 (by decide) tw_483 (fun _ h => h) rfl d_M_isQuiet_1 ?_
  refine v_bipush (x := 60) C d_M_isQuiet_4 (by decide) ?_
  refine v_aload_n C 0 d_M_isQuiet_6 rfl rfl ?_
  refine v_get C k_M hR.1 5 (by decide) tw_488 (fun _ h => h) rfl d_M_isQuiet_7 ?_
  refine v_iload_n C 1 d_M_isQuiet_10 rfl rfl ?_
  refine v_ialdN C (hR.oi (f := 5) (by decide)) (by show _ < 41; omega) (by decide) d_M_isQuiet_11 ?_
  refine v_imul C d_M_isQuiet_12 ?_
  refine v_i2l (y := (Int32.toInt64 (60 * (zi S 5 cn)))) C d_M_isQuiet_13 rfl ?_
  refine v_ladd C d_M_isQuiet_14 ?_
  refine v_ldc2 (x := 1440) C d_M_isQuiet_15 tw_651 ?_
  refine v_ladd C d_M_isQuiet_18 ?_
  refine v_ldc2 (x := 1440) C d_M_isQuiet_19 tw_651 ?_
  refine v_lrem C d_M_isQuiet_22 (by decide) ?_
  refine v_l2i (y := (Int64.toInt32 ((((zl S 0 0) + (Int32.toInt64 (60 * (zi S 5 cn)))) + 1440) - (((zl S 0 0) + (Int32.toInt64 (60 * (zi S 5 cn)))) + 1440) / 1440 * 1440))) C d_M_isQuiet_23 rfl ?_
  refine v_toi (y := zloc S cn) rfl ?_
  refine v_istore_n (lv' := [(2, .int (zloc S cn)), (0, .ref o), (1, .int (nI cn))]) C d_M_isQuiet_24 rfl (by decide) rfl ?_
  refine v_aload_n C 1 d_M_isQuiet_25 rfl rfl ?_
  refine v_get C k_M hR.1 6 (by decide) tw_489 (fun _ h => h) rfl d_M_isQuiet_26 ?_
  refine v_iload_n C 2 d_M_isQuiet_29 rfl rfl ?_
  refine v_ialdN C (hR.oi (f := 6) (by decide)) (by show _ < 41; omega) (by decide) d_M_isQuiet_30 ?_
  refine v_istore_n (lv' := [(3, .int (zi S 6 cn)), (2, .int (zloc S cn)), (0, .ref o), (1, .int (nI cn))]) C d_M_isQuiet_31 rfl (by decide) rfl ?_
  refine v_aload_n C 2 d_M_isQuiet_32 rfl rfl ?_
  refine v_get C k_M hR.1 7 (by decide) tw_490 (fun _ h => h) rfl d_M_isQuiet_33 ?_
  refine v_iload_n C 3 d_M_isQuiet_36 rfl rfl ?_
  refine v_ialdN C (hR.oi (f := 7) (by decide)) (by show _ < 41; omega) (by decide) d_M_isQuiet_37 ?_
  refine v_istore (lv' := [(4, .int (zi S 7 cn)), (3, .int (zi S 6 cn)), (2, .int (zloc S cn)), (0, .ref o), (1, .int (nI cn))]) C d_M_isQuiet_38 (by decide) rfl ?_
  refine v_iload_n C 1 d_M_isQuiet_40 rfl rfl ?_
  refine v_iload C 0 d_M_isQuiet_41 rfl ?_
  refine v_icmp_gt C 65 d_M_isQuiet_43 (by decide) (fun c_43 => ?_) (fun c_43 => ?_)
  · refine v_iload_n C 2 d_M_isQuiet_65 rfl rfl ?_
    refine v_iload_n C 1 d_M_isQuiet_66 rfl rfl ?_
    refine v_icmp_ge C 76 d_M_isQuiet_67 (by decide) (fun c_67 => ?_) (fun c_67 => ?_)
    · refine v_iconst (x := 1) C d_M_isQuiet_76 (by decide) ?_
      refine v_goto C 81 d_M_isQuiet_77 (by decide) ?_
      exact v_zret C d_M_isQuiet_81 (by first | exact Nat.le_of_ble_eq_true rfl | (show _ ≤ _; omega)) (by first | exact Nat.le_of_ble_eq_true rfl | (show _ ≤ _; omega)) (by decide) (Or.inl ⟨rfl, rfl, (by simp only [zqu, Int32.lt_iff_toInt_lt, Int32.le_iff_toInt_le] at *; omega)⟩)
    · refine v_iload_n C 2 d_M_isQuiet_70 rfl rfl ?_
      refine v_iload C 0 d_M_isQuiet_71 rfl ?_
      refine v_icmp_ge C 80 d_M_isQuiet_73 (by decide) (fun c_73 => ?_) (fun c_73 => ?_)
      · refine v_iconst (x := 0) C d_M_isQuiet_80 (by decide) ?_
        exact v_zret C d_M_isQuiet_81 (by first | exact Nat.le_of_ble_eq_true rfl | (show _ ≤ _; omega)) (by first | exact Nat.le_of_ble_eq_true rfl | (show _ ≤ _; omega)) (by decide) (Or.inr ⟨rfl, rfl, (by simp only [zqu, Int32.lt_iff_toInt_lt, Int32.le_iff_toInt_le] at *; omega)⟩)
      · refine v_iconst (x := 1) C d_M_isQuiet_76 (by decide) ?_
        refine v_goto C 81 d_M_isQuiet_77 (by decide) ?_
        exact v_zret C d_M_isQuiet_81 (by first | exact Nat.le_of_ble_eq_true rfl | (show _ ≤ _; omega)) (by first | exact Nat.le_of_ble_eq_true rfl | (show _ ≤ _; omega)) (by decide) (Or.inl ⟨rfl, rfl, (by simp only [zqu, Int32.lt_iff_toInt_lt, Int32.le_iff_toInt_le] at *; omega)⟩)
  · refine v_iload_n C 2 d_M_isQuiet_46 rfl rfl ?_
    refine v_iload_n C 1 d_M_isQuiet_47 rfl rfl ?_
    refine v_icmp_lt C 61 d_M_isQuiet_48 (by decide) (fun c_48 => ?_) (fun c_48 => ?_)
    · refine v_iconst (x := 0) C d_M_isQuiet_61 (by decide) ?_
      refine v_goto C 81 d_M_isQuiet_62 (by decide) ?_
      exact v_zret C d_M_isQuiet_81 (by first | exact Nat.le_of_ble_eq_true rfl | (show _ ≤ _; omega)) (by first | exact Nat.le_of_ble_eq_true rfl | (show _ ≤ _; omega)) (by decide) (Or.inr ⟨rfl, rfl, (by simp only [zqu, Int32.lt_iff_toInt_lt, Int32.le_iff_toInt_le] at *; omega)⟩)
    · refine v_iload_n C 2 d_M_isQuiet_51 rfl rfl ?_
      refine v_iload C 0 d_M_isQuiet_52 rfl ?_
      refine v_icmp_ge C 61 d_M_isQuiet_54 (by decide) (fun c_54 => ?_) (fun c_54 => ?_)
      · refine v_iconst (x := 0) C d_M_isQuiet_61 (by decide) ?_
        refine v_goto C 81 d_M_isQuiet_62 (by decide) ?_
        exact v_zret C d_M_isQuiet_81 (by first | exact Nat.le_of_ble_eq_true rfl | (show _ ≤ _; omega)) (by first | exact Nat.le_of_ble_eq_true rfl | (show _ ≤ _; omega)) (by decide) (Or.inr ⟨rfl, rfl, (by simp only [zqu, Int32.lt_iff_toInt_lt, Int32.le_iff_toInt_le] at *; omega)⟩)
      · refine v_iconst (x := 1) C d_M_isQuiet_57 (by decide) ?_
        refine v_goto C 81 d_M_isQuiet_58 (by decide) ?_
        exact v_zret C d_M_isQuiet_81 (by first | exact Nat.le_of_ble_eq_true rfl | (show _ ≤ _; omega)) (by first | exact Nat.le_of_ble_eq_true rfl | (show _ ≤ _; omega)) (by decide) (Or.inl ⟨rfl, rfl, (by simp only [zqu, Int32.lt_iff_toInt_lt, Int32.le_iff_toInt_le] at *; omega)⟩)
set_option maxHeartbeats 4000000 in
set_option maxRecDepth 100000 in
theorem c_M_isDue (l : Launch) (G : vv_G) (v : vv_V) (o : Nat) (ad : Nat → Nat) (S : zS) (n : Nat) (hR : RM G v o ad S) (h1 : 1 ≤ n) (h2 : n ≤ zc S 1) (hB : zc S 0 ≤ 40 ∧ zc S 1 ≤ 200) (hB2 : zB2 S) : Mv l y_M_isDue b_M_isDue 4 (some FieldType.boolean) 1 24 G v [.ref o, .int (nI n)] (fun r v' => (r = some (.int 1) ∧ v' = v ∧ (zdue S n)) ∨ (r = some (.int 0) ∧ v' = v ∧ ¬ (zdue S n))) 0 0 := by
  refine vv_metF (own := "CustomerNoticesModel") (nm := "isDue") pf_M_isDue rfl rfl (Nat.le_of_ble_eq_true rfl) ?_
  intro p e s m below meth c C hin
  have hk : vkeep (mX o ad) v v := vkeep.rf
  obtain ⟨cn, kd, e10, hc1, hc2, e12, hk7⟩ := hB2 n h1 h2
  have e13 : zn (zi S 10 n) = cn := by rw [e10]; exact zn_nI (by omega)
  show vV _ _ _ _ _ _ _ _ _ _ _ _ _ v 0 0 0 [(0, .ref o), (1, .int (nI n))] []
  refine v_aload_n C 0 d_M_isDue_0 rfl rfl ?_
  refine v_get C k_M hR.1 12 (by decide) tw_495 (fun _ h => h) rfl d_M_isDue_1 ?_
  refine v_iload_n C 1 d_M_isDue_4 rfl rfl ?_
  refine v_ialdN C (hR.oi (f := 12) (by decide)) (by show _ < 201; omega) (by decide) d_M_isDue_5 ?_
  refine v_bipush (x := 7) C d_M_isDue_6 (by decide) ?_
  refine v_icmp_ne C 15 d_M_isDue_8 (by decide) (fun c_8 => ?_) (fun c_8 => ?_)
  · refine v_iconst (x := 0) C d_M_isDue_15 (by decide) ?_
    refine v_istore_n (lv' := [(2, .int 0), (0, .ref o), (1, .int (nI n))]) C d_M_isDue_16 rfl (by decide) rfl ?_
    refine v_aload_n C 1 d_M_isDue_17 rfl rfl ?_
    refine v_get C k_M hR.1 10 (by decide) tw_493 (fun _ h => h) rfl d_M_isDue_18 ?_
    refine v_iload_n C 2 d_M_isDue_21 rfl rfl ?_
    refine v_ialdN C (hR.oi (f := 10) (by decide)) (by show _ < 201; omega) (by decide) d_M_isDue_22 ?_
    refine v_toi (y := (nI cn)) e10 ?_
    refine v_istore_n (lv' := [(3, .int (nI cn)), (2, .int 0), (0, .ref o), (1, .int (nI n))]) C d_M_isDue_23 rfl (by decide) rfl ?_
    refine v_aload_n C 2 d_M_isDue_24 rfl rfl ?_
    refine v_get C k_M hR.1 13 (by decide) tw_496 (fun _ h => h) rfl d_M_isDue_25 ?_
    refine v_iload_n C 3 d_M_isDue_28 rfl rfl ?_
    refine v_laldN C (hR.ol (f := 13) (by decide)) (by show _ < 201; omega) (by decide) d_M_isDue_29 ?_
    refine v_aload_n C 2 d_M_isDue_30 rfl rfl ?_
    refine v_get C k_M hR.1 0 (by decide) tw_483 (fun _ h => h) rfl d_M_isDue_31 ?_
    refine v_lcmp C d_M_isDue_34 ?_
    refine v_if_gt C 74 d_M_isDue_35 (by decide) (fun c_35 => ?_) (fun c_35 => ?_)
    · refine v_iconst (x := 0) C d_M_isDue_74 (by decide) ?_
      exact v_zret C d_M_isDue_75 (by first | exact Nat.le_of_ble_eq_true rfl | (show _ ≤ _; omega)) (by first | exact Nat.le_of_ble_eq_true rfl | (show _ ≤ _; omega)) (by decide) (Or.inr ⟨rfl, rfl, fun z => absurd z.1 (Int.not_le.mpr (lc_gt.mp c_35))⟩)
    · refine v_iload_n C 1 d_M_isDue_38 rfl rfl ?_
      refine v_if_ne C 70 d_M_isDue_39 (by decide) (fun z => absurd (by decide) z) (fun _ => ?_)
      refine v_aload_n C 2 d_M_isDue_42 rfl rfl ?_
      refine v_get C k_M hR.1 0 (by decide) tw_483 (fun _ h => h) rfl d_M_isDue_43 ?_
      refine v_aload_n C 2 d_M_isDue_46 rfl rfl ?_
      refine v_get C k_M hR.1 30 (by decide) tw_513 (fun _ h => h) rfl d_M_isDue_47 ?_
      refine v_iload_n C 0 d_M_isDue_50 rfl rfl ?_
      refine v_laldN C (hR.ol (f := 30) (by decide)) (by show _ < 41; omega) (by decide) d_M_isDue_51 ?_
      refine v_aload_n C 2 d_M_isDue_52 rfl rfl ?_
      refine v_get C k_M hR.1 1 (by decide) tw_484 (fun _ h => h) rfl d_M_isDue_53 ?_
      refine v_i2l (y := (Int32.toInt64 (zi S 1 0))) C d_M_isDue_56 rfl ?_
      refine v_ladd C d_M_isDue_57 ?_
      refine v_lcmp C d_M_isDue_58 ?_
      refine v_if_lt C 74 d_M_isDue_59 (by decide) (fun c_59 => ?_) (fun c_59 => ?_)
      · refine v_iconst (x := 0) C d_M_isDue_74 (by decide) ?_
        exact v_zret C d_M_isDue_75 (by first | exact Nat.le_of_ble_eq_true rfl | (show _ ≤ _; omega)) (by first | exact Nat.le_of_ble_eq_true rfl | (show _ ≤ _; omega)) (by decide) (Or.inr ⟨rfl, rfl, fun z => by rcases z.2 with q | q; exact c_8 q; rw [e13] at q; exact absurd q.1 (Int.not_le.mpr (lc_lt.mp c_59))⟩)
      · refine v_aload_n C 2 d_M_isDue_62 rfl rfl ?_
        refine v_iload_n C 0 d_M_isDue_63 rfl rfl ?_
        refine v_callV (rest := []) C (c_M_isQuiet l G v o ad S cn hR (by omega)) tw_650 tw_34 tw_647 tw_649 tw_26 mn_M_isQuiet hR.1 k_M.1 ⟨Nat.le_of_ble_eq_true rfl, Nat.le_of_ble_eq_true rfl⟩ rfl rfl (Nat.le_of_ble_eq_true rfl) d_M_isDue_64 ⟨(by first | exact Nat.le_of_ble_eq_true rfl | (show _ ≤ _; omega)), (by first | exact Nat.le_of_ble_eq_true rfl | (show _ ≤ _; omega))⟩ (fun r_1 v_2 hp_3 => ?_)
        rcases hp_3 with ⟨rfl, hv9, hb_64⟩ | ⟨rfl, hv9, hb_64⟩
        · obtain rfl := hv9.symm
          show vV _ _ _ _ _ _ _ _ _ _ _ _ _ v 0 0 67 [(3, .int (nI cn)), (2, .int 0), (0, .ref o), (1, .int (nI n))] [.int 1]
          refine v_if_ne C 74 d_M_isDue_67 (by decide) (fun _ => ?_) (fun z => absurd z (by decide))
          refine v_iconst (x := 0) C d_M_isDue_74 (by decide) ?_
          exact v_zret C d_M_isDue_75 (by first | exact Nat.le_of_ble_eq_true rfl | (show _ ≤ _; omega)) (by first | exact Nat.le_of_ble_eq_true rfl | (show _ ≤ _; omega)) (by decide) (Or.inr ⟨rfl, rfl, fun z => by rcases z.2 with q | q; exact c_8 q; rw [e13] at q; exact q.2 hb_64⟩)
        · obtain rfl := hv9.symm
          show vV _ _ _ _ _ _ _ _ _ _ _ _ _ v 0 0 67 [(3, .int (nI cn)), (2, .int 0), (0, .ref o), (1, .int (nI n))] [.int 0]
          refine v_if_ne C 74 d_M_isDue_67 (by decide) (fun z => absurd (by decide) z) (fun _ => ?_)
          refine v_iconst (x := 1) C d_M_isDue_70 (by decide) ?_
          refine v_goto C 75 d_M_isDue_71 (by decide) ?_
          exact v_zret C d_M_isDue_75 (by first | exact Nat.le_of_ble_eq_true rfl | (show _ ≤ _; omega)) (by first | exact Nat.le_of_ble_eq_true rfl | (show _ ≤ _; omega)) (by decide) (Or.inl ⟨rfl, rfl, (Int.not_lt.mp (mt lc_gt.mpr c_35)), Or.inr ⟨(by rw [e13]; exact Int.not_lt.mp (mt lc_lt.mpr c_59)), (by rw [e13]; exact hb_64)⟩⟩)
  · refine v_iconst (x := 1) C d_M_isDue_11 (by decide) ?_
    refine v_goto C 16 d_M_isDue_12 (by decide) ?_
    refine v_istore_n (lv' := [(2, .int 1), (0, .ref o), (1, .int (nI n))]) C d_M_isDue_16 rfl (by decide) rfl ?_
    refine v_aload_n C 1 d_M_isDue_17 rfl rfl ?_
    refine v_get C k_M hR.1 10 (by decide) tw_493 (fun _ h => h) rfl d_M_isDue_18 ?_
    refine v_iload_n C 2 d_M_isDue_21 rfl rfl ?_
    refine v_ialdN C (hR.oi (f := 10) (by decide)) (by show _ < 201; omega) (by decide) d_M_isDue_22 ?_
    refine v_toi (y := (nI cn)) e10 ?_
    refine v_istore_n (lv' := [(3, .int (nI cn)), (2, .int 1), (0, .ref o), (1, .int (nI n))]) C d_M_isDue_23 rfl (by decide) rfl ?_
    refine v_aload_n C 2 d_M_isDue_24 rfl rfl ?_
    refine v_get C k_M hR.1 13 (by decide) tw_496 (fun _ h => h) rfl d_M_isDue_25 ?_
    refine v_iload_n C 3 d_M_isDue_28 rfl rfl ?_
    refine v_laldN C (hR.ol (f := 13) (by decide)) (by show _ < 201; omega) (by decide) d_M_isDue_29 ?_
    refine v_aload_n C 2 d_M_isDue_30 rfl rfl ?_
    refine v_get C k_M hR.1 0 (by decide) tw_483 (fun _ h => h) rfl d_M_isDue_31 ?_
    refine v_lcmp C d_M_isDue_34 ?_
    refine v_if_gt C 74 d_M_isDue_35 (by decide) (fun c_35 => ?_) (fun c_35 => ?_)
    · refine v_iconst (x := 0) C d_M_isDue_74 (by decide) ?_
      exact v_zret C d_M_isDue_75 (by first | exact Nat.le_of_ble_eq_true rfl | (show _ ≤ _; omega)) (by first | exact Nat.le_of_ble_eq_true rfl | (show _ ≤ _; omega)) (by decide) (Or.inr ⟨rfl, rfl, fun z => absurd z.1 (Int.not_le.mpr (lc_gt.mp c_35))⟩)
    · refine v_iload_n C 1 d_M_isDue_38 rfl rfl ?_
      refine v_if_ne C 70 d_M_isDue_39 (by decide) (fun _ => ?_) (fun z => absurd z (by decide))
      refine v_iconst (x := 1) C d_M_isDue_70 (by decide) ?_
      refine v_goto C 75 d_M_isDue_71 (by decide) ?_
      exact v_zret C d_M_isDue_75 (by first | exact Nat.le_of_ble_eq_true rfl | (show _ ≤ _; omega)) (by first | exact Nat.le_of_ble_eq_true rfl | (show _ ≤ _; omega)) (by decide) (Or.inl ⟨rfl, rfl, (Int.not_lt.mp (mt lc_gt.mpr c_35)), Or.inl c_8⟩)
set_option maxHeartbeats 4000000 in
set_option maxRecDepth 100000 in
theorem lp_M_channelOf {p : Program} {l : Launch} {e : Env} {R : Room} {s : State} {m : MethodId} {args : Array Value} {below : List Frame} {meth : Method} {c : Code} {Q : State → Prop} {G : vv_G} {o : Nat} {ad : Nat → Nat} {S : zS} {v : vv_V} {kc ks n cn kd : Nat} (C : vC p s m args meth c b_M_channelOf 6 (some FieldType.int) "CustomerNoticesModel" G) (hR : RM G v o ad S) (hn : n ≤ 200) (hcn : cn ≤ 40) (hkd : kd ≤ 7) (e10 : zi S 10 n = nI cn) (e12 : zi S 12 n = nI kd) (kx : vV p l e R s m args below meth c Q G 6 v kc ks 149 [(3, .int (nI 4)), (2, .int (zix (zbo S ((32 * cn) + (4 * kd)) 4))), (0, .ref o), (1, .int (nI n))] []) : ∀ (nn : Nat) (j : Nat), j ≤ 4 → 5 ≤ j + nn → vV p l e R s m args below meth c Q G 6 v kc ks 49 [(3, .int (nI j)), (2, .int (zix (zbo S ((32 * cn) + (4 * kd)) j))), (0, .ref o), (1, .int (nI n))] [] := by
  intro nn
  induction nn with
  | zero => intro j h1 h2; exfalso; omega
  | succ nn ih =>
    intro j h1 h2
    refine v_iload_n C 0 d_M_channelOf_49 rfl rfl ?_
    refine v_iconst (x := 4) C d_M_channelOf_50 (by decide) ?_
    refine v_icmp_ge C 149 d_M_channelOf_51 (by decide) (fun c_51 => ?_) (fun c_51 => ?_)
    · have n_51 : 4 ≤ j := (nI_leI (a := 4) (b := j) (by omega) (by omega)).mp c_51
      have hj4 : j = 4 := by omega
      subst hj4
      exact kx
    · have n_51 : ¬ 4 ≤ j := mt (nI_leI (a := 4) (b := j) (by omega) (by omega)).mpr c_51
      refine v_aload_n C 2 d_M_channelOf_54 rfl rfl ?_
      refine v_get C k_M hR.1 8 (by decide) tw_491 (fun _ h => h) rfl d_M_channelOf_55 ?_
      refine v_bipush (x := 32) C d_M_channelOf_58 (by decide) ?_
      refine v_aload_n C 2 d_M_channelOf_60 rfl rfl ?_
      refine v_get C k_M hR.1 10 (by decide) tw_493 (fun _ h => h) rfl d_M_channelOf_61 ?_
      refine v_iload_n C 3 d_M_channelOf_64 rfl rfl ?_
      refine v_ialdN C (hR.oi (f := 10) (by decide)) (by show _ < 201; omega) (by decide) d_M_channelOf_65 ?_
      refine v_toi (y := (nI cn)) e10 ?_
      refine v_imul C d_M_channelOf_66 ?_
      refine v_toi (y := nI (32 * cn)) (pk_mul 32 cn) ?_
      refine v_iconst (x := 4) C d_M_channelOf_67 (by decide) ?_
      refine v_aload_n C 2 d_M_channelOf_68 rfl rfl ?_
      refine v_get C k_M hR.1 12 (by decide) tw_495 (fun _ h => h) rfl d_M_channelOf_69 ?_
      refine v_iload_n C 3 d_M_channelOf_72 rfl rfl ?_
      refine v_ialdN C (hR.oi (f := 12) (by decide)) (by show _ < 201; omega) (by decide) d_M_channelOf_73 ?_
      refine v_toi (y := (nI kd)) e12 ?_
      refine v_imul C d_M_channelOf_74 ?_
      refine v_toi (y := nI (4 * kd)) (pk_mul 4 kd) ?_
      refine v_iadd C d_M_channelOf_75 ?_
      refine v_toi (y := nI ((32 * cn) + (4 * kd))) (nI_add (32 * cn) (4 * kd)) ?_
      refine v_iload_n C 0 d_M_channelOf_76 rfl rfl ?_
      refine v_iadd C d_M_channelOf_77 ?_
      refine v_toi (y := nI (((32 * cn) + (4 * kd)) + j)) (nI_add ((32 * cn) + (4 * kd)) j) ?_
      refine v_ialdN C (hR.oi (f := 8) (by decide)) (by show _ < 1312; omega) (by decide) d_M_channelOf_78 ?_
      refine v_istore (lv' := [(4, .int (zi S 8 (((32 * cn) + (4 * kd)) + j))), (3, .int (nI j)), (2, .int (zix (zbo S ((32 * cn) + (4 * kd)) j))), (0, .ref o), (1, .int (nI n))]) C d_M_channelOf_79 (by decide) rfl ?_
      refine v_iload C 0 d_M_channelOf_81 rfl ?_
      refine v_if_le C 99 d_M_channelOf_83 (by decide) (fun c_83 => ?_) (fun c_83 => ?_)
      · refine v_iconst (x := 0) C d_M_channelOf_99 (by decide) ?_
        refine v_istore (lv' := [(5, .int 0), (4, .int (zi S 8 (((32 * cn) + (4 * kd)) + j))), (3, .int (nI j)), (2, .int (zix (zbo S ((32 * cn) + (4 * kd)) j))), (0, .ref o), (1, .int (nI n))]) C d_M_channelOf_100 (by decide) rfl ?_
        refine v_iload C 0 d_M_channelOf_102 rfl ?_
        refine v_if_eq C 143 d_M_channelOf_104 (by decide) (fun _ => ?_) (fun z => absurd (by decide) z)
        have hbn : zbo S ((32 * cn) + (4 * kd)) (j + 1) = zbo S ((32 * cn) + (4 * kd)) j := by rw [zbo, if_neg (fun z => absurd z.1 (i_le0.mp c_83))]
        refine v_lv (lv' := [(5, .int 0), (4, .int (zi S 8 (((32 * cn) + (4 * kd)) + j))), (3, .int (nI j)), (2, .int (zix (zbo S ((32 * cn) + (4 * kd)) (j + 1)))), (0, .ref o), (1, .int (nI n))]) (by rw [hbn]) ?_
        refine v_iinc (y := (nI (j + 1))) (lv' := [(3, .int (nI (j + 1))), (5, .int 0), (4, .int (zi S 8 (((32 * cn) + (4 * kd)) + j))), (2, .int (zix (zbo S ((32 * cn) + (4 * kd)) (j + 1)))), (0, .ref o), (1, .int (nI n))]) C 2 d_M_channelOf_143 rfl (nI_1 _) (by decide) rfl ?_
        refine v_goto C 49 d_M_channelOf_146 (by decide) ?_
        refine v_sub [0, 3, 4, 5] rfl ?_
        exact ih (j + 1) (by omega) (by omega)
      · refine v_aload_n C 3 d_M_channelOf_86 rfl rfl ?_
        refine v_get C k_M hR.1 2 (by decide) tw_485 (fun _ h => h) rfl d_M_channelOf_87 ?_
        refine v_iload_n C 1 d_M_channelOf_90 rfl rfl ?_
        refine v_zaldN C (hR.oz (f := 2) (by decide)) (by show _ < 4; omega) (by decide) d_M_channelOf_91 ?_
        refine v_if_ne C 99 d_M_channelOf_92 (by decide) (fun c_92 => ?_) (fun c_92 => ?_)
        · refine v_iconst (x := 0) C d_M_channelOf_99 (by decide) ?_
          refine v_istore (lv' := [(5, .int 0), (4, .int (zi S 8 (((32 * cn) + (4 * kd)) + j))), (3, .int (nI j)), (2, .int (zix (zbo S ((32 * cn) + (4 * kd)) j))), (0, .ref o), (1, .int (nI n))]) C d_M_channelOf_100 (by decide) rfl ?_
          refine v_iload C 0 d_M_channelOf_102 rfl ?_
          refine v_if_eq C 143 d_M_channelOf_104 (by decide) (fun _ => ?_) (fun z => absurd (by decide) z)
          have hbn : zbo S ((32 * cn) + (4 * kd)) (j + 1) = zbo S ((32 * cn) + (4 * kd)) j := by rw [zbo, if_neg (fun z => c_92 z.2.1)]
          refine v_lv (lv' := [(5, .int 0), (4, .int (zi S 8 (((32 * cn) + (4 * kd)) + j))), (3, .int (nI j)), (2, .int (zix (zbo S ((32 * cn) + (4 * kd)) (j + 1)))), (0, .ref o), (1, .int (nI n))]) (by rw [hbn]) ?_
          refine v_iinc (y := (nI (j + 1))) (lv' := [(3, .int (nI (j + 1))), (5, .int 0), (4, .int (zi S 8 (((32 * cn) + (4 * kd)) + j))), (2, .int (zix (zbo S ((32 * cn) + (4 * kd)) (j + 1)))), (0, .ref o), (1, .int (nI n))]) C 2 d_M_channelOf_143 rfl (nI_1 _) (by decide) rfl ?_
          refine v_goto C 49 d_M_channelOf_146 (by decide) ?_
          refine v_sub [0, 3, 4, 5] rfl ?_
          exact ih (j + 1) (by omega) (by omega)
        · refine v_iconst (x := 1) C d_M_channelOf_95 (by decide) ?_
          refine v_goto C 100 d_M_channelOf_96 (by decide) ?_
          refine v_istore (lv' := [(5, .int 1), (4, .int (zi S 8 (((32 * cn) + (4 * kd)) + j))), (3, .int (nI j)), (2, .int (zix (zbo S ((32 * cn) + (4 * kd)) j))), (0, .ref o), (1, .int (nI n))]) C d_M_channelOf_100 (by decide) rfl ?_
          refine v_iload C 0 d_M_channelOf_102 rfl ?_
          refine v_if_eq C 143 d_M_channelOf_104 (by decide) (fun z => absurd z (by decide)) (fun _ => ?_)
          rcases hbo : zbo S ((32 * cn) + (4 * kd)) j with _ | q
          · show vV _ _ _ _ _ _ _ _ _ _ _ _ _ v kc ks 107 [(5, .int 1), (4, .int (zi S 8 (((32 * cn) + (4 * kd)) + j))), (3, .int (nI j)), (2, .int (-1)), (0, .ref o), (1, .int (nI n))] []
            refine v_iload_n C 3 d_M_channelOf_107 rfl rfl ?_
            refine v_if_lt C 141 d_M_channelOf_108 (by decide) (fun _ => ?_) (fun z => absurd (by decide) z)
            refine v_iload_n C 2 d_M_channelOf_141 rfl rfl ?_
            refine v_istore_n (lv' := [(2, .int (nI j)), (5, .int 1), (4, .int (zi S 8 (((32 * cn) + (4 * kd)) + j))), (3, .int (nI j)), (0, .ref o), (1, .int (nI n))]) C d_M_channelOf_142 rfl (by decide) rfl ?_
            have hbn : zbo S ((32 * cn) + (4 * kd)) (j + 1) = some j := by rw [zbo, if_pos ⟨Decidable.not_not.mp (mt i_le0.mpr c_83), c_92, (by rw [hbo]; rfl)⟩]
            refine v_lv (lv' := [(2, .int (zix (zbo S ((32 * cn) + (4 * kd)) (j + 1)))), (5, .int 1), (4, .int (zi S 8 (((32 * cn) + (4 * kd)) + j))), (3, .int (nI j)), (0, .ref o), (1, .int (nI n))]) (by rw [hbn]; rfl) ?_
            refine v_iinc (y := (nI (j + 1))) (lv' := [(3, .int (nI (j + 1))), (2, .int (zix (zbo S ((32 * cn) + (4 * kd)) (j + 1)))), (5, .int 1), (4, .int (zi S 8 (((32 * cn) + (4 * kd)) + j))), (0, .ref o), (1, .int (nI n))]) C 3 d_M_channelOf_143 rfl (nI_1 _) (by decide) rfl ?_
            refine v_goto C 49 d_M_channelOf_146 (by decide) ?_
            refine v_sub [0, 1, 4, 5] rfl ?_
            exact ih (j + 1) (by omega) (by omega)
          · have hql := zbo_lt hbo
            show vV _ _ _ _ _ _ _ _ _ _ _ _ _ v kc ks 107 [(5, .int 1), (4, .int (zi S 8 (((32 * cn) + (4 * kd)) + j))), (3, .int (nI j)), (2, .int (nI q)), (0, .ref o), (1, .int (nI n))] []
            refine v_iload_n C 3 d_M_channelOf_107 rfl rfl ?_
            refine v_if_lt C 141 d_M_channelOf_108 (by decide) (fun z => absurd z (nI_pos (by omega))) (fun _ => ?_)
            refine v_iload C 1 d_M_channelOf_111 rfl ?_
            refine v_aload_n C 4 d_M_channelOf_113 rfl rfl ?_
            refine v_get C k_M hR.1 8 (by decide) tw_491 (fun _ h => h) rfl d_M_channelOf_114 ?_
            refine v_bipush (x := 32) C d_M_channelOf_117 (by decide) ?_
            refine v_aload_n C 4 d_M_channelOf_119 rfl rfl ?_
            refine v_get C k_M hR.1 10 (by decide) tw_493 (fun _ h => h) rfl d_M_channelOf_120 ?_
            refine v_iload_n C 5 d_M_channelOf_123 rfl rfl ?_
            refine v_ialdN C (hR.oi (f := 10) (by decide)) (by show _ < 201; omega) (by decide) d_M_channelOf_124 ?_
            refine v_toi (y := (nI cn)) e10 ?_
            refine v_imul C d_M_channelOf_125 ?_
            refine v_toi (y := nI (32 * cn)) (pk_mul 32 cn) ?_
            refine v_iconst (x := 4) C d_M_channelOf_126 (by decide) ?_
            refine v_aload_n C 4 d_M_channelOf_127 rfl rfl ?_
            refine v_get C k_M hR.1 12 (by decide) tw_495 (fun _ h => h) rfl d_M_channelOf_128 ?_
            refine v_iload_n C 5 d_M_channelOf_131 rfl rfl ?_
            refine v_ialdN C (hR.oi (f := 12) (by decide)) (by show _ < 201; omega) (by decide) d_M_channelOf_132 ?_
            refine v_toi (y := (nI kd)) e12 ?_
            refine v_imul C d_M_channelOf_133 ?_
            refine v_toi (y := nI (4 * kd)) (pk_mul 4 kd) ?_
            refine v_iadd C d_M_channelOf_134 ?_
            refine v_toi (y := nI ((32 * cn) + (4 * kd))) (nI_add (32 * cn) (4 * kd)) ?_
            refine v_iload_n C 3 d_M_channelOf_135 rfl rfl ?_
            refine v_iadd C d_M_channelOf_136 ?_
            refine v_toi (y := nI (((32 * cn) + (4 * kd)) + q)) (nI_add ((32 * cn) + (4 * kd)) q) ?_
            refine v_ialdN C (hR.oi (f := 8) (by decide)) (by show _ < 1312; omega) (by decide) d_M_channelOf_137 ?_
            refine v_icmp_ge C 143 d_M_channelOf_138 (by decide) (fun c_138 => ?_) (fun c_138 => ?_)
            · have hbn : zbo S ((32 * cn) + (4 * kd)) (j + 1) = zbo S ((32 * cn) + (4 * kd)) j := by rw [zbo, if_neg (fun z => absurd (of_decide_eq_true (by have z3 := z.2.2; rw [hbo] at z3; exact z3)) (Int32.not_lt.mpr c_138))]
              refine v_lv (lv' := [(5, .int 1), (4, .int (zi S 8 (((32 * cn) + (4 * kd)) + j))), (3, .int (nI j)), (2, .int (zix (zbo S ((32 * cn) + (4 * kd)) (j + 1)))), (0, .ref o), (1, .int (nI n))]) (by rw [hbn, hbo]; rfl) ?_
              refine v_iinc (y := (nI (j + 1))) (lv' := [(3, .int (nI (j + 1))), (5, .int 1), (4, .int (zi S 8 (((32 * cn) + (4 * kd)) + j))), (2, .int (zix (zbo S ((32 * cn) + (4 * kd)) (j + 1)))), (0, .ref o), (1, .int (nI n))]) C 2 d_M_channelOf_143 rfl (nI_1 _) (by decide) rfl ?_
              refine v_goto C 49 d_M_channelOf_146 (by decide) ?_
              refine v_sub [0, 3, 4, 5] rfl ?_
              exact ih (j + 1) (by omega) (by omega)
            · refine v_iload_n C 2 d_M_channelOf_141 rfl rfl ?_
              refine v_istore_n (lv' := [(2, .int (nI j)), (5, .int 1), (4, .int (zi S 8 (((32 * cn) + (4 * kd)) + j))), (3, .int (nI j)), (0, .ref o), (1, .int (nI n))]) C d_M_channelOf_142 rfl (by decide) rfl ?_
              have hbn : zbo S ((32 * cn) + (4 * kd)) (j + 1) = some j := by rw [zbo, if_pos ⟨Decidable.not_not.mp (mt i_le0.mpr c_83), c_92, (by rw [hbo]; exact decide_eq_true (Int32.not_le.mp c_138))⟩]
              refine v_lv (lv' := [(2, .int (zix (zbo S ((32 * cn) + (4 * kd)) (j + 1)))), (5, .int 1), (4, .int (zi S 8 (((32 * cn) + (4 * kd)) + j))), (3, .int (nI j)), (0, .ref o), (1, .int (nI n))]) (by rw [hbn]; rfl) ?_
              refine v_iinc (y := (nI (j + 1))) (lv' := [(3, .int (nI (j + 1))), (2, .int (zix (zbo S ((32 * cn) + (4 * kd)) (j + 1)))), (5, .int 1), (4, .int (zi S 8 (((32 * cn) + (4 * kd)) + j))), (0, .ref o), (1, .int (nI n))]) C 3 d_M_channelOf_143 rfl (nI_1 _) (by decide) rfl ?_
              refine v_goto C 49 d_M_channelOf_146 (by decide) ?_
              refine v_sub [0, 1, 4, 5] rfl ?_
              exact ih (j + 1) (by omega) (by omega)
set_option maxHeartbeats 4000000 in
set_option maxRecDepth 100000 in
theorem c_M_channelOf (l : Launch) (G : vv_G) (v : vv_V) (o : Nat) (ad : Nat → Nat) (S : zS) (n : Nat) (hR : RM G v o ad S) (h1 : 1 ≤ n) (h2 : n ≤ zc S 1) (hB : zc S 0 ≤ 40 ∧ zc S 1 ≤ 200) (hB2 : zB2 S) : Mv l y_M_channelOf b_M_channelOf 6 (some FieldType.int) 0 0 G v [.ref o, .int (nI n)] (fun r v' => r = some (.int (zix (zcho S n))) ∧ v' = v) 0 0 := by
  refine vv_metF (own := "CustomerNoticesModel") (nm := "channelOf") pf_M_channelOf rfl rfl (Nat.le_of_ble_eq_true rfl) ?_
  intro p e s m below meth c C hin
  have hk : vkeep (mX o ad) v v := vkeep.rf
  obtain ⟨cn, kd, e10, hc1, hc2, e12, hk7⟩ := hB2 n h1 h2
  have e13 : zn (zi S 10 n) = cn := by rw [e10]; exact zn_nI (by omega)
  show vV _ _ _ _ _ _ _ _ _ _ _ _ _ v 0 0 0 [(0, .ref o), (1, .int (nI n))] []
  refine v_aload_n C 0 d_M_channelOf_0 rfl rfl ?_
  refine v_get C k_M hR.1 12 (by decide) tw_495 (fun _ h => h) rfl d_M_channelOf_1 ?_
  refine v_iload_n C 1 d_M_channelOf_4 rfl rfl ?_
  refine v_ialdN C (hR.oi (f := 12) (by decide)) (by show _ < 201; omega) (by decide) d_M_channelOf_5 ?_
  refine v_toi (y := (nI kd)) e12 ?_
  refine v_iconst (x := 4) C d_M_channelOf_6 (by decide) ?_
  refine v_icmp_ne C 45 d_M_channelOf_7 (by decide) (fun c_7 => ?_) (fun c_7 => ?_)
  · have n_7 : ¬ kd = 4 := mt (nI_eq (a := kd) (b := 4) (by omega) (by omega)).mpr c_7
    refine v_iconst (x := -1) C d_M_channelOf_45 (by decide) ?_
    refine v_istore_n (lv' := [(2, .int (-1)), (0, .ref o), (1, .int (nI n))]) C d_M_channelOf_46 rfl (by decide) rfl ?_
    refine v_iconst (x := 0) C d_M_channelOf_47 (by decide) ?_
    refine v_istore_n (lv' := [(3, .int 0), (2, .int (-1)), (0, .ref o), (1, .int (nI n))]) C d_M_channelOf_48 rfl (by decide) rfl ?_
    refine v_sub [0, 1, 2, 3] rfl ?_
    refine lp_M_channelOf C hR (by omega) (by omega) (by omega) e10 e12 ?_ 5 0 (by omega) (by omega)
    refine v_iload_n C 1 d_M_channelOf_149 rfl rfl ?_
    exact v_iret C d_M_channelOf_150 (by first | exact Nat.le_of_ble_eq_true rfl | (show _ ≤ _; omega)) (by first | exact Nat.le_of_ble_eq_true rfl | (show _ ≤ _; omega)) ⟨(by rw [zcho, e12, if_neg c_7, e13, zn_nI (show kd < 2 ^ 31 by omega)]), rfl⟩
  · have n_7 : kd = 4 := (nI_eq (a := kd) (b := 4) (by omega) (by omega)).mp c_7
    refine v_aload_n C 0 d_M_channelOf_10 rfl rfl ?_
    refine v_get C k_M hR.1 2 (by decide) tw_485 (fun _ h => h) rfl d_M_channelOf_11 ?_
    refine v_iconst (x := 0) C d_M_channelOf_14 (by decide) ?_
    refine v_toi (y := nI 0) rfl ?_
    refine v_zaldN C (hR.oz (f := 2) (by decide)) (by show _ < 4; omega) (by decide) d_M_channelOf_15 ?_
    refine v_if_ne C 39 d_M_channelOf_16 (by decide) (fun c_16 => ?_) (fun c_16 => ?_)
    · refine v_iconst (x := -1) C d_M_channelOf_39 (by decide) ?_
      refine v_goto C 44 d_M_channelOf_40 (by decide) ?_
      exact v_iret C d_M_channelOf_44 (by first | exact Nat.le_of_ble_eq_true rfl | (show _ ≤ _; omega)) (by first | exact Nat.le_of_ble_eq_true rfl | (show _ ≤ _; omega)) ⟨(by rw [zcho, e12, if_pos c_7, if_neg (fun z => c_16 z.1)]; rfl), rfl⟩
    · refine v_aload_n C 0 d_M_channelOf_19 rfl rfl ?_
      refine v_get C k_M hR.1 8 (by decide) tw_491 (fun _ h => h) rfl d_M_channelOf_20 ?_
      refine v_bipush (x := 32) C d_M_channelOf_23 (by decide) ?_
      refine v_aload_n C 0 d_M_channelOf_25 rfl rfl ?_
      refine v_get C k_M hR.1 10 (by decide) tw_493 (fun _ h => h) rfl d_M_channelOf_26 ?_
      refine v_iload_n C 1 d_M_channelOf_29 rfl rfl ?_
      refine v_ialdN C (hR.oi (f := 10) (by decide)) (by show _ < 201; omega) (by decide) d_M_channelOf_30 ?_
      refine v_toi (y := (nI cn)) e10 ?_
      refine v_imul C d_M_channelOf_31 ?_
      refine v_toi (y := nI (32 * cn)) (pk_mul 32 cn) ?_
      refine v_bipush (x := 16) C d_M_channelOf_32 (by decide) ?_
      refine v_iadd C d_M_channelOf_34 ?_
      refine v_toi (y := nI ((32 * cn) + 16)) (nI_add (32 * cn) 16) ?_
      refine v_ialdN C (hR.oi (f := 8) (by decide)) (by show _ < 1312; omega) (by decide) d_M_channelOf_35 ?_
      refine v_if_ne C 43 d_M_channelOf_36 (by decide) (fun c_36 => ?_) (fun c_36 => ?_)
      · refine v_iconst (x := 0) C d_M_channelOf_43 (by decide) ?_
        exact v_iret C d_M_channelOf_44 (by first | exact Nat.le_of_ble_eq_true rfl | (show _ ≤ _; omega)) (by first | exact Nat.le_of_ble_eq_true rfl | (show _ ≤ _; omega)) ⟨(by rw [zcho, e12, if_pos c_7, e13, if_pos ⟨c_16, c_36⟩]; rfl), rfl⟩
      · refine v_iconst (x := -1) C d_M_channelOf_39 (by decide) ?_
        refine v_goto C 44 d_M_channelOf_40 (by decide) ?_
        exact v_iret C d_M_channelOf_44 (by first | exact Nat.le_of_ble_eq_true rfl | (show _ ≤ _; omega)) (by first | exact Nat.le_of_ble_eq_true rfl | (show _ ≤ _; omega)) ⟨(by rw [zcho, e12, if_pos c_7, e13, if_neg (fun z => z.2 c_36)]; rfl), rfl⟩
end
section
theorem zcho_lt {S : zS} {n q : Nat} (h : zcho S n = some q) : q < 4 := by
  unfold zcho at h
  split at h
  · split at h
    · cases h; decide
    · cases h
  · exact zbo_lt h
set_option maxHeartbeats 4000000 in
set_option maxRecDepth 100000 in
theorem lp_M_tick1 {p : Program} {l : Launch} {e : Env} {R : Room} {s : State} {m : MethodId} {args : Array Value} {below : List Frame} {meth : Method} {c : Code} {Q : State → Prop} {G : vv_G} {o : Nat} {ad : Nat → Nat} {S : zS} {v0 : vv_V} {kc ks : Nat} {t : Int64} (C : vC p s m args meth c b_M_tick 6 (some FieldType.int) "CustomerNoticesModel" G) (hB : zc S 0 ≤ 40) (kx : ∀ v : vv_V, RM G v o ad (zr1 S (zc S 0)) → vkeep (mX o ad) v0 v → vV p l e R s m args below meth c Q G 6 v kc ks 48 [(3, .int (nI (zc S 0 + 1))), (0, .ref o), (1, .long t)] []) : ∀ (n : Nat) (j : Nat) (v : vv_V), j ≤ zc S 0 → zc S 0 + 1 ≤ j + n → RM G v o ad (zr1 S j) → vkeep (mX o ad) v0 v → vV p l e R s m args below meth c Q G 6 v kc ks 18 [(3, .int (nI (j + 1))), (0, .ref o), (1, .long t)] [] := by
  intro n
  induction n with
  | zero => intro j v h1 h2 hR hk; exfalso; omega
  | succ n ih =>
    intro j v h1 h2 hR hk
    refine v_iload_n C 0 d_M_tick_18 rfl rfl ?_
    refine v_aload_n C 1 d_M_tick_19 rfl rfl ?_
    refine v_get C k_M hR.1 3 (by decide) tw_486 (fun _ h => h) rfl d_M_tick_20 ?_
    refine v_toi (y := nI (zc S 0)) (by rw [zr1_c]) ?_
    refine v_icmp_gt C 48 d_M_tick_23 (by decide) (fun c_23 => ?_) (fun c_23 => ?_)
    · have n_23 : (zc S 0) < (j + 1) := (nI_ltI (a := (zc S 0)) (b := (j + 1)) (by omega) (by omega)).mp c_23
      have hj4 : j = zc S 0 := by omega
      subst hj4
      exact kx v hR hk
    · have n_23 : ¬ (zc S 0) < (j + 1) := mt (nI_ltI (a := (zc S 0)) (b := (j + 1)) (by omega) (by omega)).mpr c_23
      refine v_aload_n C 1 d_M_tick_26 rfl rfl ?_
      refine v_get C k_M hR.1 30 (by decide) tw_513 (fun _ h => h) rfl d_M_tick_27 ?_
      refine v_iload_n C 0 d_M_tick_30 rfl rfl ?_
      refine v_ldc2 (x := 1000000001) C d_M_tick_31 tw_642 ?_
      refine v_lastN C (hR.ol (f := 30) (by decide)) (by show _ < 41; omega) (by decide) d_M_tick_34 ?_
      refine v_view (fun v1 ev1 => ?_)
      obtain ⟨S_1, eS_1⟩ : ∃ z, z = zul (zr1 S j) 30 (j + 1) 1000000001 := ⟨_, rfl⟩
      have hR_1 : RM G v1 o ad S_1 := by rw [eS_1]; exact (by rw [ev1]; exact hR.putl 30 (by decide) (j + 1) 1000000001)
      have hk_1 : vkeep (mX o ad) v0 v1 := by rw [ev1]; exact hk.up (mX_f (by decide))
      refine v_aload_n C 1 d_M_tick_35 rfl rfl ?_
      refine v_get C k_M hR_1.1 31 (by decide) tw_514 (fun _ h => h) rfl d_M_tick_36 ?_
      refine v_iload_n C 0 d_M_tick_39 rfl rfl ?_
      refine v_iconst (x := 0) C d_M_tick_40 (by decide) ?_
      refine v_iastN C (hR_1.oi (f := 31) (by decide)) (by show _ < 41; omega) (by decide) d_M_tick_41 ?_
      refine v_view (fun v2 ev2 => ?_)
      obtain ⟨S_2, eS_2⟩ : ∃ z, z = zui S_1 31 (j + 1) 0 := ⟨_, rfl⟩
      have hR_2 : RM G v2 o ad S_2 := by rw [eS_2]; exact (by rw [ev2]; exact hR_1.puti 31 (by decide) (j + 1) 0)
      have hk_2 : vkeep (mX o ad) v0 v2 := by rw [ev2]; exact hk_1.up (mX_f (by decide))
      refine v_iinc (y := (nI ((j + 1) + 1))) (lv' := [(3, .int (nI ((j + 1) + 1))), (0, .ref o), (1, .long t)]) C 0 d_M_tick_42 rfl (nI_1 _) (by decide) rfl ?_
      refine v_goto C 18 d_M_tick_45 (by decide) ?_
      refine v_sub [0, 1, 2] rfl ?_
      exact ih (j + 1) v2 (by omega) (by omega) (by subst eS_1 eS_2; exact hR_2) hk_2
set_option maxHeartbeats 4000000 in
set_option maxRecDepth 100000 in
theorem lp_M_tick2 {p : Program} {l : Launch} {e : Env} {R : Room} {s : State} {m : MethodId} {args : Array Value} {below : List Frame} {meth : Method} {c : Code} {Q : State → Prop} {G : vv_G} {o : Nat} {ad : Nat → Nat} {S : zS} {v0 : vv_V} {kc ks : Nat} {t : Int64} (C : vC p s m args meth c b_M_tick 6 (some FieldType.int) "CustomerNoticesModel" G) (hB : zc S 0 ≤ 40 ∧ zc S 1 ≤ 200) (hB2 : zB2 S) (kx : ∀ v : vv_V, RM G v o ad (zr2 S (zc S 1)) → vkeep (mX o ad) v0 v → vV p l e R s m args below meth c Q G 6 v kc ks 122 [(3, .int (nI (zc S 1 + 1))), (0, .ref o), (1, .long t)] []) : ∀ (n : Nat) (j : Nat) (v : vv_V), j ≤ zc S 1 → zc S 1 + 1 ≤ j + n → RM G v o ad (zr2 S j) → vkeep (mX o ad) v0 v → vV p l e R s m args below meth c Q G 6 v kc ks 50 [(3, .int (nI (j + 1))), (0, .ref o), (1, .long t)] [] := by
  intro n
  induction n with
  | zero => intro j v h1 h2 hR hk; exfalso; omega
  | succ n ih =>
    intro j v h1 h2 hR hk
    refine v_iload_n C 0 d_M_tick_50 rfl rfl ?_
    refine v_aload_n C 1 d_M_tick_51 rfl rfl ?_
    refine v_get C k_M hR.1 9 (by decide) tw_492 (fun _ h => h) rfl d_M_tick_52 ?_
    refine v_toi (y := nI (zc S 1)) (by rw [zr2_c]) ?_
    refine v_icmp_gt C 122 d_M_tick_55 (by decide) (fun c_55 => ?_) (fun c_55 => ?_)
    · have n_55 : (zc S 1) < (j + 1) := (nI_ltI (a := (zc S 1)) (b := (j + 1)) (by omega) (by omega)).mp c_55
      have hj4 : j = zc S 1 := by omega
      subst hj4
      exact kx v hR hk
    · have n_55 : ¬ (zc S 1) < (j + 1) := mt (nI_ltI (a := (zc S 1)) (b := (j + 1)) (by omega) (by omega)).mpr c_55
      obtain ⟨cn, kd, e10, hc1, hc2, e12, hk7⟩ := hB2 (j + 1) (by omega) (by omega)
      rw [← zr2_i S j] at e10
      have e13 : zn (zi (zr2 S j) 10 (j + 1)) = cn := by rw [e10]; exact zn_nI (by omega)
      refine v_aload_n C 1 d_M_tick_58 rfl rfl ?_
      refine v_get C k_M hR.1 15 (by decide) tw_498 (fun _ h => h) rfl d_M_tick_59 ?_
      refine v_iload_n C 0 d_M_tick_62 rfl rfl ?_
      refine v_ialdN C (hR.oi (f := 15) (by decide)) (by show _ < 201; omega) (by decide) d_M_tick_63 ?_
      refine v_if_ne C 116 d_M_tick_64 (by decide) (fun c_64 => ?_) (fun c_64 => ?_)
      · refine v_iinc (y := (nI ((j + 1) + 1))) (lv' := [(3, .int (nI ((j + 1) + 1))), (0, .ref o), (1, .long t)]) C 0 d_M_tick_116 rfl (nI_1 _) (by decide) rfl ?_
        refine v_goto C 50 d_M_tick_119 (by decide) ?_
        refine v_sub [0, 1, 2] rfl ?_
        exact ih (j + 1) v (by omega) (by omega) (by rw [zr2, if_neg (fun z => c_64 z.1)]; exact hR) hk
      · refine v_aload_n C 1 d_M_tick_67 rfl rfl ?_
        refine v_get C k_M hR.1 12 (by decide) tw_495 (fun _ h => h) rfl d_M_tick_68 ?_
        refine v_iload_n C 0 d_M_tick_71 rfl rfl ?_
        refine v_ialdN C (hR.oi (f := 12) (by decide)) (by show _ < 201; omega) (by decide) d_M_tick_72 ?_
        refine v_bipush (x := 7) C d_M_tick_73 (by decide) ?_
        refine v_icmp_eq C 116 d_M_tick_75 (by decide) (fun c_75 => ?_) (fun c_75 => ?_)
        · refine v_iinc (y := (nI ((j + 1) + 1))) (lv' := [(3, .int (nI ((j + 1) + 1))), (0, .ref o), (1, .long t)]) C 0 d_M_tick_116 rfl (nI_1 _) (by decide) rfl ?_
          refine v_goto C 50 d_M_tick_119 (by decide) ?_
          refine v_sub [0, 1, 2] rfl ?_
          exact ih (j + 1) v (by omega) (by omega) (by rw [zr2, if_neg (fun z => z.2.1 c_75)]; exact hR) hk
        · refine v_aload_n C 1 d_M_tick_78 rfl rfl ?_
          refine v_get C k_M hR.1 13 (by decide) tw_496 (fun _ h => h) rfl d_M_tick_79 ?_
          refine v_iload_n C 0 d_M_tick_82 rfl rfl ?_
          refine v_laldN C (hR.ol (f := 13) (by decide)) (by show _ < 201; omega) (by decide) d_M_tick_83 ?_
          refine v_aload_n C 1 d_M_tick_84 rfl rfl ?_
          refine v_get C k_M hR.1 30 (by decide) tw_513 (fun _ h => h) rfl d_M_tick_85 ?_
          refine v_aload_n C 1 d_M_tick_88 rfl rfl ?_
          refine v_get C k_M hR.1 10 (by decide) tw_493 (fun _ h => h) rfl d_M_tick_89 ?_
          refine v_iload_n C 0 d_M_tick_92 rfl rfl ?_
          refine v_ialdN C (hR.oi (f := 10) (by decide)) (by show _ < 201; omega) (by decide) d_M_tick_93 ?_
          refine v_toi (y := (nI cn)) e10 ?_
          refine v_laldN C (hR.ol (f := 30) (by decide)) (by show _ < 41; omega) (by decide) d_M_tick_94 ?_
          refine v_lcmp C d_M_tick_95 ?_
          refine v_if_ge C 116 d_M_tick_96 (by decide) (fun c_96 => ?_) (fun c_96 => ?_)
          · refine v_iinc (y := (nI ((j + 1) + 1))) (lv' := [(3, .int (nI ((j + 1) + 1))), (0, .ref o), (1, .long t)]) C 0 d_M_tick_116 rfl (nI_1 _) (by decide) rfl ?_
            refine v_goto C 50 d_M_tick_119 (by decide) ?_
            refine v_sub [0, 1, 2] rfl ?_
            exact ih (j + 1) v (by omega) (by omega) (by rw [zr2, if_neg (fun z => absurd z.2.2 (by rw [e13]; exact Int.not_lt.mpr (lc_ge.mp c_96)))]; exact hR) hk
          · refine v_aload_n C 1 d_M_tick_99 rfl rfl ?_
            refine v_get C k_M hR.1 30 (by decide) tw_513 (fun _ h => h) rfl d_M_tick_100 ?_
            refine v_aload_n C 1 d_M_tick_103 rfl rfl ?_
            refine v_get C k_M hR.1 10 (by decide) tw_493 (fun _ h => h) rfl d_M_tick_104 ?_
            refine v_iload_n C 0 d_M_tick_107 rfl rfl ?_
            refine v_ialdN C (hR.oi (f := 10) (by decide)) (by show _ < 201; omega) (by decide) d_M_tick_108 ?_
            refine v_toi (y := (nI cn)) e10 ?_
            refine v_aload_n C 1 d_M_tick_109 rfl rfl ?_
            refine v_get C k_M hR.1 13 (by decide) tw_496 (fun _ h => h) rfl d_M_tick_110 ?_
            refine v_iload_n C 0 d_M_tick_113 rfl rfl ?_
            refine v_laldN C (hR.ol (f := 13) (by decide)) (by show _ < 201; omega) (by decide) d_M_tick_114 ?_
            refine v_lastN C (hR.ol (f := 30) (by decide)) (by show _ < 41; omega) (by decide) d_M_tick_115 ?_
            refine v_view (fun v1 ev1 => ?_)
            obtain ⟨S_1, eS_1⟩ : ∃ z, z = zul (zr2 S j) 30 cn (zl (zr2 S j) 13 (j + 1)) := ⟨_, rfl⟩
            have hR_1 : RM G v1 o ad S_1 := by rw [eS_1]; exact (by rw [ev1]; exact hR.putl 30 (by decide) cn (zl (zr2 S j) 13 (j + 1)))
            have hk_1 : vkeep (mX o ad) v0 v1 := by rw [ev1]; exact hk.up (mX_f (by decide))
            refine v_iinc (y := (nI ((j + 1) + 1))) (lv' := [(3, .int (nI ((j + 1) + 1))), (0, .ref o), (1, .long t)]) C 0 d_M_tick_116 rfl (nI_1 _) (by decide) rfl ?_
            refine v_goto C 50 d_M_tick_119 (by decide) ?_
            refine v_sub [0, 1, 2] rfl ?_
            exact ih (j + 1) v1 (by omega) (by omega) (by rw [zr2, if_pos ⟨c_64, c_75, (by rw [e13]; exact Int.not_le.mp (mt lc_ge.mpr c_96))⟩, e13]; subst eS_1; exact hR_1) hk_1
set_option maxHeartbeats 4000000 in
set_option maxRecDepth 100000 in
theorem lp_M_tick3 {p : Program} {l : Launch} {e : Env} {R : Room} {s : State} {m : MethodId} {args : Array Value} {below : List Frame} {meth : Method} {c : Code} {Q : State → Prop} {G : vv_G} {o : Nat} {ad : Nat → Nat} {S : zS} {v0 : vv_V} {kc ks : Nat} {t : Int64} (C : vC p s m args meth c b_M_tick 6 (some FieldType.int) "CustomerNoticesModel" G) (hB : zc S 0 ≤ 40 ∧ zc S 1 ≤ 200) (hB2 : zB2 S) (hB3 : zB3 S) (hRm : 2 ≤ R.frames ∧ 47 ≤ R.locals) (hRc : kc ≤ R.cells ∧ ks ≤ R.slots) (kx : ∀ v : vv_V, RM G v o ad (zr3 S (zc S 1)) → vkeep (mX o ad) v0 v → vV p l e R s m args below meth c Q G 6 v kc ks 330 [(4, .int (nI (zc S 1 + 1))), (3, .int (nI (zc (zr3 S (zc S 1)) 3 - zc S 3))), (0, .ref o), (1, .long t)] []) : ∀ (n : Nat) (j : Nat) (v : vv_V), j ≤ zc S 1 → zc S 1 + 1 ≤ j + n → RM G v o ad (zr3 S j) → vkeep (mX o ad) v0 v → vV p l e R s m args below meth c Q G 6 v kc ks 127 [(4, .int (nI (j + 1))), (3, .int (nI (zc (zr3 S j) 3 - zc S 3))), (0, .ref o), (1, .long t)] [] := by
  intro n
  induction n with
  | zero => intro j v h1 h2 hR hk; exfalso; omega
  | succ n ih =>
    intro j v h1 h2 hR hk
    refine v_iload C 0 d_M_tick_127 rfl ?_
    have k1 : zc (zr3 S j) 1 = zc S 1 := (zr3_k S j).1 1 (by decide) (by decide)
    refine v_aload_n C 2 d_M_tick_129 rfl rfl ?_
    refine v_get C k_M hR.1 9 (by decide) tw_492 (fun _ h => h) rfl d_M_tick_130 ?_
    refine v_toi (y := nI (zc S 1)) (by exact congrArg nI k1) ?_
    refine v_icmp_gt C 330 d_M_tick_133 (by decide) (fun c_133 => ?_) (fun c_133 => ?_)
    · have n_133 : (zc S 1) < (j + 1) := (nI_ltI (a := (zc S 1)) (b := (j + 1)) (by omega) (by omega)).mp c_133
      have hj4 : j = zc S 1 := by omega
      subst hj4
      exact kx v hR hk
    · have n_133 : ¬ (zc S 1) < (j + 1) := mt (nI_ltI (a := (zc S 1)) (b := (j + 1)) (by omega) (by omega)).mpr c_133
      have k0 : zc (zr3 S j) 0 = zc S 0 := (zr3_k S j).1 0 (by decide) (by decide)
      have k1 : zc (zr3 S j) 1 = zc S 1 := (zr3_k S j).1 1 (by decide) (by decide)
      obtain ⟨cn, kd, e10, hc1, hc2, e12, hk7⟩ := zr3_B2 hB2 j (j + 1) (by omega) (by rw [k1]; omega)
      rw [k0] at hc2
      have e13 : zn (zi (zr3 S j) 10 (j + 1)) = cn := by rw [e10]; exact zn_nI (by omega)
      obtain ⟨hb3, hm3⟩ := zr3_B3 hB3 j (by omega)
      refine v_aload_n C 2 d_M_tick_136 rfl rfl ?_
      refine v_get C k_M hR.1 15 (by decide) tw_498 (fun _ h => h) rfl d_M_tick_137 ?_
      refine v_iload C 0 d_M_tick_140 rfl ?_
      refine v_ialdN C (hR.oi (f := 15) (by decide)) (by show _ < 201; omega) (by decide) d_M_tick_142 ?_
      refine v_if_ne C 324 d_M_tick_143 (by decide) (fun c_143 => ?_) (fun c_143 => ?_)
      · refine v_iinc (y := (nI ((j + 1) + 1))) (lv' := [(4, .int (nI ((j + 1) + 1))), (3, .int (nI (zc (zr3 S j) 3 - zc S 3))), (0, .ref o), (1, .long t)]) C 0 d_M_tick_324 rfl (nI_1 _) (by decide) rfl ?_
        refine v_goto C 127 d_M_tick_327 (by decide) ?_
        have hst : zr3 S (j + 1) = zr3 S j := by show zstep _ _ = _; unfold zstep; rw [if_neg (fun z => c_143 z.1)]
        refine v_lv (lv' := [(4, .int (nI ((j + 1) + 1))), (3, .int (nI (zc (zr3 S (j + 1)) 3 - zc S 3))), (0, .ref o), (1, .long t)]) (by rw [hst]) ?_
        refine v_sub [0, 1, 2, 3] rfl ?_
        exact ih (j + 1) v (by omega) (by omega) (by rw [hst]; exact hR) hk
      · refine v_aload_n C 2 d_M_tick_146 rfl rfl ?_
        refine v_iload C 0 d_M_tick_147 rfl ?_
        refine v_callV (rest := []) C (c_M_isDue l G v o ad (zr3 S j) (j + 1) hR (by omega) (by rw [k1]; omega) ⟨by rw [k0]; omega, by rw [k1]; omega⟩ (zr3_B2 hB2 j)) tw_646 tw_34 tw_643 tw_645 tw_25 mn_M_isDue hR.1 k_M.1 ⟨Nat.le_trans (Nat.le_of_ble_eq_true rfl) hRm.1, Nat.le_trans (Nat.le_of_ble_eq_true rfl) hRm.2⟩ rfl rfl (Nat.le_of_ble_eq_true rfl) d_M_tick_149 ⟨hRc.1, hRc.2⟩ (fun r_1 v_2 hp_3 => ?_)
        rcases hp_3 with ⟨rfl, hv9, hb_149⟩ | ⟨rfl, hv9, hb_149⟩
        · obtain rfl := hv9.symm
          show vV _ _ _ _ _ _ _ _ _ _ _ _ _ v kc ks 152 [(4, .int (nI (j + 1))), (3, .int (nI (zc (zr3 S j) 3 - zc S 3))), (0, .ref o), (1, .long t)] [.int 1]
          refine v_if_ne C 158 d_M_tick_152 (by decide) (fun _ => ?_) (fun z => absurd z (by decide))
          refine v_aload_n C 2 d_M_tick_158 rfl rfl ?_
          refine v_iload C 0 d_M_tick_159 rfl ?_
          refine v_callV (rest := []) C (c_M_channelOf l G v o ad (zr3 S j) (j + 1) hR (by omega) (by rw [k1]; omega) ⟨by rw [k0]; omega, by rw [k1]; omega⟩ (zr3_B2 hB2 j)) tw_655 tw_34 tw_652 tw_654 tw_27 mn_M_channelOf hR.1 k_M.1 ⟨Nat.le_trans (Nat.le_of_ble_eq_true rfl) hRm.1, Nat.le_trans (Nat.le_of_ble_eq_true rfl) hRm.2⟩ rfl rfl (Nat.le_of_ble_eq_true rfl) d_M_tick_161 ⟨hRc.1, hRc.2⟩ (fun r_4 v_5 hp_6 => ?_)
          obtain ⟨rfl, hv9⟩ := hp_6
          obtain rfl := hv9.symm
          rcases hch : zcho (zr3 S j) (j + 1) with _ | q
          · show vV _ _ _ _ _ _ _ _ _ _ _ _ _ v kc ks 164 [(4, .int (nI (j + 1))), (3, .int (nI (zc (zr3 S j) 3 - zc S 3))), (0, .ref o), (1, .long t)] [.int (-1)]
            refine v_istore (lv' := [(5, .int (-1)), (4, .int (nI (j + 1))), (3, .int (nI (zc (zr3 S j) 3 - zc S 3))), (0, .ref o), (1, .long t)]) C d_M_tick_164 (by decide) rfl ?_
            refine v_iload C 0 d_M_tick_166 rfl ?_
            refine v_if_ge C 203 d_M_tick_168 (by decide) (fun z => absurd z (by decide)) (fun _ => ?_)
            have hw := zwc_pos (S := zr3 S j) c_143 (show 1 ≤ j + 1 by omega) (show j + 1 ≤ zc (zr3 S j) 1 by rw [k1]; omega)
            obtain ⟨hs1, hs2⟩ := hb3
            rw [k1] at hs1 hw hs2
            refine v_aload_n C 3 d_M_tick_171 rfl rfl ?_
            refine v_get C k_M hR.1 15 (by decide) tw_498 (fun _ h => h) rfl d_M_tick_172 ?_
            refine v_iload C 1 d_M_tick_175 rfl ?_
            refine v_iconst (x := 2) C d_M_tick_177 (by decide) ?_
            refine v_iastN C (hR.oi (f := 15) (by decide)) (by show _ < 201; omega) (by decide) d_M_tick_178 ?_
            refine v_view (fun v1 ev1 => ?_)
            obtain ⟨S_7, eS_7⟩ : ∃ z, z = zui (zr3 S j) 15 (j + 1) 2 := ⟨_, rfl⟩
            have hR_7 : RM G v1 o ad S_7 := by rw [eS_7]; exact (by rw [ev1]; exact hR.puti 15 (by decide) (j + 1) 2)
            have hk_7 : vkeep (mX o ad) v0 v1 := by rw [ev1]; exact hk.up (mX_f (by decide))
            refine v_aload_n C 3 d_M_tick_179 rfl rfl ?_
            refine v_get C k_M hR_7.1 29 (by decide) tw_512 (fun _ h => h) rfl d_M_tick_180 ?_
            refine v_aload_n C 3 d_M_tick_183 rfl rfl ?_
            refine v_get C k_M hR_7.1 28 (by decide) tw_511 (fun _ h => h) rfl d_M_tick_184 ?_
            refine v_toi (y := nI (zc (zr3 S j) 4)) (by rw [eS_7]; rfl) ?_
            refine v_iload C 1 d_M_tick_187 rfl ?_
            refine v_iastN C (hR_7.oi (f := 29) (by decide)) (by show _ < 200; omega) (by decide) d_M_tick_189 ?_
            refine v_view (fun v2 ev2 => ?_)
            obtain ⟨S_8, eS_8⟩ : ∃ z, z = zui S_7 29 (zc (zr3 S j) 4) (nI (j + 1)) := ⟨_, rfl⟩
            have hR_8 : RM G v2 o ad S_8 := by rw [eS_8]; exact (by rw [ev2]; exact hR_7.puti 29 (by decide) (zc (zr3 S j) 4) (nI (j + 1)))
            have hk_8 : vkeep (mX o ad) v0 v2 := by rw [ev2]; exact hk_7.up (mX_f (by decide))
            refine v_aload_n C 3 d_M_tick_190 rfl rfl ?_
            refine v_dup C d_M_tick_191 rfl ?_
            refine v_get C k_M hR_8.1 28 (by decide) tw_511 (fun _ h => h) rfl d_M_tick_192 ?_
            refine v_toi (y := nI (zc (zr3 S j) 4)) (by rw [eS_8, eS_7]; rfl) ?_
            refine v_iconst (x := 1) C d_M_tick_195 (by decide) ?_
            refine v_iadd C d_M_tick_196 ?_
            refine v_toi (y := nI ((zc (zr3 S j) 4) + 1)) (nI_add (zc (zr3 S j) 4) 1) ?_
            refine v_put C k_M hR_8.1 28 (by decide) tw_511 (fun _ h => h) rfl rfl rfl (Nat.le_of_ble_eq_true rfl) d_M_tick_197 ?_
            refine v_view (fun v3 ev3 => ?_)
            obtain ⟨S_9, eS_9⟩ : ∃ z, z = zuc S_8 4 ((zc (zr3 S j) 4) + 1) := ⟨_, rfl⟩
            have hR_9 : RM G v3 o ad S_9 := by rw [eS_9]; exact (by rw [ev3]; exact hR_8.puts rfl (fun f hf => rfl) (fun f hf => rfl))
            have hk_9 : vkeep (mX o ad) v0 v3 := by rw [ev3]; exact hk_8.up mX_o
            refine v_goto C 324 d_M_tick_200 (by decide) ?_
            refine v_iinc (y := (nI ((j + 1) + 1))) (lv' := [(4, .int (nI ((j + 1) + 1))), (5, .int (-1)), (3, .int (nI (zc (zr3 S j) 3 - zc S 3))), (0, .ref o), (1, .long t)]) C 1 d_M_tick_324 rfl (nI_1 _) (by decide) rfl ?_
            refine v_goto C 127 d_M_tick_327 (by decide) ?_
            have hst : zr3 S (j + 1) = zfail (zr3 S j) (j + 1) := by show zstep _ _ = _; unfold zstep; rw [if_pos ⟨c_143, hb_149⟩, hch]
            refine v_lv (lv' := [(4, .int (nI ((j + 1) + 1))), (5, .int (-1)), (3, .int (nI (zc (zr3 S (j + 1)) 3 - zc S 3))), (0, .ref o), (1, .long t)]) (by rw [hst]; rfl) ?_
            refine v_sub [0, 2, 3, 4] rfl ?_
            exact ih (j + 1) v3 (by omega) (by omega) (by rw [hst, zfail]; subst eS_7 eS_8 eS_9; exact hR_9) hk_9
          · have hq4 := zcho_lt hch
            show vV _ _ _ _ _ _ _ _ _ _ _ _ _ v kc ks 164 [(4, .int (nI (j + 1))), (3, .int (nI (zc (zr3 S j) 3 - zc S 3))), (0, .ref o), (1, .long t)] [.int (nI q)]
            refine v_istore (lv' := [(5, .int (nI q)), (4, .int (nI (j + 1))), (3, .int (nI (zc (zr3 S j) 3 - zc S 3))), (0, .ref o), (1, .long t)]) C d_M_tick_164 (by decide) rfl ?_
            refine v_iload C 0 d_M_tick_166 rfl ?_
            refine v_if_ge C 203 d_M_tick_168 (by decide) (fun _ => ?_) (fun z => absurd (nI_pos' (by omega)) z)
            have hw := zwc_pos (S := zr3 S j) c_143 (show 1 ≤ j + 1 by omega) (show j + 1 ≤ zc (zr3 S j) 1 by rw [k1]; omega)
            obtain ⟨hs1, hs2⟩ := hb3
            rw [k1] at hs1 hw hs2
            refine v_aload_n C 3 d_M_tick_203 rfl rfl ?_
            refine v_get C k_M hR.1 15 (by decide) tw_498 (fun _ h => h) rfl d_M_tick_204 ?_
            refine v_iload C 1 d_M_tick_207 rfl ?_
            refine v_iconst (x := 1) C d_M_tick_209 (by decide) ?_
            refine v_iastN C (hR.oi (f := 15) (by decide)) (by show _ < 201; omega) (by decide) d_M_tick_210 ?_
            refine v_view (fun v4 ev4 => ?_)
            obtain ⟨S_10, eS_10⟩ : ∃ z, z = zui (zr3 S j) 15 (j + 1) 1 := ⟨_, rfl⟩
            have hR_10 : RM G v4 o ad S_10 := by rw [eS_10]; exact (by rw [ev4]; exact hR.puti 15 (by decide) (j + 1) 1)
            have hk_10 : vkeep (mX o ad) v0 v4 := by rw [ev4]; exact hk.up (mX_f (by decide))
            refine v_aload_n C 3 d_M_tick_211 rfl rfl ?_
            refine v_get C k_M hR_10.1 31 (by decide) tw_514 (fun _ h => h) rfl d_M_tick_212 ?_
            refine v_aload_n C 3 d_M_tick_215 rfl rfl ?_
            refine v_get C k_M hR_10.1 10 (by decide) tw_493 (fun _ h => h) rfl d_M_tick_216 ?_
            refine v_iload C 1 d_M_tick_219 rfl ?_
            refine v_ialdN C (hR_10.oi (f := 10) (by decide)) (by show _ < 201; omega) (by decide) d_M_tick_221 ?_
            refine v_toi (y := (nI cn)) (by rw [eS_10]; exact e10) ?_
            refine v_aload_n C 3 d_M_tick_222 rfl rfl ?_
            refine v_get C k_M hR_10.1 31 (by decide) tw_514 (fun _ h => h) rfl d_M_tick_223 ?_
            refine v_aload_n C 3 d_M_tick_226 rfl rfl ?_
            refine v_get C k_M hR_10.1 10 (by decide) tw_493 (fun _ h => h) rfl d_M_tick_227 ?_
            refine v_iload C 1 d_M_tick_230 rfl ?_
            refine v_ialdN C (hR_10.oi (f := 10) (by decide)) (by show _ < 201; omega) (by decide) d_M_tick_232 ?_
            refine v_toi (y := (nI cn)) (by rw [eS_10]; exact e10) ?_
            refine v_ialdN C (hR_10.oi (f := 31) (by decide)) (by show _ < 41; omega) (by decide) d_M_tick_233 ?_
            refine v_toi (y := (zi (zr3 S j) 31 cn)) (by rw [eS_10]; rfl) ?_
            refine v_if_ne C 242 d_M_tick_234 (by decide) (fun c_234 => ?_) (fun c_234 => ?_)
            · refine v_aload_n C 3 d_M_tick_242 rfl rfl ?_
              refine v_get C k_M hR_10.1 31 (by decide) tw_514 (fun _ h => h) rfl d_M_tick_243 ?_
              refine v_aload_n C 3 d_M_tick_246 rfl rfl ?_
              refine v_get C k_M hR_10.1 10 (by decide) tw_493 (fun _ h => h) rfl d_M_tick_247 ?_
              refine v_iload C 1 d_M_tick_250 rfl ?_
              refine v_ialdN C (hR_10.oi (f := 10) (by decide)) (by show _ < 201; omega) (by decide) d_M_tick_252 ?_
              refine v_toi (y := (nI cn)) (by rw [eS_10]; exact e10) ?_
              refine v_ialdN C (hR_10.oi (f := 31) (by decide)) (by show _ < 41; omega) (by decide) d_M_tick_253 ?_
              refine v_toi (y := (zi (zr3 S j) 31 cn)) (by rw [eS_10]; rfl) ?_
              refine v_toi (y := (if zi (zr3 S j) 31 cn = 0 then nI (j + 1) else zi (zr3 S j) 31 cn)) (by rw [if_neg c_234]) ?_
              refine v_iastN C (hR_10.oi (f := 31) (by decide)) (by show _ < 41; omega) (by decide) d_M_tick_254 ?_
              refine v_view (fun v5 ev5 => ?_)
              obtain ⟨S_11, eS_11⟩ : ∃ z, z = zui S_10 31 cn (if zi (zr3 S j) 31 cn = 0 then nI (j + 1) else zi (zr3 S j) 31 cn) := ⟨_, rfl⟩
              have hR_11 : RM G v5 o ad S_11 := by rw [eS_11]; exact (by rw [ev5]; exact hR_10.puti 31 (by decide) cn (if zi (zr3 S j) 31 cn = 0 then nI (j + 1) else zi (zr3 S j) 31 cn))
              have hk_11 : vkeep (mX o ad) v0 v5 := by rw [ev5]; exact hk_10.up (mX_f (by decide))
              refine v_aload_n C 3 d_M_tick_255 rfl rfl ?_
              refine v_get C k_M hR_11.1 24 (by decide) tw_507 (fun _ h => h) rfl d_M_tick_256 ?_
              refine v_aload_n C 3 d_M_tick_259 rfl rfl ?_
              refine v_get C k_M hR_11.1 23 (by decide) tw_506 (fun _ h => h) rfl d_M_tick_260 ?_
              refine v_toi (y := nI (zc (zr3 S j) 3)) (by rw [eS_11, eS_10]; rfl) ?_
              refine v_iload C 1 d_M_tick_263 rfl ?_
              refine v_iastN C (hR_11.oi (f := 24) (by decide)) (by show _ < 200; omega) (by decide) d_M_tick_265 ?_
              refine v_view (fun v6 ev6 => ?_)
              obtain ⟨S_12, eS_12⟩ : ∃ z, z = zui S_11 24 (zc (zr3 S j) 3) (nI (j + 1)) := ⟨_, rfl⟩
              have hR_12 : RM G v6 o ad S_12 := by rw [eS_12]; exact (by rw [ev6]; exact hR_11.puti 24 (by decide) (zc (zr3 S j) 3) (nI (j + 1)))
              have hk_12 : vkeep (mX o ad) v0 v6 := by rw [ev6]; exact hk_11.up (mX_f (by decide))
              refine v_aload_n C 3 d_M_tick_266 rfl rfl ?_
              refine v_get C k_M hR_12.1 25 (by decide) tw_508 (fun _ h => h) rfl d_M_tick_267 ?_
              refine v_aload_n C 3 d_M_tick_270 rfl rfl ?_
              refine v_get C k_M hR_12.1 23 (by decide) tw_506 (fun _ h => h) rfl d_M_tick_271 ?_
              refine v_toi (y := nI (zc (zr3 S j) 3)) (by rw [eS_12, eS_11, eS_10]; rfl) ?_
              refine v_iload C 0 d_M_tick_274 rfl ?_
              refine v_iastN C (hR_12.oi (f := 25) (by decide)) (by show _ < 200; omega) (by decide) d_M_tick_276 ?_
              refine v_view (fun v7 ev7 => ?_)
              obtain ⟨S_13, eS_13⟩ : ∃ z, z = zui S_12 25 (zc (zr3 S j) 3) (nI q) := ⟨_, rfl⟩
              have hR_13 : RM G v7 o ad S_13 := by rw [eS_13]; exact (by rw [ev7]; exact hR_12.puti 25 (by decide) (zc (zr3 S j) 3) (nI q))
              have hk_13 : vkeep (mX o ad) v0 v7 := by rw [ev7]; exact hk_12.up (mX_f (by decide))
              refine v_aload_n C 3 d_M_tick_277 rfl rfl ?_
              refine v_get C k_M hR_13.1 26 (by decide) tw_509 (fun _ h => h) rfl d_M_tick_278 ?_
              refine v_aload_n C 3 d_M_tick_281 rfl rfl ?_
              refine v_get C k_M hR_13.1 23 (by decide) tw_506 (fun _ h => h) rfl d_M_tick_282 ?_
              refine v_toi (y := nI (zc (zr3 S j) 3)) (by rw [eS_13, eS_12, eS_11, eS_10]; rfl) ?_
              refine v_aload_n C 3 d_M_tick_285 rfl rfl ?_
              refine v_get C k_M hR_13.1 31 (by decide) tw_514 (fun _ h => h) rfl d_M_tick_286 ?_
              refine v_aload_n C 3 d_M_tick_289 rfl rfl ?_
              refine v_get C k_M hR_13.1 10 (by decide) tw_493 (fun _ h => h) rfl d_M_tick_290 ?_
              refine v_iload C 1 d_M_tick_293 rfl ?_
              refine v_ialdN C (hR_13.oi (f := 10) (by decide)) (by show _ < 201; omega) (by decide) d_M_tick_295 ?_
              refine v_toi (y := (nI cn)) (by rw [eS_13]; rw [eS_12]; rw [eS_11]; rw [eS_10]; exact e10) ?_
              refine v_ialdN C (hR_13.oi (f := 31) (by decide)) (by show _ < 41; omega) (by decide) d_M_tick_296 ?_
              refine v_toi (y := (if zi (zr3 S j) 31 cn = 0 then nI (j + 1) else zi (zr3 S j) 31 cn)) (by rw [eS_13]; rw [eS_12]; rw [eS_11]; rw [eS_10]; simp [zi_ui]) ?_
              refine v_iastN C (hR_13.oi (f := 26) (by decide)) (by show _ < 200; omega) (by decide) d_M_tick_297 ?_
              refine v_view (fun v8 ev8 => ?_)
              obtain ⟨S_14, eS_14⟩ : ∃ z, z = zui S_13 26 (zc (zr3 S j) 3) (if zi (zr3 S j) 31 cn = 0 then nI (j + 1) else zi (zr3 S j) 31 cn) := ⟨_, rfl⟩
              have hR_14 : RM G v8 o ad S_14 := by rw [eS_14]; exact (by rw [ev8]; exact hR_13.puti 26 (by decide) (zc (zr3 S j) 3) (if zi (zr3 S j) 31 cn = 0 then nI (j + 1) else zi (zr3 S j) 31 cn))
              have hk_14 : vkeep (mX o ad) v0 v8 := by rw [ev8]; exact hk_13.up (mX_f (by decide))
              refine v_aload_n C 3 d_M_tick_298 rfl rfl ?_
              refine v_get C k_M hR_14.1 27 (by decide) tw_510 (fun _ h => h) rfl d_M_tick_299 ?_
              refine v_aload_n C 3 d_M_tick_302 rfl rfl ?_
              refine v_get C k_M hR_14.1 23 (by decide) tw_506 (fun _ h => h) rfl d_M_tick_303 ?_
              refine v_toi (y := nI (zc (zr3 S j) 3)) (by rw [eS_14, eS_13, eS_12, eS_11, eS_10]; rfl) ?_
              refine v_aload_n C 3 d_M_tick_306 rfl rfl ?_
              refine v_get C k_M hR_14.1 0 (by decide) tw_483 (fun _ h => h) rfl d_M_tick_307 ?_
              refine v_tol (y := zl (zr3 S j) 0 0) (by rw [eS_14]; rw [eS_13]; rw [eS_12]; rw [eS_11]; rw [eS_10]; rfl) ?_
              refine v_lastN C (hR_14.ol (f := 27) (by decide)) (by show _ < 200; omega) (by decide) d_M_tick_310 ?_
              refine v_view (fun v9 ev9 => ?_)
              obtain ⟨S_15, eS_15⟩ : ∃ z, z = zul S_14 27 (zc (zr3 S j) 3) (zl (zr3 S j) 0 0) := ⟨_, rfl⟩
              have hR_15 : RM G v9 o ad S_15 := by rw [eS_15]; exact (by rw [ev9]; exact hR_14.putl 27 (by decide) (zc (zr3 S j) 3) (zl (zr3 S j) 0 0))
              have hk_15 : vkeep (mX o ad) v0 v9 := by rw [ev9]; exact hk_14.up (mX_f (by decide))
              refine v_aload_n C 3 d_M_tick_311 rfl rfl ?_
              refine v_dup C d_M_tick_312 rfl ?_
              refine v_get C k_M hR_15.1 23 (by decide) tw_506 (fun _ h => h) rfl d_M_tick_313 ?_
              refine v_toi (y := nI (zc (zr3 S j) 3)) (by rw [eS_15, eS_14, eS_13, eS_12, eS_11, eS_10]; rfl) ?_
              refine v_iconst (x := 1) C d_M_tick_316 (by decide) ?_
              refine v_iadd C d_M_tick_317 ?_
              refine v_toi (y := nI ((zc (zr3 S j) 3) + 1)) (nI_add (zc (zr3 S j) 3) 1) ?_
              refine v_put C k_M hR_15.1 23 (by decide) tw_506 (fun _ h => h) rfl rfl rfl (Nat.le_of_ble_eq_true rfl) d_M_tick_318 ?_
              refine v_view (fun v10 ev10 => ?_)
              obtain ⟨S_16, eS_16⟩ : ∃ z, z = zuc S_15 3 ((zc (zr3 S j) 3) + 1) := ⟨_, rfl⟩
              have hR_16 : RM G v10 o ad S_16 := by rw [eS_16]; exact (by rw [ev10]; exact hR_15.puts rfl (fun f hf => rfl) (fun f hf => rfl))
              have hk_16 : vkeep (mX o ad) v0 v10 := by rw [ev10]; exact hk_15.up mX_o
              refine v_iinc (y := (nI ((zc (zr3 S j) 3 - zc S 3) + 1))) (lv' := [(3, .int (nI ((zc (zr3 S j) 3 - zc S 3) + 1))), (5, .int (nI q)), (4, .int (nI (j + 1))), (0, .ref o), (1, .long t)]) C 2 d_M_tick_321 rfl (nI_1 _) (by decide) rfl ?_
              refine v_iinc (y := (nI ((j + 1) + 1))) (lv' := [(4, .int (nI ((j + 1) + 1))), (3, .int (nI ((zc (zr3 S j) 3 - zc S 3) + 1))), (5, .int (nI q)), (0, .ref o), (1, .long t)]) C 2 d_M_tick_324 rfl (nI_1 _) (by decide) rfl ?_
              refine v_goto C 127 d_M_tick_327 (by decide) ?_
              have hst : zr3 S (j + 1) = zsnd (zr3 S j) (j + 1) q := by show zstep _ _ = _; unfold zstep; rw [if_pos ⟨c_143, hb_149⟩, hch]
              refine v_lv (lv' := [(4, .int (nI ((j + 1) + 1))), (3, .int (nI (zc (zr3 S (j + 1)) 3 - zc S 3))), (5, .int (nI q)), (0, .ref o), (1, .long t)]) (by have e9 : zc (zr3 S j) 3 - zc S 3 + 1 = zc (zr3 S (j + 1)) 3 - zc S 3 := by { rw [hst]; show _ = zc (zr3 S j) 3 + 1 - zc S 3; omega }; rw [← e9]) ?_
              refine v_sub [0, 1, 3, 4] rfl ?_
              exact ih (j + 1) v10 (by omega) (by omega) (by rw [hst, zsnd, e13]; subst eS_10 eS_11 eS_12 eS_13 eS_14 eS_15 eS_16; exact hR_16) hk_16
            · refine v_iload C 1 d_M_tick_237 rfl ?_
              refine v_goto C 254 d_M_tick_239 (by decide) ?_
              refine v_toi (y := (if zi (zr3 S j) 31 cn = 0 then nI (j + 1) else zi (zr3 S j) 31 cn)) (by rw [if_pos c_234]) ?_
              refine v_iastN C (hR_10.oi (f := 31) (by decide)) (by show _ < 41; omega) (by decide) d_M_tick_254 ?_
              refine v_view (fun v11 ev11 => ?_)
              obtain ⟨S_17, eS_17⟩ : ∃ z, z = zui S_10 31 cn (if zi (zr3 S j) 31 cn = 0 then nI (j + 1) else zi (zr3 S j) 31 cn) := ⟨_, rfl⟩
              have hR_17 : RM G v11 o ad S_17 := by rw [eS_17]; exact (by rw [ev11]; exact hR_10.puti 31 (by decide) cn (if zi (zr3 S j) 31 cn = 0 then nI (j + 1) else zi (zr3 S j) 31 cn))
              have hk_17 : vkeep (mX o ad) v0 v11 := by rw [ev11]; exact hk_10.up (mX_f (by decide))
              refine v_aload_n C 3 d_M_tick_255 rfl rfl ?_
              refine v_get C k_M hR_17.1 24 (by decide) tw_507 (fun _ h => h) rfl d_M_tick_256 ?_
              refine v_aload_n C 3 d_M_tick_259 rfl rfl ?_
              refine v_get C k_M hR_17.1 23 (by decide) tw_506 (fun _ h => h) rfl d_M_tick_260 ?_
              refine v_toi (y := nI (zc (zr3 S j) 3)) (by rw [eS_17, eS_10]; rfl) ?_
              refine v_iload C 1 d_M_tick_263 rfl ?_
              refine v_iastN C (hR_17.oi (f := 24) (by decide)) (by show _ < 200; omega) (by decide) d_M_tick_265 ?_
              refine v_view (fun v12 ev12 => ?_)
              obtain ⟨S_18, eS_18⟩ : ∃ z, z = zui S_17 24 (zc (zr3 S j) 3) (nI (j + 1)) := ⟨_, rfl⟩
              have hR_18 : RM G v12 o ad S_18 := by rw [eS_18]; exact (by rw [ev12]; exact hR_17.puti 24 (by decide) (zc (zr3 S j) 3) (nI (j + 1)))
              have hk_18 : vkeep (mX o ad) v0 v12 := by rw [ev12]; exact hk_17.up (mX_f (by decide))
              refine v_aload_n C 3 d_M_tick_266 rfl rfl ?_
              refine v_get C k_M hR_18.1 25 (by decide) tw_508 (fun _ h => h) rfl d_M_tick_267 ?_
              refine v_aload_n C 3 d_M_tick_270 rfl rfl ?_
              refine v_get C k_M hR_18.1 23 (by decide) tw_506 (fun _ h => h) rfl d_M_tick_271 ?_
              refine v_toi (y := nI (zc (zr3 S j) 3)) (by rw [eS_18, eS_17, eS_10]; rfl) ?_
              refine v_iload C 0 d_M_tick_274 rfl ?_
              refine v_iastN C (hR_18.oi (f := 25) (by decide)) (by show _ < 200; omega) (by decide) d_M_tick_276 ?_
              refine v_view (fun v13 ev13 => ?_)
              obtain ⟨S_19, eS_19⟩ : ∃ z, z = zui S_18 25 (zc (zr3 S j) 3) (nI q) := ⟨_, rfl⟩
              have hR_19 : RM G v13 o ad S_19 := by rw [eS_19]; exact (by rw [ev13]; exact hR_18.puti 25 (by decide) (zc (zr3 S j) 3) (nI q))
              have hk_19 : vkeep (mX o ad) v0 v13 := by rw [ev13]; exact hk_18.up (mX_f (by decide))
              refine v_aload_n C 3 d_M_tick_277 rfl rfl ?_
              refine v_get C k_M hR_19.1 26 (by decide) tw_509 (fun _ h => h) rfl d_M_tick_278 ?_
              refine v_aload_n C 3 d_M_tick_281 rfl rfl ?_
              refine v_get C k_M hR_19.1 23 (by decide) tw_506 (fun _ h => h) rfl d_M_tick_282 ?_
              refine v_toi (y := nI (zc (zr3 S j) 3)) (by rw [eS_19, eS_18, eS_17, eS_10]; rfl) ?_
              refine v_aload_n C 3 d_M_tick_285 rfl rfl ?_
              refine v_get C k_M hR_19.1 31 (by decide) tw_514 (fun _ h => h) rfl d_M_tick_286 ?_
              refine v_aload_n C 3 d_M_tick_289 rfl rfl ?_
              refine v_get C k_M hR_19.1 10 (by decide) tw_493 (fun _ h => h) rfl d_M_tick_290 ?_
              refine v_iload C 1 d_M_tick_293 rfl ?_
              refine v_ialdN C (hR_19.oi (f := 10) (by decide)) (by show _ < 201; omega) (by decide) d_M_tick_295 ?_
              refine v_toi (y := (nI cn)) (by rw [eS_19]; rw [eS_18]; rw [eS_17]; rw [eS_10]; exact e10) ?_
              refine v_ialdN C (hR_19.oi (f := 31) (by decide)) (by show _ < 41; omega) (by decide) d_M_tick_296 ?_
              refine v_toi (y := (if zi (zr3 S j) 31 cn = 0 then nI (j + 1) else zi (zr3 S j) 31 cn)) (by rw [eS_19]; rw [eS_18]; rw [eS_17]; rw [eS_10]; simp [zi_ui]) ?_
              refine v_iastN C (hR_19.oi (f := 26) (by decide)) (by show _ < 200; omega) (by decide) d_M_tick_297 ?_
              refine v_view (fun v14 ev14 => ?_)
              obtain ⟨S_20, eS_20⟩ : ∃ z, z = zui S_19 26 (zc (zr3 S j) 3) (if zi (zr3 S j) 31 cn = 0 then nI (j + 1) else zi (zr3 S j) 31 cn) := ⟨_, rfl⟩
              have hR_20 : RM G v14 o ad S_20 := by rw [eS_20]; exact (by rw [ev14]; exact hR_19.puti 26 (by decide) (zc (zr3 S j) 3) (if zi (zr3 S j) 31 cn = 0 then nI (j + 1) else zi (zr3 S j) 31 cn))
              have hk_20 : vkeep (mX o ad) v0 v14 := by rw [ev14]; exact hk_19.up (mX_f (by decide))
              refine v_aload_n C 3 d_M_tick_298 rfl rfl ?_
              refine v_get C k_M hR_20.1 27 (by decide) tw_510 (fun _ h => h) rfl d_M_tick_299 ?_
              refine v_aload_n C 3 d_M_tick_302 rfl rfl ?_
              refine v_get C k_M hR_20.1 23 (by decide) tw_506 (fun _ h => h) rfl d_M_tick_303 ?_
              refine v_toi (y := nI (zc (zr3 S j) 3)) (by rw [eS_20, eS_19, eS_18, eS_17, eS_10]; rfl) ?_
              refine v_aload_n C 3 d_M_tick_306 rfl rfl ?_
              refine v_get C k_M hR_20.1 0 (by decide) tw_483 (fun _ h => h) rfl d_M_tick_307 ?_
              refine v_tol (y := zl (zr3 S j) 0 0) (by rw [eS_20]; rw [eS_19]; rw [eS_18]; rw [eS_17]; rw [eS_10]; rfl) ?_
              refine v_lastN C (hR_20.ol (f := 27) (by decide)) (by show _ < 200; omega) (by decide) d_M_tick_310 ?_
              refine v_view (fun v15 ev15 => ?_)
              obtain ⟨S_21, eS_21⟩ : ∃ z, z = zul S_20 27 (zc (zr3 S j) 3) (zl (zr3 S j) 0 0) := ⟨_, rfl⟩
              have hR_21 : RM G v15 o ad S_21 := by rw [eS_21]; exact (by rw [ev15]; exact hR_20.putl 27 (by decide) (zc (zr3 S j) 3) (zl (zr3 S j) 0 0))
              have hk_21 : vkeep (mX o ad) v0 v15 := by rw [ev15]; exact hk_20.up (mX_f (by decide))
              refine v_aload_n C 3 d_M_tick_311 rfl rfl ?_
              refine v_dup C d_M_tick_312 rfl ?_
              refine v_get C k_M hR_21.1 23 (by decide) tw_506 (fun _ h => h) rfl d_M_tick_313 ?_
              refine v_toi (y := nI (zc (zr3 S j) 3)) (by rw [eS_21, eS_20, eS_19, eS_18, eS_17, eS_10]; rfl) ?_
              refine v_iconst (x := 1) C d_M_tick_316 (by decide) ?_
              refine v_iadd C d_M_tick_317 ?_
              refine v_toi (y := nI ((zc (zr3 S j) 3) + 1)) (nI_add (zc (zr3 S j) 3) 1) ?_
              refine v_put C k_M hR_21.1 23 (by decide) tw_506 (fun _ h => h) rfl rfl rfl (Nat.le_of_ble_eq_true rfl) d_M_tick_318 ?_
              refine v_view (fun v16 ev16 => ?_)
              obtain ⟨S_22, eS_22⟩ : ∃ z, z = zuc S_21 3 ((zc (zr3 S j) 3) + 1) := ⟨_, rfl⟩
              have hR_22 : RM G v16 o ad S_22 := by rw [eS_22]; exact (by rw [ev16]; exact hR_21.puts rfl (fun f hf => rfl) (fun f hf => rfl))
              have hk_22 : vkeep (mX o ad) v0 v16 := by rw [ev16]; exact hk_21.up mX_o
              refine v_iinc (y := (nI ((zc (zr3 S j) 3 - zc S 3) + 1))) (lv' := [(3, .int (nI ((zc (zr3 S j) 3 - zc S 3) + 1))), (5, .int (nI q)), (4, .int (nI (j + 1))), (0, .ref o), (1, .long t)]) C 2 d_M_tick_321 rfl (nI_1 _) (by decide) rfl ?_
              refine v_iinc (y := (nI ((j + 1) + 1))) (lv' := [(4, .int (nI ((j + 1) + 1))), (3, .int (nI ((zc (zr3 S j) 3 - zc S 3) + 1))), (5, .int (nI q)), (0, .ref o), (1, .long t)]) C 2 d_M_tick_324 rfl (nI_1 _) (by decide) rfl ?_
              refine v_goto C 127 d_M_tick_327 (by decide) ?_
              have hst : zr3 S (j + 1) = zsnd (zr3 S j) (j + 1) q := by show zstep _ _ = _; unfold zstep; rw [if_pos ⟨c_143, hb_149⟩, hch]
              refine v_lv (lv' := [(4, .int (nI ((j + 1) + 1))), (3, .int (nI (zc (zr3 S (j + 1)) 3 - zc S 3))), (5, .int (nI q)), (0, .ref o), (1, .long t)]) (by have e9 : zc (zr3 S j) 3 - zc S 3 + 1 = zc (zr3 S (j + 1)) 3 - zc S 3 := by { rw [hst]; show _ = zc (zr3 S j) 3 + 1 - zc S 3; omega }; rw [← e9]) ?_
              refine v_sub [0, 1, 3, 4] rfl ?_
              exact ih (j + 1) v16 (by omega) (by omega) (by rw [hst, zsnd, e13]; subst eS_10 eS_17 eS_18 eS_19 eS_20 eS_21 eS_22; exact hR_22) hk_22
        · obtain rfl := hv9.symm
          show vV _ _ _ _ _ _ _ _ _ _ _ _ _ v kc ks 152 [(4, .int (nI (j + 1))), (3, .int (nI (zc (zr3 S j) 3 - zc S 3))), (0, .ref o), (1, .long t)] [.int 0]
          refine v_if_ne C 158 d_M_tick_152 (by decide) (fun z => absurd (by decide) z) (fun _ => ?_)
          refine v_goto C 324 d_M_tick_155 (by decide) ?_
          refine v_iinc (y := (nI ((j + 1) + 1))) (lv' := [(4, .int (nI ((j + 1) + 1))), (3, .int (nI (zc (zr3 S j) 3 - zc S 3))), (0, .ref o), (1, .long t)]) C 0 d_M_tick_324 rfl (nI_1 _) (by decide) rfl ?_
          refine v_goto C 127 d_M_tick_327 (by decide) ?_
          have hst : zr3 S (j + 1) = zr3 S j := by show zstep _ _ = _; unfold zstep; rw [if_neg (fun z => hb_149 z.2)]
          refine v_lv (lv' := [(4, .int (nI ((j + 1) + 1))), (3, .int (nI (zc (zr3 S (j + 1)) 3 - zc S 3))), (0, .ref o), (1, .long t)]) (by rw [hst]) ?_
          refine v_sub [0, 1, 2, 3] rfl ?_
          exact ih (j + 1) v (by omega) (by omega) (by rw [hst]; exact hR) hk
set_option maxHeartbeats 4000000 in
set_option maxRecDepth 100000 in
theorem c_M_tick (l : Launch) (G : vv_G) (v : vv_V) (o : Nat) (ad : Nat → Nat) (S : zS) (t : Int64) (hR : RM G v o ad S) (hB : zc S 0 ≤ 40 ∧ zc S 1 ≤ 200) (hB2 : zB2 S) (hB3 : zB3 S) : Mv l y_M_tick b_M_tick 6 (some FieldType.int) 2 47 G v [.ref o, .long t] (fun r v' => r = some (.int (oTick S t).1) ∧ RM G v' o ad (oTick S t).2 ∧ vkeep (mX o ad) v v') 0 0 := by
  refine vv_metF (own := "CustomerNoticesModel") (nm := "tick") pf_M_tick rfl rfl (Nat.le_of_ble_eq_true rfl) ?_
  intro p e s m below meth c C hin
  have hk : vkeep (mX o ad) v v := vkeep.rf
  show vV _ _ _ _ _ _ _ _ _ _ _ _ _ v 0 0 0 [(0, .ref o), (1, .long t)] []
  refine v_aload_n C 0 d_M_tick_0 rfl rfl ?_
  refine v_lload_n C 1 d_M_tick_1 rfl rfl ?_
  refine v_callV (rest := []) C (c_M_isTime l G v o ad S t hR) tw_618 tw_34 tw_615 tw_617 tw_21 mn_M_isTime hR.1 k_M.1 ⟨Nat.le_of_ble_eq_true rfl, Nat.le_of_ble_eq_true rfl⟩ rfl rfl (Nat.le_of_ble_eq_true rfl) d_M_tick_2 ⟨(by first | exact Nat.le_of_ble_eq_true rfl | (show _ ≤ _; omega)), (by first | exact Nat.le_of_ble_eq_true rfl | (show _ ≤ _; omega))⟩ (fun r_1 v_2 hp_3 => ?_)
  rcases hp_3 with ⟨rfl, hv9, hb_2⟩ | ⟨rfl, hv9, hb_2⟩
  · obtain rfl := hv9.symm
    show vV _ _ _ _ _ _ _ _ _ _ _ _ _ v 0 0 5 [(0, .ref o), (1, .long t)] [.int 1]
    refine v_if_ne C 11 d_M_tick_5 (by decide) (fun _ => ?_) (fun z => absurd z (by decide))
    refine v_aload_n C 0 d_M_tick_11 rfl rfl ?_
    refine v_lload_n C 1 d_M_tick_12 rfl rfl ?_
    refine v_put C k_M hR.1 0 (by decide) tw_483 (fun _ h => h) rfl rfl rfl (Nat.le_of_ble_eq_true rfl) d_M_tick_13 ?_
    refine v_view (fun v1 ev1 => ?_)
    obtain ⟨S_4, eS_4⟩ : ∃ z, z = zul S 0 0 t := ⟨_, rfl⟩
    have hR_4 : RM G v1 o ad S_4 := by rw [eS_4]; exact (by rw [ev1]; exact hR.puts rfl (fun f hf => rfl) (fun f hf => zl_updn (fun z => by subst z; revert hf; decide)))
    have hk_4 : vkeep (mX o ad) v v1 := by rw [ev1]; exact hk.up mX_o
    refine v_iconst (x := 1) C d_M_tick_16 (by decide) ?_
    refine v_istore_n (lv' := [(3, .int 1), (0, .ref o), (1, .long t)]) C d_M_tick_17 rfl (by decide) rfl ?_
    subst eS_4
    refine v_sub [0, 1, 2] rfl ?_
    refine lp_M_tick1 (S := (zul S 0 0 t)) (v0 := v) C hB.1 (fun va hRa hka => ?_) (zc S 0 + 1) 0 _ (Nat.zero_le _) (by show zc S 0 + 1 ≤ _; omega) hR_4 hk_4
    show vV _ _ _ _ _ _ _ _ _ _ _ _ _ va 0 0 48 [(3, .int (nI (zc S 0 + 1))), (0, .ref o), (1, .long t)] []
    refine v_iconst (x := 1) C d_M_tick_48 (by decide) ?_
    refine v_istore_n (lv' := [(3, .int 1), (0, .ref o), (1, .long t)]) C d_M_tick_49 rfl (by decide) rfl ?_
    refine v_sub [0, 1, 2] rfl ?_
    have q1 : zc (zr1 (zul S 0 0 t) (zc S 0)) 1 = zc S 1 := zr1_c _ _ _
    have q0 : zc (zr1 (zul S 0 0 t) (zc S 0)) 0 = zc S 0 := zr1_c _ _ _
    have hB2a : zB2 (zr1 (zul S 0 0 t) (zc S 0)) := by intro n h1 h2; rw [q1] at h2; rw [q0, zr1_i _ _ _ _ (by decide), zr1_i _ _ _ _ (by decide)]; exact hB2 n h1 h2
    refine lp_M_tick2 (S := zr1 (zul S 0 0 t) (zc S 0)) (v0 := v) C ⟨by rw [q0]; exact hB.1, by rw [q1]; exact hB.2⟩ hB2a (fun vb hRb hkb => ?_) (zc S 1 + 1) 0 _ (Nat.zero_le _) (by rw [q1]; omega) hRa hka
    rw [q1] at hRb
    rw [q1]
    show vV _ _ _ _ _ _ _ _ _ _ _ _ _ vb 0 0 122 [(3, .int (nI (zc S 1 + 1))), (0, .ref o), (1, .long t)] []
    refine v_iconst (x := 0) C d_M_tick_122 (by decide) ?_
    refine v_istore_n (lv' := [(3, .int 0), (0, .ref o), (1, .long t)]) C d_M_tick_123 rfl (by decide) rfl ?_
    refine v_iconst (x := 1) C d_M_tick_124 (by decide) ?_
    refine v_istore (lv' := [(4, .int 1), (3, .int 0), (0, .ref o), (1, .long t)]) C d_M_tick_125 (by decide) rfl ?_
    have p1 : zc (ztick S t) 1 = zc S 1 := (zr2_c _ _ _).trans (zr1_c _ _ _)
    have p0 : zc (ztick S t) 0 = zc S 0 := (zr2_c _ _ _).trans (zr1_c _ _ _)
    have p3 : zc (ztick S t) 3 = zc S 3 := (zr2_c _ _ _).trans (zr1_c _ _ _)
    have p4 : zc (ztick S t) 4 = zc S 4 := (zr2_c _ _ _).trans (zr1_c _ _ _)
    have pi : ∀ f i, f ≠ 31 → zi (ztick S t) f i = zi S f i := fun f i h => (zr2_i _ _ _ _).trans (zr1_i _ _ _ _ h)
    have hB2b : zB2 (ztick S t) := by intro n h1 h2; rw [p1] at h2; rw [p0, pi _ _ (by decide), pi _ _ (by decide)]; exact hB2 n h1 h2
    have hB3b : zB3 (ztick S t) := by unfold zB3; rw [p1, p3, p4, zwc_eq (S := S) (fun i _ _ => pi 15 i (by decide))]; exact hB3
    refine v_lv (lv' := [(4, .int (nI (0 + 1))), (3, .int (nI (zc (zr3 (ztick S t) 0) 3 - zc (ztick S t) 3))), (0, .ref o), (1, .long t)]) (by show _ = [(4, Value.int (nI (0 + 1))), (3, .int (nI (zc (ztick S t) 3 - zc (ztick S t) 3))), (0, .ref o), (1, .long t)]; rw [Nat.sub_self]; rfl) ?_
    refine lp_M_tick3 (S := ztick S t) (v0 := v) C ⟨by rw [p0]; exact hB.1, by rw [p1]; exact hB.2⟩ hB2b hB3b ⟨Nat.le_of_ble_eq_true rfl, Nat.le_of_ble_eq_true rfl⟩ ⟨Nat.le_refl _, Nat.le_refl _⟩ (fun vc hRc hkc => ?_) (zc S 1 + 1) 0 _ (Nat.zero_le _) (by rw [p1]; omega) hRb hkb
    rw [p1] at hRc
    rw [p1, p3]
    show vV _ _ _ _ _ _ _ _ _ _ _ _ _ vc 0 0 330 [(4, .int (nI (zc S 1 + 1))), (3, .int (nI (zc (zr3 (ztick S t) (zc S 1)) 3 - zc S 3))), (0, .ref o), (1, .long t)] []
    refine v_iload_n C 1 d_M_tick_330 rfl rfl ?_
    exact v_iret C d_M_tick_331 (by first | exact Nat.le_of_ble_eq_true rfl | (show _ ≤ _; omega)) (by first | exact Nat.le_of_ble_eq_true rfl | (show _ ≤ _; omega)) ⟨(by  rw [oTick, if_pos hb_2] <;> (try rfl)), (by  rw [oTick, if_pos hb_2]; exact hRc), hkc⟩
  · obtain rfl := hv9.symm
    show vV _ _ _ _ _ _ _ _ _ _ _ _ _ v 0 0 5 [(0, .ref o), (1, .long t)] [.int 0]
    refine v_if_ne C 11 d_M_tick_5 (by decide) (fun z => absurd (by decide) z) (fun _ => ?_)
    refine v_bipush (x := -12) C d_M_tick_8 (by decide) ?_
    exact v_iret C d_M_tick_10 (by first | exact Nat.le_of_ble_eq_true rfl | (show _ ≤ _; omega)) (by first | exact Nat.le_of_ble_eq_true rfl | (show _ ≤ _; omega)) ⟨(by  rw [oTick, if_neg hb_2] <;> (try rfl)), (by  rw [oTick, if_neg hb_2]; exact hR), hk⟩
end
section
def zdet (S : zS) (i : Nat) (wh : Int32) : Int32 :=
  if wh = 0 then zi S 24 i else if wh = 1 then zi S 10 (zn (zi S 24 i)) else if wh = 2 then zi S 11 (zn (zi S 24 i)) else if wh = 3 then zi S 12 (zn (zi S 24 i)) else if wh = 4 then zi S 25 i
  else if wh = 5 then 32 * zi S 4 (zn (zi S 10 (zn (zi S 24 i)))) + 2 * zi S 12 (zn (zi S 24 i)) + (if zi S 16 (zn (zi S 24 i)) = 0 then 0 else 1) else if wh = 6 then zi S 26 i else if wh = 7 then (zl S 27 i).toInt32 else (zl S 14 (zn (zi S 24 i))).toInt32
def oSent (S : zS) (i wh : Int32) : Int32 × zS := (if zIn wh 0 8 then (if zIn i 0 ((zc S 3 : Int) - 1) then zdet S (zn i) wh else -1) else -12, S)
/-- what was sent are notices -/
def zB4 (S : zS) : Prop := ∀ i, i < zc S 3 → ∃ n : Nat, zi S 24 i = nI n ∧ 1 ≤ n ∧ n ≤ zc S 1
def zo1 (S : zS) (b : Nat) : Nat → zS
  | 0 => S
  | j + 1 => zui (zo1 S b j) 8 (b + j) 0
def zo2 (S : zS) (x k : Int32) : Nat → zS
  | 0 => S
  | j + 1 => if zi (zo2 S x k j) 15 (j + 1) = 0 ∧ zi (zo2 S x k j) 10 (j + 1) = x ∧ zi (zo2 S x k j) 12 (j + 1) = k then zui (zo2 S x k j) 15 (j + 1) 3 else zo2 S x k j
def zom (S : zS) (x k : Int32) : Nat → Nat
  | 0 => 0
  | j + 1 => zom S x k j + (if zi (zo2 S x k j) 15 (j + 1) = 0 ∧ zi (zo2 S x k j) 10 (j + 1) = x ∧ zi (zo2 S x k j) 12 (j + 1) = k then 1 else 0)
theorem zo1_c (S : zS) (b j i : Nat) : zc (zo1 S b j) i = zc S i := by
  induction j with
  | zero => rfl
  | succ j ih => exact ih
theorem zo1_i (S : zS) (b j f i : Nat) (h : f ≠ 8) : zi (zo1 S b j) f i = zi S f i := by
  induction j with
  | zero => rfl
  | succ j ih => unfold zo1; rw [zi_ui, if_neg h, ih]
theorem zo2_c (S : zS) (x k : Int32) (j i : Nat) : zc (zo2 S x k j) i = zc S i := by
  induction j with
  | zero => rfl
  | succ j ih => unfold zo2; split <;> exact ih
def oOut (S : zS) (x k : Int32) : Int32 × zS := if zIn x 1 (zc S 0) then (if zIn k 0 7 then (nI (zom (zo1 S (32 * zn x + 4 * zn k) 4) x k (zc S 1)), zo2 (zo1 S (32 * zn x + 4 * zn k) 4) x k (zc S 1)) else (-12, S)) else (-11, S)
def zundo (S : zS) (n : Nat) : zS := if zE (zi S 12 n) then (match zpf S (zi S 10 n) (zi S 11 n) (zc S 2) with
  | some j => zui S 21 j 0
  | none => S) else S
theorem zundo_s {S : zS} {n j : Nat} (h : zE (zi S 12 n)) (hp : zpf S (zi S 10 n) (zi S 11 n) (zc S 2) = some j) : zundo S n = zui S 21 j 0 := by
  unfold zundo; rw [if_pos h, hp]
theorem zundo_n {S : zS} {n : Nat} (h : ¬ zE (zi S 12 n)) : zundo S n = S := by
  unfold zundo; rw [if_neg h]
theorem zundo_c (S : zS) (n i : Nat) : zc (zundo S n) i = zc S i := by
  unfold zundo
  split
  · split <;> rfl
  · rfl
theorem zundo_i (S : zS) (n f i : Nat) (h : f ≠ 21) : zi (zundo S n) f i = zi S f i := by
  unfold zundo
  split
  · split
    · rw [zi_ui, if_neg h]
    · rfl
  · rfl
/-- an end that was told has its pair -/
def zB5 (S : zS) : Prop := ∀ n, 1 ≤ n → n ≤ zc S 1 → zE (zi S 12 n) → ∃ j, zpf S (zi S 10 n) (zi S 11 n) (zc S 2) = some j
def oCorr (S : zS) (x : Int32) (t : Int64) : Int32 × zS :=
  if zIn x 1 (zc S 1) then (if zTm S t then (if zi S 15 (zn x) = 2 ∨ zi S 15 (zn x) = 3 ∨ ¬ zi S 17 (zn x) = 0 ∨ ¬ zi S 16 (zn x) = 0 then (-13, S) else (if zi S 15 (zn x) = 0 then (0, zundo (zui S 15 (zn x) 3) (zn x)) else
    (if 0 < zwn S (32 * zn (zi S 10 (zn x)) + 4 * zn (zi S 12 (zn x))) 4 ∧ zc S 1 = 200 then (-14, S) else (if 0 < zwn S (32 * zn (zi S 10 (zn x)) + 4 * zn (zi S 12 (zn x))) 4 then (nI (zc S 1 + 1), zput (zundo (zui S 17 (zn x) 1) (zn x)) (zi S 10 (zn x)) (zi S 11 (zn x)) (zi S 12 (zn x)) t (-1) 1) else (0, zundo (zui S 17 (zn x) 1) (zn x)))))) else (-12, S)) else (-11, S)
theorem zpf_ui {S : zS} {f i n : Nat} {x a b : Int32} (h1 : f ≠ 19) (h2 : f ≠ 20) : zpf (zui S f i x) a b n = zpf S a b n := by
  induction n with
  | zero => rfl
  | succ n ih =>
    unfold zpf
    rw [ih, zi_ui, if_neg (Ne.symm h1), zi_ui, if_neg (Ne.symm h2)]
set_option maxHeartbeats 4000000 in
set_option maxRecDepth 100000 in
theorem c_M_sent (l : Launch) (G : vv_G) (v : vv_V) (o : Nat) (ad : Nat → Nat) (S : zS) (i wh : Int32) (hR : RM G v o ad S) (hB : zc S 0 ≤ 40 ∧ zc S 1 ≤ 200 ∧ zc S 3 ≤ 200) (hB2 : zB2 S) (hB4 : zB4 S) : Mv l y_M_sent b_M_sent 4 (some FieldType.int) 1 25 G v [.ref o, .int i, .int wh] (fun r v' => r = some (.int (oSent S i wh).1) ∧ RM G v' o ad (oSent S i wh).2 ∧ vkeep (mX o ad) v v') 0 0 := by
  refine vv_metF (own := "CustomerNoticesModel") (nm := "sent") pf_M_sent rfl rfl (Nat.le_of_ble_eq_true rfl) ?_
  intro p e s m below meth c C hin
  have hk : vkeep (mX o ad) v v := vkeep.rf
  show vV _ _ _ _ _ _ _ _ _ _ _ _ _ v 0 0 0 [(0, .ref o), (1, .int i), (2, .int wh)] []
  refine v_iload_n C 2 d_M_sent_0 rfl rfl ?_
  refine v_i2l (y := (Int32.toInt64 wh)) C d_M_sent_1 rfl ?_
  refine v_lconst (x := 0) C d_M_sent_2 (by decide) ?_
  refine v_ldc2 (x := 8) C d_M_sent_3 tw_660 ?_
  refine v_callS (rest := []) C (c_M_isIn l G v (Int32.toInt64 wh) 0 8) tw_588 tw_34 tw_586 tw_587 mn_M_isIn ⟨Nat.le_of_ble_eq_true rfl, Nat.le_of_ble_eq_true rfl⟩ rfl rfl (Nat.le_of_ble_eq_true rfl) d_M_sent_6 ⟨(by first | exact Nat.le_of_ble_eq_true rfl | (show _ ≤ _; omega)), (by first | exact Nat.le_of_ble_eq_true rfl | (show _ ≤ _; omega))⟩ (fun r_1 v_2 hp_3 => ?_)
  rcases hp_3 with ⟨rfl, hv9, hb_6⟩ | ⟨rfl, hv9, hb_6⟩
  · obtain rfl := hv9.symm
    show vV _ _ _ _ _ _ _ _ _ _ _ _ _ v 0 0 9 [(0, .ref o), (1, .int i), (2, .int wh)] [.int 1]
    refine v_if_ne C 15 d_M_sent_9 (by decide) (fun _ => ?_) (fun z => absurd z (by decide))
    rw [i64_toInt] at hb_6
    have hw0 : zIn wh 0 8 := hb_6
    have e1 : ((nI (zc S 3) - 1 : Int32)).toInt = (zc S 3 : Int) - 1 := pk_sub_toInt (b := 1) (by omega) (by decide)
    refine v_iload_n C 1 d_M_sent_15 rfl rfl ?_
    refine v_i2l (y := (Int32.toInt64 i)) C d_M_sent_16 rfl ?_
    refine v_lconst (x := 0) C d_M_sent_17 (by decide) ?_
    refine v_aload_n C 0 d_M_sent_18 rfl rfl ?_
    refine v_get C k_M hR.1 23 (by decide) tw_506 (fun _ h => h) rfl d_M_sent_19 ?_
    refine v_iconst (x := 1) C d_M_sent_22 (by decide) ?_
    refine v_isub C d_M_sent_23 ?_
    refine v_i2l (y := (Int32.toInt64 ((nI (zc S 3)) - 1))) C d_M_sent_24 rfl ?_
    refine v_callS (rest := []) C (c_M_isIn l G v (Int32.toInt64 i) 0 (Int32.toInt64 ((nI (zc S 3)) - 1))) tw_588 tw_34 tw_586 tw_587 mn_M_isIn ⟨Nat.le_of_ble_eq_true rfl, Nat.le_of_ble_eq_true rfl⟩ rfl rfl (Nat.le_of_ble_eq_true rfl) d_M_sent_25 ⟨(by first | exact Nat.le_of_ble_eq_true rfl | (show _ ≤ _; omega)), (by first | exact Nat.le_of_ble_eq_true rfl | (show _ ≤ _; omega))⟩ (fun r_4 v_5 hp_6 => ?_)
    rcases hp_6 with ⟨rfl, hv9, hb_25⟩ | ⟨rfl, hv9, hb_25⟩
    · obtain rfl := hv9.symm
      show vV _ _ _ _ _ _ _ _ _ _ _ _ _ v 0 0 28 [(0, .ref o), (1, .int i), (2, .int wh)] [.int 1]
      refine v_if_ne C 33 d_M_sent_28 (by decide) (fun _ => ?_) (fun z => absurd z (by decide))
      rw [i64_toInt, i64_toInt, e1] at hb_25
      have hx0 : zIn i 0 ((zc S 3 : Int) - 1) := hb_25
      obtain ⟨ni, rfl, hn1, hn2, hn3⟩ := zIn_nI (a := 0) (b := zc S 3 - 1) ⟨hx0.1, by have := hx0.1; have := hx0.2; omega⟩
      have hn4 : ni < zc S 3 := by have := hx0.2; rw [nI_toInt hn3] at this; omega
      obtain ⟨nn, e24, hm1, hm2⟩ := hB4 ni hn4
      obtain ⟨cn, kd, e10, hc1, hc2, e12, hk7⟩ := hB2 nn hm1 hm2
      have e25 : zn (zi S 24 ni) = nn := by rw [e24]; exact zn_nI (by omega)
      have e13 : zn (zi S 10 nn) = cn := by rw [e10]; exact zn_nI (by omega)
      refine v_aload_n C 0 d_M_sent_33 rfl rfl ?_
      refine v_get C k_M hR.1 24 (by decide) tw_507 (fun _ h => h) rfl d_M_sent_34 ?_
      refine v_iload_n C 1 d_M_sent_37 rfl rfl ?_
      refine v_ialdN C (hR.oi (f := 24) (by decide)) (by show _ < 200; omega) (by decide) d_M_sent_38 ?_
      refine v_toi (y := (nI nn)) e24 ?_
      refine v_istore_n (lv' := [(3, .int (nI nn)), (0, .ref o), (1, .int (nI ni)), (2, .int wh)]) C d_M_sent_39 rfl (by decide) rfl ?_
      refine v_iload_n C 3 d_M_sent_40 rfl rfl ?_
      obtain ⟨wn, rfl, hwn1, hwn2, hwn3⟩ := zIn_nI (a := 0) (b := 8) hw0
      rcases (show wn = 0 ∨ wn = 1 ∨ wn = 2 ∨ wn = 3 ∨ wn = 4 ∨ wn = 5 ∨ wn = 6 ∨ wn = 7 ∨ wn = 8 by omega) with rfl | rfl | rfl | rfl | rfl | rfl | rfl | rfl | rfl
      · refine v_tableIn C 88 d_M_sent_41 (by decide) (by decide) (off := 47) (by decide) (by decide) ?_
        refine v_iload_n C 0 d_M_sent_88 rfl rfl ?_
        exact v_iret C d_M_sent_89 (by first | exact Nat.le_of_ble_eq_true rfl | (show _ ≤ _; omega)) (by first | exact Nat.le_of_ble_eq_true rfl | (show _ ≤ _; omega)) ⟨(by rw [oSent, if_pos hw0, if_pos hx0, zn_nI hn3, zdet, if_pos (by decide), e24] <;> (try rfl)), hR, hk⟩
      · refine v_tableIn C 90 d_M_sent_41 (by decide) (by decide) (off := 49) (by decide) (by decide) ?_
        refine v_aload_n C 1 d_M_sent_90 rfl rfl ?_
        refine v_get C k_M hR.1 10 (by decide) tw_493 (fun _ h => h) rfl d_M_sent_91 ?_
        refine v_iload_n C 0 d_M_sent_94 rfl rfl ?_
        refine v_ialdN C (hR.oi (f := 10) (by decide)) (by show _ < 201; omega) (by decide) d_M_sent_95 ?_
        exact v_iret C d_M_sent_96 (by first | exact Nat.le_of_ble_eq_true rfl | (show _ ≤ _; omega)) (by first | exact Nat.le_of_ble_eq_true rfl | (show _ ≤ _; omega)) ⟨(by rw [oSent, if_pos hw0, if_pos hx0, zn_nI hn3, zdet, if_neg (by decide), if_pos (by decide), e25] <;> (try rfl)), hR, hk⟩
      · refine v_tableIn C 97 d_M_sent_41 (by decide) (by decide) (off := 56) (by decide) (by decide) ?_
        refine v_aload_n C 1 d_M_sent_97 rfl rfl ?_
        refine v_get C k_M hR.1 11 (by decide) tw_494 (fun _ h => h) rfl d_M_sent_98 ?_
        refine v_iload_n C 0 d_M_sent_101 rfl rfl ?_
        refine v_ialdN C (hR.oi (f := 11) (by decide)) (by show _ < 201; omega) (by decide) d_M_sent_102 ?_
        exact v_iret C d_M_sent_103 (by first | exact Nat.le_of_ble_eq_true rfl | (show _ ≤ _; omega)) (by first | exact Nat.le_of_ble_eq_true rfl | (show _ ≤ _; omega)) ⟨(by rw [oSent, if_pos hw0, if_pos hx0, zn_nI hn3, zdet, if_neg (by decide), if_neg (by decide), if_pos (by decide), e25] <;> (try rfl)), hR, hk⟩
      · refine v_tableIn C 104 d_M_sent_41 (by decide) (by decide) (off := 63) (by decide) (by decide) ?_
        refine v_aload_n C 1 d_M_sent_104 rfl rfl ?_
        refine v_get C k_M hR.1 12 (by decide) tw_495 (fun _ h => h) rfl d_M_sent_105 ?_
        refine v_iload_n C 0 d_M_sent_108 rfl rfl ?_
        refine v_ialdN C (hR.oi (f := 12) (by decide)) (by show _ < 201; omega) (by decide) d_M_sent_109 ?_
        exact v_iret C d_M_sent_110 (by first | exact Nat.le_of_ble_eq_true rfl | (show _ ≤ _; omega)) (by first | exact Nat.le_of_ble_eq_true rfl | (show _ ≤ _; omega)) ⟨(by rw [oSent, if_pos hw0, if_pos hx0, zn_nI hn3, zdet, if_neg (by decide), if_neg (by decide), if_neg (by decide), if_pos (by decide), e25] <;> (try rfl)), hR, hk⟩
      · refine v_tableIn C 111 d_M_sent_41 (by decide) (by decide) (off := 70) (by decide) (by decide) ?_
        refine v_aload_n C 1 d_M_sent_111 rfl rfl ?_
        refine v_get C k_M hR.1 25 (by decide) tw_508 (fun _ h => h) rfl d_M_sent_112 ?_
        refine v_iload_n C 2 d_M_sent_115 rfl rfl ?_
        refine v_ialdN C (hR.oi (f := 25) (by decide)) (by show _ < 200; omega) (by decide) d_M_sent_116 ?_
        exact v_iret C d_M_sent_117 (by first | exact Nat.le_of_ble_eq_true rfl | (show _ ≤ _; omega)) (by first | exact Nat.le_of_ble_eq_true rfl | (show _ ≤ _; omega)) ⟨(by rw [oSent, if_pos hw0, if_pos hx0, zn_nI hn3, zdet, if_neg (by decide), if_neg (by decide), if_neg (by decide), if_neg (by decide), if_pos (by decide)] <;> (try rfl)), hR, hk⟩
      · refine v_tableIn C 118 d_M_sent_41 (by decide) (by decide) (off := 77) (by decide) (by decide) ?_
        refine v_bipush (x := 32) C d_M_sent_118 (by decide) ?_
        refine v_aload_n C 1 d_M_sent_120 rfl rfl ?_
        refine v_get C k_M hR.1 4 (by decide) tw_487 (fun _ h => h) rfl d_M_sent_121 ?_
        refine v_aload_n C 1 d_M_sent_124 rfl rfl ?_
        refine v_get C k_M hR.1 10 (by decide) tw_493 (fun _ h => h) rfl d_M_sent_125 ?_
        refine v_iload_n C 0 d_M_sent_128 rfl rfl ?_
        refine v_ialdN C (hR.oi (f := 10) (by decide)) (by show _ < 201; omega) (by decide) d_M_sent_129 ?_
        refine v_toi (y := (nI cn)) e10 ?_
        refine v_ialdN C (hR.oi (f := 4) (by decide)) (by show _ < 41; omega) (by decide) d_M_sent_130 ?_
        refine v_imul C d_M_sent_131 ?_
        refine v_iconst (x := 2) C d_M_sent_132 (by decide) ?_
        refine v_aload_n C 1 d_M_sent_133 rfl rfl ?_
        refine v_get C k_M hR.1 12 (by decide) tw_495 (fun _ h => h) rfl d_M_sent_134 ?_
        refine v_iload_n C 0 d_M_sent_137 rfl rfl ?_
        refine v_ialdN C (hR.oi (f := 12) (by decide)) (by show _ < 201; omega) (by decide) d_M_sent_138 ?_
        refine v_imul C d_M_sent_139 ?_
        refine v_iadd C d_M_sent_140 ?_
        refine v_aload_n C 1 d_M_sent_141 rfl rfl ?_
        refine v_get C k_M hR.1 16 (by decide) tw_499 (fun _ h => h) rfl d_M_sent_142 ?_
        refine v_iload_n C 0 d_M_sent_145 rfl rfl ?_
        refine v_zaldN C (hR.oz (f := 16) (by decide)) (by show _ < 201; omega) (by decide) d_M_sent_146 ?_
        refine v_if_eq C 154 d_M_sent_147 (by decide) (fun c_147 => ?_) (fun c_147 => ?_)
        · refine v_iconst (x := 0) C d_M_sent_154 (by decide) ?_
          refine v_iadd C d_M_sent_155 ?_
          exact v_iret C d_M_sent_156 (by first | exact Nat.le_of_ble_eq_true rfl | (show _ ≤ _; omega)) (by first | exact Nat.le_of_ble_eq_true rfl | (show _ ≤ _; omega)) ⟨(by rw [oSent, if_pos hw0, if_pos hx0, zn_nI hn3, zdet, if_neg (by decide), if_neg (by decide), if_neg (by decide), if_neg (by decide), if_neg (by decide), if_pos (by decide), e25, e13, if_pos c_147] <;> (try rfl)), hR, hk⟩
        · refine v_iconst (x := 1) C d_M_sent_150 (by decide) ?_
          refine v_goto C 155 d_M_sent_151 (by decide) ?_
          refine v_iadd C d_M_sent_155 ?_
          exact v_iret C d_M_sent_156 (by first | exact Nat.le_of_ble_eq_true rfl | (show _ ≤ _; omega)) (by first | exact Nat.le_of_ble_eq_true rfl | (show _ ≤ _; omega)) ⟨(by rw [oSent, if_pos hw0, if_pos hx0, zn_nI hn3, zdet, if_neg (by decide), if_neg (by decide), if_neg (by decide), if_neg (by decide), if_neg (by decide), if_pos (by decide), e25, e13, if_neg c_147] <;> (try rfl)), hR, hk⟩
      · refine v_tableIn C 157 d_M_sent_41 (by decide) (by decide) (off := 116) (by decide) (by decide) ?_
        refine v_aload_n C 1 d_M_sent_157 rfl rfl ?_
        refine v_get C k_M hR.1 26 (by decide) tw_509 (fun _ h => h) rfl d_M_sent_158 ?_
        refine v_iload_n C 2 d_M_sent_161 rfl rfl ?_
        refine v_ialdN C (hR.oi (f := 26) (by decide)) (by show _ < 200; omega) (by decide) d_M_sent_162 ?_
        exact v_iret C d_M_sent_163 (by first | exact Nat.le_of_ble_eq_true rfl | (show _ ≤ _; omega)) (by first | exact Nat.le_of_ble_eq_true rfl | (show _ ≤ _; omega)) ⟨(by rw [oSent, if_pos hw0, if_pos hx0, zn_nI hn3, zdet, if_neg (by decide), if_neg (by decide), if_neg (by decide), if_neg (by decide), if_neg (by decide), if_neg (by decide), if_pos (by decide)] <;> (try rfl)), hR, hk⟩
      · refine v_tableIn C 164 d_M_sent_41 (by decide) (by decide) (off := 123) (by decide) (by decide) ?_
        refine v_aload_n C 1 d_M_sent_164 rfl rfl ?_
        refine v_get C k_M hR.1 27 (by decide) tw_510 (fun _ h => h) rfl d_M_sent_165 ?_
        refine v_iload_n C 2 d_M_sent_168 rfl rfl ?_
        refine v_laldN C (hR.ol (f := 27) (by decide)) (by show _ < 200; omega) (by decide) d_M_sent_169 ?_
        refine v_l2i (y := (Int64.toInt32 (zl S 27 ni))) C d_M_sent_170 rfl ?_
        exact v_iret C d_M_sent_171 (by first | exact Nat.le_of_ble_eq_true rfl | (show _ ≤ _; omega)) (by first | exact Nat.le_of_ble_eq_true rfl | (show _ ≤ _; omega)) ⟨(by rw [oSent, if_pos hw0, if_pos hx0, zn_nI hn3, zdet, if_neg (by decide), if_neg (by decide), if_neg (by decide), if_neg (by decide), if_neg (by decide), if_neg (by decide), if_neg (by decide), if_pos (by decide)] <;> (try rfl)), hR, hk⟩
      · refine v_tableOut C 172 d_M_sent_41 (by decide) (by decide) ?_
        refine v_aload_n C 1 d_M_sent_172 rfl rfl ?_
        refine v_get C k_M hR.1 14 (by decide) tw_497 (fun _ h => h) rfl d_M_sent_173 ?_
        refine v_iload_n C 0 d_M_sent_176 rfl rfl ?_
        refine v_laldN C (hR.ol (f := 14) (by decide)) (by show _ < 201; omega) (by decide) d_M_sent_177 ?_
        refine v_l2i (y := (Int64.toInt32 (zl S 14 nn))) C d_M_sent_178 rfl ?_
        exact v_iret C d_M_sent_179 (by first | exact Nat.le_of_ble_eq_true rfl | (show _ ≤ _; omega)) (by first | exact Nat.le_of_ble_eq_true rfl | (show _ ≤ _; omega)) ⟨(by rw [oSent, if_pos hw0, if_pos hx0, zn_nI hn3, zdet, if_neg (by decide), if_neg (by decide), if_neg (by decide), if_neg (by decide), if_neg (by decide), if_neg (by decide), if_neg (by decide), if_neg (by decide), e25] <;> (try rfl)), hR, hk⟩
    · obtain rfl := hv9.symm
      show vV _ _ _ _ _ _ _ _ _ _ _ _ _ v 0 0 28 [(0, .ref o), (1, .int i), (2, .int wh)] [.int 0]
      refine v_if_ne C 33 d_M_sent_28 (by decide) (fun z => absurd (by decide) z) (fun _ => ?_)
      refine v_iconst (x := -1) C d_M_sent_31 (by decide) ?_
      exact v_iret C d_M_sent_32 (by first | exact Nat.le_of_ble_eq_true rfl | (show _ ≤ _; omega)) (by first | exact Nat.le_of_ble_eq_true rfl | (show _ ≤ _; omega)) ⟨(by rw [i64_toInt, i64_toInt, e1] at hb_25; rw [oSent, if_pos hw0, if_neg (show ¬ zIn i 0 ((zc S 3 : Int) - 1) from hb_25)]), hR, hk⟩
  · obtain rfl := hv9.symm
    show vV _ _ _ _ _ _ _ _ _ _ _ _ _ v 0 0 9 [(0, .ref o), (1, .int i), (2, .int wh)] [.int 0]
    refine v_if_ne C 15 d_M_sent_9 (by decide) (fun z => absurd (by decide) z) (fun _ => ?_)
    refine v_bipush (x := -12) C d_M_sent_12 (by decide) ?_
    exact v_iret C d_M_sent_14 (by first | exact Nat.le_of_ble_eq_true rfl | (show _ ≤ _; omega)) (by first | exact Nat.le_of_ble_eq_true rfl | (show _ ≤ _; omega)) ⟨(by rw [i64_toInt] at hb_6; rw [oSent, if_neg (show ¬ zIn wh 0 8 from hb_6)]), hR, hk⟩
set_option maxHeartbeats 4000000 in
set_option maxRecDepth 100000 in
theorem lp_M_out1 {p : Program} {l : Launch} {e : Env} {R : Room} {s : State} {m : MethodId} {args : Array Value} {below : List Frame} {meth : Method} {c : Code} {Q : State → Prop} {G : vv_G} {o : Nat} {ad : Nat → Nat} {S : zS} {v0 : vv_V} {kc ks cu kd : Nat} (C : vC p s m args meth c b_M_out 5 (some FieldType.int) "CustomerNoticesModel" G) (hcu : cu ≤ 40) (hkd : kd ≤ 7) (kx : ∀ v : vv_V, RM G v o ad (zo1 S ((32 * cu) + (4 * kd)) 4) → vkeep (mX o ad) v0 v → vV p l e R s m args below meth c Q G 5 v kc ks 55 [(3, .int (nI 4)), (0, .ref o), (1, .int (nI cu)), (2, .int (nI kd))] []) : ∀ (n : Nat) (j : Nat) (v : vv_V), j ≤ 4 → 5 ≤ j + n → RM G v o ad (zo1 S ((32 * cu) + (4 * kd)) j) → vkeep (mX o ad) v0 v → vV p l e R s m args below meth c Q G 5 v kc ks 28 [(3, .int (nI j)), (0, .ref o), (1, .int (nI cu)), (2, .int (nI kd))] [] := by
  intro n
  induction n with
  | zero => intro j v h1 h2 hR hk; exfalso; omega
  | succ n ih =>
    intro j v h1 h2 hR hk
    refine v_iload_n C 0 d_M_out_28 rfl rfl ?_
    refine v_iconst (x := 4) C d_M_out_29 (by decide) ?_
    refine v_icmp_ge C 55 d_M_out_30 (by decide) (fun c_30 => ?_) (fun c_30 => ?_)
    · have n_30 : 4 ≤ j := (nI_leI (a := 4) (b := j) (by omega) (by omega)).mp c_30
      have hj4 : j = 4 := by omega
      subst hj4
      exact kx v hR hk
    · have n_30 : ¬ 4 ≤ j := mt (nI_leI (a := 4) (b := j) (by omega) (by omega)).mpr c_30
      refine v_aload_n C 1 d_M_out_33 rfl rfl ?_
      refine v_get C k_M hR.1 8 (by decide) tw_491 (fun _ h => h) rfl d_M_out_34 ?_
      refine v_bipush (x := 32) C d_M_out_37 (by decide) ?_
      refine v_iload_n C 2 d_M_out_39 rfl rfl ?_
      refine v_imul C d_M_out_40 ?_
      refine v_toi (y := nI (32 * cu)) (pk_mul 32 cu) ?_
      refine v_iconst (x := 4) C d_M_out_41 (by decide) ?_
      refine v_iload_n C 3 d_M_out_42 rfl rfl ?_
      refine v_imul C d_M_out_43 ?_
      refine v_toi (y := nI (4 * kd)) (pk_mul 4 kd) ?_
      refine v_iadd C d_M_out_44 ?_
      refine v_toi (y := nI ((32 * cu) + (4 * kd))) (nI_add (32 * cu) (4 * kd)) ?_
      refine v_iload_n C 0 d_M_out_45 rfl rfl ?_
      refine v_iadd C d_M_out_46 ?_
      refine v_toi (y := nI (((32 * cu) + (4 * kd)) + j)) (nI_add ((32 * cu) + (4 * kd)) j) ?_
      refine v_iconst (x := 0) C d_M_out_47 (by decide) ?_
      refine v_iastN C (hR.oi (f := 8) (by decide)) (by show _ < 1312; omega) (by decide) d_M_out_48 ?_
      refine v_view (fun v1 ev1 => ?_)
      obtain ⟨S_1, eS_1⟩ : ∃ z, z = zui (zo1 S ((32 * cu) + (4 * kd)) j) 8 (((32 * cu) + (4 * kd)) + j) 0 := ⟨_, rfl⟩
      have hR_1 : RM G v1 o ad S_1 := by rw [eS_1]; exact (by rw [ev1]; exact hR.puti 8 (by decide) (((32 * cu) + (4 * kd)) + j) 0)
      have hk_1 : vkeep (mX o ad) v0 v1 := by rw [ev1]; exact hk.up (mX_f (by decide))
      refine v_iinc (y := (nI (j + 1))) (lv' := [(3, .int (nI (j + 1))), (0, .ref o), (1, .int (nI cu)), (2, .int (nI kd))]) C 0 d_M_out_49 rfl (nI_1 _) (by decide) rfl ?_
      refine v_goto C 28 d_M_out_52 (by decide) ?_
      refine v_sub [0, 1, 2, 3] rfl ?_
      exact ih (j + 1) v1 (by omega) (by omega) (by subst eS_1; exact hR_1) hk_1
set_option maxHeartbeats 4000000 in
set_option maxRecDepth 100000 in
theorem lp_M_out2 {p : Program} {l : Launch} {e : Env} {R : Room} {s : State} {m : MethodId} {args : Array Value} {below : List Frame} {meth : Method} {c : Code} {Q : State → Prop} {G : vv_G} {o : Nat} {ad : Nat → Nat} {S : zS} {v0 : vv_V} {kc ks : Nat} {x k : Int32} (C : vC p s m args meth c b_M_out 5 (some FieldType.int) "CustomerNoticesModel" G) (hB : zc S 1 ≤ 200) (kx : ∀ v : vv_V, RM G v o ad (zo2 S x k (zc S 1)) → vkeep (mX o ad) v0 v → vV p l e R s m args below meth c Q G 5 v kc ks 118 [(4, .int (nI (zc S 1 + 1))), (3, .int (nI (zom S x k (zc S 1)))), (0, .ref o), (1, .int x), (2, .int k)] []) : ∀ (n : Nat) (j : Nat) (v : vv_V), j ≤ zc S 1 → zc S 1 + 1 ≤ j + n → RM G v o ad (zo2 S x k j) → vkeep (mX o ad) v0 v → vV p l e R s m args below meth c Q G 5 v kc ks 60 [(4, .int (nI (j + 1))), (3, .int (nI (zom S x k j))), (0, .ref o), (1, .int x), (2, .int k)] [] := by
  intro n
  induction n with
  | zero => intro j v h1 h2 hR hk; exfalso; omega
  | succ n ih =>
    intro j v h1 h2 hR hk
    refine v_iload C 0 d_M_out_60 rfl ?_
    refine v_aload_n C 2 d_M_out_62 rfl rfl ?_
    refine v_get C k_M hR.1 9 (by decide) tw_492 (fun _ h => h) rfl d_M_out_63 ?_
    refine v_toi (y := nI (zc S 1)) (by rw [zo2_c]) ?_
    refine v_icmp_gt C 118 d_M_out_66 (by decide) (fun c_66 => ?_) (fun c_66 => ?_)
    · have n_66 : (zc S 1) < (j + 1) := (nI_ltI (a := (zc S 1)) (b := (j + 1)) (by omega) (by omega)).mp c_66
      have hj4 : j = zc S 1 := by omega
      subst hj4
      exact kx v hR hk
    · have n_66 : ¬ (zc S 1) < (j + 1) := mt (nI_ltI (a := (zc S 1)) (b := (j + 1)) (by omega) (by omega)).mpr c_66
      refine v_aload_n C 2 d_M_out_69 rfl rfl ?_
      refine v_get C k_M hR.1 15 (by decide) tw_498 (fun _ h => h) rfl d_M_out_70 ?_
      refine v_iload C 0 d_M_out_73 rfl ?_
      refine v_ialdN C (hR.oi (f := 15) (by decide)) (by show _ < 201; omega) (by decide) d_M_out_75 ?_
      refine v_if_ne C 112 d_M_out_76 (by decide) (fun c_76 => ?_) (fun c_76 => ?_)
      · refine v_iinc (y := (nI ((j + 1) + 1))) (lv' := [(4, .int (nI ((j + 1) + 1))), (3, .int (nI (zom S x k j))), (0, .ref o), (1, .int x), (2, .int k)]) C 0 d_M_out_112 rfl (nI_1 _) (by decide) rfl ?_
        refine v_goto C 60 d_M_out_115 (by decide) ?_
        refine v_lv (lv' := [(4, .int (nI ((j + 1) + 1))), (3, .int (nI (zom S x k (j + 1)))), (0, .ref o), (1, .int x), (2, .int k)]) (by rw [zom, if_neg (fun z => c_76 z.1)]; rfl) ?_
        refine v_sub [0, 1, 2, 3, 4] rfl ?_
        exact ih (j + 1) v (by omega) (by omega) (by rw [zo2, if_neg (fun z => c_76 z.1)]; exact hR) hk
      · refine v_aload_n C 2 d_M_out_79 rfl rfl ?_
        refine v_get C k_M hR.1 10 (by decide) tw_493 (fun _ h => h) rfl d_M_out_80 ?_
        refine v_iload C 0 d_M_out_83 rfl ?_
        refine v_ialdN C (hR.oi (f := 10) (by decide)) (by show _ < 201; omega) (by decide) d_M_out_85 ?_
        refine v_iload_n C 3 d_M_out_86 rfl rfl ?_
        refine v_icmp_ne C 112 d_M_out_87 (by decide) (fun c_87 => ?_) (fun c_87 => ?_)
        · refine v_iinc (y := (nI ((j + 1) + 1))) (lv' := [(4, .int (nI ((j + 1) + 1))), (3, .int (nI (zom S x k j))), (0, .ref o), (1, .int x), (2, .int k)]) C 0 d_M_out_112 rfl (nI_1 _) (by decide) rfl ?_
          refine v_goto C 60 d_M_out_115 (by decide) ?_
          refine v_lv (lv' := [(4, .int (nI ((j + 1) + 1))), (3, .int (nI (zom S x k (j + 1)))), (0, .ref o), (1, .int x), (2, .int k)]) (by rw [zom, if_neg (fun z => c_87 z.2.1)]; rfl) ?_
          refine v_sub [0, 1, 2, 3, 4] rfl ?_
          exact ih (j + 1) v (by omega) (by omega) (by rw [zo2, if_neg (fun z => c_87 z.2.1)]; exact hR) hk
        · refine v_aload_n C 2 d_M_out_90 rfl rfl ?_
          refine v_get C k_M hR.1 12 (by decide) tw_495 (fun _ h => h) rfl d_M_out_91 ?_
          refine v_iload C 0 d_M_out_94 rfl ?_
          refine v_ialdN C (hR.oi (f := 12) (by decide)) (by show _ < 201; omega) (by decide) d_M_out_96 ?_
          refine v_iload_n C 4 d_M_out_97 rfl rfl ?_
          refine v_icmp_ne C 112 d_M_out_98 (by decide) (fun c_98 => ?_) (fun c_98 => ?_)
          · refine v_iinc (y := (nI ((j + 1) + 1))) (lv' := [(4, .int (nI ((j + 1) + 1))), (3, .int (nI (zom S x k j))), (0, .ref o), (1, .int x), (2, .int k)]) C 0 d_M_out_112 rfl (nI_1 _) (by decide) rfl ?_
            refine v_goto C 60 d_M_out_115 (by decide) ?_
            refine v_lv (lv' := [(4, .int (nI ((j + 1) + 1))), (3, .int (nI (zom S x k (j + 1)))), (0, .ref o), (1, .int x), (2, .int k)]) (by rw [zom, if_neg (fun z => c_98 z.2.2)]; rfl) ?_
            refine v_sub [0, 1, 2, 3, 4] rfl ?_
            exact ih (j + 1) v (by omega) (by omega) (by rw [zo2, if_neg (fun z => c_98 z.2.2)]; exact hR) hk
          · refine v_aload_n C 2 d_M_out_101 rfl rfl ?_
            refine v_get C k_M hR.1 15 (by decide) tw_498 (fun _ h => h) rfl d_M_out_102 ?_
            refine v_iload C 0 d_M_out_105 rfl ?_
            refine v_iconst (x := 3) C d_M_out_107 (by decide) ?_
            refine v_iastN C (hR.oi (f := 15) (by decide)) (by show _ < 201; omega) (by decide) d_M_out_108 ?_
            refine v_view (fun v1 ev1 => ?_)
            obtain ⟨S_1, eS_1⟩ : ∃ z, z = zui (zo2 S x k j) 15 (j + 1) 3 := ⟨_, rfl⟩
            have hR_1 : RM G v1 o ad S_1 := by rw [eS_1]; exact (by rw [ev1]; exact hR.puti 15 (by decide) (j + 1) 3)
            have hk_1 : vkeep (mX o ad) v0 v1 := by rw [ev1]; exact hk.up (mX_f (by decide))
            refine v_iinc (y := (nI ((zom S x k j) + 1))) (lv' := [(3, .int (nI ((zom S x k j) + 1))), (4, .int (nI (j + 1))), (0, .ref o), (1, .int x), (2, .int k)]) C 1 d_M_out_109 rfl (nI_1 _) (by decide) rfl ?_
            refine v_iinc (y := (nI ((j + 1) + 1))) (lv' := [(4, .int (nI ((j + 1) + 1))), (3, .int (nI ((zom S x k j) + 1))), (0, .ref o), (1, .int x), (2, .int k)]) C 1 d_M_out_112 rfl (nI_1 _) (by decide) rfl ?_
            refine v_goto C 60 d_M_out_115 (by decide) ?_
            refine v_lv (lv' := [(4, .int (nI ((j + 1) + 1))), (3, .int (nI (zom S x k (j + 1)))), (0, .ref o), (1, .int x), (2, .int k)]) (by rw [zom, if_pos ⟨c_76, c_87, c_98⟩]) ?_
            refine v_sub [0, 1, 2, 3, 4] rfl ?_
            exact ih (j + 1) v1 (by omega) (by omega) (by rw [zo2, if_pos ⟨c_76, c_87, c_98⟩]; subst eS_1; exact hR_1) hk_1
set_option maxHeartbeats 4000000 in
set_option maxRecDepth 100000 in
theorem c_M_out (l : Launch) (G : vv_G) (v : vv_V) (o : Nat) (ad : Nat → Nat) (S : zS) (x k : Int32) (hR : RM G v o ad S) (hB : zc S 0 ≤ 40 ∧ zc S 1 ≤ 200) : Mv l y_M_out b_M_out 5 (some FieldType.int) 2 46 G v [.ref o, .int x, .int k] (fun r v' => r = some (.int (oOut S x k).1) ∧ RM G v' o ad (oOut S x k).2 ∧ vkeep (mX o ad) v v') 0 0 := by
  refine vv_metF (own := "CustomerNoticesModel") (nm := "out") pf_M_out rfl rfl (Nat.le_of_ble_eq_true rfl) ?_
  intro p e s m below meth c C hin
  have hk : vkeep (mX o ad) v v := vkeep.rf
  show vV _ _ _ _ _ _ _ _ _ _ _ _ _ v 0 0 0 [(0, .ref o), (1, .int x), (2, .int k)] []
  refine v_aload_n C 0 d_M_out_0 rfl rfl ?_
  refine v_iload_n C 1 d_M_out_1 rfl rfl ?_
  refine v_callV (rest := []) C (c_M_isCustomer l G v o ad S x hR (by omega)) tw_598 tw_34 tw_595 tw_597 tw_19 mn_M_isCustomer hR.1 k_M.1 ⟨Nat.le_of_ble_eq_true rfl, Nat.le_of_ble_eq_true rfl⟩ rfl rfl (Nat.le_of_ble_eq_true rfl) d_M_out_2 ⟨(by first | exact Nat.le_of_ble_eq_true rfl | (show _ ≤ _; omega)), (by first | exact Nat.le_of_ble_eq_true rfl | (show _ ≤ _; omega))⟩ (fun r_1 v_2 hp_3 => ?_)
  rcases hp_3 with ⟨rfl, hv9, hb_2⟩ | ⟨rfl, hv9, hb_2⟩
  · obtain rfl := hv9.symm
    show vV _ _ _ _ _ _ _ _ _ _ _ _ _ v 0 0 5 [(0, .ref o), (1, .int x), (2, .int k)] [.int 1]
    refine v_if_ne C 11 d_M_out_5 (by decide) (fun _ => ?_) (fun z => absurd z (by decide))
    refine v_iload_n C 2 d_M_out_11 rfl rfl ?_
    refine v_i2l (y := (Int32.toInt64 k)) C d_M_out_12 rfl ?_
    refine v_lconst (x := 0) C d_M_out_13 (by decide) ?_
    refine v_ldc2 (x := 7) C d_M_out_14 tw_599 ?_
    refine v_callS (rest := []) C (c_M_isIn l G v (Int32.toInt64 k) 0 7) tw_588 tw_34 tw_586 tw_587 mn_M_isIn ⟨Nat.le_of_ble_eq_true rfl, Nat.le_of_ble_eq_true rfl⟩ rfl rfl (Nat.le_of_ble_eq_true rfl) d_M_out_17 ⟨(by first | exact Nat.le_of_ble_eq_true rfl | (show _ ≤ _; omega)), (by first | exact Nat.le_of_ble_eq_true rfl | (show _ ≤ _; omega))⟩ (fun r_4 v_5 hp_6 => ?_)
    rcases hp_6 with ⟨rfl, hv9, hb_17⟩ | ⟨rfl, hv9, hb_17⟩
    · obtain rfl := hv9.symm
      show vV _ _ _ _ _ _ _ _ _ _ _ _ _ v 0 0 20 [(0, .ref o), (1, .int x), (2, .int k)] [.int 1]
      refine v_if_ne C 26 d_M_out_20 (by decide) (fun _ => ?_) (fun z => absurd z (by decide))
      rw [i64_toInt] at hb_17
      have hz : zIn k 0 7 := hb_17
      have hx0 := hb_2
      obtain ⟨cu, rfl, hcu1, hcu2, hcu3⟩ := zIn_nI (a := 1) (b := zc S 0) hx0
      obtain ⟨kd, rfl, hkd1, hkd2, hkd3⟩ := zIn_nI (a := 0) (b := 7) hz
      refine v_iconst (x := 0) C d_M_out_26 (by decide) ?_
      refine v_istore_n (lv' := [(3, .int 0), (0, .ref o), (1, .int (nI cu)), (2, .int (nI kd))]) C d_M_out_27 rfl (by decide) rfl ?_
      refine v_sub [0, 1, 2, 3] rfl ?_
      refine lp_M_out1 (S := S) (v0 := v) C (by omega) (by omega) (fun va hRa hka => ?_) 5 0 _ (by omega) (by omega) hR hk
      show vV _ _ _ _ _ _ _ _ _ _ _ _ _ va 0 0 55 [(3, .int (nI 4)), (0, .ref o), (1, .int (nI cu)), (2, .int (nI kd))] []
      refine v_iconst (x := 0) C d_M_out_55 (by decide) ?_
      refine v_istore_n (lv' := [(3, .int 0), (0, .ref o), (1, .int (nI cu)), (2, .int (nI kd))]) C d_M_out_56 rfl (by decide) rfl ?_
      refine v_iconst (x := 1) C d_M_out_57 (by decide) ?_
      refine v_istore (lv' := [(4, .int 1), (3, .int 0), (0, .ref o), (1, .int (nI cu)), (2, .int (nI kd))]) C d_M_out_58 (by decide) rfl ?_
      refine v_sub [0, 1, 2, 3, 4] rfl ?_
      have q1 : zc (zo1 S ((32 * cu) + (4 * kd)) 4) 1 = zc S 1 := zo1_c _ _ _ _
      refine lp_M_out2 (S := zo1 S ((32 * cu) + (4 * kd)) 4) (v0 := v) C (by rw [q1]; omega) (fun vb hRb hkb => ?_) (zc S 1 + 1) 0 _ (Nat.zero_le _) (by rw [q1]; omega) hRa hka
      rw [q1] at hRb
      rw [q1]
      show vV _ _ _ _ _ _ _ _ _ _ _ _ _ vb 0 0 118 [(4, .int (nI (zc S 1 + 1))), (3, .int (nI (zom (zo1 S ((32 * cu) + (4 * kd)) 4) (nI cu) (nI kd) (zc S 1)))), (0, .ref o), (1, .int (nI cu)), (2, .int (nI kd))] []
      refine v_iload_n C 1 d_M_out_118 rfl rfl ?_
      exact v_iret C d_M_out_119 (by first | exact Nat.le_of_ble_eq_true rfl | (show _ ≤ _; omega)) (by first | exact Nat.le_of_ble_eq_true rfl | (show _ ≤ _; omega)) ⟨(by  rw [oOut, if_pos hx0, if_pos hz, zn_nI hcu3, zn_nI hkd3] <;> (try rfl)), (by  rw [oOut, if_pos hx0, if_pos hz, zn_nI hcu3, zn_nI hkd3]; exact hRb), hkb⟩
    · obtain rfl := hv9.symm
      show vV _ _ _ _ _ _ _ _ _ _ _ _ _ v 0 0 20 [(0, .ref o), (1, .int x), (2, .int k)] [.int 0]
      refine v_if_ne C 26 d_M_out_20 (by decide) (fun z => absurd (by decide) z) (fun _ => ?_)
      refine v_bipush (x := -12) C d_M_out_23 (by decide) ?_
      exact v_iret C d_M_out_25 (by first | exact Nat.le_of_ble_eq_true rfl | (show _ ≤ _; omega)) (by first | exact Nat.le_of_ble_eq_true rfl | (show _ ≤ _; omega)) ⟨(by rw [i64_toInt] at hb_17; rw [oOut, if_pos hb_2, if_neg (show ¬ zIn k 0 7 from hb_17)] <;> (try rfl)), (by rw [i64_toInt] at hb_17; rw [oOut, if_pos hb_2, if_neg (show ¬ zIn k 0 7 from hb_17)]; exact hR), hk⟩
  · obtain rfl := hv9.symm
    show vV _ _ _ _ _ _ _ _ _ _ _ _ _ v 0 0 5 [(0, .ref o), (1, .int x), (2, .int k)] [.int 0]
    refine v_if_ne C 11 d_M_out_5 (by decide) (fun z => absurd (by decide) z) (fun _ => ?_)
    refine v_bipush (x := -11) C d_M_out_8 (by decide) ?_
    exact v_iret C d_M_out_10 (by first | exact Nat.le_of_ble_eq_true rfl | (show _ ≤ _; omega)) (by first | exact Nat.le_of_ble_eq_true rfl | (show _ ≤ _; omega)) ⟨(by  rw [oOut, if_neg hb_2] <;> (try rfl)), (by  rw [oOut, if_neg hb_2]; exact hR), hk⟩
set_option maxHeartbeats 4000000 in
set_option maxRecDepth 100000 in
theorem c_M_undo (l : Launch) (G : vv_G) (v : vv_V) (o : Nat) (ad : Nat → Nat) (S : zS) (n : Nat) (hR : RM G v o ad S) (h2 : n ≤ 200) (hB : zc S 2 ≤ 60) (hE : zE (zi S 12 n) → ∃ j, zpf S (zi S 10 n) (zi S 11 n) (zc S 2) = some j) : Mv l y_M_undo b_M_undo 2 none 1 24 G v [.ref o, .int (nI n)] (fun r v' => r = none ∧ RM G v' o ad (zundo S n) ∧ vkeep (mX o ad) v v') 0 0 := by
  refine vv_metF (own := "CustomerNoticesModel") (nm := "undo") pf_M_undo rfl rfl (Nat.le_of_ble_eq_true rfl) ?_
  intro p e s m below meth c C hin
  have hk : vkeep (mX o ad) v v := vkeep.rf
  show vV _ _ _ _ _ _ _ _ _ _ _ _ _ v 0 0 0 [(0, .ref o), (1, .int (nI n))] []
  refine v_aload_n C 0 d_M_undo_0 rfl rfl ?_
  refine v_get C k_M hR.1 12 (by decide) tw_495 (fun _ h => h) rfl d_M_undo_1 ?_
  refine v_iload_n C 1 d_M_undo_4 rfl rfl ?_
  refine v_ialdN C (hR.oi (f := 12) (by decide)) (by show _ < 201; omega) (by decide) d_M_undo_5 ?_
  refine v_iconst (x := 5) C d_M_undo_6 (by decide) ?_
  refine v_icmp_eq C 21 d_M_undo_7 (by decide) (fun c_7 => ?_) (fun c_7 => ?_)
  · refine v_aload_n C 0 d_M_undo_21 rfl rfl ?_
    refine v_get C k_M hR.1 21 (by decide) tw_504 (fun _ h => h) rfl d_M_undo_22 ?_
    refine v_aload_n C 0 d_M_undo_25 rfl rfl ?_
    refine v_aload_n C 0 d_M_undo_26 rfl rfl ?_
    refine v_get C k_M hR.1 10 (by decide) tw_493 (fun _ h => h) rfl d_M_undo_27 ?_
    refine v_iload_n C 1 d_M_undo_30 rfl rfl ?_
    refine v_ialdN C (hR.oi (f := 10) (by decide)) (by show _ < 201; omega) (by decide) d_M_undo_31 ?_
    refine v_aload_n C 0 d_M_undo_32 rfl rfl ?_
    refine v_get C k_M hR.1 11 (by decide) tw_494 (fun _ h => h) rfl d_M_undo_33 ?_
    refine v_iload_n C 1 d_M_undo_36 rfl rfl ?_
    refine v_ialdN C (hR.oi (f := 11) (by decide)) (by show _ < 201; omega) (by decide) d_M_undo_37 ?_
    refine v_callV (rest := [.ref (ad 21)]) C (c_M_pairOf l G v o ad S (zi S 10 n) (zi S 11 n) hR (by omega)) tw_623 tw_34 tw_620 tw_622 tw_22 mn_M_pairOf hR.1 k_M.1 ⟨Nat.le_of_ble_eq_true rfl, Nat.le_of_ble_eq_true rfl⟩ rfl rfl (Nat.le_of_ble_eq_true rfl) d_M_undo_38 ⟨(by first | exact Nat.le_of_ble_eq_true rfl | (show _ ≤ _; omega)), (by first | exact Nat.le_of_ble_eq_true rfl | (show _ ≤ _; omega))⟩ (fun r_1 v_2 hp_3 => ?_)
    obtain ⟨rfl, hv9⟩ := hp_3
    obtain rfl := hv9.symm
    rcases hpr : zpf S (zi S 10 n) (zi S 11 n) (zc S 2) with _ | pk
    · show vV _ _ _ _ _ _ _ _ _ _ _ _ _ v 0 0 41 [(0, .ref o), (1, .int (nI n))] [.int (-1), .ref (ad 21)]
      obtain ⟨jj, hj⟩ := hE (Or.inl c_7)
      rw [hj] at hpr
      cases hpr
    · have hpl := zpf_lt hpr
      show vV _ _ _ _ _ _ _ _ _ _ _ _ _ v 0 0 41 [(0, .ref o), (1, .int (nI n))] [.int (nI pk), .ref (ad 21)]
      refine v_iconst (x := 0) C d_M_undo_41 (by decide) ?_
      refine v_zastN C (hR.oz (f := 21) (by decide)) (by show _ < 60; omega) (by decide) d_M_undo_42 ?_
      refine v_view (fun v1 ev1 => ?_)
      obtain ⟨S_4, eS_4⟩ : ∃ z, z = zui S 21 pk 0 := ⟨_, rfl⟩
      have hR_4 : RM G v1 o ad S_4 := by rw [eS_4]; exact (by rw [ev1]; exact hR.putz 21 (by decide) pk 0 0 (by decide))
      have hk_4 : vkeep (mX o ad) v v1 := by rw [ev1]; exact hk.up (mX_f (by decide))
      exact v_vret C d_M_undo_43 (by first | exact Nat.le_of_ble_eq_true rfl | (show _ ≤ _; omega)) (by first | exact Nat.le_of_ble_eq_true rfl | (show _ ≤ _; omega)) ⟨rfl, (by rw [zundo_s (Or.inl c_7) hpr]; subst eS_4; exact hR_4), hk_4⟩
  · refine v_aload_n C 0 d_M_undo_10 rfl rfl ?_
    refine v_get C k_M hR.1 12 (by decide) tw_495 (fun _ h => h) rfl d_M_undo_11 ?_
    refine v_iload_n C 1 d_M_undo_14 rfl rfl ?_
    refine v_ialdN C (hR.oi (f := 12) (by decide)) (by show _ < 201; omega) (by decide) d_M_undo_15 ?_
    refine v_bipush (x := 6) C d_M_undo_16 (by decide) ?_
    refine v_icmp_ne C 43 d_M_undo_18 (by decide) (fun c_18 => ?_) (fun c_18 => ?_)
    · exact v_vret C d_M_undo_43 (by first | exact Nat.le_of_ble_eq_true rfl | (show _ ≤ _; omega)) (by first | exact Nat.le_of_ble_eq_true rfl | (show _ ≤ _; omega)) ⟨rfl, (by rw [zundo_n (fun z => by rcases z with z | z; exact c_7 z; exact c_18 z)]; exact hR), hk⟩
    · refine v_aload_n C 0 d_M_undo_21 rfl rfl ?_
      refine v_get C k_M hR.1 21 (by decide) tw_504 (fun _ h => h) rfl d_M_undo_22 ?_
      refine v_aload_n C 0 d_M_undo_25 rfl rfl ?_
      refine v_aload_n C 0 d_M_undo_26 rfl rfl ?_
      refine v_get C k_M hR.1 10 (by decide) tw_493 (fun _ h => h) rfl d_M_undo_27 ?_
      refine v_iload_n C 1 d_M_undo_30 rfl rfl ?_
      refine v_ialdN C (hR.oi (f := 10) (by decide)) (by show _ < 201; omega) (by decide) d_M_undo_31 ?_
      refine v_aload_n C 0 d_M_undo_32 rfl rfl ?_
      refine v_get C k_M hR.1 11 (by decide) tw_494 (fun _ h => h) rfl d_M_undo_33 ?_
      refine v_iload_n C 1 d_M_undo_36 rfl rfl ?_
      refine v_ialdN C (hR.oi (f := 11) (by decide)) (by show _ < 201; omega) (by decide) d_M_undo_37 ?_
      refine v_callV (rest := [.ref (ad 21)]) C (c_M_pairOf l G v o ad S (zi S 10 n) (zi S 11 n) hR (by omega)) tw_623 tw_34 tw_620 tw_622 tw_22 mn_M_pairOf hR.1 k_M.1 ⟨Nat.le_of_ble_eq_true rfl, Nat.le_of_ble_eq_true rfl⟩ rfl rfl (Nat.le_of_ble_eq_true rfl) d_M_undo_38 ⟨(by first | exact Nat.le_of_ble_eq_true rfl | (show _ ≤ _; omega)), (by first | exact Nat.le_of_ble_eq_true rfl | (show _ ≤ _; omega))⟩ (fun r_5 v_6 hp_7 => ?_)
      obtain ⟨rfl, hv9⟩ := hp_7
      obtain rfl := hv9.symm
      rcases hpr : zpf S (zi S 10 n) (zi S 11 n) (zc S 2) with _ | pk
      · show vV _ _ _ _ _ _ _ _ _ _ _ _ _ v 0 0 41 [(0, .ref o), (1, .int (nI n))] [.int (-1), .ref (ad 21)]
        obtain ⟨jj, hj⟩ := hE (Or.inr c_18)
        rw [hj] at hpr
        cases hpr
      · have hpl := zpf_lt hpr
        show vV _ _ _ _ _ _ _ _ _ _ _ _ _ v 0 0 41 [(0, .ref o), (1, .int (nI n))] [.int (nI pk), .ref (ad 21)]
        refine v_iconst (x := 0) C d_M_undo_41 (by decide) ?_
        refine v_zastN C (hR.oz (f := 21) (by decide)) (by show _ < 60; omega) (by decide) d_M_undo_42 ?_
        refine v_view (fun v2 ev2 => ?_)
        obtain ⟨S_8, eS_8⟩ : ∃ z, z = zui S 21 pk 0 := ⟨_, rfl⟩
        have hR_8 : RM G v2 o ad S_8 := by rw [eS_8]; exact (by rw [ev2]; exact hR.putz 21 (by decide) pk 0 0 (by decide))
        have hk_8 : vkeep (mX o ad) v v2 := by rw [ev2]; exact hk.up (mX_f (by decide))
        exact v_vret C d_M_undo_43 (by first | exact Nat.le_of_ble_eq_true rfl | (show _ ≤ _; omega)) (by first | exact Nat.le_of_ble_eq_true rfl | (show _ ≤ _; omega)) ⟨rfl, (by rw [zundo_s (Or.inr c_18) hpr]; subst eS_8; exact hR_8), hk_8⟩
set_option maxHeartbeats 4000000 in
set_option maxRecDepth 100000 in
theorem c_M_correct (l : Launch) (G : vv_G) (v : vv_V) (o : Nat) (ad : Nat → Nat) (S : zS) (x : Int32) (t : Int64) (hR : RM G v o ad S) (hB : zc S 0 ≤ 40 ∧ zc S 1 ≤ 200 ∧ zc S 2 ≤ 60) (hB2 : zB2 S) (hB5 : zB5 S) : Mv l y_M_correct b_M_correct 5 (some FieldType.int) 2 47 G v [.ref o, .int x, .long t] (fun r v' => r = some (.int (oCorr S x t).1) ∧ RM G v' o ad (oCorr S x t).2 ∧ vkeep (mX o ad) v v') 0 0 := by
  refine vv_metF (own := "CustomerNoticesModel") (nm := "correct") pf_M_correct rfl rfl (Nat.le_of_ble_eq_true rfl) ?_
  intro p e s m below meth c C hin
  have hk : vkeep (mX o ad) v v := vkeep.rf
  have hBp := hB.2.2
  show vV _ _ _ _ _ _ _ _ _ _ _ _ _ v 0 0 0 [(0, .ref o), (1, .int x), (2, .long t)] []
  refine v_iload_n C 1 d_M_correct_0 rfl rfl ?_
  refine v_i2l (y := (Int32.toInt64 x)) C d_M_correct_1 rfl ?_
  refine v_lconst (x := 1) C d_M_correct_2 (by decide) ?_
  refine v_aload_n C 0 d_M_correct_3 rfl rfl ?_
  refine v_get C k_M hR.1 9 (by decide) tw_492 (fun _ h => h) rfl d_M_correct_4 ?_
  refine v_i2l (y := (Int32.toInt64 (nI (zc S 1)))) C d_M_correct_7 rfl ?_
  refine v_callS (rest := []) C (c_M_isIn l G v (Int32.toInt64 x) 1 (Int32.toInt64 (nI (zc S 1)))) tw_588 tw_34 tw_586 tw_587 mn_M_isIn ⟨Nat.le_of_ble_eq_true rfl, Nat.le_of_ble_eq_true rfl⟩ rfl rfl (Nat.le_of_ble_eq_true rfl) d_M_correct_8 ⟨(by first | exact Nat.le_of_ble_eq_true rfl | (show _ ≤ _; omega)), (by first | exact Nat.le_of_ble_eq_true rfl | (show _ ≤ _; omega))⟩ (fun r_1 v_2 hp_3 => ?_)
  rcases hp_3 with ⟨rfl, hv9, hb_8⟩ | ⟨rfl, hv9, hb_8⟩
  · obtain rfl := hv9.symm
    show vV _ _ _ _ _ _ _ _ _ _ _ _ _ v 0 0 11 [(0, .ref o), (1, .int x), (2, .long t)] [.int 1]
    refine v_if_ne C 17 d_M_correct_11 (by decide) (fun _ => ?_) (fun z => absurd z (by decide))
    refine v_aload_n C 0 d_M_correct_17 rfl rfl ?_
    refine v_lload_n C 2 d_M_correct_18 rfl rfl ?_
    refine v_callV (rest := []) C (c_M_isTime l G v o ad S t hR) tw_618 tw_34 tw_615 tw_617 tw_21 mn_M_isTime hR.1 k_M.1 ⟨Nat.le_of_ble_eq_true rfl, Nat.le_of_ble_eq_true rfl⟩ rfl rfl (Nat.le_of_ble_eq_true rfl) d_M_correct_19 ⟨(by first | exact Nat.le_of_ble_eq_true rfl | (show _ ≤ _; omega)), (by first | exact Nat.le_of_ble_eq_true rfl | (show _ ≤ _; omega))⟩ (fun r_4 v_5 hp_6 => ?_)
    rcases hp_6 with ⟨rfl, hv9, hb_19⟩ | ⟨rfl, hv9, hb_19⟩
    · obtain rfl := hv9.symm
      show vV _ _ _ _ _ _ _ _ _ _ _ _ _ v 0 0 22 [(0, .ref o), (1, .int x), (2, .long t)] [.int 1]
      refine v_if_ne C 28 d_M_correct_22 (by decide) (fun _ => ?_) (fun z => absurd z (by decide))
      rw [i64_toInt, i64_toInt, nI_toInt (by omega)] at hb_8
      have hx0 : zIn x 1 (zc S 1) := hb_8
      obtain ⟨n, rfl, hn1, hn2, hn3⟩ := zIn_nI (a := 1) (b := zc S 1) hx0
      obtain ⟨cn, kd, e10, hc1, hc2, e12, hk7⟩ := hB2 n hn1 hn2
      have e13 : zn (zi S 10 n) = cn := by rw [e10]; exact zn_nI (by omega)
      have e14 : zn (zi S 12 n) = kd := by rw [e12]; exact zn_nI (by omega)
      refine v_aload_n C 0 d_M_correct_28 rfl rfl ?_
      refine v_get C k_M hR.1 15 (by decide) tw_498 (fun _ h => h) rfl d_M_correct_29 ?_
      refine v_iload_n C 1 d_M_correct_32 rfl rfl ?_
      refine v_ialdN C (hR.oi (f := 15) (by decide)) (by show _ < 201; omega) (by decide) d_M_correct_33 ?_
      refine v_iconst (x := 2) C d_M_correct_34 (by decide) ?_
      refine v_icmp_eq C 66 d_M_correct_35 (by decide) (fun c_35 => ?_) (fun c_35 => ?_)
      · refine v_bipush (x := -13) C d_M_correct_66 (by decide) ?_
        exact v_iret C d_M_correct_68 (by first | exact Nat.le_of_ble_eq_true rfl | (show _ ≤ _; omega)) (by first | exact Nat.le_of_ble_eq_true rfl | (show _ ≤ _; omega)) ⟨(by  rw [oCorr, zn_nI hn3, if_pos hx0, if_pos hb_19, if_pos (Or.inl c_35)] <;> (try rfl)), (by  rw [oCorr, zn_nI hn3, if_pos hx0, if_pos hb_19, if_pos (Or.inl c_35)]; exact hR), hk⟩
      · refine v_aload_n C 0 d_M_correct_38 rfl rfl ?_
        refine v_get C k_M hR.1 15 (by decide) tw_498 (fun _ h => h) rfl d_M_correct_39 ?_
        refine v_iload_n C 1 d_M_correct_42 rfl rfl ?_
        refine v_ialdN C (hR.oi (f := 15) (by decide)) (by show _ < 201; omega) (by decide) d_M_correct_43 ?_
        refine v_iconst (x := 3) C d_M_correct_44 (by decide) ?_
        refine v_icmp_eq C 66 d_M_correct_45 (by decide) (fun c_45 => ?_) (fun c_45 => ?_)
        · refine v_bipush (x := -13) C d_M_correct_66 (by decide) ?_
          exact v_iret C d_M_correct_68 (by first | exact Nat.le_of_ble_eq_true rfl | (show _ ≤ _; omega)) (by first | exact Nat.le_of_ble_eq_true rfl | (show _ ≤ _; omega)) ⟨(by  rw [oCorr, zn_nI hn3, if_pos hx0, if_pos hb_19, if_pos (Or.inr (Or.inl c_45))] <;> (try rfl)), (by  rw [oCorr, zn_nI hn3, if_pos hx0, if_pos hb_19, if_pos (Or.inr (Or.inl c_45))]; exact hR), hk⟩
        · refine v_aload_n C 0 d_M_correct_48 rfl rfl ?_
          refine v_get C k_M hR.1 17 (by decide) tw_500 (fun _ h => h) rfl d_M_correct_49 ?_
          refine v_iload_n C 1 d_M_correct_52 rfl rfl ?_
          refine v_zaldN C (hR.oz (f := 17) (by decide)) (by show _ < 201; omega) (by decide) d_M_correct_53 ?_
          refine v_if_ne C 66 d_M_correct_54 (by decide) (fun c_54 => ?_) (fun c_54 => ?_)
          · refine v_bipush (x := -13) C d_M_correct_66 (by decide) ?_
            exact v_iret C d_M_correct_68 (by first | exact Nat.le_of_ble_eq_true rfl | (show _ ≤ _; omega)) (by first | exact Nat.le_of_ble_eq_true rfl | (show _ ≤ _; omega)) ⟨(by  rw [oCorr, zn_nI hn3, if_pos hx0, if_pos hb_19, if_pos (Or.inr (Or.inr (Or.inl c_54)))] <;> (try rfl)), (by  rw [oCorr, zn_nI hn3, if_pos hx0, if_pos hb_19, if_pos (Or.inr (Or.inr (Or.inl c_54)))]; exact hR), hk⟩
          · refine v_aload_n C 0 d_M_correct_57 rfl rfl ?_
            refine v_get C k_M hR.1 16 (by decide) tw_499 (fun _ h => h) rfl d_M_correct_58 ?_
            refine v_iload_n C 1 d_M_correct_61 rfl rfl ?_
            refine v_zaldN C (hR.oz (f := 16) (by decide)) (by show _ < 201; omega) (by decide) d_M_correct_62 ?_
            refine v_if_eq C 69 d_M_correct_63 (by decide) (fun c_63 => ?_) (fun c_63 => ?_)
            · refine v_aload_n C 0 d_M_correct_69 rfl rfl ?_
              refine v_get C k_M hR.1 15 (by decide) tw_498 (fun _ h => h) rfl d_M_correct_70 ?_
              refine v_iload_n C 1 d_M_correct_73 rfl rfl ?_
              refine v_ialdN C (hR.oi (f := 15) (by decide)) (by show _ < 201; omega) (by decide) d_M_correct_74 ?_
              refine v_if_ne C 92 d_M_correct_75 (by decide) (fun c_75 => ?_) (fun c_75 => ?_)
              · refine v_aload_n C 0 d_M_correct_92 rfl rfl ?_
                refine v_aload_n C 0 d_M_correct_93 rfl rfl ?_
                refine v_get C k_M hR.1 10 (by decide) tw_493 (fun _ h => h) rfl d_M_correct_94 ?_
                refine v_iload_n C 1 d_M_correct_97 rfl rfl ?_
                refine v_ialdN C (hR.oi (f := 10) (by decide)) (by show _ < 201; omega) (by decide) d_M_correct_98 ?_
                refine v_toi (y := (nI cn)) e10 ?_
                refine v_aload_n C 0 d_M_correct_99 rfl rfl ?_
                refine v_get C k_M hR.1 12 (by decide) tw_495 (fun _ h => h) rfl d_M_correct_100 ?_
                refine v_iload_n C 1 d_M_correct_103 rfl rfl ?_
                refine v_ialdN C (hR.oi (f := 12) (by decide)) (by show _ < 201; omega) (by decide) d_M_correct_104 ?_
                refine v_toi (y := (nI kd)) e12 ?_
                have hwl_105 := zwn_le S (32 * cn + 4 * kd) 4
                refine v_callV (rest := []) C (c_M_wished l G v o ad S cn kd hR (by omega) (by omega)) tw_604 tw_34 tw_601 tw_603 tw_20 mn_M_wished hR.1 k_M.1 ⟨Nat.le_of_ble_eq_true rfl, Nat.le_of_ble_eq_true rfl⟩ rfl rfl (Nat.le_of_ble_eq_true rfl) d_M_correct_105 ⟨(by first | exact Nat.le_of_ble_eq_true rfl | (show _ ≤ _; omega)), (by first | exact Nat.le_of_ble_eq_true rfl | (show _ ≤ _; omega))⟩ (fun r_7 v_8 hp_9 => ?_)
                obtain ⟨rfl, hv9⟩ := hp_9
                obtain rfl := hv9.symm
                show vV _ _ _ _ _ _ _ _ _ _ _ _ _ v 0 0 108 [(0, .ref o), (1, .int (nI n)), (2, .long t)] [.int (nI (zwn S (32 * cn + 4 * kd) 4))]
                refine v_if_le C 115 d_M_correct_108 (by decide) (fun c_108 => ?_) (fun c_108 => ?_)
                · have n_108 : (zwn S (32 * cn + 4 * kd) 4) ≤ 0 := (nI_leI (a := (zwn S (32 * cn + 4 * kd) 4)) (b := 0) (by omega) (by omega)).mp c_108
                  refine v_iconst (x := 0) C d_M_correct_115 (by decide) ?_
                  refine v_istore (lv' := [(4, .int 0), (0, .ref o), (1, .int (nI n)), (2, .long t)]) C d_M_correct_116 (by decide) rfl ?_
                  refine v_iload C 0 d_M_correct_118 rfl ?_
                  refine v_if_eq C 136 d_M_correct_120 (by decide) (fun _ => ?_) (fun z => absurd (by decide) z)
                  refine v_aload_n C 1 d_M_correct_136 rfl rfl ?_
                  refine v_get C k_M hR.1 17 (by decide) tw_500 (fun _ h => h) rfl d_M_correct_137 ?_
                  refine v_iload_n C 2 d_M_correct_140 rfl rfl ?_
                  refine v_iconst (x := 1) C d_M_correct_141 (by decide) ?_
                  refine v_zastN C (hR.oz (f := 17) (by decide)) (by show _ < 201; omega) (by decide) d_M_correct_142 ?_
                  refine v_view (fun v1 ev1 => ?_)
                  obtain ⟨S_10, eS_10⟩ : ∃ z, z = zui S 17 n 1 := ⟨_, rfl⟩
                  have hR_10 : RM G v1 o ad S_10 := by rw [eS_10]; exact (by rw [ev1]; exact hR.putz 17 (by decide) n 1 1 (by decide))
                  have hk_10 : vkeep (mX o ad) v v1 := by rw [ev1]; exact hk.up (mX_f (by decide))
                  refine v_aload_n C 1 d_M_correct_143 rfl rfl ?_
                  refine v_iload_n C 2 d_M_correct_144 rfl rfl ?_
                  refine v_callV (rest := []) C (c_M_undo l G v1 o ad S_10 n hR_10 (by omega) (by rw [eS_10]; exact hBp) (by rw [eS_10]; intro h; obtain ⟨j, hj⟩ := hB5 n hn1 hn2 h; exact ⟨j, (zpf_ui (by decide) (by decide)).trans hj⟩)) tw_680 tw_34 tw_677 tw_679 tw_28 mn_M_undo hR_10.1 k_M.1 ⟨Nat.le_of_ble_eq_true rfl, Nat.le_of_ble_eq_true rfl⟩ rfl rfl (Nat.le_of_ble_eq_true rfl) d_M_correct_145 ⟨(by first | exact Nat.le_of_ble_eq_true rfl | (show _ ≤ _; omega)), (by first | exact Nat.le_of_ble_eq_true rfl | (show _ ≤ _; omega))⟩ (fun r_11 v_12 hp_13 => ?_)
                  obtain ⟨rfl, hRc_hp_13, hkc_hp_13⟩ := hp_13
                  obtain ⟨S_14, eS_14⟩ : ∃ z, z = zundo S_10 n := ⟨_, rfl⟩
                  have hR_14 : RM G v_12 o ad S_14 := by rw [eS_14]; exact hRc_hp_13
                  have hk_14 : vkeep (mX o ad) v v_12 := hk_10.tr hkc_hp_13
                  show vV _ _ _ _ _ _ _ _ _ _ _ _ _ v_12 0 0 148 [(4, .int 0), (0, .ref o), (1, .int (nI n)), (2, .long t)] []
                  have hc1 : zc S_14 1 = zc S 1 := by rw [eS_14, zundo_c, eS_10]; rfl
                  refine v_iload C 0 d_M_correct_148 rfl ?_
                  refine v_if_eq C 183 d_M_correct_150 (by decide) (fun _ => ?_) (fun z => absurd (by decide) z)
                  refine v_iconst (x := 0) C d_M_correct_183 (by decide) ?_
                  exact v_iret C d_M_correct_184 (by first | exact Nat.le_of_ble_eq_true rfl | (show _ ≤ _; omega)) (by first | exact Nat.le_of_ble_eq_true rfl | (show _ ≤ _; omega)) ⟨(by  rw [oCorr, zn_nI hn3, if_pos hx0, if_pos hb_19, if_neg (by intro z; rcases z with z | z | z | z; exact c_35 z; exact c_45 z; exact z c_54; exact z c_63), if_neg c_75, e13, e14, if_neg (by intro z; first | exact n_130 z.2 | (have z1 := z.1; omega)), if_neg (by omega)] <;> (try rfl)), (by  rw [oCorr, zn_nI hn3, if_pos hx0, if_pos hb_19, if_neg (by intro z; rcases z with z | z | z | z; exact c_35 z; exact c_45 z; exact z c_54; exact z c_63), if_neg c_75, e13, e14, if_neg (by intro z; first | exact n_130 z.2 | (have z1 := z.1; omega)), if_neg (by omega)]; subst eS_10 eS_14; exact hR_14), hk_14⟩
                · have n_108 : ¬ (zwn S (32 * cn + 4 * kd) 4) ≤ 0 := mt (nI_leI (a := (zwn S (32 * cn + 4 * kd) 4)) (b := 0) (by omega) (by omega)).mpr c_108
                  refine v_iconst (x := 1) C d_M_correct_111 (by decide) ?_
                  refine v_goto C 116 d_M_correct_112 (by decide) ?_
                  refine v_istore (lv' := [(4, .int 1), (0, .ref o), (1, .int (nI n)), (2, .long t)]) C d_M_correct_116 (by decide) rfl ?_
                  refine v_iload C 0 d_M_correct_118 rfl ?_
                  refine v_if_eq C 136 d_M_correct_120 (by decide) (fun z => absurd z (by decide)) (fun _ => ?_)
                  refine v_aload_n C 1 d_M_correct_123 rfl rfl ?_
                  refine v_get C k_M hR.1 9 (by decide) tw_492 (fun _ h => h) rfl d_M_correct_124 ?_
                  refine v_sipush (x := 200) C d_M_correct_127 (by decide) ?_
                  refine v_icmp_ne C 136 d_M_correct_130 (by decide) (fun c_130 => ?_) (fun c_130 => ?_)
                  · have n_130 : ¬ (zc S 1) = 200 := mt (nI_eq (a := (zc S 1)) (b := 200) (by omega) (by omega)).mpr c_130
                    refine v_aload_n C 1 d_M_correct_136 rfl rfl ?_
                    refine v_get C k_M hR.1 17 (by decide) tw_500 (fun _ h => h) rfl d_M_correct_137 ?_
                    refine v_iload_n C 2 d_M_correct_140 rfl rfl ?_
                    refine v_iconst (x := 1) C d_M_correct_141 (by decide) ?_
                    refine v_zastN C (hR.oz (f := 17) (by decide)) (by show _ < 201; omega) (by decide) d_M_correct_142 ?_
                    refine v_view (fun v2 ev2 => ?_)
                    obtain ⟨S_15, eS_15⟩ : ∃ z, z = zui S 17 n 1 := ⟨_, rfl⟩
                    have hR_15 : RM G v2 o ad S_15 := by rw [eS_15]; exact (by rw [ev2]; exact hR.putz 17 (by decide) n 1 1 (by decide))
                    have hk_15 : vkeep (mX o ad) v v2 := by rw [ev2]; exact hk.up (mX_f (by decide))
                    refine v_aload_n C 1 d_M_correct_143 rfl rfl ?_
                    refine v_iload_n C 2 d_M_correct_144 rfl rfl ?_
                    refine v_callV (rest := []) C (c_M_undo l G v2 o ad S_15 n hR_15 (by omega) (by rw [eS_15]; exact hBp) (by rw [eS_15]; intro h; obtain ⟨j, hj⟩ := hB5 n hn1 hn2 h; exact ⟨j, (zpf_ui (by decide) (by decide)).trans hj⟩)) tw_680 tw_34 tw_677 tw_679 tw_28 mn_M_undo hR_15.1 k_M.1 ⟨Nat.le_of_ble_eq_true rfl, Nat.le_of_ble_eq_true rfl⟩ rfl rfl (Nat.le_of_ble_eq_true rfl) d_M_correct_145 ⟨(by first | exact Nat.le_of_ble_eq_true rfl | (show _ ≤ _; omega)), (by first | exact Nat.le_of_ble_eq_true rfl | (show _ ≤ _; omega))⟩ (fun r_16 v_17 hp_18 => ?_)
                    obtain ⟨rfl, hRc_hp_18, hkc_hp_18⟩ := hp_18
                    obtain ⟨S_19, eS_19⟩ : ∃ z, z = zundo S_15 n := ⟨_, rfl⟩
                    have hR_19 : RM G v_17 o ad S_19 := by rw [eS_19]; exact hRc_hp_18
                    have hk_19 : vkeep (mX o ad) v v_17 := hk_15.tr hkc_hp_18
                    show vV _ _ _ _ _ _ _ _ _ _ _ _ _ v_17 0 0 148 [(4, .int 1), (0, .ref o), (1, .int (nI n)), (2, .long t)] []
                    have hc1 : zc S_19 1 = zc S 1 := by rw [eS_19, zundo_c, eS_15]; rfl
                    refine v_iload C 0 d_M_correct_148 rfl ?_
                    refine v_if_eq C 183 d_M_correct_150 (by decide) (fun z => absurd z (by decide)) (fun _ => ?_)
                    refine v_aload_n C 1 d_M_correct_153 rfl rfl ?_
                    refine v_aload_n C 1 d_M_correct_154 rfl rfl ?_
                    refine v_get C k_M hR_19.1 10 (by decide) tw_493 (fun _ h => h) rfl d_M_correct_155 ?_
                    refine v_iload_n C 2 d_M_correct_158 rfl rfl ?_
                    refine v_ialdN C (hR_19.oi (f := 10) (by decide)) (by show _ < 201; omega) (by decide) d_M_correct_159 ?_
                    refine v_toi (y := (zi S 10 n)) (by rw [eS_19, zundo_i _ _ _ _ (by decide), eS_15]; rfl) ?_
                    refine v_aload_n C 1 d_M_correct_160 rfl rfl ?_
                    refine v_get C k_M hR_19.1 11 (by decide) tw_494 (fun _ h => h) rfl d_M_correct_161 ?_
                    refine v_iload_n C 2 d_M_correct_164 rfl rfl ?_
                    refine v_ialdN C (hR_19.oi (f := 11) (by decide)) (by show _ < 201; omega) (by decide) d_M_correct_165 ?_
                    refine v_toi (y := (zi S 11 n)) (by rw [eS_19, zundo_i _ _ _ _ (by decide), eS_15]; rfl) ?_
                    refine v_aload_n C 1 d_M_correct_166 rfl rfl ?_
                    refine v_get C k_M hR_19.1 12 (by decide) tw_495 (fun _ h => h) rfl d_M_correct_167 ?_
                    refine v_iload_n C 2 d_M_correct_170 rfl rfl ?_
                    refine v_ialdN C (hR_19.oi (f := 12) (by decide)) (by show _ < 201; omega) (by decide) d_M_correct_171 ?_
                    refine v_toi (y := (zi S 12 n)) (by rw [eS_19, zundo_i _ _ _ _ (by decide), eS_15]; rfl) ?_
                    refine v_lload_n C 3 d_M_correct_172 rfl rfl ?_
                    refine v_ldc2 (x := -1) C d_M_correct_173 tw_628 ?_
                    refine v_iconst (x := 1) C d_M_correct_176 (by decide) ?_
                    refine v_callV (rest := []) C (c_M_put l G v_17 o ad S_19 (zi S 10 n) (zi S 11 n) (zi S 12 n) t (-1) 1 hR_19 (by rw [hc1]; omega) (by first | exact Or.inl rfl | exact Or.inr rfl)) tw_632 tw_34 tw_629 tw_631 tw_24 mn_M_put hR_19.1 k_M.1 ⟨Nat.le_of_ble_eq_true rfl, Nat.le_of_ble_eq_true rfl⟩ rfl rfl (Nat.le_of_ble_eq_true rfl) d_M_correct_177 ⟨(by first | exact Nat.le_of_ble_eq_true rfl | (show _ ≤ _; omega)), (by first | exact Nat.le_of_ble_eq_true rfl | (show _ ≤ _; omega))⟩ (fun r_20 v_21 hp_22 => ?_)
                    obtain ⟨rfl, hRc_hp_22, hkc_hp_22⟩ := hp_22
                    obtain ⟨S_23, eS_23⟩ : ∃ z, z = zput S_19 (zi S 10 n) (zi S 11 n) (zi S 12 n) t (-1) 1 := ⟨_, rfl⟩
                    have hR_23 : RM G v_21 o ad S_23 := by rw [eS_23]; exact hRc_hp_22
                    have hk_23 : vkeep (mX o ad) v v_21 := hk_19.tr hkc_hp_22
                    show vV _ _ _ _ _ _ _ _ _ _ _ _ _ v_21 0 0 180 [(4, .int 1), (0, .ref o), (1, .int (nI n)), (2, .long t)] [.int (nI (zc S_19 1 + 1))]
                    refine v_toi (y := nI (zc S 1 + 1)) (by rw [hc1]) ?_
                    refine v_goto C 184 d_M_correct_180 (by decide) ?_
                    exact v_iret C d_M_correct_184 (by first | exact Nat.le_of_ble_eq_true rfl | (show _ ≤ _; omega)) (by first | exact Nat.le_of_ble_eq_true rfl | (show _ ≤ _; omega)) ⟨(by  rw [oCorr, zn_nI hn3, if_pos hx0, if_pos hb_19, if_neg (by intro z; rcases z with z | z | z | z; exact c_35 z; exact c_45 z; exact z c_54; exact z c_63), if_neg c_75, e13, e14, if_neg (by intro z; first | exact n_130 z.2 | (have z1 := z.1; omega)), if_pos (by omega)] <;> (try rfl)), (by  rw [oCorr, zn_nI hn3, if_pos hx0, if_pos hb_19, if_neg (by intro z; rcases z with z | z | z | z; exact c_35 z; exact c_45 z; exact z c_54; exact z c_63), if_neg c_75, e13, e14, if_neg (by intro z; first | exact n_130 z.2 | (have z1 := z.1; omega)), if_pos (by omega)]; subst eS_15 eS_19 eS_23; exact hR_23), hk_23⟩
                  · have n_130 : (zc S 1) = 200 := (nI_eq (a := (zc S 1)) (b := 200) (by omega) (by omega)).mp c_130
                    refine v_bipush (x := -14) C d_M_correct_133 (by decide) ?_
                    exact v_iret C d_M_correct_135 (by first | exact Nat.le_of_ble_eq_true rfl | (show _ ≤ _; omega)) (by first | exact Nat.le_of_ble_eq_true rfl | (show _ ≤ _; omega)) ⟨(by  rw [oCorr, zn_nI hn3, if_pos hx0, if_pos hb_19, if_neg (by intro z; rcases z with z | z | z | z; exact c_35 z; exact c_45 z; exact z c_54; exact z c_63), if_neg c_75, e13, e14, if_pos ⟨by omega, n_130⟩] <;> (try rfl)), (by  rw [oCorr, zn_nI hn3, if_pos hx0, if_pos hb_19, if_neg (by intro z; rcases z with z | z | z | z; exact c_35 z; exact c_45 z; exact z c_54; exact z c_63), if_neg c_75, e13, e14, if_pos ⟨by omega, n_130⟩]; exact hR), hk⟩
              · refine v_aload_n C 0 d_M_correct_78 rfl rfl ?_
                refine v_get C k_M hR.1 15 (by decide) tw_498 (fun _ h => h) rfl d_M_correct_79 ?_
                refine v_iload_n C 1 d_M_correct_82 rfl rfl ?_
                refine v_iconst (x := 3) C d_M_correct_83 (by decide) ?_
                refine v_iastN C (hR.oi (f := 15) (by decide)) (by show _ < 201; omega) (by decide) d_M_correct_84 ?_
                refine v_view (fun v3 ev3 => ?_)
                obtain ⟨S_24, eS_24⟩ : ∃ z, z = zui S 15 n 3 := ⟨_, rfl⟩
                have hR_24 : RM G v3 o ad S_24 := by rw [eS_24]; exact (by rw [ev3]; exact hR.puti 15 (by decide) n 3)
                have hk_24 : vkeep (mX o ad) v v3 := by rw [ev3]; exact hk.up (mX_f (by decide))
                refine v_aload_n C 0 d_M_correct_85 rfl rfl ?_
                refine v_iload_n C 1 d_M_correct_86 rfl rfl ?_
                refine v_callV (rest := []) C (c_M_undo l G v3 o ad S_24 n hR_24 (by omega) (by rw [eS_24]; exact hBp) (by rw [eS_24]; intro h; obtain ⟨j, hj⟩ := hB5 n hn1 hn2 h; exact ⟨j, (zpf_ui (by decide) (by decide)).trans hj⟩)) tw_680 tw_34 tw_677 tw_679 tw_28 mn_M_undo hR_24.1 k_M.1 ⟨Nat.le_of_ble_eq_true rfl, Nat.le_of_ble_eq_true rfl⟩ rfl rfl (Nat.le_of_ble_eq_true rfl) d_M_correct_87 ⟨(by first | exact Nat.le_of_ble_eq_true rfl | (show _ ≤ _; omega)), (by first | exact Nat.le_of_ble_eq_true rfl | (show _ ≤ _; omega))⟩ (fun r_25 v_26 hp_27 => ?_)
                obtain ⟨rfl, hRc_hp_27, hkc_hp_27⟩ := hp_27
                obtain ⟨S_28, eS_28⟩ : ∃ z, z = zundo S_24 n := ⟨_, rfl⟩
                have hR_28 : RM G v_26 o ad S_28 := by rw [eS_28]; exact hRc_hp_27
                have hk_28 : vkeep (mX o ad) v v_26 := hk_24.tr hkc_hp_27
                show vV _ _ _ _ _ _ _ _ _ _ _ _ _ v_26 0 0 90 [(0, .ref o), (1, .int (nI n)), (2, .long t)] []
                refine v_iconst (x := 0) C d_M_correct_90 (by decide) ?_
                exact v_iret C d_M_correct_91 (by first | exact Nat.le_of_ble_eq_true rfl | (show _ ≤ _; omega)) (by first | exact Nat.le_of_ble_eq_true rfl | (show _ ≤ _; omega)) ⟨(by  rw [oCorr, zn_nI hn3, if_pos hx0, if_pos hb_19, if_neg (by intro z; rcases z with z | z | z | z; exact c_35 z; exact c_45 z; exact z c_54; exact z c_63), if_pos c_75] <;> (try rfl)), (by  rw [oCorr, zn_nI hn3, if_pos hx0, if_pos hb_19, if_neg (by intro z; rcases z with z | z | z | z; exact c_35 z; exact c_45 z; exact z c_54; exact z c_63), if_pos c_75]; subst eS_24 eS_28; exact hR_28), hk_28⟩
            · refine v_bipush (x := -13) C d_M_correct_66 (by decide) ?_
              exact v_iret C d_M_correct_68 (by first | exact Nat.le_of_ble_eq_true rfl | (show _ ≤ _; omega)) (by first | exact Nat.le_of_ble_eq_true rfl | (show _ ≤ _; omega)) ⟨(by  rw [oCorr, zn_nI hn3, if_pos hx0, if_pos hb_19, if_pos (Or.inr (Or.inr (Or.inr c_63)))] <;> (try rfl)), (by  rw [oCorr, zn_nI hn3, if_pos hx0, if_pos hb_19, if_pos (Or.inr (Or.inr (Or.inr c_63)))]; exact hR), hk⟩
    · obtain rfl := hv9.symm
      show vV _ _ _ _ _ _ _ _ _ _ _ _ _ v 0 0 22 [(0, .ref o), (1, .int x), (2, .long t)] [.int 0]
      refine v_if_ne C 28 d_M_correct_22 (by decide) (fun z => absurd (by decide) z) (fun _ => ?_)
      refine v_bipush (x := -12) C d_M_correct_25 (by decide) ?_
      exact v_iret C d_M_correct_27 (by first | exact Nat.le_of_ble_eq_true rfl | (show _ ≤ _; omega)) (by first | exact Nat.le_of_ble_eq_true rfl | (show _ ≤ _; omega)) ⟨(by rw [i64_toInt, i64_toInt, nI_toInt (by omega)] at hb_8; rw [oCorr, if_pos (show zIn x 1 (zc S 1) from hb_8), if_neg hb_19] <;> (try rfl)), (by rw [i64_toInt, i64_toInt, nI_toInt (by omega)] at hb_8; rw [oCorr, if_pos (show zIn x 1 (zc S 1) from hb_8), if_neg hb_19]; exact hR), hk⟩
  · obtain rfl := hv9.symm
    show vV _ _ _ _ _ _ _ _ _ _ _ _ _ v 0 0 11 [(0, .ref o), (1, .int x), (2, .long t)] [.int 0]
    refine v_if_ne C 17 d_M_correct_11 (by decide) (fun z => absurd (by decide) z) (fun _ => ?_)
    refine v_bipush (x := -11) C d_M_correct_14 (by decide) ?_
    exact v_iret C d_M_correct_16 (by first | exact Nat.le_of_ble_eq_true rfl | (show _ ≤ _; omega)) (by first | exact Nat.le_of_ble_eq_true rfl | (show _ ≤ _; omega)) ⟨(by rw [i64_toInt, i64_toInt, nI_toInt (by omega)] at hb_8; rw [oCorr, if_neg (show ¬ zIn x 1 (zc S 1) from hb_8)] <;> (try rfl)), (by rw [i64_toInt, i64_toInt, nI_toInt (by omega)] at hb_8; rw [oCorr, if_neg (show ¬ zIn x 1 (zc S 1) from hb_8)]; exact hR), hk⟩
end
section
theorem vkeep.nu {X : Nat → Prop} {v v1 : vv_V} {k q : Nat} {e : va_E} (h : vkeep X v v1) (hf : ∀ k', v1 k' q = none) : vkeep X v (vv_up v1 k q e) := fun k' a' e' hx h' => by
  have h2 := h k' a' e' hx h'
  rw [vv_up_a _ _ _ _ (fun z => by subst z; rw [hf k'] at h2; cases h2)]
  exact h2
theorem vkeep.fr {v v1 : vv_V} {o q ko : Nat} {eo : va_E} (h : vkeep (fun a => a = o) v v1) (ho : v1 ko o = some eo) (hf : ∀ k', v1 k' q = none) (k : Nat) : v k q = none := by
  cases hv : v k q with
  | none => rfl
  | some e =>
    have hq : ¬ q = o := fun z => by subst z; rw [hf ko] at ho; cases ho
    have := h k q e hq hv
    rw [hf k] at this
    cases this
def z0 : zS := (fun _ => 0, fun _ _ => 0, fun _ _ => 0)
theorem vdom.up {v : vv_V} {L : List Nat} {k a : Nat} {e : va_E} (h : ∀ x ∈ L, ∃ (k : Nat) (e : va_E), v k x = some e) : ∀ x ∈ L, ∃ (k' : Nat) (e' : va_E), vv_up v k a e k' x = some e' := by
  intro x hx
  obtain ⟨k1, e1, h1⟩ := h x hx
  by_cases c1 : k1 = k
  · by_cases c2 : x = a
    · exact ⟨k, e, by rw [c2]; exact vv_up_s _ _ _ _⟩
    · exact ⟨k1, e1, by rw [vv_up_a _ _ _ _ c2]; exact h1⟩
  · exact ⟨k1, e1, by rw [vv_up_k _ _ _ _ c1]; exact h1⟩
theorem vdom.cons {v : vv_V} {L : List Nat} {k a : Nat} {e : va_E} (h : ∀ x ∈ L, ∃ (k : Nat) (e : va_E), v k x = some e) : ∀ x ∈ a :: L, ∃ (k' : Nat) (e' : va_E), vv_up v k a e k' x = some e' :=
  List.forall_mem_cons.mpr ⟨⟨k, e, vv_up_s _ _ _ _⟩, vdom.up h⟩
theorem vdom.new {v : vv_V} {L : List Nat} {q : Nat} (h : ∀ x ∈ L, ∃ (k : Nat) (e : va_E), v k x = some e) (hf : ∀ k, v k q = none) (hn : L.Nodup) : (q :: L).Nodup :=
  List.nodup_cons.mpr ⟨fun hq => (by obtain ⟨k, e, h1⟩ := h q hq; rw [hf k] at h1; cases h1), hn⟩
def aR : List Nat := [31, 30, 29, 27, 26, 25, 24, 22, 21, 20, 19, 17, 16, 15, 14, 13, 12, 11, 10, 8, 7, 6, 5, 4, 2]
theorem aR_in {f : Nat} (h : mA f = true) : f ∈ aR := by
  simp only [mA, mI, mZ, mL, Bool.or_eq_true, List.contains_eq_mem, List.mem_cons, List.not_mem_nil, or_false, decide_eq_true_eq] at h
  simp only [aR, List.mem_cons, List.not_mem_nil, or_false]
  omega
theorem aR_at : ∀ f ∈ aR, aR.getD (aR.idxOf f) 0 = f ∧ aR.idxOf f < 25 := by decide
theorem nodup_getD : ∀ {L : List Nat}, L.Nodup → ∀ {i j : Nat}, i < L.length → j < L.length → L.getD i 0 = L.getD j 0 → i = j
  | [], _, i, j, hi, _, _ => absurd hi (Nat.not_lt_zero _)
  | a :: L, h, i, j, hi, hj, e => by
    obtain ⟨h1, h2⟩ := List.nodup_cons.mp h
    have mem : ∀ k, k < L.length → L.getD k 0 ∈ L := fun k hk => by
      have ek : L.getD k 0 = L[k] := by simp [List.getD_eq_getElem?_getD, hk]
      rw [ek]
      exact List.getElem_mem _
    cases i with
    | zero =>
      cases j with
      | zero => rfl
      | succ j =>
        have e : a = L.getD j 0 := e
        exact absurd (e ▸ mem j (Nat.lt_of_succ_lt_succ hj)) h1
    | succ i =>
      cases j with
      | zero =>
        have e : L.getD i 0 = a := e
        exact absurd (e ▸ mem i (Nat.lt_of_succ_lt_succ hi)) h1
      | succ j =>
        have e : L.getD i 0 = L.getD j 0 := e
        rw [nodup_getD h2 (Nat.lt_of_succ_lt_succ hi) (Nat.lt_of_succ_lt_succ hj) e]
theorem aR_inj {L : List Nat} (h : L.Nodup) (hl : L.length = 25) : ∀ f g, mA f = true → mA g = true → L.getD (aR.idxOf f) 0 = L.getD (aR.idxOf g) 0 → f = g := by
  intro f g hf hg e
  obtain ⟨f1, f2⟩ := aR_at f (aR_in hf)
  obtain ⟨g1, g2⟩ := aR_at g (aR_in hg)
  have := nodup_getD h (by omega) (by omega) e
  rw [← f1, ← g1, this]
theorem aR_fr {v : vv_V} {L : List Nat} (h : ∀ x ∈ L, ∀ k, v k x = none) (hl : L.length = 25) : ∀ f, mA f = true → ∀ k, v k (L.getD (aR.idxOf f) 0) = none := by
  intro f hf
  obtain ⟨f1, f2⟩ := aR_at f (aR_in hf)
  apply h
  have hi : aR.idxOf f < L.length := by omega
  have ei : L.getD (aR.idxOf f) 0 = L[aR.idxOf f] := by simp [List.getD_eq_getElem?_getD, hi]
  rw [ei]
  exact List.getElem_mem _
end
