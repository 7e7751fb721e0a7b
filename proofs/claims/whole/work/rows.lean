section
-- ===== PART A: goes FIRST, ahead of the names: the tables' words, and 'selects' of the private methods out of them =====
/-- a private method of a class that the tables say can be made, by its rows of tables_1 -/
def lw_okq (q : MethodName × Nat) : Prop := (q.1.cls ≠ "java/lang/invoke/MethodHandle" ∧ q.1.cls ≠ "java/lang/invoke/VarHandle") ∧ Cond.instantiable q.1.cls q.2 ∈ tables_1 ∧ Cond.privateMethod q.1 ∈ tables_1 ∧ Cond.instanceMethod q.1 ∈ tables_1
theorem lw_p0 : lw_okq (⟨"java/util/ArrayList", "add", "(Ljava/lang/Object;[Ljava/lang/Object;I)V"⟩, 3) := ⟨⟨by decide +kernel, by decide +kernel⟩, List.mem_of_getElem? (i := 24) (by decide +kernel), List.mem_of_getElem? (i := 130) (by decide +kernel), List.mem_of_getElem? (i := 131) (by decide +kernel)⟩
theorem lw_p1 : lw_okq (⟨"java/util/ArrayList", "grow", "()[Ljava/lang/Object;"⟩, 3) := ⟨⟨by decide +kernel, by decide +kernel⟩, List.mem_of_getElem? (i := 24) (by decide +kernel), List.mem_of_getElem? (i := 134) (by decide +kernel), List.mem_of_getElem? (i := 135) (by decide +kernel)⟩
theorem lw_p2 : lw_okq (⟨"java/util/ArrayList", "grow", "(I)[Ljava/lang/Object;"⟩, 3) := ⟨⟨by decide +kernel, by decide +kernel⟩, List.mem_of_getElem? (i := 24) (by decide +kernel), List.mem_of_getElem? (i := 138) (by decide +kernel), List.mem_of_getElem? (i := 139) (by decide +kernel)⟩
theorem lw_p3 : lw_okq (⟨"CustomerNotices", "findCustomer", "(I)LCustomerNotices$Customer;"⟩, 8) := ⟨⟨by decide +kernel, by decide +kernel⟩, List.mem_of_getElem? (i := 16) (by decide +kernel), List.mem_of_getElem? (i := 183) (by decide +kernel), List.mem_of_getElem? (i := 184) (by decide +kernel)⟩
theorem lw_p4 : lw_okq (⟨"CustomerNotices$Customer", "orderOf", "(II)I"⟩, 8) := ⟨⟨by decide +kernel, by decide +kernel⟩, List.mem_of_getElem? (i := 90) (by decide +kernel), List.mem_of_getElem? (i := 219) (by decide +kernel), List.mem_of_getElem? (i := 220) (by decide +kernel)⟩
theorem lw_p5 : lw_okq (⟨"CustomerNotices", "isTimeFromNow", "(J)Z"⟩, 8) := ⟨⟨by decide +kernel, by decide +kernel⟩, List.mem_of_getElem? (i := 16) (by decide +kernel), List.mem_of_getElem? (i := 242) (by decide +kernel), List.mem_of_getElem? (i := 243) (by decide +kernel)⟩
theorem lw_p6 : lw_okq (⟨"CustomerNotices", "findItem", "(II)LCustomerNotices$Item;"⟩, 8) := ⟨⟨by decide +kernel, by decide +kernel⟩, List.mem_of_getElem? (i := 16) (by decide +kernel), List.mem_of_getElem? (i := 247) (by decide +kernel), List.mem_of_getElem? (i := 248) (by decide +kernel)⟩
theorem lw_p7 : lw_okq (⟨"CustomerNotices", "noticesAreFull", "()Z"⟩, 8) := ⟨⟨by decide +kernel, by decide +kernel⟩, List.mem_of_getElem? (i := 16) (by decide +kernel), List.mem_of_getElem? (i := 255) (by decide +kernel), List.mem_of_getElem? (i := 256) (by decide +kernel)⟩
theorem lw_p8 : lw_okq (⟨"CustomerNotices", "itemsAreFull", "()Z"⟩, 8) := ⟨⟨by decide +kernel, by decide +kernel⟩, List.mem_of_getElem? (i := 16) (by decide +kernel), List.mem_of_getElem? (i := 259) (by decide +kernel), List.mem_of_getElem? (i := 260) (by decide +kernel)⟩
theorem lw_p9 : lw_okq (⟨"CustomerNotices", "addItem", "(II)LCustomerNotices$Item;"⟩, 8) := ⟨⟨by decide +kernel, by decide +kernel⟩, List.mem_of_getElem? (i := 16) (by decide +kernel), List.mem_of_getElem? (i := 263) (by decide +kernel), List.mem_of_getElem? (i := 264) (by decide +kernel)⟩
theorem lw_p10 : lw_okq (⟨"CustomerNotices", "addNotice", "(LCustomerNotices$Customer;IIJ)LCustomerNotices$Notice;"⟩, 8) := ⟨⟨by decide +kernel, by decide +kernel⟩, List.mem_of_getElem? (i := 16) (by decide +kernel), List.mem_of_getElem? (i := 287) (by decide +kernel), List.mem_of_getElem? (i := 288) (by decide +kernel)⟩
theorem lw_p11 : lw_okq (⟨"CustomerNotices", "addPromise", "(LCustomerNotices$Customer;ILCustomerNotices$Item;J)I"⟩, 8) := ⟨⟨by decide +kernel, by decide +kernel⟩, List.mem_of_getElem? (i := 16) (by decide +kernel), List.mem_of_getElem? (i := 349) (by decide +kernel), List.mem_of_getElem? (i := 350) (by decide +kernel)⟩
theorem lw_p12 : lw_okq (⟨"CustomerNotices", "prepareCustomersForTick", "()V"⟩, 8) := ⟨⟨by decide +kernel, by decide +kernel⟩, List.mem_of_getElem? (i := 16) (by decide +kernel), List.mem_of_getElem? (i := 360) (by decide +kernel), List.mem_of_getElem? (i := 361) (by decide +kernel)⟩
theorem lw_p13 : lw_okq (⟨"CustomerNotices", "isDue", "(LCustomerNotices$Notice;)Z"⟩, 8) := ⟨⟨by decide +kernel, by decide +kernel⟩, List.mem_of_getElem? (i := 16) (by decide +kernel), List.mem_of_getElem? (i := 371) (by decide +kernel), List.mem_of_getElem? (i := 372) (by decide +kernel)⟩
theorem lw_p14 : lw_okq (⟨"CustomerNotices", "isHeldByQuiet", "(LCustomerNotices$Notice;)Z"⟩, 8) := ⟨⟨by decide +kernel, by decide +kernel⟩, List.mem_of_getElem? (i := 16) (by decide +kernel), List.mem_of_getElem? (i := 375) (by decide +kernel), List.mem_of_getElem? (i := 376) (by decide +kernel)⟩
theorem lw_p15 : lw_okq (⟨"CustomerNotices", "deliver", "(LCustomerNotices$Notice;)V"⟩, 8) := ⟨⟨by decide +kernel, by decide +kernel⟩, List.mem_of_getElem? (i := 16) (by decide +kernel), List.mem_of_getElem? (i := 387) (by decide +kernel), List.mem_of_getElem? (i := 388) (by decide +kernel)⟩
def lw_privs_1 : List (MethodName × Nat) := [(⟨"java/util/ArrayList", "add", "(Ljava/lang/Object;[Ljava/lang/Object;I)V"⟩, 3), (⟨"java/util/ArrayList", "grow", "()[Ljava/lang/Object;"⟩, 3), (⟨"java/util/ArrayList", "grow", "(I)[Ljava/lang/Object;"⟩, 3), (⟨"CustomerNotices", "findCustomer", "(I)LCustomerNotices$Customer;"⟩, 8), (⟨"CustomerNotices$Customer", "orderOf", "(II)I"⟩, 8), (⟨"CustomerNotices", "isTimeFromNow", "(J)Z"⟩, 8), (⟨"CustomerNotices", "findItem", "(II)LCustomerNotices$Item;"⟩, 8), (⟨"CustomerNotices", "noticesAreFull", "()Z"⟩, 8), (⟨"CustomerNotices", "itemsAreFull", "()Z"⟩, 8), (⟨"CustomerNotices", "addItem", "(II)LCustomerNotices$Item;"⟩, 8), (⟨"CustomerNotices", "addNotice", "(LCustomerNotices$Customer;IIJ)LCustomerNotices$Notice;"⟩, 8), (⟨"CustomerNotices", "addPromise", "(LCustomerNotices$Customer;ILCustomerNotices$Item;J)I"⟩, 8), (⟨"CustomerNotices", "prepareCustomersForTick", "()V"⟩, 8), (⟨"CustomerNotices", "isDue", "(LCustomerNotices$Notice;)Z"⟩, 8), (⟨"CustomerNotices", "isHeldByQuiet", "(LCustomerNotices$Notice;)Z"⟩, 8), (⟨"CustomerNotices", "deliver", "(LCustomerNotices$Notice;)V"⟩, 8)]
theorem lw_r1 : ∀ q ∈ lw_privs_1, lw_okq q := List.forall_mem_cons.mpr ⟨lw_p0, List.forall_mem_cons.mpr ⟨lw_p1, List.forall_mem_cons.mpr ⟨lw_p2, List.forall_mem_cons.mpr ⟨lw_p3, List.forall_mem_cons.mpr ⟨lw_p4, List.forall_mem_cons.mpr ⟨lw_p5, List.forall_mem_cons.mpr ⟨lw_p6, List.forall_mem_cons.mpr ⟨lw_p7, List.forall_mem_cons.mpr ⟨lw_p8, List.forall_mem_cons.mpr ⟨lw_p9, List.forall_mem_cons.mpr ⟨lw_p10, List.forall_mem_cons.mpr ⟨lw_p11, List.forall_mem_cons.mpr ⟨lw_p12, List.forall_mem_cons.mpr ⟨lw_p13, List.forall_mem_cons.mpr ⟨lw_p14, List.forall_mem_cons.mpr ⟨lw_p15, fun _ h => absurd h List.not_mem_nil⟩⟩⟩⟩⟩⟩⟩⟩⟩⟩⟩⟩⟩⟩⟩⟩
theorem lw_p16 : lw_okq (⟨"CustomerNotices", "findNotice", "(I)LCustomerNotices$Notice;"⟩, 8) := ⟨⟨by decide +kernel, by decide +kernel⟩, List.mem_of_getElem? (i := 16) (by decide +kernel), List.mem_of_getElem? (i := 428) (by decide +kernel), List.mem_of_getElem? (i := 429) (by decide +kernel)⟩
theorem lw_p17 : lw_okq (⟨"CustomerNotices", "reopenItem", "(II)V"⟩, 8) := ⟨⟨by decide +kernel, by decide +kernel⟩, List.mem_of_getElem? (i := 16) (by decide +kernel), List.mem_of_getElem? (i := 436) (by decide +kernel), List.mem_of_getElem? (i := 437) (by decide +kernel)⟩
theorem lw_p18 : lw_okq (⟨"CustomerNotices", "addCorrection", "(LCustomerNotices$Notice;J)I"⟩, 8) := ⟨⟨by decide +kernel, by decide +kernel⟩, List.mem_of_getElem? (i := 16) (by decide +kernel), List.mem_of_getElem? (i := 440) (by decide +kernel), List.mem_of_getElem? (i := 441) (by decide +kernel)⟩
theorem lw_p19 : lw_okq (⟨"CustomerNoticesModel", "isCustomer", "(I)Z"⟩, 32) := ⟨⟨by decide +kernel, by decide +kernel⟩, List.mem_of_getElem? (i := 449) (by decide +kernel), List.mem_of_getElem? (i := 567) (by decide +kernel), List.mem_of_getElem? (i := 568) (by decide +kernel)⟩
theorem lw_p20 : lw_okq (⟨"CustomerNoticesModel", "wished", "(II)I"⟩, 32) := ⟨⟨by decide +kernel, by decide +kernel⟩, List.mem_of_getElem? (i := 449) (by decide +kernel), List.mem_of_getElem? (i := 573) (by decide +kernel), List.mem_of_getElem? (i := 574) (by decide +kernel)⟩
theorem lw_p21 : lw_okq (⟨"CustomerNoticesModel", "isTime", "(J)Z"⟩, 32) := ⟨⟨by decide +kernel, by decide +kernel⟩, List.mem_of_getElem? (i := 449) (by decide +kernel), List.mem_of_getElem? (i := 587) (by decide +kernel), List.mem_of_getElem? (i := 588) (by decide +kernel)⟩
theorem lw_p22 : lw_okq (⟨"CustomerNoticesModel", "pairOf", "(II)I"⟩, 32) := ⟨⟨by decide +kernel, by decide +kernel⟩, List.mem_of_getElem? (i := 449) (by decide +kernel), List.mem_of_getElem? (i := 592) (by decide +kernel), List.mem_of_getElem? (i := 593) (by decide +kernel)⟩
theorem lw_p23 : lw_okq (⟨"CustomerNoticesModel", "keep", "(II)I"⟩, 32) := ⟨⟨by decide +kernel, by decide +kernel⟩, List.mem_of_getElem? (i := 449) (by decide +kernel), List.mem_of_getElem? (i := 596) (by decide +kernel), List.mem_of_getElem? (i := 597) (by decide +kernel)⟩
theorem lw_p24 : lw_okq (⟨"CustomerNoticesModel", "put", "(IIIJJZ)I"⟩, 32) := ⟨⟨by decide +kernel, by decide +kernel⟩, List.mem_of_getElem? (i := 449) (by decide +kernel), List.mem_of_getElem? (i := 601) (by decide +kernel), List.mem_of_getElem? (i := 602) (by decide +kernel)⟩
theorem lw_p25 : lw_okq (⟨"CustomerNoticesModel", "isDue", "(I)Z"⟩, 32) := ⟨⟨by decide +kernel, by decide +kernel⟩, List.mem_of_getElem? (i := 449) (by decide +kernel), List.mem_of_getElem? (i := 615) (by decide +kernel), List.mem_of_getElem? (i := 616) (by decide +kernel)⟩
theorem lw_p26 : lw_okq (⟨"CustomerNoticesModel", "isQuiet", "(I)Z"⟩, 32) := ⟨⟨by decide +kernel, by decide +kernel⟩, List.mem_of_getElem? (i := 449) (by decide +kernel), List.mem_of_getElem? (i := 619) (by decide +kernel), List.mem_of_getElem? (i := 620) (by decide +kernel)⟩
theorem lw_p27 : lw_okq (⟨"CustomerNoticesModel", "channelOf", "(I)I"⟩, 32) := ⟨⟨by decide +kernel, by decide +kernel⟩, List.mem_of_getElem? (i := 449) (by decide +kernel), List.mem_of_getElem? (i := 624) (by decide +kernel), List.mem_of_getElem? (i := 625) (by decide +kernel)⟩
theorem lw_p28 : lw_okq (⟨"CustomerNoticesModel", "undo", "(I)V"⟩, 32) := ⟨⟨by decide +kernel, by decide +kernel⟩, List.mem_of_getElem? (i := 449) (by decide +kernel), List.mem_of_getElem? (i := 649) (by decide +kernel), List.mem_of_getElem? (i := 650) (by decide +kernel)⟩
def lw_privs_2 : List (MethodName × Nat) := [(⟨"CustomerNotices", "findNotice", "(I)LCustomerNotices$Notice;"⟩, 8), (⟨"CustomerNotices", "reopenItem", "(II)V"⟩, 8), (⟨"CustomerNotices", "addCorrection", "(LCustomerNotices$Notice;J)I"⟩, 8), (⟨"CustomerNoticesModel", "isCustomer", "(I)Z"⟩, 32), (⟨"CustomerNoticesModel", "wished", "(II)I"⟩, 32), (⟨"CustomerNoticesModel", "isTime", "(J)Z"⟩, 32), (⟨"CustomerNoticesModel", "pairOf", "(II)I"⟩, 32), (⟨"CustomerNoticesModel", "keep", "(II)I"⟩, 32), (⟨"CustomerNoticesModel", "put", "(IIIJJZ)I"⟩, 32), (⟨"CustomerNoticesModel", "isDue", "(I)Z"⟩, 32), (⟨"CustomerNoticesModel", "isQuiet", "(I)Z"⟩, 32), (⟨"CustomerNoticesModel", "channelOf", "(I)I"⟩, 32), (⟨"CustomerNoticesModel", "undo", "(I)V"⟩, 32)]
theorem lw_r2 : ∀ q ∈ lw_privs_2, lw_okq q := List.forall_mem_cons.mpr ⟨lw_p16, List.forall_mem_cons.mpr ⟨lw_p17, List.forall_mem_cons.mpr ⟨lw_p18, List.forall_mem_cons.mpr ⟨lw_p19, List.forall_mem_cons.mpr ⟨lw_p20, List.forall_mem_cons.mpr ⟨lw_p21, List.forall_mem_cons.mpr ⟨lw_p22, List.forall_mem_cons.mpr ⟨lw_p23, List.forall_mem_cons.mpr ⟨lw_p24, List.forall_mem_cons.mpr ⟨lw_p25, List.forall_mem_cons.mpr ⟨lw_p26, List.forall_mem_cons.mpr ⟨lw_p27, List.forall_mem_cons.mpr ⟨lw_p28, fun _ h => absurd h List.not_mem_nil⟩⟩⟩⟩⟩⟩⟩⟩⟩⟩⟩⟩⟩
def lw_privs : List (MethodName × Nat) := lw_privs_1 ++ (lw_privs_2)
def lw_tbl : List Cond := k2_sels lw_privs ++ tables_1
theorem lw_privs_ok : ∀ q ∈ lw_privs, lw_okq q := by
  show ∀ q ∈ lw_privs_1 ++ (lw_privs_2), lw_okq q
  exact List.forall_mem_append.mpr ⟨lw_r1, lw_r2⟩
end
section
def y_C_init : MethodName := ⟨"CustomerNotices", "<init>", "()V"⟩
abbrev b_C_init : ByteArray := prog_1_method_1_code
def y_Oj_init : MethodName := ⟨"java/lang/Object", "<init>", "()V"⟩
abbrev b_Oj_init : ByteArray := object_method_1_code
def y_AL_init : MethodName := ⟨"java/util/ArrayList", "<init>", "()V"⟩
abbrev b_AL_init : ByteArray := prog_14_method_2_code
def y_AbL_init : MethodName := ⟨"java/util/AbstractList", "<init>", "()V"⟩
abbrev b_AbL_init : ByteArray := prog_13_method_1_code
def y_AbC_init : MethodName := ⟨"java/util/AbstractCollection", "<init>", "()V"⟩
abbrev b_AbC_init : ByteArray := prog_12_method_1_code
def y_C_customer : MethodName := ⟨"CustomerNotices", "customer", "(II)I"⟩
abbrev b_C_customer : ByteArray := prog_1_method_2_code
def y_C_isWithin : MethodName := ⟨"CustomerNotices", "isWithin", "(JJJ)Z"⟩
abbrev b_C_isWithin : ByteArray := prog_1_method_14_code
def y_AL_size : MethodName := ⟨"java/util/ArrayList", "size", "()I"⟩
abbrev b_AL_size : ByteArray := prog_14_method_8_code
def y_K_init : MethodName := ⟨"CustomerNotices$Customer", "<init>", "(III)V"⟩
abbrev b_K_init : ByteArray := prog_2_method_1_code
def y_AL_add : MethodName := ⟨"java/util/ArrayList", "add", "(Ljava/lang/Object;)Z"⟩
abbrev b_AL_add : ByteArray := prog_14_method_25_code
def y_AL_add_LObjectALObjectIV : MethodName := ⟨"java/util/ArrayList", "add", "(Ljava/lang/Object;[Ljava/lang/Object;I)V"⟩
abbrev b_AL_add_LObjectALObjectIV : ByteArray := prog_14_method_24_code
def y_AL_grow : MethodName := ⟨"java/util/ArrayList", "grow", "()[Ljava/lang/Object;"⟩
abbrev b_AL_grow : ByteArray := prog_14_method_7_code
def y_AL_grow_IALObject : MethodName := ⟨"java/util/ArrayList", "grow", "(I)[Ljava/lang/Object;"⟩
abbrev b_AL_grow_IALObject : ByteArray := prog_14_method_6_code
def y_AS_newLength : MethodName := ⟨"jdk/internal/util/ArraysSupport", "newLength", "(III)I"⟩
abbrev b_AS_newLength : ByteArray := prog_21_method_27_code
def y_Ma_max : MethodName := ⟨"java/lang/Math", "max", "(II)I"⟩
abbrev b_Ma_max : ByteArray := prog_10_method_65_code
def y_AS_hugeLength : MethodName := ⟨"jdk/internal/util/ArraysSupport", "hugeLength", "(II)I"⟩
abbrev b_AS_hugeLength : ByteArray := prog_21_method_28_code
def y_Ar_copyOf : MethodName := ⟨"java/util/Arrays", "copyOf", "([Ljava/lang/Object;I)[Ljava/lang/Object;"⟩
abbrev b_Ar_copyOf : ByteArray := prog_15_method_119_code
def y_Ar_copyOf_ALObjectILClassALObject : MethodName := ⟨"java/util/Arrays", "copyOf", "([Ljava/lang/Object;ILjava/lang/Class;)[Ljava/lang/Object;"⟩
abbrev b_Ar_copyOf_ALObjectILClassALObject : ByteArray := prog_15_method_120_code
def y_Ma_min : MethodName := ⟨"java/lang/Math", "min", "(II)I"⟩
abbrev b_Ma_min : ByteArray := prog_10_method_69_code
def y_C_wish : MethodName := ⟨"CustomerNotices", "wish", "(IIII)I"⟩
abbrev b_C_wish : ByteArray := prog_1_method_3_code
def y_C_findCustomer : MethodName := ⟨"CustomerNotices", "findCustomer", "(I)LCustomerNotices$Customer;"⟩
abbrev b_C_findCustomer : ByteArray := prog_1_method_23_code
def y_AL_get : MethodName := ⟨"java/util/ArrayList", "get", "(I)Ljava/lang/Object;"⟩
abbrev b_AL_get : ByteArray := prog_14_method_20_code
def y_Ob_checkIndex : MethodName := ⟨"java/util/Objects", "checkIndex", "(II)I"⟩
abbrev b_Ob_checkIndex : ByteArray := prog_18_method_17_code
def y_Pr_checkIndex : MethodName := ⟨"jdk/internal/util/Preconditions", "checkIndex", "(IILjava/util/function/BiFunction;)I"⟩
abbrev b_Pr_checkIndex : ByteArray := prog_22_method_11_code
def y_AL_elementData : MethodName := ⟨"java/util/ArrayList", "elementData", "(I)Ljava/lang/Object;"⟩
abbrev b_AL_elementData : ByteArray := prog_14_method_18_code
def y_C_isKind : MethodName := ⟨"CustomerNotices", "isKind", "(I)Z"⟩
abbrev b_C_isKind : ByteArray := prog_1_method_15_code
def y_C_isChannel : MethodName := ⟨"CustomerNotices", "isChannel", "(I)Z"⟩
abbrev b_C_isChannel : ByteArray := prog_1_method_17_code
def y_K_setOrder : MethodName := ⟨"CustomerNotices$Customer", "setOrder", "(III)V"⟩
abbrev b_K_setOrder : ByteArray := prog_2_method_3_code
def y_K_countWishes : MethodName := ⟨"CustomerNotices$Customer", "countWishes", "(I)I"⟩
abbrev b_K_countWishes : ByteArray := prog_2_method_5_code
def y_K_orderOf : MethodName := ⟨"CustomerNotices$Customer", "orderOf", "(II)I"⟩
abbrev b_K_orderOf : ByteArray := prog_2_method_2_code
def y_C_quiet : MethodName := ⟨"CustomerNotices", "quiet", "(III)I"⟩
abbrev b_C_quiet : ByteArray := prog_1_method_4_code
def y_C_isMinuteOfDay : MethodName := ⟨"CustomerNotices", "isMinuteOfDay", "(I)Z"⟩
abbrev b_C_isMinuteOfDay : ByteArray := prog_1_method_18_code
def y_Ma_floorMod : MethodName := ⟨"java/lang/Math", "floorMod", "(II)I"⟩
abbrev b_Ma_floorMod : ByteArray := prog_10_method_50_code
def y_C_event : MethodName := ⟨"CustomerNotices", "event", "(IIIJ)I"⟩
abbrev b_C_event : ByteArray := prog_1_method_5_code
def y_C_isItemNumber : MethodName := ⟨"CustomerNotices", "isItemNumber", "(I)Z"⟩
abbrev b_C_isItemNumber : ByteArray := prog_1_method_19_code
def y_C_isTimeFromNow : MethodName := ⟨"CustomerNotices", "isTimeFromNow", "(J)Z"⟩
abbrev b_C_isTimeFromNow : ByteArray := prog_1_method_20_code
def y_C_findItem : MethodName := ⟨"CustomerNotices", "findItem", "(II)LCustomerNotices$Item;"⟩
abbrev b_C_findItem : ByteArray := prog_1_method_25_code
def y_C_isEnd : MethodName := ⟨"CustomerNotices", "isEnd", "(I)Z"⟩
abbrev b_C_isEnd : ByteArray := prog_1_method_16_code
def y_C_noticesAreFull : MethodName := ⟨"CustomerNotices", "noticesAreFull", "()Z"⟩
abbrev b_C_noticesAreFull : ByteArray := prog_1_method_21_code
def y_C_itemsAreFull : MethodName := ⟨"CustomerNotices", "itemsAreFull", "()Z"⟩
abbrev b_C_itemsAreFull : ByteArray := prog_1_method_22_code
def y_C_addItem : MethodName := ⟨"CustomerNotices", "addItem", "(II)LCustomerNotices$Item;"⟩
abbrev b_C_addItem : ByteArray := prog_1_method_26_code
def y_I_init : MethodName := ⟨"CustomerNotices$Item", "<init>", "(II)V"⟩
abbrev b_I_init : ByteArray := prog_3_method_1_code
def y_C_addNotice : MethodName := ⟨"CustomerNotices", "addNotice", "(LCustomerNotices$Customer;IIJ)LCustomerNotices$Notice;"⟩
abbrev b_C_addNotice : ByteArray := prog_1_method_28_code
def y_N_init : MethodName := ⟨"CustomerNotices$Notice", "<init>", "(ILCustomerNotices$Customer;IIJ)V"⟩
abbrev b_N_init : ByteArray := prog_4_method_1_code
def y_C_promise : MethodName := ⟨"CustomerNotices", "promise", "(IIJJ)I"⟩
abbrev b_C_promise : ByteArray := prog_1_method_6_code
def y_C_addPromise : MethodName := ⟨"CustomerNotices", "addPromise", "(LCustomerNotices$Customer;ILCustomerNotices$Item;J)I"⟩
abbrev b_C_addPromise : ByteArray := prog_1_method_29_code
def y_Ma_abs : MethodName := ⟨"java/lang/Math", "abs", "(J)J"⟩
abbrev b_Ma_abs : ByteArray := prog_10_method_61_code
def y_C_tick : MethodName := ⟨"CustomerNotices", "tick", "(J)I"⟩
abbrev b_C_tick : ByteArray := prog_1_method_7_code
def y_C_prepareCustomersForTick : MethodName := ⟨"CustomerNotices", "prepareCustomersForTick", "()V"⟩
abbrev b_C_prepareCustomersForTick : ByteArray := prog_1_method_31_code
def y_N_isMarked : MethodName := ⟨"CustomerNotices$Notice", "isMarked", "()Z"⟩
abbrev b_N_isMarked : ByteArray := prog_4_method_2_code
def y_Ma_min_JJJ : MethodName := ⟨"java/lang/Math", "min", "(JJ)J"⟩
abbrev b_Ma_min_JJJ : ByteArray := prog_10_method_70_code
def y_C_isDue : MethodName := ⟨"CustomerNotices", "isDue", "(LCustomerNotices$Notice;)Z"⟩
abbrev b_C_isDue : ByteArray := prog_1_method_32_code
def y_C_isHeldByQuiet : MethodName := ⟨"CustomerNotices", "isHeldByQuiet", "(LCustomerNotices$Notice;)Z"⟩
abbrev b_C_isHeldByQuiet : ByteArray := prog_1_method_33_code
def y_K_isQuietAt : MethodName := ⟨"CustomerNotices$Customer", "isQuietAt", "(J)Z"⟩
abbrev b_K_isQuietAt : ByteArray := prog_2_method_7_code
def y_Ma_floorMod_JJJ : MethodName := ⟨"java/lang/Math", "floorMod", "(JJ)J"⟩
abbrev b_Ma_floorMod_JJJ : ByteArray := prog_10_method_52_code
def y_C_deliver : MethodName := ⟨"CustomerNotices", "deliver", "(LCustomerNotices$Notice;)V"⟩
abbrev b_C_deliver : ByteArray := prog_1_method_34_code
def y_K_firstWorkingChannel : MethodName := ⟨"CustomerNotices$Customer", "firstWorkingChannel", "(I[Z)I"⟩
abbrev b_K_firstWorkingChannel : ByteArray := prog_2_method_6_code
def y_C_sent : MethodName := ⟨"CustomerNotices", "sent", "(II)I"⟩
abbrev b_C_sent : ByteArray := prog_1_method_8_code
def y_C_detail : MethodName := ⟨"CustomerNotices", "detail", "(LCustomerNotices$Notice;I)I"⟩
abbrev b_C_detail : ByteArray := prog_1_method_35_code
def y_N_text : MethodName := ⟨"CustomerNotices$Notice", "text", "()I"⟩
abbrev b_N_text : ByteArray := prog_4_method_4_code
def y_C_works : MethodName := ⟨"CustomerNotices", "works", "(IZ)Z"⟩
abbrev b_C_works : ByteArray := prog_1_method_9_code
def y_C_out : MethodName := ⟨"CustomerNotices", "out", "(II)I"⟩
abbrev b_C_out : ByteArray := prog_1_method_10_code
def y_K_clearWishes : MethodName := ⟨"CustomerNotices$Customer", "clearWishes", "(I)V"⟩
abbrev b_K_clearWishes : ByteArray := prog_2_method_4_code
def y_C_failed : MethodName := ⟨"CustomerNotices", "failed", "(I)I"⟩
abbrev b_C_failed : ByteArray := prog_1_method_11_code
def y_C_correct : MethodName := ⟨"CustomerNotices", "correct", "(IJ)I"⟩
abbrev b_C_correct : ByteArray := prog_1_method_12_code
def y_C_findNotice : MethodName := ⟨"CustomerNotices", "findNotice", "(I)LCustomerNotices$Notice;"⟩
abbrev b_C_findNotice : ByteArray := prog_1_method_24_code
def y_N_canBeCorrected : MethodName := ⟨"CustomerNotices$Notice", "canBeCorrected", "()Z"⟩
abbrev b_N_canBeCorrected : ByteArray := prog_4_method_3_code
def y_C_reopenItem : MethodName := ⟨"CustomerNotices", "reopenItem", "(II)V"⟩
abbrev b_C_reopenItem : ByteArray := prog_1_method_27_code
def y_C_addCorrection : MethodName := ⟨"CustomerNotices", "addCorrection", "(LCustomerNotices$Notice;J)I"⟩
abbrev b_C_addCorrection : ByteArray := prog_1_method_30_code
def y_C_join : MethodName := ⟨"CustomerNotices", "join", "(I)I"⟩
abbrev b_C_join : ByteArray := prog_1_method_13_code
def y_M_init : MethodName := ⟨"CustomerNoticesModel", "<init>", "()V"⟩
abbrev b_M_init : ByteArray := prog_6_method_1_code
def y_M_customer : MethodName := ⟨"CustomerNoticesModel", "customer", "(II)I"⟩
abbrev b_M_customer : ByteArray := prog_6_method_6_code
def y_M_isIn : MethodName := ⟨"CustomerNoticesModel", "isIn", "(JJJ)Z"⟩
abbrev b_M_isIn : ByteArray := prog_6_method_3_code
def y_M_wish : MethodName := ⟨"CustomerNoticesModel", "wish", "(IIII)I"⟩
abbrev b_M_wish : ByteArray := prog_6_method_8_code
def y_M_isCustomer : MethodName := ⟨"CustomerNoticesModel", "isCustomer", "(I)Z"⟩
abbrev b_M_isCustomer : ByteArray := prog_6_method_4_code
def y_M_wished : MethodName := ⟨"CustomerNoticesModel", "wished", "(II)I"⟩
abbrev b_M_wished : ByteArray := prog_6_method_7_code
def y_M_quiet : MethodName := ⟨"CustomerNoticesModel", "quiet", "(III)I"⟩
abbrev b_M_quiet : ByteArray := prog_6_method_9_code
def y_M_event : MethodName := ⟨"CustomerNoticesModel", "event", "(IIIJ)I"⟩
abbrev b_M_event : ByteArray := prog_6_method_14_code
def y_M_isTime : MethodName := ⟨"CustomerNoticesModel", "isTime", "(J)Z"⟩
abbrev b_M_isTime : ByteArray := prog_6_method_5_code
def y_M_pairOf : MethodName := ⟨"CustomerNoticesModel", "pairOf", "(II)I"⟩
abbrev b_M_pairOf : ByteArray := prog_6_method_11_code
def y_M_keep : MethodName := ⟨"CustomerNoticesModel", "keep", "(II)I"⟩
abbrev b_M_keep : ByteArray := prog_6_method_12_code
def y_M_put : MethodName := ⟨"CustomerNoticesModel", "put", "(IIIJJZ)I"⟩
abbrev b_M_put : ByteArray := prog_6_method_13_code
def y_M_promise : MethodName := ⟨"CustomerNoticesModel", "promise", "(IIJJ)I"⟩
abbrev b_M_promise : ByteArray := prog_6_method_15_code
def y_M_tick : MethodName := ⟨"CustomerNoticesModel", "tick", "(J)I"⟩
abbrev b_M_tick : ByteArray := prog_6_method_18_code
def y_M_isDue : MethodName := ⟨"CustomerNoticesModel", "isDue", "(I)Z"⟩
abbrev b_M_isDue : ByteArray := prog_6_method_16_code
def y_M_isQuiet : MethodName := ⟨"CustomerNoticesModel", "isQuiet", "(I)Z"⟩
abbrev b_M_isQuiet : ByteArray := prog_6_method_10_code
def y_M_channelOf : MethodName := ⟨"CustomerNoticesModel", "channelOf", "(I)I"⟩
abbrev b_M_channelOf : ByteArray := prog_6_method_17_code
def y_M_sent : MethodName := ⟨"CustomerNoticesModel", "sent", "(II)I"⟩
abbrev b_M_sent : ByteArray := prog_6_method_19_code
def y_M_works : MethodName := ⟨"CustomerNoticesModel", "works", "(IZ)Z"⟩
abbrev b_M_works : ByteArray := prog_6_method_20_code
def y_M_out : MethodName := ⟨"CustomerNoticesModel", "out", "(II)I"⟩
abbrev b_M_out : ByteArray := prog_6_method_21_code
def y_M_failed : MethodName := ⟨"CustomerNoticesModel", "failed", "(I)I"⟩
abbrev b_M_failed : ByteArray := prog_6_method_22_code
def y_M_correct : MethodName := ⟨"CustomerNoticesModel", "correct", "(IJ)I"⟩
abbrev b_M_correct : ByteArray := prog_6_method_24_code
def y_M_undo : MethodName := ⟨"CustomerNoticesModel", "undo", "(I)V"⟩
abbrev b_M_undo : ByteArray := prog_6_method_23_code
def y_M_join : MethodName := ⟨"CustomerNoticesModel", "join", "(I)I"⟩
abbrev b_M_join : ByteArray := prog_6_method_25_code
def T_K : u_T := fun k => match k with
  | 0 => ("CustomerNotices$Customer", "number", "I", true)
  | 1 => ("CustomerNotices$Customer", "language", "I", true)
  | 2 => ("CustomerNotices$Customer", "zone", "I", true)
  | 3 => ("CustomerNotices$Customer", "quietFrom", "I", false)
  | 4 => ("CustomerNotices$Customer", "quietUntil", "I", false)
  | 5 => ("CustomerNotices$Customer", "leastWaitingTime", "J", false)
  | 6 => ("CustomerNotices$Customer", "messageOfTick", "I", false)
  | _ => ("CustomerNotices$Customer", "orders", "[I", true)
def t_K : Nat → FieldType := fun k => match k with
  | 0 => .int
  | 1 => .int
  | 2 => .int
  | 3 => .int
  | 4 => .int
  | 5 => .long
  | 6 => .int
  | _ => .array .int
def T_I : u_T := fun k => match k with
  | 0 => ("CustomerNotices$Item", "customerNumber", "I", true)
  | 1 => ("CustomerNotices$Item", "itemNumber", "I", true)
  | 2 => ("CustomerNotices$Item", "ended", "Z", false)
  | _ => ("CustomerNotices$Item", "latestPromise", "LCustomerNotices$Notice;", false)
def t_I : Nat → FieldType := fun k => match k with
  | 0 => .int
  | 1 => .int
  | 2 => .boolean
  | _ => .object "CustomerNotices$Notice"
def T_N : u_T := fun k => match k with
  | 0 => ("CustomerNotices$Notice", "number", "I", true)
  | 1 => ("CustomerNotices$Notice", "owner", "LCustomerNotices$Customer;", true)
  | 2 => ("CustomerNotices$Notice", "item", "I", true)
  | 3 => ("CustomerNotices$Notice", "kind", "I", true)
  | 4 => ("CustomerNotices$Notice", "time", "J", true)
  | 5 => ("CustomerNotices$Notice", "state", "I", false)
  | 6 => ("CustomerNotices$Notice", "promisedTime", "J", false)
  | 7 => ("CustomerNotices$Notice", "isCorrection", "Z", false)
  | 8 => ("CustomerNotices$Notice", "corrected", "Z", false)
  | 9 => ("CustomerNotices$Notice", "channel", "I", false)
  | 10 => ("CustomerNotices$Notice", "message", "I", false)
  | _ => ("CustomerNotices$Notice", "sentTime", "J", false)
def t_N : Nat → FieldType := fun k => match k with
  | 0 => .int
  | 1 => .object "CustomerNotices$Customer"
  | 2 => .int
  | 3 => .int
  | 4 => .long
  | 5 => .int
  | 6 => .long
  | 7 => .boolean
  | 8 => .boolean
  | 9 => .int
  | 10 => .int
  | _ => .long
def T_C : u_T := fun k => match k with
  | 0 => ("CustomerNotices", "customers", "Ljava/util/ArrayList;", true)
  | 1 => ("CustomerNotices", "notices", "Ljava/util/ArrayList;", true)
  | 2 => ("CustomerNotices", "items", "Ljava/util/ArrayList;", true)
  | 3 => ("CustomerNotices", "sentNotices", "Ljava/util/ArrayList;", true)
  | 4 => ("CustomerNotices", "failedNotices", "Ljava/util/ArrayList;", true)
  | 5 => ("CustomerNotices", "channelWorks", "[Z", true)
  | 6 => ("CustomerNotices", "clock", "J", false)
  | _ => ("CustomerNotices", "joinMinutes", "I", false)
def t_C : Nat → FieldType := fun k => match k with
  | 0 => .object "java/util/ArrayList"
  | 1 => .object "java/util/ArrayList"
  | 2 => .object "java/util/ArrayList"
  | 3 => .object "java/util/ArrayList"
  | 4 => .object "java/util/ArrayList"
  | 5 => .array .boolean
  | 6 => .long
  | _ => .int
def T_M : u_T := fun k => match k with
  | 0 => ("CustomerNoticesModel", "clock", "J", false)
  | 1 => ("CustomerNoticesModel", "joined", "I", false)
  | 2 => ("CustomerNoticesModel", "broken", "[Z", true)
  | 3 => ("CustomerNoticesModel", "customers", "I", false)
  | 4 => ("CustomerNoticesModel", "languages", "[I", true)
  | 5 => ("CustomerNoticesModel", "zones", "[I", true)
  | 6 => ("CustomerNoticesModel", "quietFrom", "[I", true)
  | 7 => ("CustomerNoticesModel", "quietTo", "[I", true)
  | 8 => ("CustomerNoticesModel", "wishes", "[I", true)
  | 9 => ("CustomerNoticesModel", "notices", "I", false)
  | 10 => ("CustomerNoticesModel", "owner", "[I", true)
  | 11 => ("CustomerNoticesModel", "items", "[I", true)
  | 12 => ("CustomerNoticesModel", "kinds", "[I", true)
  | 13 => ("CustomerNoticesModel", "times", "[J", true)
  | 14 => ("CustomerNoticesModel", "promised", "[J", true)
  | 15 => ("CustomerNoticesModel", "states", "[I", true)
  | 16 => ("CustomerNoticesModel", "correction", "[Z", true)
  | 17 => ("CustomerNoticesModel", "corrected", "[Z", true)
  | 18 => ("CustomerNoticesModel", "pairs", "I", false)
  | 19 => ("CustomerNoticesModel", "pairCustomer", "[I", true)
  | 20 => ("CustomerNoticesModel", "pairItem", "[I", true)
  | 21 => ("CustomerNoticesModel", "ended", "[Z", true)
  | 22 => ("CustomerNoticesModel", "latest", "[I", true)
  | 23 => ("CustomerNoticesModel", "sentCount", "I", false)
  | 24 => ("CustomerNoticesModel", "sentNotice", "[I", true)
  | 25 => ("CustomerNoticesModel", "sentChannel", "[I", true)
  | 26 => ("CustomerNoticesModel", "sentMessage", "[I", true)
  | 27 => ("CustomerNoticesModel", "sentClock", "[J", true)
  | 28 => ("CustomerNoticesModel", "failedCount", "I", false)
  | 29 => ("CustomerNoticesModel", "failedNotice", "[I", true)
  | 30 => ("CustomerNoticesModel", "least", "[J", true)
  | _ => ("CustomerNoticesModel", "firsts", "[I", true)
def t_M : Nat → FieldType := fun k => match k with
  | 0 => .long
  | 1 => .int
  | 2 => .array .boolean
  | 3 => .int
  | 4 => .array .int
  | 5 => .array .int
  | 6 => .array .int
  | 7 => .array .int
  | 8 => .array .int
  | 9 => .int
  | 10 => .array .int
  | 11 => .array .int
  | 12 => .array .int
  | 13 => .array .long
  | 14 => .array .long
  | 15 => .array .int
  | 16 => .array .boolean
  | 17 => .array .boolean
  | 18 => .int
  | 19 => .array .int
  | 20 => .array .int
  | 21 => .array .boolean
  | 22 => .array .int
  | 23 => .int
  | 24 => .array .int
  | 25 => .array .int
  | 26 => .array .int
  | 27 => .array .long
  | 28 => .int
  | 29 => .array .int
  | 30 => .array .long
  | _ => .array .int
def T_AL : u_T := fun k => match k with
  | 0 => ("java/util/ArrayList", "elementData", "[Ljava/lang/Object;", false)
  | 1 => ("java/util/ArrayList", "size", "I", false)
  | _ => ("java/util/AbstractList", "modCount", "I", false)
def t_AL : Nat → FieldType := fun k => match k with
  | 0 => .array (.object "java/lang/Object")
  | 1 => .int
  | _ => .int
abbrev vwCl : List vw_C := [("CustomerNotices$Customer", T_K, 8), ("CustomerNotices$Item", T_I, 4), ("CustomerNotices$Notice", T_N, 12), ("CustomerNotices", T_C, 8), ("CustomerNoticesModel", T_M, 32), ("java/util/ArrayList", T_AL, 3)]
end
section
/-! A TYPED VIEW OF THE HEAP. A view v says of a kind k and an address a what stands there: objects of class k of the list (k below 50), arrays of type t (k = 50 + t), 99: arrays of the start that nobody writes. A method's contract speaks of the whole view that its caller has: so the frame is in the words of the new view. -/
abbrev vv_V : Type := Nat → Nat → Option va_E
def vv_up (v : vv_V) (k a : Nat) (e : va_E) : vv_V := fun k' a' => if k' = k then (if a' = a then some e else v k' a') else v k' a'
theorem vv_up_s (v : vv_V) (k a : Nat) (e : va_E) : vv_up v k a e k a = some e := by simp [vv_up]
theorem vv_up_k (v : vv_V) {k k' : Nat} (a a' : Nat) (e : va_E) (h : k' ≠ k) : vv_up v k a e k' a' = v k' a' := by simp [vv_up, h]
theorem vv_up_a (v : vv_V) (k k' : Nat) {a a' : Nat} (e : va_E) (h : a' ≠ a) : vv_up v k a e k' a' = v k' a' := by simp [vv_up, h]
theorem vv_up_uu (v : vv_V) (k a : Nat) (e e' : va_E) : vv_up (vv_up v k a e) k a e' = vv_up v k a e' := by
  funext k' a'
  unfold vv_up
  by_cases h1 : k' = k
  · by_cases h2 : a' = a
    · simp [h1, h2]
    · simp [h1, h2]
  · simp [h1]
/-- D (classes, slots), b0 (the heap's size at the law's start), the empty array of ArrayList, the mirror of Object[], the array classes -/
abbrev vv_G : Type := va_G × Nat × Nat × Nat × (Nat → ClassId)
def vv_tys (G : vv_G) : List (ClassId × FieldType) := [(G.2.2.2.2 0, .int), (G.2.2.2.2 1, .boolean), (G.2.2.2.2 2, .long), (G.2.2.2.2 3, .object "java/lang/Object")]
def vv_P (G : vv_G) (v : vv_V) (H : Heap) : Prop := (∀ (k a : Nat) (e : va_E), v k a = some e → va_at G.1 vwCl (a, e) H ∧ (k ≠ 99 → G.2.1 ≤ a) ∧ (k = 99 → a < G.2.1)) ∧ ∀ (k k' a : Nat) (e e' : va_E), v k a = some e → v k' a = some e' → k = k'
theorem vv_P.lt {G : vv_G} {v : vv_V} {H : Heap} {k a : Nat} {e : va_E} (h : vv_P G v H) (hk : v k a = some e) : a < H.size := (h.1 k a e hk).1.lt
/-- the view as a list of cells, the old ones left out -/
def vv_L (v : vv_V) (ws : va_W) : Prop := (∀ (k a : Nat) (e : va_E), k ≠ 99 → v k a = some e → ∃ i : Nat, ws[i]? = some (a, e)) ∧ (∀ (i a : Nat) (e : va_E), ws[i]? = some (a, e) → ∃ k, k ≠ 99 ∧ v k a = some e) ∧ ∀ (i j : Nat) (x y : Nat × va_E), ws[i]? = some x → ws[j]? = some y → x.1 = y.1 → i = j
theorem vv_ls {G : vv_G} {v : vv_V} {H : Heap} (h : vv_P G v H) : ∃ ws, vv_L v ws := by
  have key : ∀ n : Nat, ∃ ws : va_W, (∀ (k a : Nat) (e : va_E), a < n → k ≠ 99 → v k a = some e → ∃ i : Nat, ws[i]? = some (a, e)) ∧ (∀ (i a : Nat) (e : va_E), ws[i]? = some (a, e) → a < n ∧ ∃ k, k ≠ 99 ∧ v k a = some e) ∧ ∀ (i j : Nat) (x y : Nat × va_E), ws[i]? = some x → ws[j]? = some y → x.1 = y.1 → i = j := by
    intro n
    induction n with
    | zero => exact ⟨[], fun k a e h1 => absurd h1 (Nat.not_lt_zero _), fun i a e h1 => by simp at h1, fun i j x y h1 => by simp at h1⟩
    | succ n ih =>
      obtain ⟨ws, g1, g2, g3⟩ := ih
      by_cases hx : ∃ (k : Nat) (e : va_E), k ≠ 99 ∧ v k n = some e
      · obtain ⟨k0, e0, hk0, hv0⟩ := hx
        have split : ∀ (i : Nat) (x : Nat × va_E), (ws ++ [(n, e0)])[i]? = some x → (i < ws.length ∧ ws[i]? = some x) ∨ (i = ws.length ∧ x = (n, e0)) := by
          intro i x hi
          by_cases hl : i < ws.length
          · rw [List.getElem?_append_left hl] at hi
            exact Or.inl ⟨hl, hi⟩
          · rw [List.getElem?_append_right (by omega)] at hi
            have hz : i - ws.length < 1 := (List.getElem?_eq_some_iff.mp hi).1
            have h0 : i = ws.length := by omega
            subst h0
            rw [Nat.sub_self] at hi
            exact Or.inr ⟨rfl, (Option.some.inj hi).symm⟩
        refine ⟨ws ++ [(n, e0)], fun k a e h1 h2 h3 => ?_, fun i a e hi => ?_, fun i j x y hi hj hxy => ?_⟩
        · by_cases ha : a = n
          · subst ha
            have hkk := h.2 k k0 a e e0 h3 hv0
            subst hkk
            rw [h3] at hv0
            cases hv0
            exact ⟨ws.length, by simp⟩
          · obtain ⟨i, hi⟩ := g1 k a e (by omega) h2 h3
            exact ⟨i, by rw [List.getElem?_append_left (List.getElem?_eq_some_iff.mp hi).1]; exact hi⟩
        · rcases split i _ hi with ⟨-, r⟩ | ⟨-, r⟩
          · obtain ⟨r1, r2⟩ := g2 i a e r
            exact ⟨by omega, r2⟩
          · cases r
            exact ⟨by omega, k0, hk0, hv0⟩
        · rcases split i _ hi with ⟨l1, r⟩ | ⟨l1, r⟩ <;> rcases split j _ hj with ⟨l2, r'⟩ | ⟨l2, r'⟩
          · exact g3 i j x y r r' hxy
          · have := (g2 i x.1 x.2 r).1
            rw [r'] at hxy
            simp only at hxy
            omega
          · have := (g2 j y.1 y.2 r').1
            rw [r] at hxy
            simp only at hxy
            omega
          · omega
      · refine ⟨ws, fun k a e h1 h2 h3 => ?_, fun i a e hi => ⟨Nat.lt_succ_of_lt (g2 i a e hi).1, (g2 i a e hi).2⟩, g3⟩
        by_cases ha : a = n
        · subst ha
          exact absurd ⟨k, e, h2, h3⟩ hx
        · exact g1 k a e (by omega) h2 h3
  obtain ⟨ws, g1, g2, g3⟩ := key H.size
  exact ⟨ws, fun k a e h1 h2 => g1 k a e (h.lt h2) h1 h2, fun i a e hi => (g2 i a e hi).2, g3⟩
theorem vv_L.P {G : vv_G} {v : vv_V} {H : Heap} {ws : va_W} (hL : vv_L v ws) (h : vv_P G v H) : va_P G.1 vwCl ws H := by
  intro i x hi
  obtain ⟨k, -, hk⟩ := hL.2.1 i x.1 x.2 hi
  exact (h.1 k x.1 x.2 hk).1
theorem vv_L.D {G : vv_G} {v : vv_V} {H : Heap} {ws : va_W} (hL : vv_L v ws) (h : vv_P G v H) : va_D (fun q => G.2.1 ≤ q) ws :=
  ⟨hL.2.2, fun i x hi => by
    obtain ⟨k, h1, hk⟩ := hL.2.1 i x.1 x.2 hi
    exact (h.1 k x.1 x.2 hk).2.1 h1⟩
/-- old cells stay -/
theorem vv_old {G : vv_G} {v : vv_V} {H0 H H1 : Heap} {l0 l1 : List Loc} (h : vv_P G v H) (hb : G.2.1 ≤ H0.size) (hS : va_S (fun q => G.2.1 ≤ q) H0 H l0) (hS1 : va_S (fun q => G.2.1 ≤ q) H0 H1 l1) {a : Nat} {e : va_E} (ha : v 99 a = some e) : va_at G.1 vwCl (a, e) H1 := by
  have hlt := (h.1 99 a e ha).2.2 rfl
  refine (h.1 99 a e ha).1.kept ?_
  rw [hS1.2.1 a (Nat.lt_of_lt_of_le hlt hb) (Nat.not_le.mpr hlt), hS.2.1 a (Nat.lt_of_lt_of_le hlt hb) (Nat.not_le.mpr hlt)]
theorem vv_set {G : vv_G} {v : vv_V} {H0 H H1 : Heap} {l0 l1 : List Loc} {ws : va_W} {k a q0 : Nat} {e e' : va_E} (h : vv_P G v H) (hL : vv_L v ws) (h99 : k ≠ 99) (hk : v k a = some e) (hq : ws[q0]? = some (a, e)) (hb : G.2.1 ≤ H0.size) (hS : va_S (fun q => G.2.1 ≤ q) H0 H l0) (hS1 : va_S (fun q => G.2.1 ≤ q) H0 H1 l1) (hP1 : va_P G.1 vwCl (ws.set q0 (a, e')) H1) : vv_P G (vv_up v k a e') H1 := by
  have hl := (List.getElem?_eq_some_iff.mp hq).1
  have key : ∀ (k1 a1 : Nat) (e1 : va_E), vv_up v k a e' k1 a1 = some e1 → (k1 = k ∧ a1 = a ∧ e1 = e') ∨ (¬ (k1 = k ∧ a1 = a) ∧ v k1 a1 = some e1) := by
    intro k1 a1 e1 h1
    unfold vv_up at h1
    by_cases c1 : k1 = k
    · by_cases c2 : a1 = a
      · rw [if_pos c1, if_pos c2] at h1
        exact Or.inl ⟨c1, c2, (Option.some.inj h1).symm⟩
      · rw [if_pos c1, if_neg c2] at h1
        exact Or.inr ⟨fun z => c2 z.2, h1⟩
    · rw [if_neg c1] at h1
      exact Or.inr ⟨fun z => c1 z.1, h1⟩
  have dom : ∀ (k1 a1 : Nat) (e1 : va_E), vv_up v k a e' k1 a1 = some e1 → ∃ e2, v k1 a1 = some e2 := by
    intro k1 a1 e1 h1
    rcases key k1 a1 e1 h1 with ⟨r1, r2, -⟩ | ⟨-, r⟩
    · exact ⟨e, by rw [r1, r2]; exact hk⟩
    · exact ⟨e1, r⟩
  refine ⟨fun k1 a1 e1 h1 => ?_, fun k1 k2 a1 e1 e2 h1 h2 => ?_⟩
  · rcases key k1 a1 e1 h1 with ⟨r1, r2, r3⟩ | ⟨r0, r⟩
    · subst r1 r2 r3
      exact ⟨hP1 q0 _ (List.getElem?_set_self hl), (h.1 _ _ _ hk).2⟩
    · refine ⟨?_, (h.1 _ _ _ r).2⟩
      by_cases c9 : k1 = 99
      · subst c9
        exact vv_old h hb hS hS1 r
      · obtain ⟨i, hi⟩ := hL.1 k1 a1 e1 c9 r
        have hne : q0 ≠ i := fun z => by
          subst z
          rw [hq] at hi
          cases hi
          exact r0 ⟨h.2 k1 k a e e r hk, rfl⟩
        exact hP1 i _ (by rw [List.getElem?_set_ne hne]; exact hi)
  · obtain ⟨x1, g1⟩ := dom k1 a1 e1 h1
    obtain ⟨x2, g2⟩ := dom k2 a1 e2 h2
    exact h.2 k1 k2 a1 x1 x2 g1 g2
theorem vv_push {G : vv_G} {v : vv_V} {H0 H H1 : Heap} {l0 l1 : List Loc} {ws : va_W} {k q : Nat} {e : va_E} (h : vv_P G v H) (hL : vv_L v ws) (h99 : k ≠ 99) (hb : G.2.1 ≤ H0.size) (hS : va_S (fun q => G.2.1 ≤ q) H0 H l0) (hS1 : va_S (fun q => G.2.1 ≤ q) H0 H1 l1) (hP1 : va_P G.1 vwCl (ws ++ [(q, e)]) H1) (hD1 : va_D (fun q => G.2.1 ≤ q) (ws ++ [(q, e)])) : (∀ k', v k' q = none) ∧ vv_P G (vv_up v k q e) H1 := by
  have hend : (ws ++ [(q, e)])[ws.length]? = some (q, e) := by simp
  have hfr : ∀ k', v k' q = none := by
    intro k'
    cases hv : v k' q with
    | none => rfl
    | some e1 =>
      exfalso
      by_cases c9 : k' = 99
      · have h1 := (h.1 k' q e1 hv).2.2 c9
        have h2 : G.2.1 ≤ q := hD1.2 _ _ hend
        omega
      · obtain ⟨i, hi⟩ := hL.1 k' q e1 c9 hv
        have hlt := (List.getElem?_eq_some_iff.mp hi).1
        have := hD1.1 i ws.length (q, e1) (q, e) (by rw [List.getElem?_append_left hlt]; exact hi) hend rfl
        omega
  have key : ∀ (k1 a1 : Nat) (e1 : va_E), vv_up v k q e k1 a1 = some e1 → (k1 = k ∧ a1 = q ∧ e1 = e) ∨ (a1 ≠ q ∧ v k1 a1 = some e1) := by
    intro k1 a1 e1 h1
    by_cases c2 : a1 = q
    · subst c2
      unfold vv_up at h1
      by_cases c1 : k1 = k
      · rw [if_pos c1, if_pos rfl] at h1
        exact Or.inl ⟨c1, rfl, (Option.some.inj h1).symm⟩
      · rw [if_neg c1, hfr k1] at h1
        cases h1
    · rw [vv_up_a _ _ _ _ c2] at h1
      exact Or.inr ⟨c2, h1⟩
  refine ⟨hfr, fun k1 a1 e1 h1 => ?_, fun k1 k2 a1 e1 e2 h1 h2 => ?_⟩
  · rcases key k1 a1 e1 h1 with ⟨r1, r2, r3⟩ | ⟨r0, r⟩
    · subst r1 r2 r3
      exact ⟨hP1 _ _ hend, fun _ => hD1.2 _ _ hend, fun z => absurd z h99⟩
    · refine ⟨?_, (h.1 _ _ _ r).2⟩
      by_cases c9 : k1 = 99
      · subst c9
        exact vv_old h hb hS hS1 r
      · obtain ⟨i, hi⟩ := hL.1 k1 a1 e1 c9 r
        exact hP1 i _ (by rw [List.getElem?_append_left (List.getElem?_eq_some_iff.mp hi).1]; exact hi)
  · rcases key k1 a1 e1 h1 with ⟨r1, r2, -⟩ | ⟨r0, r⟩ <;> rcases key k2 a1 e2 h2 with ⟨s1, s2, -⟩ | ⟨s0, s⟩
    · rw [r1, s1]
    · exact absurd r2 s0
    · exact absurd s2 r0
    · exact h.2 k1 k2 a1 e1 e2 r s
theorem vv_P.one {G : vv_G} {v : vv_V} {H : Heap} {k a : Nat} {e : va_E} (h : vv_P G v H) (hk : v k a = some e) : va_P G.1 vwCl [(a, e)] H := by
  intro i q hq
  cases i with
  | zero => cases hq; exact (h.1 k a e hk).1
  | succ i => simp at hq
/-- words of the tables that stay true as the machine warms up -/
def vv_okW : Cond → Bool
  | .arrayClass _ => true
  | .fieldLinkNest _ _ _ _ _ _ => true
  | .methodLinkNest _ _ _ _ => true
  | .declares _ => true
  | .castable _ _ => true
  | w => w.onTables && w.keeps
def vv_wds : List Cond := lw_tbl.filter (fun w => vv_okW w && w.onTables)
theorem vv_warm {w : Cond} {s U : State} (hw : (vv_okW w && w.onTables) = true) (hW : s.WarmedH U.vm) (h : va_Nw w s) : va_Nw w U := by
  obtain ⟨h1, h2⟩ := Bool.and_eq_true_iff.mp hw
  cases w <;> first
    | exact va_Nw.warmF hW h
    | exact va_Nw.warmM hW h
    | exact va_Nw.warmD hW h
    | exact va_Nw.warmC hW h
    | exact word_at hW (Or.inr ⟨_, rfl⟩) h
    | exact word_at hW (Or.inl h1) h
/-- what a method finds of the machine: tables, classes, the statics of ArrayList -/
def vv_E (G : vv_G) (U : State) : Prop := va_K G.1 vwCl (vv_tys G) U ∧ (∀ w ∈ vv_wds, va_Nw w U) ∧ va_Z "java/util/ArrayList" "DEFAULTCAPACITY_EMPTY_ELEMENTDATA" "[Ljava/lang/Object;" (.ref G.2.2.1) (fun q => G.2.1 ≤ q) U U.heap ∧ (va_Mi "[Ljava/lang/Object;" G.2.2.2.1 U ∧ va_AO "java/lang/Object" U ∧ ∀ ty : FieldType, (ty = .int ∨ ty = .boolean ∨ ty = .long) → (Cond.arrayClass ty).before #[] U = true) ∧ G.2.1 ≤ U.heap.size
theorem vv_E.at {G : vv_G} {s U : State} {H : Heap} {locs : List Loc} (h : vv_E G s) (hS : va_S (fun q => G.2.1 ≤ q) s.heap H locs) (hU : U.heap = H) (hW : s.WarmedH U.vm) : vv_E G U := by
  obtain ⟨h1, h2, h3, h4, h5⟩ := h
  refine ⟨va_K.moved hW.alike h1, fun w hw => vv_warm (List.mem_filter.mp hw).2 hW (h2 w hw), ?_, ⟨va_Mi.moved hW.alike h4.1, va_AO.moved hW.alike h4.2.1, fun ty hty => word_at hW (Or.inr ⟨_, rfl⟩) (h4.2.2 ty hty)⟩, ?_⟩
  · rw [hU]
    exact (h3.kept (fun a ha hn => hS.2.1 a ha hn)).moved hW.alike
  · rw [hU]
    exact Nat.le_trans h5 hS.1
theorem vv_E.calling {G : vv_G} {U : State} {g : JFrame} {mk : MethodId} {a : Array Value} (h : vv_E G U) : vv_E G (U.calling g mk a) := by
  obtain ⟨h1, h2, h3, h4, h5⟩ := h
  exact ⟨va_K.moved (u := U) (U := U.calling g mk a) (Vm.Alike.refl U.vm) h1, fun w hw => va_Nw.same (u := U) (U := U.calling g mk a) (Bool.and_eq_true_iff.mp (List.mem_filter.mp hw).2).2 rfl (h2 w hw), va_Z.moved (u := U) (U := U.calling g mk a) (Vm.Alike.refl U.vm) h3, ⟨va_Mi.moved (u := U) (U := U.calling g mk a) (Vm.Alike.refl U.vm) h4.1, va_AO.moved (u := U) (U := U.calling g mk a) (Vm.Alike.refl U.vm) h4.2.1, fun ty hty => word_at (s := U) (U := U.calling g mk a) (State.WarmedH.refl U) (Or.inr ⟨_, rfl⟩) (h4.2.2 ty hty)⟩, h5⟩
def vv_pre (G : vv_G) (v : vv_V) (U : State) : Prop := vv_P G v U.heap ∧ vv_E G U
def vv_Q (G : vv_G) (post : Option Value → vv_V → Prop) : Array Value → State → Outcome → State → Prop := fun _ st oc t => (∃ (r : Option Value) (v' : vv_V), oc = .returned r ∧ post r v' ∧ vv_P G v' t.heap) ∧ va_F (fun q => G.2.1 ≤ q) st t
/-- A CONTRACT: on a heap with view v, called with As, the method returns, and 'post answer newview'; mc cells of ms slots at most are made; frames f, locals lo -/
abbrev Mv (l : Launch) (y : MethodName) (cc : ByteArray) (maxL : Nat) (ret : Option FieldType) (f lo : Nat) (G : vv_G) (v : vv_V) (As : List Value) (post : Option Value → vv_V → Prop) (mc ms : Nat) : Prop :=
  Met l y [Cond.code y cc maxL ret] { frames := f, cells := mc, slots := ms, locals := lo } (va_Pc As (vv_pre G v)) (vv_Q G post) mc ms (fun q => G.2.1 ≤ q)
/-- what stays fixed in a method's walk -/
def vC (p : Program) (s : State) (m : MethodId) (args : Array Value) (meth : Method) (c : Code) (cc : ByteArray) (nL : Nat) (ret : Option FieldType) (own : String) (G : vv_G) : Prop :=
  p.tables.exec = Jvm.exec ∧ c.code = cc ∧ c.maxLocals = nL ∧ s.vm.findClass own = some m.cls ∧ vv_E G s ∧ meth.sig.returnType = ret ∧ meth.locks = false
theorem vC.w {p : Program} {s : State} {m : MethodId} {args : Array Value} {meth : Method} {c : Code} {cc : ByteArray} {nL : Nat} {ret : Option FieldType} {own : String} {G : vv_G} (C : vC p s m args meth c cc nL ret own G) : ∀ w ∈ vv_wds, w.before args s = true := fun w hw => va_Nw.use (Bool.and_eq_true_iff.mp (List.mem_filter.mp hw).2).2 (C.2.2.2.2.1.2.1 w hw)
/-- THE WALK'S JUDGEMENT: at pc, with locals lv, operands st, view v, kc cells and ks slots made so far, the machine comes to Q -/
def vV (p : Program) (l : Launch) (e : Env) (R : Room) (s : State) (m : MethodId) (args : Array Value) (below : List Frame) (meth : Method) (c : Code) (Q : State → Prop) (G : vv_G) (nL : Nat) (v : vv_V) (kc ks pc : Nat) (lv : List (Nat × Value)) (st : List Value) : Prop :=
  ∀ (H : Heap) (locs : List Loc) (ls : Array Slot), vv_P G v H → va_S (fun q => G.2.1 ≤ q) s.heap H locs → lv_has ls nL lv → W p l e R s m args below meth c H locs kc ks Q (F0 m pc ls st)
theorem vv_met {l : Launch} {y : MethodName} {cc : ByteArray} {maxL : Nat} {ret : Option FieldType} {f lo : Nat} {G : vv_G} {v : vv_V} {As : List Value} {post : Option Value → vv_V → Prop} {mc ms : Nat} {own nm : String} (hy : plainName y.cls = true) (hown : y.cls = own) (hnm : y.name = nm) (hlen : (lg_sl As).length ≤ maxL)
    (body : ∀ (p : Program) (e : Env) (s : State) (m : MethodId) (below : List Frame) (meth : Method) (c : Code), vC p s m As.toArray meth c cc maxL ret own G → meth.name = nm →
      vV p l e { frames := f, cells := mc, slots := ms, locals := lo } s m As.toArray below meth c (MQ below (vv_Q G post) As.toArray s mc ms (fun q => G.2.1 ≤ q)) G maxL v 0 0 0 (lv_args 0 As) []) : Mv l y cc maxL ret f lo G v As post mc ms := by
  refine Met.ofW (cc := cc) (maxL := maxL) (ret := ret) hy rfl ?_
  intro p e s m args below meth c s₁ B hml hv
  obtain ⟨rfl, hP, hE⟩ := hv
  rw [lg_entry_eq]
  exact body p e s m below meth c ⟨B.exec, B.bytes, hml, by rw [← hown]; exact findClass_of_methodNamed B.named, hE, B.returns, B.notSynchronized⟩ (by rw [← hnm]; exact (name_of_methodNamed B.named B.method).1) s.heap [] _ hP va_S.rf (lv_entry As hlen)
theorem vv_blind {G : vv_G} {v : vv_V} {As : List Value} : FrameBlind (va_Pc As (vv_pre G v)) := fun a U g mk q => ⟨q.1, q.2.1, q.2.2.calling⟩
section VV
variable {p : Program} {l : Launch} {e : Env} {R : Room} {s : State} {m : MethodId} {args : Array Value} {below : List Frame} {meth : Method} {c : Code} {Q : State → Prop} {G : vv_G} {cc : ByteArray} {nL : Nat} {ret : Option FieldType} {own : String} {v : vv_V} {kc ks pc : Nat} {lv : List (Nat × Value)} {st : List Value}
theorem v_iconst (C : vC p s m args meth c cc nL ret own G) {n : Int} {x : Int32} (hd : decode cc pc = .ok (.iconst n, 1)) (hx : Int32.ofInt n = x) (k : vV p l e R s m args below meth c Q G nL v kc ks (pc + 1) lv (.int x :: st)) : vV p l e R s m args below meth c Q G nL v kc ks pc lv (st) := fun H locs ls hP hS hl => lv_iconst C.1 C.2.1 hd hx (k H locs ls hP hS hl)
theorem v_bipush (C : vC p s m args meth c cc nL ret own G) {n : Int} {x : Int32} (hd : decode cc pc = .ok (.bipush n, 2)) (hx : (Int8.ofInt n).toInt32 = x) (k : vV p l e R s m args below meth c Q G nL v kc ks (pc + 2) lv (.int x :: st)) : vV p l e R s m args below meth c Q G nL v kc ks pc lv (st) := fun H locs ls hP hS hl => lv_bipush C.1 C.2.1 hd hx (k H locs ls hP hS hl)
theorem v_sipush (C : vC p s m args meth c cc nL ret own G) {n : Int} {x : Int32} (hd : decode cc pc = .ok (.sipush n, 3)) (hx : (Int16.ofInt n).toInt32 = x) (k : vV p l e R s m args below meth c Q G nL v kc ks (pc + 3) lv (.int x :: st)) : vV p l e R s m args below meth c Q G nL v kc ks pc lv (st) := fun H locs ls hP hS hl => lv_sipush C.1 C.2.1 hd hx (k H locs ls hP hS hl)
theorem v_lconst (C : vC p s m args meth c cc nL ret own G) {n : Fin 2} {x : Int64} (hd : decode cc pc = .ok (.lconst n, 1)) (hx : Int64.ofNat (n : Nat) = x) (k : vV p l e R s m args below meth c Q G nL v kc ks (pc + 1) lv (.long x :: st)) : vV p l e R s m args below meth c Q G nL v kc ks pc lv (st) := fun H locs ls hP hS hl => lv_lconst C.1 C.2.1 hd hx (k H locs ls hP hS hl)
theorem v_null (C : vC p s m args meth c cc nL ret own G)  (hd : decode cc pc = .ok (.aconst_null, 1)) (k : vV p l e R s m args below meth c Q G nL v kc ks (pc + 1) lv (.null :: st)) : vV p l e R s m args below meth c Q G nL v kc ks pc lv (st) := fun H locs ls hP hS hl => lv_null C.1 C.2.1 hd (k H locs ls hP hS hl)
theorem v_ldc (C : vC p s m args meth c cc nL ret own G) {index : Nat} {x : Int32} (hd : decode cc pc = .ok (.ldc index, 2)) (hc : (Cond.constant own index x) ∈ vv_wds) (k : vV p l e R s m args below meth c Q G nL v kc ks (pc + 2) lv (.int x :: st)) : vV p l e R s m args below meth c Q G nL v kc ks pc lv (st) := fun H locs ls hP hS hl => lv_ldc C.1 C.2.1 C.2.2.2.1 (C.w _ hc) hd (k H locs ls hP hS hl)
theorem v_ldc2 (C : vC p s m args meth c cc nL ret own G) {index : Nat} {x : Int64} (hd : decode cc pc = .ok (.ldc2_w index, 3)) (hc : (Cond.constantLong own index x) ∈ vv_wds) (k : vV p l e R s m args below meth c Q G nL v kc ks (pc + 3) lv (.long x :: st)) : vV p l e R s m args below meth c Q G nL v kc ks pc lv (st) := fun H locs ls hP hS hl => lv_ldc2 C.1 C.2.1 C.2.2.2.1 (C.w _ hc) hd (k H locs ls hP hS hl)
theorem v_iload_n (C : vC p s m args meth c cc nL ret own G) {j : Fin 4} {i : Nat} {x : Int32} (q : Nat) (hd : decode cc pc = .ok (.iload_n j, 1)) (hi : (j : Nat) = i) (hq : lv[q]? = some (i, .int x)) (k : vV p l e R s m args below meth c Q G nL v kc ks (pc + 1) lv (.int x :: st)) : vV p l e R s m args below meth c Q G nL v kc ks pc lv (st) := fun H locs ls hP hS hl => lv_iload_n C.1 C.2.1 hd hi (lv_at hl q hq) (k H locs ls hP hS hl)
theorem v_iload (C : vC p s m args meth c cc nL ret own G) {i : Nat} {x : Int32} (q : Nat) (hd : decode cc pc = .ok (.iload i, 2)) (hq : lv[q]? = some (i, .int x)) (k : vV p l e R s m args below meth c Q G nL v kc ks (pc + 2) lv (.int x :: st)) : vV p l e R s m args below meth c Q G nL v kc ks pc lv (st) := fun H locs ls hP hS hl => lv_iload C.1 C.2.1 hd (lv_at hl q hq) (k H locs ls hP hS hl)
theorem v_lload_n (C : vC p s m args meth c cc nL ret own G) {j : Fin 4} {i : Nat} {x : Int64} (q : Nat) (hd : decode cc pc = .ok (.lload_n j, 1)) (hi : (j : Nat) = i) (hq : lv[q]? = some (i, .long x)) (k : vV p l e R s m args below meth c Q G nL v kc ks (pc + 1) lv (.long x :: st)) : vV p l e R s m args below meth c Q G nL v kc ks pc lv (st) := fun H locs ls hP hS hl => lv_lload_n C.1 C.2.1 hd hi (lv_at hl q hq) (k H locs ls hP hS hl)
theorem v_lload (C : vC p s m args meth c cc nL ret own G) {i : Nat} {x : Int64} (q : Nat) (hd : decode cc pc = .ok (.lload i, 2)) (hq : lv[q]? = some (i, .long x)) (k : vV p l e R s m args below meth c Q G nL v kc ks (pc + 2) lv (.long x :: st)) : vV p l e R s m args below meth c Q G nL v kc ks pc lv (st) := fun H locs ls hP hS hl => lv_lload C.1 C.2.1 hd (lv_at hl q hq) (k H locs ls hP hS hl)
theorem v_aload_n (C : vC p s m args meth c cc nL ret own G) {j : Fin 4} {i : Nat} {x : Nat} (q : Nat) (hd : decode cc pc = .ok (.aload_n j, 1)) (hi : (j : Nat) = i) (hq : lv[q]? = some (i, .ref x)) (k : vV p l e R s m args below meth c Q G nL v kc ks (pc + 1) lv (.ref x :: st)) : vV p l e R s m args below meth c Q G nL v kc ks pc lv (st) := fun H locs ls hP hS hl => lv_aload_n C.1 C.2.1 hd hi (lv_at hl q hq) (k H locs ls hP hS hl)
theorem v_aload (C : vC p s m args meth c cc nL ret own G) {i : Nat} {x : Nat} (q : Nat) (hd : decode cc pc = .ok (.aload i, 2)) (hq : lv[q]? = some (i, .ref x)) (k : vV p l e R s m args below meth c Q G nL v kc ks (pc + 2) lv (.ref x :: st)) : vV p l e R s m args below meth c Q G nL v kc ks pc lv (st) := fun H locs ls hP hS hl => lv_aload C.1 C.2.1 hd (lv_at hl q hq) (k H locs ls hP hS hl)
theorem v_aload_nN (C : vC p s m args meth c cc nL ret own G) {j : Fin 4} {i : Nat} (q : Nat) (hd : decode cc pc = .ok (.aload_n j, 1)) (hi : (j : Nat) = i) (hq : lv[q]? = some (i, .null)) (k : vV p l e R s m args below meth c Q G nL v kc ks (pc + 1) lv (.null :: st)) : vV p l e R s m args below meth c Q G nL v kc ks pc lv (st) := fun H locs ls hP hS hl => lv_aload_nN C.1 C.2.1 hd hi (lv_at hl q hq) (k H locs ls hP hS hl)
theorem v_aloadN (C : vC p s m args meth c cc nL ret own G) {i : Nat} (q : Nat) (hd : decode cc pc = .ok (.aload i, 2)) (hq : lv[q]? = some (i, .null)) (k : vV p l e R s m args below meth c Q G nL v kc ks (pc + 2) lv (.null :: st)) : vV p l e R s m args below meth c Q G nL v kc ks pc lv (st) := fun H locs ls hP hS hl => lv_aloadN C.1 C.2.1 hd (lv_at hl q hq) (k H locs ls hP hS hl)
theorem v_istore_n (C : vC p s m args meth c cc nL ret own G) {j : Fin 4} {i : Nat} {x : Int32} {lv' : List (Nat × Value)} (hd : decode cc pc = .ok (.istore_n j, 1)) (hi : (j : Nat) = i) (hn : i < nL) (hv : (i, Value.int x) :: lv.filter (fun q => !(q.1 == i) && !(q.1 + 1 == i && q.2.category == 2)) = lv') (k : vV p l e R s m args below meth c Q G nL v kc ks (pc + 1) lv' st) : vV p l e R s m args below meth c Q G nL v kc ks pc lv (Value.int x :: st) := fun H locs ls hP hS hl => lv_istore_n C.1 C.2.1 hd hi hl hn hv (fun ls' hl' => k H locs ls' hP hS hl')
theorem v_istore (C : vC p s m args meth c cc nL ret own G) {i : Nat} {x : Int32} {lv' : List (Nat × Value)} (hd : decode cc pc = .ok (.istore i, 2)) (hn : i < nL) (hv : (i, Value.int x) :: lv.filter (fun q => !(q.1 == i) && !(q.1 + 1 == i && q.2.category == 2)) = lv') (k : vV p l e R s m args below meth c Q G nL v kc ks (pc + 2) lv' st) : vV p l e R s m args below meth c Q G nL v kc ks pc lv (Value.int x :: st) := fun H locs ls hP hS hl => lv_istore C.1 C.2.1 hd hl hn hv (fun ls' hl' => k H locs ls' hP hS hl')
theorem v_lstore_n (C : vC p s m args meth c cc nL ret own G) {j : Fin 4} {i : Nat} {x : Int64} {lv' : List (Nat × Value)} (hd : decode cc pc = .ok (.lstore_n j, 1)) (hi : (j : Nat) = i) (hn : i + 1 < nL) (hv : (i, Value.long x) :: lv.filter (fun q => !(q.1 == i) && (!(q.1 == i + 1) && !(q.1 + 1 == i && q.2.category == 2))) = lv') (k : vV p l e R s m args below meth c Q G nL v kc ks (pc + 1) lv' st) : vV p l e R s m args below meth c Q G nL v kc ks pc lv (Value.long x :: st) := fun H locs ls hP hS hl => lv_lstore_n C.1 C.2.1 hd hi hl hn hv (fun ls' hl' => k H locs ls' hP hS hl')
theorem v_lstore (C : vC p s m args meth c cc nL ret own G) {i : Nat} {x : Int64} {lv' : List (Nat × Value)} (hd : decode cc pc = .ok (.lstore i, 2)) (hn : i + 1 < nL) (hv : (i, Value.long x) :: lv.filter (fun q => !(q.1 == i) && (!(q.1 == i + 1) && !(q.1 + 1 == i && q.2.category == 2))) = lv') (k : vV p l e R s m args below meth c Q G nL v kc ks (pc + 2) lv' st) : vV p l e R s m args below meth c Q G nL v kc ks pc lv (Value.long x :: st) := fun H locs ls hP hS hl => lv_lstore C.1 C.2.1 hd hl hn hv (fun ls' hl' => k H locs ls' hP hS hl')
theorem v_astore_n (C : vC p s m args meth c cc nL ret own G) {j : Fin 4} {i : Nat} {x : Nat} {lv' : List (Nat × Value)} (hd : decode cc pc = .ok (.astore_n j, 1)) (hi : (j : Nat) = i) (hn : i < nL) (hv : (i, Value.ref x) :: lv.filter (fun q => !(q.1 == i) && !(q.1 + 1 == i && q.2.category == 2)) = lv') (k : vV p l e R s m args below meth c Q G nL v kc ks (pc + 1) lv' st) : vV p l e R s m args below meth c Q G nL v kc ks pc lv (Value.ref x :: st) := fun H locs ls hP hS hl => lv_astore_n C.1 C.2.1 hd hi hl hn hv (fun ls' hl' => k H locs ls' hP hS hl')
theorem v_astore (C : vC p s m args meth c cc nL ret own G) {i : Nat} {x : Nat} {lv' : List (Nat × Value)} (hd : decode cc pc = .ok (.astore i, 2)) (hn : i < nL) (hv : (i, Value.ref x) :: lv.filter (fun q => !(q.1 == i) && !(q.1 + 1 == i && q.2.category == 2)) = lv') (k : vV p l e R s m args below meth c Q G nL v kc ks (pc + 2) lv' st) : vV p l e R s m args below meth c Q G nL v kc ks pc lv (Value.ref x :: st) := fun H locs ls hP hS hl => lv_astore C.1 C.2.1 hd hl hn hv (fun ls' hl' => k H locs ls' hP hS hl')
theorem v_astore_nN (C : vC p s m args meth c cc nL ret own G) {j : Fin 4} {i : Nat} {lv' : List (Nat × Value)} (hd : decode cc pc = .ok (.astore_n j, 1)) (hi : (j : Nat) = i) (hn : i < nL) (hv : (i, Value.null) :: lv.filter (fun q => !(q.1 == i) && !(q.1 + 1 == i && q.2.category == 2)) = lv') (k : vV p l e R s m args below meth c Q G nL v kc ks (pc + 1) lv' st) : vV p l e R s m args below meth c Q G nL v kc ks pc lv (Value.null :: st) := fun H locs ls hP hS hl => lv_astore_nN C.1 C.2.1 hd hi hl hn hv (fun ls' hl' => k H locs ls' hP hS hl')
theorem v_astoreN (C : vC p s m args meth c cc nL ret own G) {i : Nat} {lv' : List (Nat × Value)} (hd : decode cc pc = .ok (.astore i, 2)) (hn : i < nL) (hv : (i, Value.null) :: lv.filter (fun q => !(q.1 == i) && !(q.1 + 1 == i && q.2.category == 2)) = lv') (k : vV p l e R s m args below meth c Q G nL v kc ks (pc + 2) lv' st) : vV p l e R s m args below meth c Q G nL v kc ks pc lv (Value.null :: st) := fun H locs ls hP hS hl => lv_astoreN C.1 C.2.1 hd hl hn hv (fun ls' hl' => k H locs ls' hP hS hl')
theorem v_iinc (C : vC p s m args meth c cc nL ret own G) {i : Nat} {n : Int} {x y : Int32} (q : Nat) {lv' : List (Nat × Value)} (hd : decode cc pc = .ok (.iinc i n, 3)) (hq : lv[q]? = some (i, .int x)) (hy : x + Int32.ofInt n = y) (hn : i < nL) (hv : (i, Value.int y) :: lv.filter (fun q => !(q.1 == i) && !(q.1 + 1 == i && q.2.category == 2)) = lv') (k : vV p l e R s m args below meth c Q G nL v kc ks (pc + 3) lv' st) : vV p l e R s m args below meth c Q G nL v kc ks pc lv st := fun H locs ls hP hS hl => lv_iinc C.1 C.2.1 hd hl hq hy hn hv (fun ls' hl' => k H locs ls' hP hS hl')
theorem v_iadd (C : vC p s m args meth c cc nL ret own G) {x y : Int32} (hd : decode cc pc = .ok (.iadd, 1)) (k : vV p l e R s m args below meth c Q G nL v kc ks (pc + 1) lv (.int (x + y) :: st)) : vV p l e R s m args below meth c Q G nL v kc ks pc lv (.int y :: .int x :: st) := fun H locs ls hP hS hl => lv_iadd C.1 C.2.1 hd (k H locs ls hP hS hl)
theorem v_isub (C : vC p s m args meth c cc nL ret own G) {x y : Int32} (hd : decode cc pc = .ok (.isub, 1)) (k : vV p l e R s m args below meth c Q G nL v kc ks (pc + 1) lv (.int (x - y) :: st)) : vV p l e R s m args below meth c Q G nL v kc ks pc lv (.int y :: .int x :: st) := fun H locs ls hP hS hl => lv_isub C.1 C.2.1 hd (k H locs ls hP hS hl)
theorem v_imul (C : vC p s m args meth c cc nL ret own G) {x y : Int32} (hd : decode cc pc = .ok (.imul, 1)) (k : vV p l e R s m args below meth c Q G nL v kc ks (pc + 1) lv (.int (x * y) :: st)) : vV p l e R s m args below meth c Q G nL v kc ks pc lv (.int y :: .int x :: st) := fun H locs ls hP hS hl => lv_imul C.1 C.2.1 hd (k H locs ls hP hS hl)
theorem v_iand (C : vC p s m args meth c cc nL ret own G) {x y : Int32} (hd : decode cc pc = .ok (.iand, 1)) (k : vV p l e R s m args below meth c Q G nL v kc ks (pc + 1) lv (.int (x &&& y) :: st)) : vV p l e R s m args below meth c Q G nL v kc ks pc lv (.int y :: .int x :: st) := fun H locs ls hP hS hl => lv_iand C.1 C.2.1 hd (k H locs ls hP hS hl)
theorem v_ior (C : vC p s m args meth c cc nL ret own G) {x y : Int32} (hd : decode cc pc = .ok (.ior, 1)) (k : vV p l e R s m args below meth c Q G nL v kc ks (pc + 1) lv (.int (x ||| y) :: st)) : vV p l e R s m args below meth c Q G nL v kc ks pc lv (.int y :: .int x :: st) := fun H locs ls hP hS hl => lv_ior C.1 C.2.1 hd (k H locs ls hP hS hl)
theorem v_ixor (C : vC p s m args meth c cc nL ret own G) {x y : Int32} (hd : decode cc pc = .ok (.ixor, 1)) (k : vV p l e R s m args below meth c Q G nL v kc ks (pc + 1) lv (.int (x ^^^ y) :: st)) : vV p l e R s m args below meth c Q G nL v kc ks pc lv (.int y :: .int x :: st) := fun H locs ls hP hS hl => lv_ixor C.1 C.2.1 hd (k H locs ls hP hS hl)
theorem v_ladd (C : vC p s m args meth c cc nL ret own G) {x y : Int64} (hd : decode cc pc = .ok (.ladd, 1)) (k : vV p l e R s m args below meth c Q G nL v kc ks (pc + 1) lv (.long (x + y) :: st)) : vV p l e R s m args below meth c Q G nL v kc ks pc lv (.long y :: .long x :: st) := fun H locs ls hP hS hl => lv_ladd C.1 C.2.1 hd (k H locs ls hP hS hl)
theorem v_lsub (C : vC p s m args meth c cc nL ret own G) {x y : Int64} (hd : decode cc pc = .ok (.lsub, 1)) (k : vV p l e R s m args below meth c Q G nL v kc ks (pc + 1) lv (.long (x - y) :: st)) : vV p l e R s m args below meth c Q G nL v kc ks pc lv (.long y :: .long x :: st) := fun H locs ls hP hS hl => lv_lsub C.1 C.2.1 hd (k H locs ls hP hS hl)
theorem v_lmul (C : vC p s m args meth c cc nL ret own G) {x y : Int64} (hd : decode cc pc = .ok (.lmul, 1)) (k : vV p l e R s m args below meth c Q G nL v kc ks (pc + 1) lv (.long (x * y) :: st)) : vV p l e R s m args below meth c Q G nL v kc ks pc lv (.long y :: .long x :: st) := fun H locs ls hP hS hl => lv_lmul C.1 C.2.1 hd (k H locs ls hP hS hl)
theorem v_land (C : vC p s m args meth c cc nL ret own G) {x y : Int64} (hd : decode cc pc = .ok (.land, 1)) (k : vV p l e R s m args below meth c Q G nL v kc ks (pc + 1) lv (.long (x &&& y) :: st)) : vV p l e R s m args below meth c Q G nL v kc ks pc lv (.long y :: .long x :: st) := fun H locs ls hP hS hl => lv_land C.1 C.2.1 hd (k H locs ls hP hS hl)
theorem v_lor (C : vC p s m args meth c cc nL ret own G) {x y : Int64} (hd : decode cc pc = .ok (.lor, 1)) (k : vV p l e R s m args below meth c Q G nL v kc ks (pc + 1) lv (.long (x ||| y) :: st)) : vV p l e R s m args below meth c Q G nL v kc ks pc lv (.long y :: .long x :: st) := fun H locs ls hP hS hl => lv_lor C.1 C.2.1 hd (k H locs ls hP hS hl)
theorem v_lxor (C : vC p s m args meth c cc nL ret own G) {x y : Int64} (hd : decode cc pc = .ok (.lxor, 1)) (k : vV p l e R s m args below meth c Q G nL v kc ks (pc + 1) lv (.long (x ^^^ y) :: st)) : vV p l e R s m args below meth c Q G nL v kc ks pc lv (.long y :: .long x :: st) := fun H locs ls hP hS hl => lv_lxor C.1 C.2.1 hd (k H locs ls hP hS hl)
theorem v_ineg (C : vC p s m args meth c cc nL ret own G) {x : Int32} (hd : decode cc pc = .ok (.ineg, 1)) (k : vV p l e R s m args below meth c Q G nL v kc ks (pc + 1) lv (.int (-x) :: st)) : vV p l e R s m args below meth c Q G nL v kc ks pc lv (.int x :: st) := fun H locs ls hP hS hl => lv_ineg C.1 C.2.1 hd (k H locs ls hP hS hl)
theorem v_lneg (C : vC p s m args meth c cc nL ret own G) {x : Int64} (hd : decode cc pc = .ok (.lneg, 1)) (k : vV p l e R s m args below meth c Q G nL v kc ks (pc + 1) lv (.long (-x) :: st)) : vV p l e R s m args below meth c Q G nL v kc ks pc lv (.long x :: st) := fun H locs ls hP hS hl => lv_lneg C.1 C.2.1 hd (k H locs ls hP hS hl)
theorem v_i2l (C : vC p s m args meth c cc nL ret own G) {x : Int32} {y : Int64} (hd : decode cc pc = .ok (.i2l, 1)) (hx : x.toInt64 = y) (k : vV p l e R s m args below meth c Q G nL v kc ks (pc + 1) lv (.long y :: st)) : vV p l e R s m args below meth c Q G nL v kc ks pc lv (.int x :: st) := fun H locs ls hP hS hl => lv_i2l C.1 C.2.1 hd hx (k H locs ls hP hS hl)
theorem v_l2i (C : vC p s m args meth c cc nL ret own G) {x : Int64} {y : Int32} (hd : decode cc pc = .ok (.l2i, 1)) (hx : x.toInt32 = y) (k : vV p l e R s m args below meth c Q G nL v kc ks (pc + 1) lv (.int y :: st)) : vV p l e R s m args below meth c Q G nL v kc ks pc lv (.long x :: st) := fun H locs ls hP hS hl => lv_l2i C.1 C.2.1 hd hx (k H locs ls hP hS hl)
theorem v_lcmp (C : vC p s m args meth c cc nL ret own G) {x y : Int64} (hd : decode cc pc = .ok (.lcmp, 1)) (k : vV p l e R s m args below meth c Q G nL v kc ks (pc + 1) lv (.int (lg_cmp x y) :: st)) : vV p l e R s m args below meth c Q G nL v kc ks pc lv (.long y :: .long x :: st) := fun H locs ls hP hS hl => W.lcmp C.1 C.2.1 hd (k H locs ls hP hS hl)
theorem v_dup (C : vC p s m args meth c cc nL ret own G) {x : Value} (hd : decode cc pc = .ok (.dup, 1)) (hx : x.category = 1) (k : vV p l e R s m args below meth c Q G nL v kc ks (pc + 1) lv (x :: x :: st)) : vV p l e R s m args below meth c Q G nL v kc ks pc lv (x :: st) := fun H locs ls hP hS hl => lv_dup C.1 C.2.1 hd hx (k H locs ls hP hS hl)
theorem v_pop (C : vC p s m args meth c cc nL ret own G) {x : Value} (hd : decode cc pc = .ok (.pop, 1)) (hx : x.category = 1) (k : vV p l e R s m args below meth c Q G nL v kc ks (pc + 1) lv (st)) : vV p l e R s m args below meth c Q G nL v kc ks pc lv (x :: st) := fun H locs ls hP hS hl => lv_pop C.1 C.2.1 hd hx (k H locs ls hP hS hl)
theorem v_dup_x1 (C : vC p s m args meth c cc nL ret own G) {x y : Value} (hd : decode cc pc = .ok (.dup_x1, 1)) (hx : x.category = 1) (hy : y.category = 1) (k : vV p l e R s m args below meth c Q G nL v kc ks (pc + 1) lv (x :: y :: x :: st)) : vV p l e R s m args below meth c Q G nL v kc ks pc lv (x :: y :: st) := fun H locs ls hP hS hl => lv_dup_x1 C.1 C.2.1 hd hx hy (k H locs ls hP hS hl)
theorem v_dup2_11 (C : vC p s m args meth c cc nL ret own G) {x y : Value} (hd : decode cc pc = .ok (.dup2, 1)) (hx : x.category = 1) (hy : y.category = 1) (k : vV p l e R s m args below meth c Q G nL v kc ks (pc + 1) lv (x :: y :: x :: y :: st)) : vV p l e R s m args below meth c Q G nL v kc ks pc lv (x :: y :: st) := fun H locs ls hP hS hl => lv_dup2_11 C.1 C.2.1 hd hx hy (k H locs ls hP hS hl)
theorem v_dup2_2 (C : vC p s m args meth c cc nL ret own G) {x : Value} (hd : decode cc pc = .ok (.dup2, 1)) (hx : x.category = 2) (k : vV p l e R s m args below meth c Q G nL v kc ks (pc + 1) lv (x :: x :: st)) : vV p l e R s m args below meth c Q G nL v kc ks pc lv (x :: st) := fun H locs ls hP hS hl => lv_dup2_2 C.1 C.2.1 hd hx (k H locs ls hP hS hl)
theorem v_dup_x2 (C : vC p s m args meth c cc nL ret own G) {x y z : Value} (hd : decode cc pc = .ok (.dup_x2, 1)) (hx : x.category = 1) (hy : y.category = 1) (hz : z.category = 1) (k : vV p l e R s m args below meth c Q G nL v kc ks (pc + 1) lv (x :: y :: z :: x :: st)) : vV p l e R s m args below meth c Q G nL v kc ks pc lv (x :: y :: z :: st) := fun H locs ls hP hS hl => lv_dup_x2 C.1 C.2.1 hd hx hy hz (k H locs ls hP hS hl)
theorem v_pop2_2 (C : vC p s m args meth c cc nL ret own G) {x : Value} (hd : decode cc pc = .ok (.pop2, 1)) (hx : x.category = 2) (k : vV p l e R s m args below meth c Q G nL v kc ks (pc + 1) lv (st)) : vV p l e R s m args below meth c Q G nL v kc ks pc lv (x :: st) := fun H locs ls hP hS hl => lv_pop2_2 C.1 C.2.1 hd hx (k H locs ls hP hS hl)
theorem v_dup2_x1_2 (C : vC p s m args meth c cc nL ret own G) {x y : Value} (hd : decode cc pc = .ok (.dup2_x1, 1)) (hx : x.category = 2) (hy : y.category = 1) (k : vV p l e R s m args below meth c Q G nL v kc ks (pc + 1) lv (x :: y :: x :: st)) : vV p l e R s m args below meth c Q G nL v kc ks pc lv (x :: y :: st) := fun H locs ls hP hS hl => lv_dup2_x1_2 C.1 C.2.1 hd hx hy (k H locs ls hP hS hl)
theorem v_if_eq (C : vC p s m args meth c cc nL ret own G) {x : Int32} {off : Int} (tgt : Nat) (hd : decode cc pc = .ok (.ifCond .eq off, 3)) (ht : (pc : Int) + off = (tgt : Int)) (kt : x = 0 → vV p l e R s m args below meth c Q G nL v kc ks tgt lv st) (kf : ¬ x = 0 → vV p l e R s m args below meth c Q G nL v kc ks (pc + 3) lv st) : vV p l e R s m args below meth c Q G nL v kc ks pc lv (.int x :: st) := fun H locs ls hP hS hl => lv_if_eq C.1 C.2.1 hd ht (fun z => kt z H locs ls hP hS hl) (fun z => kf z H locs ls hP hS hl)
theorem v_icmp_eq (C : vC p s m args meth c cc nL ret own G) {x y : Int32} {off : Int} (tgt : Nat) (hd : decode cc pc = .ok (.if_icmp .eq off, 3)) (ht : (pc : Int) + off = (tgt : Int)) (kt : x = y → vV p l e R s m args below meth c Q G nL v kc ks tgt lv st) (kf : ¬ x = y → vV p l e R s m args below meth c Q G nL v kc ks (pc + 3) lv st) : vV p l e R s m args below meth c Q G nL v kc ks pc lv (.int y :: .int x :: st) := fun H locs ls hP hS hl => lv_icmp_eq C.1 C.2.1 hd ht (fun z => kt z H locs ls hP hS hl) (fun z => kf z H locs ls hP hS hl)
theorem v_if_ne (C : vC p s m args meth c cc nL ret own G) {x : Int32} {off : Int} (tgt : Nat) (hd : decode cc pc = .ok (.ifCond .ne off, 3)) (ht : (pc : Int) + off = (tgt : Int)) (kt : ¬ x = 0 → vV p l e R s m args below meth c Q G nL v kc ks tgt lv st) (kf : x = 0 → vV p l e R s m args below meth c Q G nL v kc ks (pc + 3) lv st) : vV p l e R s m args below meth c Q G nL v kc ks pc lv (.int x :: st) := fun H locs ls hP hS hl => lv_if_ne C.1 C.2.1 hd ht (fun z => kt z H locs ls hP hS hl) (fun z => kf z H locs ls hP hS hl)
theorem v_icmp_ne (C : vC p s m args meth c cc nL ret own G) {x y : Int32} {off : Int} (tgt : Nat) (hd : decode cc pc = .ok (.if_icmp .ne off, 3)) (ht : (pc : Int) + off = (tgt : Int)) (kt : ¬ x = y → vV p l e R s m args below meth c Q G nL v kc ks tgt lv st) (kf : x = y → vV p l e R s m args below meth c Q G nL v kc ks (pc + 3) lv st) : vV p l e R s m args below meth c Q G nL v kc ks pc lv (.int y :: .int x :: st) := fun H locs ls hP hS hl => lv_icmp_ne C.1 C.2.1 hd ht (fun z => kt z H locs ls hP hS hl) (fun z => kf z H locs ls hP hS hl)
theorem v_if_lt (C : vC p s m args meth c cc nL ret own G) {x : Int32} {off : Int} (tgt : Nat) (hd : decode cc pc = .ok (.ifCond .lt off, 3)) (ht : (pc : Int) + off = (tgt : Int)) (kt : x < 0 → vV p l e R s m args below meth c Q G nL v kc ks tgt lv st) (kf : ¬ x < 0 → vV p l e R s m args below meth c Q G nL v kc ks (pc + 3) lv st) : vV p l e R s m args below meth c Q G nL v kc ks pc lv (.int x :: st) := fun H locs ls hP hS hl => lv_if_lt C.1 C.2.1 hd ht (fun z => kt z H locs ls hP hS hl) (fun z => kf z H locs ls hP hS hl)
theorem v_icmp_lt (C : vC p s m args meth c cc nL ret own G) {x y : Int32} {off : Int} (tgt : Nat) (hd : decode cc pc = .ok (.if_icmp .lt off, 3)) (ht : (pc : Int) + off = (tgt : Int)) (kt : x < y → vV p l e R s m args below meth c Q G nL v kc ks tgt lv st) (kf : ¬ x < y → vV p l e R s m args below meth c Q G nL v kc ks (pc + 3) lv st) : vV p l e R s m args below meth c Q G nL v kc ks pc lv (.int y :: .int x :: st) := fun H locs ls hP hS hl => lv_icmp_lt C.1 C.2.1 hd ht (fun z => kt z H locs ls hP hS hl) (fun z => kf z H locs ls hP hS hl)
theorem v_if_ge (C : vC p s m args meth c cc nL ret own G) {x : Int32} {off : Int} (tgt : Nat) (hd : decode cc pc = .ok (.ifCond .ge off, 3)) (ht : (pc : Int) + off = (tgt : Int)) (kt : 0 ≤ x → vV p l e R s m args below meth c Q G nL v kc ks tgt lv st) (kf : ¬ 0 ≤ x → vV p l e R s m args below meth c Q G nL v kc ks (pc + 3) lv st) : vV p l e R s m args below meth c Q G nL v kc ks pc lv (.int x :: st) := fun H locs ls hP hS hl => lv_if_ge C.1 C.2.1 hd ht (fun z => kt z H locs ls hP hS hl) (fun z => kf z H locs ls hP hS hl)
theorem v_icmp_ge (C : vC p s m args meth c cc nL ret own G) {x y : Int32} {off : Int} (tgt : Nat) (hd : decode cc pc = .ok (.if_icmp .ge off, 3)) (ht : (pc : Int) + off = (tgt : Int)) (kt : y ≤ x → vV p l e R s m args below meth c Q G nL v kc ks tgt lv st) (kf : ¬ y ≤ x → vV p l e R s m args below meth c Q G nL v kc ks (pc + 3) lv st) : vV p l e R s m args below meth c Q G nL v kc ks pc lv (.int y :: .int x :: st) := fun H locs ls hP hS hl => lv_icmp_ge C.1 C.2.1 hd ht (fun z => kt z H locs ls hP hS hl) (fun z => kf z H locs ls hP hS hl)
theorem v_if_gt (C : vC p s m args meth c cc nL ret own G) {x : Int32} {off : Int} (tgt : Nat) (hd : decode cc pc = .ok (.ifCond .gt off, 3)) (ht : (pc : Int) + off = (tgt : Int)) (kt : 0 < x → vV p l e R s m args below meth c Q G nL v kc ks tgt lv st) (kf : ¬ 0 < x → vV p l e R s m args below meth c Q G nL v kc ks (pc + 3) lv st) : vV p l e R s m args below meth c Q G nL v kc ks pc lv (.int x :: st) := fun H locs ls hP hS hl => lv_if_gt C.1 C.2.1 hd ht (fun z => kt z H locs ls hP hS hl) (fun z => kf z H locs ls hP hS hl)
theorem v_icmp_gt (C : vC p s m args meth c cc nL ret own G) {x y : Int32} {off : Int} (tgt : Nat) (hd : decode cc pc = .ok (.if_icmp .gt off, 3)) (ht : (pc : Int) + off = (tgt : Int)) (kt : y < x → vV p l e R s m args below meth c Q G nL v kc ks tgt lv st) (kf : ¬ y < x → vV p l e R s m args below meth c Q G nL v kc ks (pc + 3) lv st) : vV p l e R s m args below meth c Q G nL v kc ks pc lv (.int y :: .int x :: st) := fun H locs ls hP hS hl => lv_icmp_gt C.1 C.2.1 hd ht (fun z => kt z H locs ls hP hS hl) (fun z => kf z H locs ls hP hS hl)
theorem v_if_le (C : vC p s m args meth c cc nL ret own G) {x : Int32} {off : Int} (tgt : Nat) (hd : decode cc pc = .ok (.ifCond .le off, 3)) (ht : (pc : Int) + off = (tgt : Int)) (kt : x ≤ 0 → vV p l e R s m args below meth c Q G nL v kc ks tgt lv st) (kf : ¬ x ≤ 0 → vV p l e R s m args below meth c Q G nL v kc ks (pc + 3) lv st) : vV p l e R s m args below meth c Q G nL v kc ks pc lv (.int x :: st) := fun H locs ls hP hS hl => lv_if_le C.1 C.2.1 hd ht (fun z => kt z H locs ls hP hS hl) (fun z => kf z H locs ls hP hS hl)
theorem v_icmp_le (C : vC p s m args meth c cc nL ret own G) {x y : Int32} {off : Int} (tgt : Nat) (hd : decode cc pc = .ok (.if_icmp .le off, 3)) (ht : (pc : Int) + off = (tgt : Int)) (kt : x ≤ y → vV p l e R s m args below meth c Q G nL v kc ks tgt lv st) (kf : ¬ x ≤ y → vV p l e R s m args below meth c Q G nL v kc ks (pc + 3) lv st) : vV p l e R s m args below meth c Q G nL v kc ks pc lv (.int y :: .int x :: st) := fun H locs ls hP hS hl => lv_icmp_le C.1 C.2.1 hd ht (fun z => kt z H locs ls hP hS hl) (fun z => kf z H locs ls hP hS hl)
theorem v_goto (C : vC p s m args meth c cc nL ret own G) {off : Int} (tgt : Nat) (hd : decode cc pc = .ok (.goto off, 3)) (ht : (pc : Int) + off = (tgt : Int)) (k : vV p l e R s m args below meth c Q G nL v kc ks tgt lv st) : vV p l e R s m args below meth c Q G nL v kc ks pc lv st := fun H locs ls hP hS hl => lv_goto C.1 C.2.1 hd ht (k H locs ls hP hS hl)
theorem v_ifnull (C : vC p s m args meth c cc nL ret own G) {x : Nat} {off : Int} (hd : decode cc pc = .ok (.ifnull off, 3)) (k : vV p l e R s m args below meth c Q G nL v kc ks (pc + 3) lv st) : vV p l e R s m args below meth c Q G nL v kc ks pc lv (.ref x :: st) := fun H locs ls hP hS hl => lv_ifnull C.1 C.2.1 hd (k H locs ls hP hS hl)
theorem v_ifnullN (C : vC p s m args meth c cc nL ret own G) {off : Int} (tgt : Nat) (hd : decode cc pc = .ok (.ifnull off, 3)) (ht : (pc : Int) + off = (tgt : Int)) (k : vV p l e R s m args below meth c Q G nL v kc ks tgt lv st) : vV p l e R s m args below meth c Q G nL v kc ks pc lv (.null :: st) := fun H locs ls hP hS hl => lv_ifnullN C.1 C.2.1 hd ht (k H locs ls hP hS hl)
theorem v_ifnonnull (C : vC p s m args meth c cc nL ret own G) {x : Nat} {off : Int} (tgt : Nat) (hd : decode cc pc = .ok (.ifnonnull off, 3)) (ht : (pc : Int) + off = (tgt : Int)) (k : vV p l e R s m args below meth c Q G nL v kc ks tgt lv st) : vV p l e R s m args below meth c Q G nL v kc ks pc lv (.ref x :: st) := fun H locs ls hP hS hl => lv_ifnonnull C.1 C.2.1 hd ht (k H locs ls hP hS hl)
theorem v_ifnonnullN (C : vC p s m args meth c cc nL ret own G) {off : Int} (hd : decode cc pc = .ok (.ifnonnull off, 3)) (k : vV p l e R s m args below meth c Q G nL v kc ks (pc + 3) lv st) : vV p l e R s m args below meth c Q G nL v kc ks pc lv (.null :: st) := fun H locs ls hP hS hl => lv_ifnonnullN C.1 C.2.1 hd (k H locs ls hP hS hl)
theorem v_topi {x : Int32} (k : ∀ y : Int32, y = x → vV p l e R s m args below meth c Q G nL v kc ks pc lv (.int y :: st)) : vV p l e R s m args below meth c Q G nL v kc ks pc lv (.int x :: st) := k x rfl
theorem v_topl {x : Int64} (k : ∀ y : Int64, y = x → vV p l e R s m args below meth c Q G nL v kc ks pc lv (.long y :: st)) : vV p l e R s m args below meth c Q G nL v kc ks pc lv (.long x :: st) := k x rfl
theorem v_sub (is : List Nat) {lv' : List (Nat × Value)} (hv : lv_pick lv is = lv') (k : vV p l e R s m args below meth c Q G nL v kc ks pc lv' st) : vV p l e R s m args below meth c Q G nL v kc ks pc lv st := fun H locs ls hP hS hl => k H locs ls hP hS (lv_sub hl is hv)
theorem v_widen {kc' ks' : Nat} (h1 : kc ≤ kc') (h2 : ks ≤ ks') (k : vV p l e R s m args below meth c Q G nL v kc' ks' pc lv st) : vV p l e R s m args below meth c Q G nL v kc ks pc lv st := fun H locs ls hP hS hl => W.widen h1 h2 (k H locs ls hP hS hl)
end VV
section VH
variable {p : Program} {l : Launch} {e : Env} {R : Room} {s : State} {m : MethodId} {args : Array Value} {below : List Frame} {meth : Method} {c : Code} {Q : State → Prop} {G : vv_G} {cc : ByteArray} {nL : Nat} {ret : Option FieldType} {own : String} {v : vv_V} {kc ks pc : Nat} {lv : List (Nat × Value)} {st : List Value}
-- answers
variable {post : Option Value → vv_V → Prop} {mc ms : Nat}
theorem v_iret {x : Int32} (C : vC p s m args meth c cc nL (some .int) own G) (hd : decode cc pc = .ok (.ireturn, 1)) (hc : kc ≤ mc) (hs : ks ≤ ms) (hp : post (some (.int x)) v) : vV p l e R s m args below meth c (MQ below (vv_Q G post) args s mc ms (fun q => G.2.1 ≤ q)) G nL v kc ks pc lv [.int x] :=
  fun H locs ls hP hS hl => W.widen hc hs (W.iret C.1 C.2.1 C.2.2.2.2.2.1 (fun t ht hW => ⟨⟨_, v, rfl, hp, by rw [ht]; exact hP⟩, hS.F ht⟩) hS.2.2 hd (hlocks := C.2.2.2.2.2.2))
theorem v_zret {x : Int32} (C : vC p s m args meth c cc nL (some .boolean) own G) (hd : decode cc pc = .ok (.ireturn, 1)) (hc : kc ≤ mc) (hs : ks ≤ ms) (hn : narrow .boolean (.int x) = .int x) (hp : post (some (.int x)) v) : vV p l e R s m args below meth c (MQ below (vv_Q G post) args s mc ms (fun q => G.2.1 ≤ q)) G nL v kc ks pc lv [.int x] :=
  fun H locs ls hP hS hl => W.widen hc hs (W.zret C.1 C.2.1 C.2.2.2.2.2.1 hn (fun t ht hW => ⟨⟨_, v, rfl, hp, by rw [ht]; exact hP⟩, hS.F ht⟩) hS.2.2 hd (hlocks := C.2.2.2.2.2.2))
theorem v_lret {x : Int64} (C : vC p s m args meth c cc nL (some .long) own G) (hd : decode cc pc = .ok (.lreturn, 1)) (hc : kc ≤ mc) (hs : ks ≤ ms) (hp : post (some (.long x)) v) : vV p l e R s m args below meth c (MQ below (vv_Q G post) args s mc ms (fun q => G.2.1 ≤ q)) G nL v kc ks pc lv [.long x] :=
  fun H locs ls hP hS hl => W.widen hc hs (W.lret C.1 C.2.1 C.2.2.2.2.2.1 (fun t ht hW => ⟨⟨_, v, rfl, hp, by rw [ht]; exact hP⟩, hS.F ht⟩) hS.2.2 hd (hlocks := C.2.2.2.2.2.2))
theorem v_vret (C : vC p s m args meth c cc nL none own G) (hd : decode cc pc = .ok (.return_, 1)) (hc : kc ≤ mc) (hs : ks ≤ ms) (hp : post none v) : vV p l e R s m args below meth c (MQ below (vv_Q G post) args s mc ms (fun q => G.2.1 ≤ q)) G nL v kc ks pc lv [] :=
  fun H locs ls hP hS hl => W.widen hc hs (W.vret C.1 C.2.1 C.2.2.2.2.2.1 (fun t ht hW => ⟨⟨_, v, rfl, hp, by rw [ht]; exact hP⟩, hS.F ht⟩) hS.2.2 hd (hlocks := C.2.2.2.2.2.2))
theorem v_aret {x : Value} {rt : FieldType} (C : vC p s m args meth c cc nL (some rt) own G) (hrt : (∃ n, rt = .object n) ∨ ∃ t, rt = .array t) (hx : x = .null ∨ ∃ a, x = .ref a) (hd : decode cc pc = .ok (.areturn, 1)) (hc : kc ≤ mc) (hs : ks ≤ ms) (hp : post (some x) v) : vV p l e R s m args below meth c (MQ below (vv_Q G post) args s mc ms (fun q => G.2.1 ≤ q)) G nL v kc ks pc lv [x] :=
  fun H locs ls hP hS hl => W.widen hc hs (W.aret C.1 C.2.1 C.2.2.2.2.2.1 hrt hx (fun t ht hW => ⟨⟨_, v, rfl, hp, by rw [ht]; exact hP⟩, hS.F ht⟩) hS.2.2 hd (hlocks := C.2.2.2.2.2.2))
-- fields
variable {ref Cn : String} {T : u_T} {N ci index a : Nat} {fs : List Value} {x : Value}
/-- what the tables say of class ci: its fields are laid out; their names differ; their types -/
def vv_cl (ci : Nat) (Cn : String) (T : u_T) (N : Nat) (ty : Nat → FieldType) : Prop := vwCl[ci]? = some (Cn, T, N) ∧ ci ≠ 99 ∧ (∀ w ∈ u_ws Cn T N, w ∈ vv_wds) ∧ (∀ k, k < N → parseFieldDescriptor (T k).2.2.1 = some (ty k)) ∧ (∀ a, a < N → ∀ b, b < N → a ≠ b → (T a).2.1 ≠ (T b).2.1)
theorem v_get {ty : Nat → FieldType} (C : vC p s m args meth c cc nL ret own G) (hcl : vv_cl ci Cn T N ty) (he : v ci a = some (.inr (ci, fs))) (k0 : Nat) (hk : k0 < N) (hlink : Cond.fieldLink own index ref (T k0).2.1 (T k0).2.2.1 ∈ vv_wds) (hsame : ∀ x, s.fieldFound? (T k0).1 (T k0).2.1 (T k0).2.2.1 = some x → s.fieldFound? ref (T k0).2.1 (T k0).2.2.1 = some x) (hx : fs[k0]? = some x) (hd : decode cc pc = .ok (.getfield index, 3))
    (k : vV p l e R s m args below meth c Q G nL v kc ks (pc + 3) lv (x :: st)) : vV p l e R s m args below meth c Q G nL v kc ks pc lv (.ref a :: st) :=
  fun H locs ls hP hS hl => va_get C.1 C.2.1 C.w hcl.2.2.1 C.2.2.2.1 C.2.2.2.2.1.1 (hP.one he) 0 rfl hcl.1 k0 hk (C.w _ hlink) hsame hx hd (k H locs ls hP hS hl)
theorem v_getN {ty : Nat → FieldType} {host : String} (C : vC p s m args meth c cc nL ret own G) (hcl : vv_cl ci Cn T N ty) (he : v ci a = some (.inr (ci, fs))) (k0 : Nat) (hk : k0 < N) (hlink : Cond.fieldLinkNest own index ref (T k0).2.1 (T k0).2.2.1 host ∈ vv_wds) (hsame : ∀ x, s.fieldFound? (T k0).1 (T k0).2.1 (T k0).2.2.1 = some x → s.fieldFound? ref (T k0).2.1 (T k0).2.2.1 = some x) (hx : fs[k0]? = some x) (hd : decode cc pc = .ok (.getfield index, 3))
    (k : vV p l e R s m args below meth c Q G nL v kc ks (pc + 3) lv (x :: st)) : vV p l e R s m args below meth c Q G nL v kc ks pc lv (.ref a :: st) :=
  fun H locs ls hP hS hl => va_getN C.1 C.2.1 C.w hcl.2.2.1 C.2.2.2.1 C.2.2.2.2.1.1 (hP.one he) 0 rfl hcl.1 k0 hk (C.w _ hlink) hsame hx hd (k H locs ls hP hS hl)
theorem v_put {ty : Nat → FieldType} (C : vC p s m args meth c cc nL ret own G) (hcl : vv_cl ci Cn T N ty) (he : v ci a = some (.inr (ci, fs))) (k0 : Nat) (hk : k0 < N) (hlink : Cond.fieldLink own index ref (T k0).2.1 (T k0).2.2.1 ∈ vv_wds) (hsame : ∀ x, s.fieldFound? (T k0).1 (T k0).2.1 (T k0).2.2.1 = some x → s.fieldFound? ref (T k0).2.1 (T k0).2.2.1 = some x) (hfin : (T k0).2.2.2 = false) (hn : narrow (ty k0) x = x) (hfit : fits (ty k0) x = true) (hl0 : k0 < fs.length) (hd : decode cc pc = .ok (.putfield index, 3))
    (k : vV p l e R s m args below meth c Q G nL (vv_up v ci a (.inr (ci, fs.set k0 x))) kc ks (pc + 3) lv st) : vV p l e R s m args below meth c Q G nL v kc ks pc lv (x :: .ref a :: st) := by
  intro H locs ls hP hS hl
  obtain ⟨ws, hL⟩ := vv_ls hP
  obtain ⟨q0, hq⟩ := hL.1 ci a _ hcl.2.1 he
  exact va_put C.1 C.2.1 C.w hcl.2.2.1 ty hcl.2.2.2.1 hcl.2.2.2.2 C.2.2.2.1 C.2.2.2.2.1.1 (hL.P hP) (hL.D hP) hS q0 hq hcl.1 k0 hk (C.w _ hlink) hsame hfin (hcl.2.2.2.1 k0 hk) hn hfit hl0 hd (fun H1 locs1 hP1 _ hS1 => k H1 locs1 ls (vv_set hP hL hcl.2.1 he hq C.2.2.2.2.1.2.2.2.2 hS hS1 hP1) hS1 hl)
theorem v_putN {ty : Nat → FieldType} {host : String} (C : vC p s m args meth c cc nL ret own G) (hcl : vv_cl ci Cn T N ty) (he : v ci a = some (.inr (ci, fs))) (k0 : Nat) (hk : k0 < N) (hlink : Cond.fieldLinkNest own index ref (T k0).2.1 (T k0).2.2.1 host ∈ vv_wds) (hsame : ∀ x, s.fieldFound? (T k0).1 (T k0).2.1 (T k0).2.2.1 = some x → s.fieldFound? ref (T k0).2.1 (T k0).2.2.1 = some x) (hfin : (T k0).2.2.2 = false) (hn : narrow (ty k0) x = x) (hfit : fits (ty k0) x = true) (hl0 : k0 < fs.length) (hd : decode cc pc = .ok (.putfield index, 3))
    (k : vV p l e R s m args below meth c Q G nL (vv_up v ci a (.inr (ci, fs.set k0 x))) kc ks (pc + 3) lv st) : vV p l e R s m args below meth c Q G nL v kc ks pc lv (x :: .ref a :: st) := by
  intro H locs ls hP hS hl
  obtain ⟨ws, hL⟩ := vv_ls hP
  obtain ⟨q0, hq⟩ := hL.1 ci a _ hcl.2.1 he
  exact va_putN C.1 C.2.1 C.w hcl.2.2.1 ty hcl.2.2.2.1 hcl.2.2.2.2 C.2.2.2.1 C.2.2.2.2.1.1 (hL.P hP) (hL.D hP) hS q0 hq hcl.1 k0 hk (C.w _ hlink) hsame hfin (hcl.2.2.2.1 k0 hk) hn hfit hl0 hd (fun H1 locs1 hP1 _ hS1 => k H1 locs1 ls (vv_set hP hL hcl.2.1 he hq C.2.2.2.2.1.2.2.2.2 hS hS1 hP1) hS1 hl)
theorem v_putF {ty : Nat → FieldType} (C : vC p s m args meth c cc nL ret own G) (hin2 : meth.name = "<init>") (hcl : vv_cl ci Cn T N ty) (he : v ci a = some (.inr (ci, fs))) (k0 : Nat) (hk : k0 < N) (hlink : Cond.fieldLink own index ref (T k0).2.1 (T k0).2.2.1 ∈ vv_wds) (hsame : ∀ x, s.fieldFound? (T k0).1 (T k0).2.1 (T k0).2.2.1 = some x → s.fieldFound? ref (T k0).2.1 (T k0).2.2.1 = some x) (hfin : (T k0).2.2.2 = true) (hdecl : (T k0).1 = own) (hn : narrow (ty k0) x = x) (hfit : fits (ty k0) x = true) (hl0 : k0 < fs.length) (hd : decode cc pc = .ok (.putfield index, 3))
    (k : vV p l e R s m args below meth c Q G nL (vv_up v ci a (.inr (ci, fs.set k0 x))) kc ks (pc + 3) lv st) : vV p l e R s m args below meth c Q G nL v kc ks pc lv (x :: .ref a :: st) := by
  intro H locs ls hP hS hl
  obtain ⟨ws, hL⟩ := vv_ls hP
  obtain ⟨q0, hq⟩ := hL.1 ci a _ hcl.2.1 he
  exact va_putF C.1 C.2.1 C.w hcl.2.2.1 ty hcl.2.2.2.1 hcl.2.2.2.2 C.2.2.2.1 C.2.2.2.2.1.1 (hL.P hP) (hL.D hP) hS q0 hq hcl.1 k0 hk (C.w _ hlink) hsame hfin hin2 hdecl (hcl.2.2.2.1 k0 hk) hn hfit hl0 hd (fun H1 locs1 hP1 _ hS1 => k H1 locs1 ls (vv_set hP hL hcl.2.1 he hq C.2.2.2.2.1.2.2.2.2 hS hS1 hP1) hS1 hl)
-- arrays
variable {n : Nat} {f : Nat → Int32} {fl : Nat → Int64} {fq : Nat → Option Nat} {i : Int32}
theorem v_iald (C : vC p s m args meth c cc nL ret own G) (he : v 50 a = some (.inl (G.2.2.2.2 0, n, .inl f))) (hi : vp_in i n) (hd : decode cc pc = .ok (.iaload, 1))
    (k : vV p l e R s m args below meth c Q G nL v kc ks (pc + 1) lv (.int (f i.toNatClampNeg) :: st)) : vV p l e R s m args below meth c Q G nL v kc ks pc lv (.int i :: .ref a :: st) :=
  fun H locs ls hP hS hl => va_iald C.1 C.2.1 C.2.2.2.2.1.1 (hP.one he) 0 0 rfl rfl hi hd (k H locs ls hP hS hl)
theorem v_zald (C : vC p s m args meth c cc nL ret own G) (he : v 51 a = some (.inl (G.2.2.2.2 1, n, .inl f))) (hi : vp_in i n) (hd : decode cc pc = .ok (.baload, 1))
    (k : vV p l e R s m args below meth c Q G nL v kc ks (pc + 1) lv (.int (f i.toNatClampNeg) :: st)) : vV p l e R s m args below meth c Q G nL v kc ks pc lv (.int i :: .ref a :: st) :=
  fun H locs ls hP hS hl => va_zald C.1 C.2.1 C.2.2.2.2.1.1 (hP.one he) 0 1 rfl rfl hi hd (k H locs ls hP hS hl)
theorem v_lald (C : vC p s m args meth c cc nL ret own G) (he : v 52 a = some (.inl (G.2.2.2.2 2, n, .inr (.inl fl)))) (hi : vp_in i n) (hd : decode cc pc = .ok (.laload, 1))
    (k : vV p l e R s m args below meth c Q G nL v kc ks (pc + 1) lv (.long (fl i.toNatClampNeg) :: st)) : vV p l e R s m args below meth c Q G nL v kc ks pc lv (.int i :: .ref a :: st) :=
  fun H locs ls hP hS hl => va_lald C.1 C.2.1 C.2.2.2.2.1.1 (hP.one he) 0 2 rfl rfl hi hd (k H locs ls hP hS hl)
theorem v_aald (C : vC p s m args meth c cc nL ret own G) (he : v 53 a = some (.inl (G.2.2.2.2 3, n, .inr (.inr (.inr (.inr fq)))))) (hi : vp_in i n) (hd : decode cc pc = .ok (.aaload, 1))
    (k : vV p l e R s m args below meth c Q G nL v kc ks (pc + 1) lv (va_rf (fq i.toNatClampNeg) :: st)) : vV p l e R s m args below meth c Q G nL v kc ks pc lv (.int i :: .ref a :: st) :=
  fun H locs ls hP hS hl => va_aldq C.1 C.2.1 C.2.2.2.2.1.1 (hP.one he) 0 3 rfl rfl hi hd (k H locs ls hP hS hl)
theorem v_alen (C : vC p s m args meth c cc nL ret own G) (K t0 : Nat) {y : vp_A} {ty : FieldType} {z : Int32} (he : v K a = some (.inl (G.2.2.2.2 t0, y))) (ht : (vv_tys G)[t0]? = some (G.2.2.2.2 t0, ty)) (hz : Int32.ofNat y.1 = z) (hd : decode cc pc = .ok (.arraylength, 1))
    (k : vV p l e R s m args below meth c Q G nL v kc ks (pc + 1) lv (.int z :: st)) : vV p l e R s m args below meth c Q G nL v kc ks pc lv (.ref a :: st) :=
  fun H locs ls hP hS hl => va_alen C.1 C.2.1 C.2.2.2.2.1.1 (hP.one he) 0 t0 rfl ht hz hd (k H locs ls hP hS hl)
theorem v_iast {x : Int32} (C : vC p s m args meth c cc nL ret own G) (he : v 50 a = some (.inl (G.2.2.2.2 0, n, .inl f))) (hi : vp_in i n) (hd : decode cc pc = .ok (.iastore, 1))
    (k : vV p l e R s m args below meth c Q G nL (vv_up v 50 a (.inl (G.2.2.2.2 0, n, .inl (upd f i.toNatClampNeg x)))) kc ks (pc + 1) lv st) : vV p l e R s m args below meth c Q G nL v kc ks pc lv (.int x :: .int i :: .ref a :: st) := by
  intro H locs ls hP hS hl
  obtain ⟨ws, hL⟩ := vv_ls hP
  obtain ⟨q0, hq⟩ := hL.1 50 a _ (by decide) he
  exact va_iast C.1 C.2.1 C.2.2.2.2.1.1 (hL.P hP) (hL.D hP) hS q0 0 hq rfl hi hd (fun H1 locs1 hP1 _ hS1 => k H1 locs1 ls (vv_set hP hL (by decide) he hq C.2.2.2.2.1.2.2.2.2 hS hS1 hP1) hS1 hl)
theorem v_zast {x : Int32} (C : vC p s m args meth c cc nL ret own G) (he : v 51 a = some (.inl (G.2.2.2.2 1, n, .inl f))) (hi : vp_in i n) (hd : decode cc pc = .ok (.bastore, 1))
    (k : vV p l e R s m args below meth c Q G nL (vv_up v 51 a (.inl (G.2.2.2.2 1, n, .inl (upd f i.toNatClampNeg (vp_nar .boolean x))))) kc ks (pc + 1) lv st) : vV p l e R s m args below meth c Q G nL v kc ks pc lv (.int x :: .int i :: .ref a :: st) := by
  intro H locs ls hP hS hl
  obtain ⟨ws, hL⟩ := vv_ls hP
  obtain ⟨q0, hq⟩ := hL.1 51 a _ (by decide) he
  exact va_zast C.1 C.2.1 C.2.2.2.2.1.1 (hL.P hP) (hL.D hP) hS q0 1 hq rfl hi hd (fun H1 locs1 hP1 _ hS1 => k H1 locs1 ls (vv_set hP hL (by decide) he hq C.2.2.2.2.1.2.2.2.2 hS hS1 hP1) hS1 hl)
theorem v_last {x : Int64} (C : vC p s m args meth c cc nL ret own G) (he : v 52 a = some (.inl (G.2.2.2.2 2, n, .inr (.inl fl)))) (hi : vp_in i n) (hd : decode cc pc = .ok (.lastore, 1))
    (k : vV p l e R s m args below meth c Q G nL (vv_up v 52 a (.inl (G.2.2.2.2 2, n, .inr (.inl (vp_updL fl i.toNatClampNeg x))))) kc ks (pc + 1) lv st) : vV p l e R s m args below meth c Q G nL v kc ks pc lv (.long x :: .int i :: .ref a :: st) := by
  intro H locs ls hP hS hl
  obtain ⟨ws, hL⟩ := vv_ls hP
  obtain ⟨q0, hq⟩ := hL.1 52 a _ (by decide) he
  exact va_last C.1 C.2.1 C.2.2.2.2.1.1 (hL.P hP) (hL.D hP) hS q0 2 hq rfl hi hd (fun H1 locs1 hP1 _ hS1 => k H1 locs1 ls (vv_set hP hL (by decide) he hq C.2.2.2.2.1.2.2.2.2 hS hS1 hP1) hS1 hl)
/-- an object of class ci laid into an Object[] -/
theorem v_aast {b cj : Nat} {vs : List Value} {Cj : String} {Tj : u_T} {Nj : Nat} (C : vC p s m args meth c cc nL ret own G) (he : v 53 a = some (.inl (G.2.2.2.2 3, n, .inr (.inr (.inr (.inr fq)))))) (h9 : cj ≠ 99) (hj : v cj b = some (.inr (cj, vs))) (hcj : vwCl[cj]? = some (Cj, Tj, Nj)) (hca : Cond.castable Cj "java/lang/Object" ∈ vv_wds) (hi : vp_in i n) (hd : decode cc pc = .ok (.aastore, 1))
    (k : vV p l e R s m args below meth c Q G nL (vv_up v 53 a (.inl (G.2.2.2.2 3, n, .inr (.inr (.inr (.inr (va_up fq i.toNatClampNeg (some b)))))))) kc ks (pc + 1) lv st) : vV p l e R s m args below meth c Q G nL v kc ks pc lv (.ref b :: .int i :: .ref a :: st) := by
  intro H locs ls hP hS hl
  obtain ⟨ws, hL⟩ := vv_ls hP
  obtain ⟨q0, hq⟩ := hL.1 53 a _ (by decide) he
  obtain ⟨q1, hq1⟩ := hL.1 cj b _ h9 hj
  exact va_astqO C.1 C.2.1 C.2.2.2.2.1.1 (hL.P hP) (hL.D hP) hS q0 3 q1 cj (r := (Cj, Tj, Nj)) hq rfl (va_Nw.of rfl (C.w _ hca)) hq1 hcj hi hd (fun H1 locs1 hP1 _ hS1 => k H1 locs1 ls (vv_set hP hL (by decide) he hq C.2.2.2.2.1.2.2.2.2 hS hS1 hP1) hS1 hl)
-- new cells
theorem v_new {ty : Nat → FieldType} {fs : List Value} (C : vC p s m args meth c cc nL ret own G) (hcl : vv_cl ci Cn T N ty) (hlink : Cond.classLink own index Cn ∈ vv_wds) (hinst : Cond.instantiable Cn N ∈ vv_wds) (hini : Cond.initialized Cn ∈ vv_wds) (hfs : ∀ j, j < N → defaultValue (ty j) = vp_V fs j) (hcells : kc + 1 ≤ R.cells) (hslots : ks + N ≤ R.slots) (hd : decode cc pc = .ok (.new index, 3))
    (k : ∀ q : Nat, (∀ k', v k' q = none) → vV p l e R s m args below meth c Q G nL (vv_up v ci q (.inr (ci, fs))) (kc + 1) (ks + N) (pc + 3) lv (.ref q :: st)) : vV p l e R s m args below meth c Q G nL v kc ks pc lv st := by
  intro H locs ls hP hS hl
  obtain ⟨ws, hL⟩ := vv_ls hP
  refine va_new C.1 C.2.1 C.w hcl.2.2.1 ty hcl.2.2.2.1 C.2.2.2.1 (C.w _ hlink) (C.w _ hinst) (C.w _ hini) C.2.2.2.2.1.1 (hL.P hP) (hL.D hP) hS (fun q h => Nat.le_trans C.2.2.2.2.1.2.2.2.2 h) hcl.1 hfs hcells hslots hd (fun q H1 hP1 hD1 hS1 => ?_)
  obtain ⟨g1, g2⟩ := vv_push hP hL hcl.2.1 C.2.2.2.2.1.2.2.2.2 hS hS1 hP1 hD1
  exact k q g1 H1 locs ls g2 hS1 hl
theorem v_newai {z : Int32} (C : vC p s m args meth c cc nL ret own G) (hz : ¬ z < 0) (hn : z.toNatClampNeg = n) (hby : n ≤ 100000) (hcells : kc + 1 ≤ R.cells) (hslots : ks + n ≤ R.slots) (hd : decode cc pc = .ok (.newarray .int, 2))
    (k : ∀ q : Nat, (∀ k', v k' q = none) → vV p l e R s m args below meth c Q G nL (vv_up v 50 q (.inl (G.2.2.2.2 0, n, .inl (fun _ => 0)))) (kc + 1) (ks + n) (pc + 2) lv (.ref q :: st)) : vV p l e R s m args below meth c Q G nL v kc ks pc lv (.int z :: st) := by
  intro H locs ls hP hS hl
  obtain ⟨ws, hL⟩ := vv_ls hP
  refine va_newa C.1 C.2.1 (atype := .int) (ty := .int) (a0 := (n, .inl (fun _ => 0))) (word_at (State.WarmedH.refl s) (Or.inr ⟨_, rfl⟩) (C.2.2.2.2.1.2.2.2.1.2.2 .int (by simp))) rfl C.2.2.2.2.1.1 (hL.P hP) (hL.D hP) hS (fun q h => Nat.le_trans C.2.2.2.2.1.2.2.2.2 h) (fun cA => rfl) hz hn (by show n * 4 ≤ _; omega) hcells hslots hd (fun q cA H1 hK1 hP1 hD1 hS1 => ?_)
  have hcA : cA = G.2.2.2.2 0 := Option.some.inj ((hK1.2 4 (cA, .int) rfl).2.symm.trans (C.2.2.2.2.1.1.2 0 _ rfl).2)
  subst hcA
  obtain ⟨g1, g2⟩ := vv_push (k := 50) hP hL (by decide) C.2.2.2.2.1.2.2.2.2 hS hS1 hP1 hD1
  exact k q g1 H1 locs ls g2 hS1 hl
theorem v_newaz {z : Int32} (C : vC p s m args meth c cc nL ret own G) (hz : ¬ z < 0) (hn : z.toNatClampNeg = n) (hby : n ≤ 100000) (hcells : kc + 1 ≤ R.cells) (hslots : ks + n ≤ R.slots) (hd : decode cc pc = .ok (.newarray .boolean, 2))
    (k : ∀ q : Nat, (∀ k', v k' q = none) → vV p l e R s m args below meth c Q G nL (vv_up v 51 q (.inl (G.2.2.2.2 1, n, .inl (fun _ => 0)))) (kc + 1) (ks + n) (pc + 2) lv (.ref q :: st)) : vV p l e R s m args below meth c Q G nL v kc ks pc lv (.int z :: st) := by
  intro H locs ls hP hS hl
  obtain ⟨ws, hL⟩ := vv_ls hP
  refine va_newa C.1 C.2.1 (atype := .boolean) (ty := .boolean) (a0 := (n, .inl (fun _ => 0))) (word_at (State.WarmedH.refl s) (Or.inr ⟨_, rfl⟩) (C.2.2.2.2.1.2.2.2.1.2.2 .boolean (by simp))) rfl C.2.2.2.2.1.1 (hL.P hP) (hL.D hP) hS (fun q h => Nat.le_trans C.2.2.2.2.1.2.2.2.2 h) (fun cA => rfl) hz hn (by show n * 1 ≤ _; omega) hcells hslots hd (fun q cA H1 hK1 hP1 hD1 hS1 => ?_)
  have hcA : cA = G.2.2.2.2 1 := Option.some.inj ((hK1.2 4 (cA, .boolean) rfl).2.symm.trans (C.2.2.2.2.1.1.2 1 _ rfl).2)
  subst hcA
  obtain ⟨g1, g2⟩ := vv_push (k := 51) hP hL (by decide) C.2.2.2.2.1.2.2.2.2 hS hS1 hP1 hD1
  exact k q g1 H1 locs ls g2 hS1 hl
theorem v_newal {z : Int32} (C : vC p s m args meth c cc nL ret own G) (hz : ¬ z < 0) (hn : z.toNatClampNeg = n) (hby : n ≤ 100000) (hcells : kc + 1 ≤ R.cells) (hslots : ks + n ≤ R.slots) (hd : decode cc pc = .ok (.newarray .long, 2))
    (k : ∀ q : Nat, (∀ k', v k' q = none) → vV p l e R s m args below meth c Q G nL (vv_up v 52 q (.inl (G.2.2.2.2 2, n, .inr (.inl (fun _ => 0))))) (kc + 1) (ks + n) (pc + 2) lv (.ref q :: st)) : vV p l e R s m args below meth c Q G nL v kc ks pc lv (.int z :: st) := by
  intro H locs ls hP hS hl
  obtain ⟨ws, hL⟩ := vv_ls hP
  refine va_newa C.1 C.2.1 (atype := .long) (ty := .long) (a0 := (n, .inr (.inl (fun _ => 0)))) (word_at (State.WarmedH.refl s) (Or.inr ⟨_, rfl⟩) (C.2.2.2.2.1.2.2.2.1.2.2 .long (by simp))) rfl C.2.2.2.2.1.1 (hL.P hP) (hL.D hP) hS (fun q h => Nat.le_trans C.2.2.2.2.1.2.2.2.2 h) (fun cA => rfl) hz hn (by show n * 8 ≤ _; omega) hcells hslots hd (fun q cA H1 hK1 hP1 hD1 hS1 => ?_)
  have hcA : cA = G.2.2.2.2 2 := Option.some.inj ((hK1.2 4 (cA, .long) rfl).2.symm.trans (C.2.2.2.2.1.1.2 2 _ rfl).2)
  subst hcA
  obtain ⟨g1, g2⟩ := vv_push (k := 52) hP hL (by decide) C.2.2.2.2.1.2.2.2.2 hS hS1 hP1 hD1
  exact k q g1 H1 locs ls g2 hS1 hl
theorem v_newaq {z : Int32} (C : vC p s m args meth c cc nL ret own G) (hlink : Cond.classLink own index "java/lang/Object" ∈ vv_wds) (hz : ¬ z < 0) (hn : z.toNatClampNeg = n) (hby : n ≤ 100000) (hcells : kc + 1 ≤ R.cells) (hslots : ks + n ≤ R.slots) (hd : decode cc pc = .ok (.anewarray index, 3))
    (k : ∀ q : Nat, (∀ k', v k' q = none) → vV p l e R s m args below meth c Q G nL (vv_up v 53 q (.inl (G.2.2.2.2 3, n, .inr (.inr (.inr (.inr (fun _ => none))))))) (kc + 1) (ks + n) (pc + 3) lv (.ref q :: st)) : vV p l e R s m args below meth c Q G nL v kc ks pc lv (.int z :: st) := by
  intro H locs ls hP hS hl
  obtain ⟨ws, hL⟩ := vv_ls hP
  refine va_newq C.1 C.2.1 C.2.2.2.1 (C.w _ hlink) C.2.2.2.2.1.2.2.2.1.2.1 C.2.2.2.2.1.1 (hL.P hP) (hL.D hP) hS (fun q h => Nat.le_trans C.2.2.2.2.1.2.2.2.2 h) hz hn (by omega) hcells hslots hd (fun q cA H1 hK1 hP1 hD1 hS1 => ?_)
  have hcA : cA = G.2.2.2.2 3 := Option.some.inj ((va_nmO (hK1.2 4 (cA, .object "java/lang/Object") rfl).2 rfl).symm.trans (va_nmO (C.2.2.2.2.1.1.2 3 _ rfl).2 rfl))
  subst hcA
  obtain ⟨g1, g2⟩ := vv_push (k := 53) hP hL (by decide) C.2.2.2.2.1.2.2.2.2 hS hS1 hP1 hD1
  exact k q g1 H1 locs ls g2 hS1 hl
theorem v_objInit (C : vC p s m args meth c cc nL ret own G) (hlink : Cond.methodLink own index objectInit ∈ vv_wds) (hinst : Cond.instanceMethod objectInit ∈ vv_wds) (hcode : Cond.code objectInit ⟨#[0xb1]⟩ 1 none ∈ vv_wds) (hd : decode cc pc = .ok (.invokespecial index, 3)) (hfr : 1 ≤ R.frames) (hlo : (st.map fun v => v.category).sum + 12 ≤ R.locals)
    (k : vV p l e R s m args below meth c Q G nL v kc ks (pc + 3) lv st) : vV p l e R s m args below meth c Q G nL v kc ks pc lv (.ref a :: st) :=
  fun H locs ls hP hS hl => W.objInit C.1 C.2.1 C.2.2.2.1 (C.w _ hlink) (C.w _ hinst) (C.w _ hcode) rfl (hl.1.trans C.2.2.1.symm) rfl hd hfr (by show 2 * 0 + _ + 12 ≤ _; omega) (k H locs ls hP hS hl)
-- calls
variable {y : MethodName} {bytes : ByteArray} {maxL f0 lo0 np mc0 ms0 : Nat} {ret0 : Option FieldType} {As rest : List Value} {post0 : Option Value → vv_V → Prop} {b : Nat}
theorem vv_cb (ht : ∀ w ∈ vv_wds, w.before args s = true) (hcode : Cond.code y bytes maxL ret0 ∈ vv_wds) (hini : Cond.initialized y.cls ∈ vv_wds) (hl : Cond.methodLink own index y ∈ vv_wds) (hd : y.cls ≠ "java/lang/invoke/MethodHandle" ∧ y.cls ≠ "java/lang/invoke/VarHandle" ∧ (parseMethodDescriptor y.desc).map (fun d => d.parameters.length) = some np) (hR : f0 + 1 ≤ R.frames ∧ 8 + (maxL + 11) + lo0 ≤ R.locals) :
    CallB R s args own index y bytes maxL ret0 [Cond.code y bytes maxL ret0] { frames := f0, cells := mc0, slots := ms0, locals := lo0 } mc0 ms0 np :=
  callB_of np ht (fun w h => by rw [List.mem_singleton] at h; subst h; exact ⟨hcode, good_of_word rfl⟩) rfl rfl rfl (ht _ hini) (ht _ hl) hd hR
/-- what comes behind a call -/
theorem vv_back {free : Addr → Prop} (hE : vv_E G s) {H : Heap} {locs : List Loc} {ls : Array Slot} (hS : va_S (fun q => G.2.1 ≤ q) s.heap H locs) (hl : lv_has ls nL lv) {a0 : Array Value} (hr : va_Run p l e R s m args below meth c H locs kc ks mc0 ms0 (F0 m pc ls st) rest (vv_Q G post0 a0) free) (hf : ∀ q, free q → G.2.1 ≤ q)
    (k : ∀ (r : Option Value) (v' : vv_V), post0 r v' → vV p l e R s m args below meth c Q G nL v' (kc + mc0) (ks + ms0) (pc + 3) lv (r.toList ++ rest)) : W p l e R s m args below meth c H locs kc ks Q (F0 m pc ls st) := by
  intro T hT X
  obtain ⟨w, st₀, t, T', L, h0, X', hL, e1, e2, ⟨⟨r, v', hv, hp, hPv⟩, hz, hk⟩, stp⟩ := hr T hT X
  cases hv
  rw [h0] at hz hk
  obtain ⟨t2, a1, b1⟩ := k w v' hp T'.heap (locs ++ L) ls (by rw [e1]; exact hPv)
    ⟨Nat.le_trans hS.1 (by rw [e1]; exact hz), fun q h1 h2 => by rw [e1, hk q (Nat.lt_of_lt_of_le h1 hS.1) h2]; exact hS.2.1 q h1 h2, fun q hq => by
      rcases List.mem_append.mp hq with h | h
      · exact hS.2.2 q h
      · exact hf _ (hL q h)⟩ hl T' rfl X'
  exact ⟨t2, stp t2 a1, b1⟩
theorem vv_recv {H : Heap} (hE : vv_E G s) (hP : vv_P G v H) (he : v ci b = some (.inr (ci, fs))) (hc : vwCl[ci]? = some (Cn, T, N)) : ∃ cell : Cell, H[b]? = some cell ∧ cell.vm.isStatics = false ∧ s.vm.findClass Cn = some cell.cls :=
  va_recv (q := (Cn, T, N)) hE.1 (hP.one he) hc (q0 := 0) rfl
theorem vv_preS {H : Heap} {locs : List Loc} (hE : vv_E G s) (hP : vv_P G v H) (hS : va_S (fun q => G.2.1 ≤ q) s.heap H locs) : PreS s H (va_Pc As (vv_pre G v)) As :=
  ⟨vv_blind, fun U hU hW => ⟨rfl, by rw [hU]; exact hP, hE.at hS hU hW⟩⟩
/-- invokevirtual -/
theorem v_callV (C : vC p s m args meth c cc nL ret own G) (hM : Mv l y bytes maxL ret0 f0 lo0 G v (.ref b :: As) post0 mc0 ms0) (hcode : Cond.code y bytes maxL ret0 ∈ vv_wds) (hini : Cond.initialized y.cls ∈ vv_wds) (hlink : Cond.methodLink own index y ∈ vv_wds) (hinst : Cond.instanceMethod y ∈ vv_wds) (hsel : Cond.selects Cn y y ∈ vv_wds) (hmn : y.cls ≠ "java/lang/invoke/MethodHandle" ∧ y.cls ≠ "java/lang/invoke/VarHandle" ∧ (parseMethodDescriptor y.desc).map (fun d => d.parameters.length) = some np) (he : v ci b = some (.inr (ci, fs))) (hc : vwCl[ci]? = some (Cn, T, N))
    (hR : f0 + 1 ≤ R.frames ∧ 8 + (maxL + 11) + lo0 ≤ R.locals) (hn : As.length = np) (hst : st = As.reverse ++ .ref b :: rest) (hW : (rest.map fun v => v.category).sum ≤ 8) (hd : decode cc pc = .ok (.invokevirtual index, 3)) (hf : kc + mc0 ≤ R.cells ∧ ks + ms0 ≤ R.slots)
    (k : ∀ (r : Option Value) (v' : vv_V), post0 r v' → vV p l e R s m args below meth c Q G nL v' (kc + mc0) (ks + ms0) (pc + 3) lv (r.toList ++ rest)) : vV p l e R s m args below meth c Q G nL v kc ks pc lv st :=
  fun H locs ls hP hS hl => vv_back C.2.2.2.2.1 hS hl (va_runV (C := Cn) ⟨C.1, C.2.1, C.2.2.1, C.2.2.2.1, C.w⟩ hM ⟨vv_cb C.w hcode hini hlink hmn hR, C.w _ hinst, C.w _ hsel⟩ ⟨vv_blind, vv_recv C.2.2.2.2.1 hP he hc, (vv_preS C.2.2.2.2.1 hP hS).2⟩ rfl hn hl.1 hst (lv_room hW) hd hf) (fun _ h => h) k
/-- invokestatic -/
theorem v_callS (C : vC p s m args meth c cc nL ret own G) (hM : Mv l y bytes maxL ret0 f0 lo0 G v As post0 mc0 ms0) (hcode : Cond.code y bytes maxL ret0 ∈ vv_wds) (hini : Cond.initialized y.cls ∈ vv_wds) (hlink : Cond.methodLink own index y ∈ vv_wds) (hstat : Cond.static y ∈ vv_wds) (hmn : y.cls ≠ "java/lang/invoke/MethodHandle" ∧ y.cls ≠ "java/lang/invoke/VarHandle" ∧ (parseMethodDescriptor y.desc).map (fun d => d.parameters.length) = some np)
    (hR : f0 + 1 ≤ R.frames ∧ 8 + (maxL + 11) + lo0 ≤ R.locals) (hn : As.length = np) (hst : st = As.reverse ++ rest) (hW : (rest.map fun v => v.category).sum ≤ 8) (hd : decode cc pc = .ok (.invokestatic index, 3)) (hf : kc + mc0 ≤ R.cells ∧ ks + ms0 ≤ R.slots)
    (k : ∀ (r : Option Value) (v' : vv_V), post0 r v' → vV p l e R s m args below meth c Q G nL v' (kc + mc0) (ks + ms0) (pc + 3) lv (r.toList ++ rest)) : vV p l e R s m args below meth c Q G nL v kc ks pc lv st :=
  fun H locs ls hP hS hl => vv_back C.2.2.2.2.1 hS hl (va_runS ⟨C.1, C.2.1, C.2.2.1, C.2.2.2.1, C.w⟩ hM ⟨vv_cb C.w hcode hini hlink hmn hR, C.w _ hstat⟩ (vv_preS C.2.2.2.2.1 hP hS) rfl hn hl.1 hst (lv_room hW) hd hf) (fun _ h => h) k
/-- invokespecial <init> -/
theorem v_callI (C : vC p s m args meth c cc nL ret own G) (hM : Mv l y bytes maxL none f0 lo0 G v (.ref b :: As) post0 mc0 ms0) (hcode : Cond.code y bytes maxL none ∈ vv_wds) (hini : Cond.initialized y.cls ∈ vv_wds) (hlink : Cond.methodLink own index y ∈ vv_wds) (hinst : Cond.instanceMethod y ∈ vv_wds) (hy1 : y.name = "<init>") (hmn : y.cls ≠ "java/lang/invoke/MethodHandle" ∧ y.cls ≠ "java/lang/invoke/VarHandle" ∧ (parseMethodDescriptor y.desc).map (fun d => d.parameters.length) = some np)
    (hR : f0 + 1 ≤ R.frames ∧ 8 + (maxL + 11) + lo0 ≤ R.locals) (hn : As.length = np) (hst : st = As.reverse ++ .ref b :: rest) (hW : (rest.map fun v => v.category).sum ≤ 8) (hd : decode cc pc = .ok (.invokespecial index, 3)) (hf : kc + mc0 ≤ R.cells ∧ ks + ms0 ≤ R.slots)
    (k : ∀ (r : Option Value) (v' : vv_V), post0 r v' → vV p l e R s m args below meth c Q G nL v' (kc + mc0) (ks + ms0) (pc + 3) lv (r.toList ++ rest)) : vV p l e R s m args below meth c Q G nL v kc ks pc lv st :=
  fun H locs ls hP hS hl => vv_back C.2.2.2.2.1 hS hl (va_runI ⟨C.1, C.2.1, C.2.2.1, C.2.2.2.1, C.w⟩ hM ⟨vv_cb C.w hcode hini hlink hmn hR, hy1, C.w _ hinst⟩ (vv_preS C.2.2.2.2.1 hP hS) rfl hn hl.1 hst (lv_room hW) hd hf) (fun _ h => h) k
theorem vv_cn {host : String} (ht : ∀ w ∈ vv_wds, w.before args s = true) (hcode : Cond.code y bytes maxL ret0 ∈ vv_wds) (hini : Cond.initialized y.cls ∈ vv_wds) (hl : Cond.methodLinkNest own index y host ∈ vv_wds) (hd : y.cls ≠ "java/lang/invoke/MethodHandle" ∧ y.cls ≠ "java/lang/invoke/VarHandle" ∧ (parseMethodDescriptor y.desc).map (fun d => d.parameters.length) = some np) (hR : f0 + 1 ≤ R.frames ∧ 8 + (maxL + 11) + lo0 ≤ R.locals) :
    va_CN R s args own index y host bytes maxL ret0 [Cond.code y bytes maxL ret0] { frames := f0, cells := mc0, slots := ms0, locals := lo0 } mc0 ms0 np :=
  va_cnB np ht (fun w h => by rw [List.mem_singleton] at h; subst h; exact ⟨hcode, good_of_word rfl⟩) rfl rfl rfl (va_Nw.of rfl (ht _ hl)) (ht _ hini) hd hR
/-- invokestatic of a nest mate's private method -/
theorem v_callSN {host : String} (C : vC p s m args meth c cc nL ret own G) (hM : Mv l y bytes maxL ret0 f0 lo0 G v As post0 mc0 ms0) (hcode : Cond.code y bytes maxL ret0 ∈ vv_wds) (hini : Cond.initialized y.cls ∈ vv_wds) (hlink : Cond.methodLinkNest own index y host ∈ vv_wds) (hstat : Cond.static y ∈ vv_wds) (hmn : y.cls ≠ "java/lang/invoke/MethodHandle" ∧ y.cls ≠ "java/lang/invoke/VarHandle" ∧ (parseMethodDescriptor y.desc).map (fun d => d.parameters.length) = some np)
    (hR : f0 + 1 ≤ R.frames ∧ 8 + (maxL + 11) + lo0 ≤ R.locals) (hn : As.length = np) (hst : st = As.reverse ++ rest) (hW : (rest.map fun v => v.category).sum ≤ 8) (hd : decode cc pc = .ok (.invokestatic index, 3)) (hf : kc + mc0 ≤ R.cells ∧ ks + ms0 ≤ R.slots)
    (k : ∀ (r : Option Value) (v' : vv_V), post0 r v' → vV p l e R s m args below meth c Q G nL v' (kc + mc0) (ks + ms0) (pc + 3) lv (r.toList ++ rest)) : vV p l e R s m args below meth c Q G nL v kc ks pc lv st :=
  fun H locs ls hP hS hl => vv_back C.2.2.2.2.1 hS hl (va_runSN ⟨C.1, C.2.1, C.2.2.1, C.2.2.2.1, C.w⟩ hM ⟨vv_cn C.w hcode hini hlink hmn hR, C.w _ hstat, trivial⟩ (vv_preS C.2.2.2.2.1 hP hS) rfl hn hl.1 hst (lv_room hW) hd hf) (fun _ h => h) k
theorem v_callVN {host : String} (C : vC p s m args meth c cc nL ret own G) (hM : Mv l y bytes maxL ret0 f0 lo0 G v (.ref b :: As) post0 mc0 ms0) (hcode : Cond.code y bytes maxL ret0 ∈ vv_wds) (hini : Cond.initialized y.cls ∈ vv_wds) (hlink : Cond.methodLinkNest own index y host ∈ vv_wds) (hinst : Cond.instanceMethod y ∈ vv_wds) (hsel : Cond.selects Cn y y ∈ vv_wds) (hmn : y.cls ≠ "java/lang/invoke/MethodHandle" ∧ y.cls ≠ "java/lang/invoke/VarHandle" ∧ (parseMethodDescriptor y.desc).map (fun d => d.parameters.length) = some np) (he : v ci b = some (.inr (ci, fs))) (hc : vwCl[ci]? = some (Cn, T, N))
    (hR : f0 + 1 ≤ R.frames ∧ 8 + (maxL + 11) + lo0 ≤ R.locals) (hn : As.length = np) (hst : st = As.reverse ++ .ref b :: rest) (hW : (rest.map fun v => v.category).sum ≤ 8) (hd : decode cc pc = .ok (.invokevirtual index, 3)) (hf : kc + mc0 ≤ R.cells ∧ ks + ms0 ≤ R.slots)
    (k : ∀ (r : Option Value) (v' : vv_V), post0 r v' → vV p l e R s m args below meth c Q G nL v' (kc + mc0) (ks + ms0) (pc + 3) lv (r.toList ++ rest)) : vV p l e R s m args below meth c Q G nL v kc ks pc lv st :=
  fun H locs ls hP hS hl => vv_back C.2.2.2.2.1 hS hl (va_runVN (C := Cn) ⟨C.1, C.2.1, C.2.2.1, C.2.2.2.1, C.w⟩ hM ⟨vv_cn C.w hcode hini hlink hmn hR, C.w _ hinst, C.w _ hsel⟩ ⟨vv_blind, vv_recv C.2.2.2.2.1 hP he hc, (vv_preS C.2.2.2.2.1 hP hS).2⟩ rfl hn hl.1 hst (lv_room hW) hd hf) (fun _ h => h) k
end VH
end
section
theorem tw_0 : Cond.selects "java/util/ArrayList" y_AL_add_LObjectALObjectIV y_AL_add_LObjectALObjectIV ∈ vv_wds := List.mem_filter.mpr ⟨List.mem_of_getElem? (i := 0) rfl, rfl⟩
theorem tw_1 : Cond.selects "java/util/ArrayList" y_AL_grow y_AL_grow ∈ vv_wds := List.mem_filter.mpr ⟨List.mem_of_getElem? (i := 1) rfl, rfl⟩
theorem tw_2 : Cond.selects "java/util/ArrayList" y_AL_grow_IALObject y_AL_grow_IALObject ∈ vv_wds := List.mem_filter.mpr ⟨List.mem_of_getElem? (i := 2) rfl, rfl⟩
theorem tw_3 : Cond.selects "CustomerNotices" y_C_findCustomer y_C_findCustomer ∈ vv_wds := List.mem_filter.mpr ⟨List.mem_of_getElem? (i := 3) rfl, rfl⟩
theorem tw_4 : Cond.selects "CustomerNotices$Customer" y_K_orderOf y_K_orderOf ∈ vv_wds := List.mem_filter.mpr ⟨List.mem_of_getElem? (i := 4) rfl, rfl⟩
theorem tw_5 : Cond.selects "CustomerNotices" y_C_isTimeFromNow y_C_isTimeFromNow ∈ vv_wds := List.mem_filter.mpr ⟨List.mem_of_getElem? (i := 5) rfl, rfl⟩
theorem tw_6 : Cond.selects "CustomerNotices" y_C_findItem y_C_findItem ∈ vv_wds := List.mem_filter.mpr ⟨List.mem_of_getElem? (i := 6) rfl, rfl⟩
theorem tw_7 : Cond.selects "CustomerNotices" y_C_noticesAreFull y_C_noticesAreFull ∈ vv_wds := List.mem_filter.mpr ⟨List.mem_of_getElem? (i := 7) rfl, rfl⟩
theorem tw_8 : Cond.selects "CustomerNotices" y_C_itemsAreFull y_C_itemsAreFull ∈ vv_wds := List.mem_filter.mpr ⟨List.mem_of_getElem? (i := 8) rfl, rfl⟩
theorem tw_9 : Cond.selects "CustomerNotices" y_C_addItem y_C_addItem ∈ vv_wds := List.mem_filter.mpr ⟨List.mem_of_getElem? (i := 9) rfl, rfl⟩
theorem tw_10 : Cond.selects "CustomerNotices" y_C_addNotice y_C_addNotice ∈ vv_wds := List.mem_filter.mpr ⟨List.mem_of_getElem? (i := 10) rfl, rfl⟩
theorem tw_11 : Cond.selects "CustomerNotices" y_C_addPromise y_C_addPromise ∈ vv_wds := List.mem_filter.mpr ⟨List.mem_of_getElem? (i := 11) rfl, rfl⟩
theorem tw_12 : Cond.selects "CustomerNotices" y_C_prepareCustomersForTick y_C_prepareCustomersForTick ∈ vv_wds := List.mem_filter.mpr ⟨List.mem_of_getElem? (i := 12) rfl, rfl⟩
theorem tw_13 : Cond.selects "CustomerNotices" y_C_isDue y_C_isDue ∈ vv_wds := List.mem_filter.mpr ⟨List.mem_of_getElem? (i := 13) rfl, rfl⟩
theorem tw_14 : Cond.selects "CustomerNotices" y_C_isHeldByQuiet y_C_isHeldByQuiet ∈ vv_wds := List.mem_filter.mpr ⟨List.mem_of_getElem? (i := 14) rfl, rfl⟩
theorem tw_15 : Cond.selects "CustomerNotices" y_C_deliver y_C_deliver ∈ vv_wds := List.mem_filter.mpr ⟨List.mem_of_getElem? (i := 15) rfl, rfl⟩
theorem tw_16 : Cond.selects "CustomerNotices" y_C_findNotice y_C_findNotice ∈ vv_wds := List.mem_filter.mpr ⟨List.mem_of_getElem? (i := 16) rfl, rfl⟩
theorem tw_17 : Cond.selects "CustomerNotices" y_C_reopenItem y_C_reopenItem ∈ vv_wds := List.mem_filter.mpr ⟨List.mem_of_getElem? (i := 17) rfl, rfl⟩
theorem tw_18 : Cond.selects "CustomerNotices" y_C_addCorrection y_C_addCorrection ∈ vv_wds := List.mem_filter.mpr ⟨List.mem_of_getElem? (i := 18) rfl, rfl⟩
theorem tw_19 : Cond.selects "CustomerNoticesModel" y_M_isCustomer y_M_isCustomer ∈ vv_wds := List.mem_filter.mpr ⟨List.mem_of_getElem? (i := 19) rfl, rfl⟩
theorem tw_20 : Cond.selects "CustomerNoticesModel" y_M_wished y_M_wished ∈ vv_wds := List.mem_filter.mpr ⟨List.mem_of_getElem? (i := 20) rfl, rfl⟩
theorem tw_21 : Cond.selects "CustomerNoticesModel" y_M_isTime y_M_isTime ∈ vv_wds := List.mem_filter.mpr ⟨List.mem_of_getElem? (i := 21) rfl, rfl⟩
theorem tw_22 : Cond.selects "CustomerNoticesModel" y_M_pairOf y_M_pairOf ∈ vv_wds := List.mem_filter.mpr ⟨List.mem_of_getElem? (i := 22) rfl, rfl⟩
theorem tw_23 : Cond.selects "CustomerNoticesModel" y_M_keep y_M_keep ∈ vv_wds := List.mem_filter.mpr ⟨List.mem_of_getElem? (i := 23) rfl, rfl⟩
theorem tw_24 : Cond.selects "CustomerNoticesModel" y_M_put y_M_put ∈ vv_wds := List.mem_filter.mpr ⟨List.mem_of_getElem? (i := 24) rfl, rfl⟩
theorem tw_25 : Cond.selects "CustomerNoticesModel" y_M_isDue y_M_isDue ∈ vv_wds := List.mem_filter.mpr ⟨List.mem_of_getElem? (i := 25) rfl, rfl⟩
theorem tw_26 : Cond.selects "CustomerNoticesModel" y_M_isQuiet y_M_isQuiet ∈ vv_wds := List.mem_filter.mpr ⟨List.mem_of_getElem? (i := 26) rfl, rfl⟩
theorem tw_27 : Cond.selects "CustomerNoticesModel" y_M_channelOf y_M_channelOf ∈ vv_wds := List.mem_filter.mpr ⟨List.mem_of_getElem? (i := 27) rfl, rfl⟩
theorem tw_28 : Cond.selects "CustomerNoticesModel" y_M_undo y_M_undo ∈ vv_wds := List.mem_filter.mpr ⟨List.mem_of_getElem? (i := 28) rfl, rfl⟩
theorem tw_29 : Cond.initialized "CustomerNoticesLaw" ∈ vv_wds := List.mem_filter.mpr ⟨List.mem_of_getElem? (i := 29) rfl, rfl⟩
theorem tw_30 : Cond.initialized "CustomerNotices" ∈ vv_wds := List.mem_filter.mpr ⟨List.mem_of_getElem? (i := 30) rfl, rfl⟩
theorem tw_31 : Cond.initialized "java/util/AbstractCollection" ∈ vv_wds := List.mem_filter.mpr ⟨List.mem_of_getElem? (i := 31) rfl, rfl⟩
theorem tw_32 : Cond.initialized "java/util/AbstractList" ∈ vv_wds := List.mem_filter.mpr ⟨List.mem_of_getElem? (i := 32) rfl, rfl⟩
theorem tw_33 : Cond.initialized "java/util/ArrayList" ∈ vv_wds := List.mem_filter.mpr ⟨List.mem_of_getElem? (i := 33) rfl, rfl⟩
theorem tw_34 : Cond.initialized "CustomerNoticesModel" ∈ vv_wds := List.mem_filter.mpr ⟨List.mem_of_getElem? (i := 34) rfl, rfl⟩
theorem tw_35 : Cond.initialized "CustomerNotices$Customer" ∈ vv_wds := List.mem_filter.mpr ⟨List.mem_of_getElem? (i := 35) rfl, rfl⟩
theorem tw_36 : Cond.initialized "jdk/internal/util/ArraysSupport" ∈ vv_wds := List.mem_filter.mpr ⟨List.mem_of_getElem? (i := 36) rfl, rfl⟩
theorem tw_37 : Cond.initialized "java/lang/Math" ∈ vv_wds := List.mem_filter.mpr ⟨List.mem_of_getElem? (i := 37) rfl, rfl⟩
theorem tw_38 : Cond.initialized "java/util/Arrays" ∈ vv_wds := List.mem_filter.mpr ⟨List.mem_of_getElem? (i := 38) rfl, rfl⟩
theorem tw_39 : Cond.initialized "java/lang/System" ∈ vv_wds := List.mem_filter.mpr ⟨List.mem_of_getElem? (i := 39) rfl, rfl⟩
theorem tw_40 : Cond.initialized "java/util/Objects" ∈ vv_wds := List.mem_filter.mpr ⟨List.mem_of_getElem? (i := 40) rfl, rfl⟩
theorem tw_41 : Cond.initialized "jdk/internal/util/Preconditions" ∈ vv_wds := List.mem_filter.mpr ⟨List.mem_of_getElem? (i := 41) rfl, rfl⟩
theorem tw_42 : Cond.initialized "CustomerNotices$Item" ∈ vv_wds := List.mem_filter.mpr ⟨List.mem_of_getElem? (i := 42) rfl, rfl⟩
theorem tw_43 : Cond.initialized "CustomerNotices$Notice" ∈ vv_wds := List.mem_filter.mpr ⟨List.mem_of_getElem? (i := 43) rfl, rfl⟩
theorem tw_44 : Cond.classLink "CustomerNoticesLaw" 7 "CustomerNotices" ∈ vv_wds := List.mem_filter.mpr ⟨List.mem_of_getElem? (i := 44) rfl, rfl⟩
theorem tw_45 : Cond.instantiable "CustomerNotices" 8 ∈ vv_wds := List.mem_filter.mpr ⟨List.mem_of_getElem? (i := 45) rfl, rfl⟩
theorem tw_46 : Cond.methodLink "CustomerNoticesLaw" 9 y_C_init ∈ vv_wds := List.mem_filter.mpr ⟨List.mem_of_getElem? (i := 46) rfl, rfl⟩
theorem tw_47 : Cond.instanceMethod y_C_init ∈ vv_wds := List.mem_filter.mpr ⟨List.mem_of_getElem? (i := 47) rfl, rfl⟩
theorem tw_48 : Cond.code y_C_init b_C_init 2 none ∈ vv_wds := List.mem_filter.mpr ⟨List.mem_of_getElem? (i := 48) rfl, rfl⟩
theorem tw_49 : Cond.methodLink "CustomerNotices" 1 y_Oj_init ∈ vv_wds := List.mem_filter.mpr ⟨List.mem_of_getElem? (i := 49) rfl, rfl⟩
theorem tw_50 : Cond.instanceMethod y_Oj_init ∈ vv_wds := List.mem_filter.mpr ⟨List.mem_of_getElem? (i := 50) rfl, rfl⟩
theorem tw_51 : Cond.code y_Oj_init b_Oj_init 1 none ∈ vv_wds := List.mem_filter.mpr ⟨List.mem_of_getElem? (i := 51) rfl, rfl⟩
theorem tw_52 : Cond.classLink "CustomerNotices" 7 "java/util/ArrayList" ∈ vv_wds := List.mem_filter.mpr ⟨List.mem_of_getElem? (i := 52) rfl, rfl⟩
theorem tw_53 : Cond.instantiable "java/util/ArrayList" 3 ∈ vv_wds := List.mem_filter.mpr ⟨List.mem_of_getElem? (i := 53) rfl, rfl⟩
theorem tw_54 : Cond.methodLink "CustomerNotices" 9 y_AL_init ∈ vv_wds := List.mem_filter.mpr ⟨List.mem_of_getElem? (i := 54) rfl, rfl⟩
theorem tw_55 : Cond.instanceMethod y_AL_init ∈ vv_wds := List.mem_filter.mpr ⟨List.mem_of_getElem? (i := 55) rfl, rfl⟩
theorem tw_56 : Cond.code y_AL_init b_AL_init 1 none ∈ vv_wds := List.mem_filter.mpr ⟨List.mem_of_getElem? (i := 56) rfl, rfl⟩
theorem tw_57 : Cond.methodLink "java/util/ArrayList" 1 y_AbL_init ∈ vv_wds := List.mem_filter.mpr ⟨List.mem_of_getElem? (i := 57) rfl, rfl⟩
theorem tw_58 : Cond.instanceMethod y_AbL_init ∈ vv_wds := List.mem_filter.mpr ⟨List.mem_of_getElem? (i := 58) rfl, rfl⟩
theorem tw_59 : Cond.code y_AbL_init b_AbL_init 1 none ∈ vv_wds := List.mem_filter.mpr ⟨List.mem_of_getElem? (i := 59) rfl, rfl⟩
theorem tw_60 : Cond.methodLink "java/util/AbstractList" 1 y_AbC_init ∈ vv_wds := List.mem_filter.mpr ⟨List.mem_of_getElem? (i := 60) rfl, rfl⟩
theorem tw_61 : Cond.instanceMethod y_AbC_init ∈ vv_wds := List.mem_filter.mpr ⟨List.mem_of_getElem? (i := 61) rfl, rfl⟩
theorem tw_62 : Cond.code y_AbC_init b_AbC_init 1 none ∈ vv_wds := List.mem_filter.mpr ⟨List.mem_of_getElem? (i := 62) rfl, rfl⟩
theorem tw_63 : Cond.methodLink "java/util/AbstractCollection" 1 y_Oj_init ∈ vv_wds := List.mem_filter.mpr ⟨List.mem_of_getElem? (i := 63) rfl, rfl⟩
theorem tw_64 : Cond.fieldLink "java/util/ArrayList" 39 "java/util/ArrayList" "DEFAULTCAPACITY_EMPTY_ELEMENTDATA" "[Ljava/lang/Object;" ∈ vv_wds := List.mem_filter.mpr ⟨List.mem_of_getElem? (i := 64) rfl, rfl⟩
theorem tw_66 : Cond.fieldLink "java/util/ArrayList" 9 "java/util/ArrayList" "elementData" "[Ljava/lang/Object;" ∈ vv_wds := List.mem_filter.mpr ⟨List.mem_of_getElem? (i := 66) rfl, rfl⟩
theorem tw_67 : Cond.fieldLink "java/util/ArrayList" 48 "java/util/ArrayList" "size" "I" ∈ vv_wds := List.mem_filter.mpr ⟨List.mem_of_getElem? (i := 67) rfl, rfl⟩
theorem tw_68 : Cond.fieldLink "java/util/AbstractList" 7 "java/util/AbstractList" "modCount" "I" ∈ vv_wds := List.mem_filter.mpr ⟨List.mem_of_getElem? (i := 68) rfl, rfl⟩
theorem tw_69 : Cond.fieldLink "java/util/ArrayList" 63 "java/util/ArrayList" "modCount" "I" ∈ vv_wds := List.mem_filter.mpr ⟨List.mem_of_getElem? (i := 69) rfl, rfl⟩
theorem tw_70 : Cond.sameField "java/util/ArrayList" "java/util/AbstractList" "modCount" "I" ∈ vv_wds := List.mem_filter.mpr ⟨List.mem_of_getElem? (i := 70) rfl, rfl⟩
theorem tw_71 : Cond.lays "java/util/ArrayList" "java/util/ArrayList" "elementData" "[Ljava/lang/Object;" ∈ vv_wds := List.mem_filter.mpr ⟨List.mem_of_getElem? (i := 71) rfl, rfl⟩
theorem tw_73 : Cond.lays "java/util/ArrayList" "java/util/ArrayList" "size" "I" ∈ vv_wds := List.mem_filter.mpr ⟨List.mem_of_getElem? (i := 73) rfl, rfl⟩
theorem tw_75 : Cond.lays "java/util/ArrayList" "java/util/AbstractList" "modCount" "I" ∈ vv_wds := List.mem_filter.mpr ⟨List.mem_of_getElem? (i := 75) rfl, rfl⟩
theorem tw_78 : Cond.fieldLink "CustomerNotices" 10 "CustomerNotices" "customers" "Ljava/util/ArrayList;" ∈ vv_wds := List.mem_filter.mpr ⟨List.mem_of_getElem? (i := 78) rfl, rfl⟩
theorem tw_79 : Cond.fieldLink "CustomerNotices" 16 "CustomerNotices" "notices" "Ljava/util/ArrayList;" ∈ vv_wds := List.mem_filter.mpr ⟨List.mem_of_getElem? (i := 79) rfl, rfl⟩
theorem tw_80 : Cond.fieldLink "CustomerNotices" 19 "CustomerNotices" "items" "Ljava/util/ArrayList;" ∈ vv_wds := List.mem_filter.mpr ⟨List.mem_of_getElem? (i := 80) rfl, rfl⟩
theorem tw_81 : Cond.fieldLink "CustomerNotices" 22 "CustomerNotices" "sentNotices" "Ljava/util/ArrayList;" ∈ vv_wds := List.mem_filter.mpr ⟨List.mem_of_getElem? (i := 81) rfl, rfl⟩
theorem tw_82 : Cond.fieldLink "CustomerNotices" 25 "CustomerNotices" "failedNotices" "Ljava/util/ArrayList;" ∈ vv_wds := List.mem_filter.mpr ⟨List.mem_of_getElem? (i := 82) rfl, rfl⟩
theorem tw_83 : Cond.fieldLink "CustomerNotices" 28 "CustomerNotices" "channelWorks" "[Z" ∈ vv_wds := List.mem_filter.mpr ⟨List.mem_of_getElem? (i := 83) rfl, rfl⟩
theorem tw_84 : Cond.fieldLink "CustomerNotices" 32 "CustomerNotices" "clock" "J" ∈ vv_wds := List.mem_filter.mpr ⟨List.mem_of_getElem? (i := 84) rfl, rfl⟩
theorem tw_85 : Cond.fieldLink "CustomerNotices" 36 "CustomerNotices" "joinMinutes" "I" ∈ vv_wds := List.mem_filter.mpr ⟨List.mem_of_getElem? (i := 85) rfl, rfl⟩
theorem tw_86 : Cond.laysFinal "CustomerNotices" "CustomerNotices" "customers" "Ljava/util/ArrayList;" ∈ vv_wds := List.mem_filter.mpr ⟨List.mem_of_getElem? (i := 86) rfl, rfl⟩
theorem tw_88 : Cond.laysFinal "CustomerNotices" "CustomerNotices" "notices" "Ljava/util/ArrayList;" ∈ vv_wds := List.mem_filter.mpr ⟨List.mem_of_getElem? (i := 88) rfl, rfl⟩
theorem tw_90 : Cond.laysFinal "CustomerNotices" "CustomerNotices" "items" "Ljava/util/ArrayList;" ∈ vv_wds := List.mem_filter.mpr ⟨List.mem_of_getElem? (i := 90) rfl, rfl⟩
theorem tw_92 : Cond.laysFinal "CustomerNotices" "CustomerNotices" "sentNotices" "Ljava/util/ArrayList;" ∈ vv_wds := List.mem_filter.mpr ⟨List.mem_of_getElem? (i := 92) rfl, rfl⟩
theorem tw_94 : Cond.laysFinal "CustomerNotices" "CustomerNotices" "failedNotices" "Ljava/util/ArrayList;" ∈ vv_wds := List.mem_filter.mpr ⟨List.mem_of_getElem? (i := 94) rfl, rfl⟩
theorem tw_96 : Cond.laysFinal "CustomerNotices" "CustomerNotices" "channelWorks" "[Z" ∈ vv_wds := List.mem_filter.mpr ⟨List.mem_of_getElem? (i := 96) rfl, rfl⟩
theorem tw_98 : Cond.lays "CustomerNotices" "CustomerNotices" "clock" "J" ∈ vv_wds := List.mem_filter.mpr ⟨List.mem_of_getElem? (i := 98) rfl, rfl⟩
theorem tw_100 : Cond.lays "CustomerNotices" "CustomerNotices" "joinMinutes" "I" ∈ vv_wds := List.mem_filter.mpr ⟨List.mem_of_getElem? (i := 100) rfl, rfl⟩
theorem tw_104 : Cond.methodLink "CustomerNoticesLaw" 13 y_C_customer ∈ vv_wds := List.mem_filter.mpr ⟨List.mem_of_getElem? (i := 104) rfl, rfl⟩
theorem tw_105 : Cond.instanceMethod y_C_customer ∈ vv_wds := List.mem_filter.mpr ⟨List.mem_of_getElem? (i := 105) rfl, rfl⟩
theorem tw_106 : Cond.selects "CustomerNotices" y_C_customer y_C_customer ∈ vv_wds := List.mem_filter.mpr ⟨List.mem_of_getElem? (i := 106) rfl, rfl⟩
theorem tw_107 : Cond.code y_C_customer b_C_customer 4 (some FieldType.int) ∈ vv_wds := List.mem_filter.mpr ⟨List.mem_of_getElem? (i := 107) rfl, rfl⟩
theorem tw_108 : Cond.constantLong "CustomerNotices" 40 9 ∈ vv_wds := List.mem_filter.mpr ⟨List.mem_of_getElem? (i := 108) rfl, rfl⟩
theorem tw_109 : Cond.methodLink "CustomerNotices" 42 y_C_isWithin ∈ vv_wds := List.mem_filter.mpr ⟨List.mem_of_getElem? (i := 109) rfl, rfl⟩
theorem tw_110 : Cond.static y_C_isWithin ∈ vv_wds := List.mem_filter.mpr ⟨List.mem_of_getElem? (i := 110) rfl, rfl⟩
theorem tw_111 : Cond.code y_C_isWithin b_C_isWithin 6 (some FieldType.boolean) ∈ vv_wds := List.mem_filter.mpr ⟨List.mem_of_getElem? (i := 111) rfl, rfl⟩
theorem tw_112 : Cond.constantLong "CustomerNotices" 46 (-12) ∈ vv_wds := List.mem_filter.mpr ⟨List.mem_of_getElem? (i := 112) rfl, rfl⟩
theorem tw_113 : Cond.constantLong "CustomerNotices" 48 14 ∈ vv_wds := List.mem_filter.mpr ⟨List.mem_of_getElem? (i := 113) rfl, rfl⟩
theorem tw_114 : Cond.methodLink "CustomerNotices" 50 y_AL_size ∈ vv_wds := List.mem_filter.mpr ⟨List.mem_of_getElem? (i := 114) rfl, rfl⟩
theorem tw_115 : Cond.instanceMethod y_AL_size ∈ vv_wds := List.mem_filter.mpr ⟨List.mem_of_getElem? (i := 115) rfl, rfl⟩
theorem tw_116 : Cond.selects "java/util/ArrayList" y_AL_size y_AL_size ∈ vv_wds := List.mem_filter.mpr ⟨List.mem_of_getElem? (i := 116) rfl, rfl⟩
theorem tw_117 : Cond.code y_AL_size b_AL_size 1 (some FieldType.int) ∈ vv_wds := List.mem_filter.mpr ⟨List.mem_of_getElem? (i := 117) rfl, rfl⟩
theorem tw_118 : Cond.classLink "CustomerNotices" 54 "CustomerNotices$Customer" ∈ vv_wds := List.mem_filter.mpr ⟨List.mem_of_getElem? (i := 118) rfl, rfl⟩
theorem tw_119 : Cond.instantiable "CustomerNotices$Customer" 8 ∈ vv_wds := List.mem_filter.mpr ⟨List.mem_of_getElem? (i := 119) rfl, rfl⟩
theorem tw_120 : Cond.methodLink "CustomerNotices" 56 y_K_init ∈ vv_wds := List.mem_filter.mpr ⟨List.mem_of_getElem? (i := 120) rfl, rfl⟩
theorem tw_121 : Cond.instanceMethod y_K_init ∈ vv_wds := List.mem_filter.mpr ⟨List.mem_of_getElem? (i := 121) rfl, rfl⟩
theorem tw_122 : Cond.code y_K_init b_K_init 5 none ∈ vv_wds := List.mem_filter.mpr ⟨List.mem_of_getElem? (i := 122) rfl, rfl⟩
theorem tw_123 : Cond.methodLink "CustomerNotices$Customer" 3 y_Oj_init ∈ vv_wds := List.mem_filter.mpr ⟨List.mem_of_getElem? (i := 123) rfl, rfl⟩
theorem tw_124 : Cond.fieldLink "CustomerNotices$Customer" 9 "CustomerNotices$Customer" "number" "I" ∈ vv_wds := List.mem_filter.mpr ⟨List.mem_of_getElem? (i := 124) rfl, rfl⟩
theorem tw_125 : Cond.fieldLink "CustomerNotices" 189 "CustomerNotices$Customer" "number" "I" ∈ vv_wds := List.mem_filter.mpr ⟨List.mem_of_getElem? (i := 125) rfl, rfl⟩
theorem tw_126 : Cond.fieldLink "CustomerNotices$Customer" 15 "CustomerNotices$Customer" "language" "I" ∈ vv_wds := List.mem_filter.mpr ⟨List.mem_of_getElem? (i := 126) rfl, rfl⟩
theorem tw_127 : Cond.fieldLink "CustomerNotices$Notice" 44 "CustomerNotices$Customer" "language" "I" ∈ vv_wds := List.mem_filter.mpr ⟨List.mem_of_getElem? (i := 127) rfl, rfl⟩
theorem tw_128 : Cond.fieldLink "CustomerNotices$Customer" 18 "CustomerNotices$Customer" "zone" "I" ∈ vv_wds := List.mem_filter.mpr ⟨List.mem_of_getElem? (i := 128) rfl, rfl⟩
theorem tw_129 : Cond.fieldLink "CustomerNotices" 84 "CustomerNotices$Customer" "quietFrom" "I" ∈ vv_wds := List.mem_filter.mpr ⟨List.mem_of_getElem? (i := 129) rfl, rfl⟩
theorem tw_130 : Cond.fieldLink "CustomerNotices$Customer" 48 "CustomerNotices$Customer" "quietFrom" "I" ∈ vv_wds := List.mem_filter.mpr ⟨List.mem_of_getElem? (i := 130) rfl, rfl⟩
theorem tw_131 : Cond.fieldLink "CustomerNotices" 87 "CustomerNotices$Customer" "quietUntil" "I" ∈ vv_wds := List.mem_filter.mpr ⟨List.mem_of_getElem? (i := 131) rfl, rfl⟩
theorem tw_132 : Cond.fieldLink "CustomerNotices$Customer" 51 "CustomerNotices$Customer" "quietUntil" "I" ∈ vv_wds := List.mem_filter.mpr ⟨List.mem_of_getElem? (i := 132) rfl, rfl⟩
theorem tw_133 : Cond.fieldLink "CustomerNotices" 238 "CustomerNotices$Customer" "leastWaitingTime" "J" ∈ vv_wds := List.mem_filter.mpr ⟨List.mem_of_getElem? (i := 133) rfl, rfl⟩
theorem tw_134 : Cond.fieldLink "CustomerNotices" 241 "CustomerNotices$Customer" "messageOfTick" "I" ∈ vv_wds := List.mem_filter.mpr ⟨List.mem_of_getElem? (i := 134) rfl, rfl⟩
theorem tw_135 : Cond.fieldLink "CustomerNotices$Customer" 21 "CustomerNotices$Customer" "orders" "[I" ∈ vv_wds := List.mem_filter.mpr ⟨List.mem_of_getElem? (i := 135) rfl, rfl⟩
theorem tw_136 : Cond.laysFinal "CustomerNotices$Customer" "CustomerNotices$Customer" "number" "I" ∈ vv_wds := List.mem_filter.mpr ⟨List.mem_of_getElem? (i := 136) rfl, rfl⟩
theorem tw_138 : Cond.laysFinal "CustomerNotices$Customer" "CustomerNotices$Customer" "language" "I" ∈ vv_wds := List.mem_filter.mpr ⟨List.mem_of_getElem? (i := 138) rfl, rfl⟩
theorem tw_140 : Cond.laysFinal "CustomerNotices$Customer" "CustomerNotices$Customer" "zone" "I" ∈ vv_wds := List.mem_filter.mpr ⟨List.mem_of_getElem? (i := 140) rfl, rfl⟩
theorem tw_142 : Cond.lays "CustomerNotices$Customer" "CustomerNotices$Customer" "quietFrom" "I" ∈ vv_wds := List.mem_filter.mpr ⟨List.mem_of_getElem? (i := 142) rfl, rfl⟩
theorem tw_144 : Cond.lays "CustomerNotices$Customer" "CustomerNotices$Customer" "quietUntil" "I" ∈ vv_wds := List.mem_filter.mpr ⟨List.mem_of_getElem? (i := 144) rfl, rfl⟩
theorem tw_146 : Cond.lays "CustomerNotices$Customer" "CustomerNotices$Customer" "leastWaitingTime" "J" ∈ vv_wds := List.mem_filter.mpr ⟨List.mem_of_getElem? (i := 146) rfl, rfl⟩
theorem tw_148 : Cond.lays "CustomerNotices$Customer" "CustomerNotices$Customer" "messageOfTick" "I" ∈ vv_wds := List.mem_filter.mpr ⟨List.mem_of_getElem? (i := 148) rfl, rfl⟩
theorem tw_150 : Cond.laysFinal "CustomerNotices$Customer" "CustomerNotices$Customer" "orders" "[I" ∈ vv_wds := List.mem_filter.mpr ⟨List.mem_of_getElem? (i := 150) rfl, rfl⟩
theorem tw_154 : Cond.methodLink "CustomerNotices" 59 y_AL_add ∈ vv_wds := List.mem_filter.mpr ⟨List.mem_of_getElem? (i := 154) rfl, rfl⟩
theorem tw_155 : Cond.instanceMethod y_AL_add ∈ vv_wds := List.mem_filter.mpr ⟨List.mem_of_getElem? (i := 155) rfl, rfl⟩
theorem tw_156 : Cond.selects "java/util/ArrayList" y_AL_add y_AL_add ∈ vv_wds := List.mem_filter.mpr ⟨List.mem_of_getElem? (i := 156) rfl, rfl⟩
theorem tw_157 : Cond.code y_AL_add b_AL_add 2 (some FieldType.boolean) ∈ vv_wds := List.mem_filter.mpr ⟨List.mem_of_getElem? (i := 157) rfl, rfl⟩
theorem tw_158 : Cond.methodLink "java/util/ArrayList" 131 y_AL_add_LObjectALObjectIV ∈ vv_wds := List.mem_filter.mpr ⟨List.mem_of_getElem? (i := 158) rfl, rfl⟩
theorem tw_160 : Cond.instanceMethod y_AL_add_LObjectALObjectIV ∈ vv_wds := List.mem_filter.mpr ⟨List.mem_of_getElem? (i := 160) rfl, rfl⟩
theorem tw_161 : Cond.code y_AL_add_LObjectALObjectIV b_AL_add_LObjectALObjectIV 4 none ∈ vv_wds := List.mem_filter.mpr ⟨List.mem_of_getElem? (i := 161) rfl, rfl⟩
theorem tw_162 : Cond.methodLink "java/util/ArrayList" 129 y_AL_grow ∈ vv_wds := List.mem_filter.mpr ⟨List.mem_of_getElem? (i := 162) rfl, rfl⟩
theorem tw_164 : Cond.instanceMethod y_AL_grow ∈ vv_wds := List.mem_filter.mpr ⟨List.mem_of_getElem? (i := 164) rfl, rfl⟩
theorem tw_165 : Cond.code y_AL_grow b_AL_grow 1 (some (FieldType.array (FieldType.object "java/lang/Object"))) ∈ vv_wds := List.mem_filter.mpr ⟨List.mem_of_getElem? (i := 165) rfl, rfl⟩
theorem tw_166 : Cond.methodLink "java/util/ArrayList" 69 y_AL_grow_IALObject ∈ vv_wds := List.mem_filter.mpr ⟨List.mem_of_getElem? (i := 166) rfl, rfl⟩
theorem tw_168 : Cond.instanceMethod y_AL_grow_IALObject ∈ vv_wds := List.mem_filter.mpr ⟨List.mem_of_getElem? (i := 168) rfl, rfl⟩
theorem tw_169 : Cond.code y_AL_grow_IALObject b_AL_grow_IALObject 4 (some (FieldType.array (FieldType.object "java/lang/Object"))) ∈ vv_wds := List.mem_filter.mpr ⟨List.mem_of_getElem? (i := 169) rfl, rfl⟩
theorem tw_170 : Cond.methodLink "java/util/ArrayList" 73 y_AS_newLength ∈ vv_wds := List.mem_filter.mpr ⟨List.mem_of_getElem? (i := 170) rfl, rfl⟩
theorem tw_171 : Cond.static y_AS_newLength ∈ vv_wds := List.mem_filter.mpr ⟨List.mem_of_getElem? (i := 171) rfl, rfl⟩
theorem tw_172 : Cond.code y_AS_newLength b_AS_newLength 4 (some FieldType.int) ∈ vv_wds := List.mem_filter.mpr ⟨List.mem_of_getElem? (i := 172) rfl, rfl⟩
theorem tw_173 : Cond.methodLink "jdk/internal/util/ArraysSupport" 194 y_Ma_max ∈ vv_wds := List.mem_filter.mpr ⟨List.mem_of_getElem? (i := 173) rfl, rfl⟩
theorem tw_174 : Cond.static y_Ma_max ∈ vv_wds := List.mem_filter.mpr ⟨List.mem_of_getElem? (i := 174) rfl, rfl⟩
theorem tw_175 : Cond.code y_Ma_max b_Ma_max 2 (some FieldType.int) ∈ vv_wds := List.mem_filter.mpr ⟨List.mem_of_getElem? (i := 175) rfl, rfl⟩
theorem tw_176 : Cond.constant "jdk/internal/util/ArraysSupport" 200 2147483639 ∈ vv_wds := List.mem_filter.mpr ⟨List.mem_of_getElem? (i := 176) rfl, rfl⟩
theorem tw_177 : Cond.methodLink "jdk/internal/util/ArraysSupport" 201 y_AS_hugeLength ∈ vv_wds := List.mem_filter.mpr ⟨List.mem_of_getElem? (i := 177) rfl, rfl⟩
theorem tw_178 : Cond.static y_AS_hugeLength ∈ vv_wds := List.mem_filter.mpr ⟨List.mem_of_getElem? (i := 178) rfl, rfl⟩
theorem tw_179 : Cond.code y_AS_hugeLength b_AS_hugeLength 3 (some FieldType.int) ∈ vv_wds := List.mem_filter.mpr ⟨List.mem_of_getElem? (i := 179) rfl, rfl⟩
theorem tw_180 : Cond.methodLink "java/util/ArrayList" 66 y_Ar_copyOf ∈ vv_wds := List.mem_filter.mpr ⟨List.mem_of_getElem? (i := 180) rfl, rfl⟩
theorem tw_181 : Cond.static y_Ar_copyOf ∈ vv_wds := List.mem_filter.mpr ⟨List.mem_of_getElem? (i := 181) rfl, rfl⟩
theorem tw_182 : Cond.code y_Ar_copyOf b_Ar_copyOf 2 (some (FieldType.array (FieldType.object "java/lang/Object"))) ∈ vv_wds := List.mem_filter.mpr ⟨List.mem_of_getElem? (i := 182) rfl, rfl⟩
theorem tw_183 : Cond.methodLink "java/util/Arrays" 86 (⟨"java/lang/Object", "getClass", "()Ljava/lang/Class;"⟩) ∈ vv_wds := List.mem_filter.mpr ⟨List.mem_of_getElem? (i := 183) rfl, rfl⟩
theorem tw_184 : Cond.instanceMethod (⟨"java/lang/Object", "getClass", "()Ljava/lang/Class;"⟩) ∈ vv_wds := List.mem_filter.mpr ⟨List.mem_of_getElem? (i := 184) rfl, rfl⟩
theorem tw_186 : Cond.selects "CustomerNotices" (⟨"java/lang/Object", "getClass", "()Ljava/lang/Class;"⟩) (⟨"java/lang/Object", "getClass", "()Ljava/lang/Class;"⟩) ∈ vv_wds := List.mem_filter.mpr ⟨List.mem_of_getElem? (i := 186) rfl, rfl⟩
theorem tw_187 : Cond.selects "CustomerNotices$Customer" (⟨"java/lang/Object", "getClass", "()Ljava/lang/Class;"⟩) (⟨"java/lang/Object", "getClass", "()Ljava/lang/Class;"⟩) ∈ vv_wds := List.mem_filter.mpr ⟨List.mem_of_getElem? (i := 187) rfl, rfl⟩
theorem tw_188 : Cond.selects "CustomerNotices$Item" (⟨"java/lang/Object", "getClass", "()Ljava/lang/Class;"⟩) (⟨"java/lang/Object", "getClass", "()Ljava/lang/Class;"⟩) ∈ vv_wds := List.mem_filter.mpr ⟨List.mem_of_getElem? (i := 188) rfl, rfl⟩
theorem tw_189 : Cond.selects "CustomerNotices$Notice" (⟨"java/lang/Object", "getClass", "()Ljava/lang/Class;"⟩) (⟨"java/lang/Object", "getClass", "()Ljava/lang/Class;"⟩) ∈ vv_wds := List.mem_filter.mpr ⟨List.mem_of_getElem? (i := 189) rfl, rfl⟩
theorem tw_190 : Cond.selects "CustomerNoticesModel" (⟨"java/lang/Object", "getClass", "()Ljava/lang/Class;"⟩) (⟨"java/lang/Object", "getClass", "()Ljava/lang/Class;"⟩) ∈ vv_wds := List.mem_filter.mpr ⟨List.mem_of_getElem? (i := 190) rfl, rfl⟩
theorem tw_191 : Cond.selects "java/util/ArrayList" (⟨"java/lang/Object", "getClass", "()Ljava/lang/Class;"⟩) (⟨"java/lang/Object", "getClass", "()Ljava/lang/Class;"⟩) ∈ vv_wds := List.mem_filter.mpr ⟨List.mem_of_getElem? (i := 191) rfl, rfl⟩
theorem tw_192 : Cond.native (⟨"java/lang/Object", "getClass", "()Ljava/lang/Class;"⟩) ∈ vv_wds := List.mem_filter.mpr ⟨List.mem_of_getElem? (i := 192) rfl, rfl⟩
theorem tw_193 : Cond.methodLink "java/util/Arrays" 300 y_Ar_copyOf_ALObjectILClassALObject ∈ vv_wds := List.mem_filter.mpr ⟨List.mem_of_getElem? (i := 193) rfl, rfl⟩
theorem tw_194 : Cond.static y_Ar_copyOf_ALObjectILClassALObject ∈ vv_wds := List.mem_filter.mpr ⟨List.mem_of_getElem? (i := 194) rfl, rfl⟩
theorem tw_195 : Cond.code y_Ar_copyOf_ALObjectILClassALObject b_Ar_copyOf_ALObjectILClassALObject 4 (some (FieldType.array (FieldType.object "java/lang/Object"))) ∈ vv_wds := List.mem_filter.mpr ⟨List.mem_of_getElem? (i := 195) rfl, rfl⟩
theorem tw_196 : Cond.classLink "java/util/Arrays" 110 "[Ljava/lang/Object;" ∈ vv_wds := List.mem_filter.mpr ⟨List.mem_of_getElem? (i := 196) rfl, rfl⟩
theorem tw_198 : Cond.classLink "java/util/Arrays" 2 "java/lang/Object" ∈ vv_wds := List.mem_filter.mpr ⟨List.mem_of_getElem? (i := 198) rfl, rfl⟩
theorem tw_199 : Cond.methodLink "java/util/Arrays" 304 y_Ma_min ∈ vv_wds := List.mem_filter.mpr ⟨List.mem_of_getElem? (i := 199) rfl, rfl⟩
theorem tw_200 : Cond.static y_Ma_min ∈ vv_wds := List.mem_filter.mpr ⟨List.mem_of_getElem? (i := 200) rfl, rfl⟩
theorem tw_201 : Cond.code y_Ma_min b_Ma_min 2 (some FieldType.int) ∈ vv_wds := List.mem_filter.mpr ⟨List.mem_of_getElem? (i := 201) rfl, rfl⟩
theorem tw_202 : Cond.methodLink "java/util/Arrays" 150 (⟨"java/lang/System", "arraycopy", "(Ljava/lang/Object;ILjava/lang/Object;II)V"⟩) ∈ vv_wds := List.mem_filter.mpr ⟨List.mem_of_getElem? (i := 202) rfl, rfl⟩
theorem tw_203 : Cond.static (⟨"java/lang/System", "arraycopy", "(Ljava/lang/Object;ILjava/lang/Object;II)V"⟩) ∈ vv_wds := List.mem_filter.mpr ⟨List.mem_of_getElem? (i := 203) rfl, rfl⟩
theorem tw_204 : Cond.native (⟨"java/lang/System", "arraycopy", "(Ljava/lang/Object;ILjava/lang/Object;II)V"⟩) ∈ vv_wds := List.mem_filter.mpr ⟨List.mem_of_getElem? (i := 204) rfl, rfl⟩
theorem tw_205 : Cond.methodLink "java/util/ArrayList" 79 y_Ma_max ∈ vv_wds := List.mem_filter.mpr ⟨List.mem_of_getElem? (i := 205) rfl, rfl⟩
theorem tw_206 : Cond.classLink "java/util/ArrayList" 7 "java/lang/Object" ∈ vv_wds := List.mem_filter.mpr ⟨List.mem_of_getElem? (i := 206) rfl, rfl⟩
theorem tw_207 : Cond.methodLink "CustomerNoticesLaw" 18 y_C_wish ∈ vv_wds := List.mem_filter.mpr ⟨List.mem_of_getElem? (i := 207) rfl, rfl⟩
theorem tw_208 : Cond.instanceMethod y_C_wish ∈ vv_wds := List.mem_filter.mpr ⟨List.mem_of_getElem? (i := 208) rfl, rfl⟩
theorem tw_209 : Cond.selects "CustomerNotices" y_C_wish y_C_wish ∈ vv_wds := List.mem_filter.mpr ⟨List.mem_of_getElem? (i := 209) rfl, rfl⟩
theorem tw_210 : Cond.code y_C_wish b_C_wish 6 (some FieldType.int) ∈ vv_wds := List.mem_filter.mpr ⟨List.mem_of_getElem? (i := 210) rfl, rfl⟩
theorem tw_211 : Cond.methodLink "CustomerNotices" 63 y_C_findCustomer ∈ vv_wds := List.mem_filter.mpr ⟨List.mem_of_getElem? (i := 211) rfl, rfl⟩
theorem tw_213 : Cond.instanceMethod y_C_findCustomer ∈ vv_wds := List.mem_filter.mpr ⟨List.mem_of_getElem? (i := 213) rfl, rfl⟩
theorem tw_214 : Cond.code y_C_findCustomer b_C_findCustomer 2 (some (FieldType.object "CustomerNotices$Customer")) ∈ vv_wds := List.mem_filter.mpr ⟨List.mem_of_getElem? (i := 214) rfl, rfl⟩
theorem tw_215 : Cond.methodLink "CustomerNotices" 160 y_AL_get ∈ vv_wds := List.mem_filter.mpr ⟨List.mem_of_getElem? (i := 215) rfl, rfl⟩
theorem tw_216 : Cond.instanceMethod y_AL_get ∈ vv_wds := List.mem_filter.mpr ⟨List.mem_of_getElem? (i := 216) rfl, rfl⟩
theorem tw_217 : Cond.selects "java/util/ArrayList" y_AL_get y_AL_get ∈ vv_wds := List.mem_filter.mpr ⟨List.mem_of_getElem? (i := 217) rfl, rfl⟩
theorem tw_218 : Cond.code y_AL_get b_AL_get 2 (some (FieldType.object "java/lang/Object")) ∈ vv_wds := List.mem_filter.mpr ⟨List.mem_of_getElem? (i := 218) rfl, rfl⟩
theorem tw_219 : Cond.methodLink "java/util/ArrayList" 118 y_Ob_checkIndex ∈ vv_wds := List.mem_filter.mpr ⟨List.mem_of_getElem? (i := 219) rfl, rfl⟩
theorem tw_220 : Cond.static y_Ob_checkIndex ∈ vv_wds := List.mem_filter.mpr ⟨List.mem_of_getElem? (i := 220) rfl, rfl⟩
theorem tw_221 : Cond.code y_Ob_checkIndex b_Ob_checkIndex 2 (some FieldType.int) ∈ vv_wds := List.mem_filter.mpr ⟨List.mem_of_getElem? (i := 221) rfl, rfl⟩
theorem tw_222 : Cond.methodLink "java/util/Objects" 105 y_Pr_checkIndex ∈ vv_wds := List.mem_filter.mpr ⟨List.mem_of_getElem? (i := 222) rfl, rfl⟩
theorem tw_223 : Cond.static y_Pr_checkIndex ∈ vv_wds := List.mem_filter.mpr ⟨List.mem_of_getElem? (i := 223) rfl, rfl⟩
theorem tw_224 : Cond.code y_Pr_checkIndex b_Pr_checkIndex 3 (some FieldType.int) ∈ vv_wds := List.mem_filter.mpr ⟨List.mem_of_getElem? (i := 224) rfl, rfl⟩
theorem tw_225 : Cond.methodLink "java/util/ArrayList" 123 y_AL_elementData ∈ vv_wds := List.mem_filter.mpr ⟨List.mem_of_getElem? (i := 225) rfl, rfl⟩
theorem tw_226 : Cond.instanceMethod y_AL_elementData ∈ vv_wds := List.mem_filter.mpr ⟨List.mem_of_getElem? (i := 226) rfl, rfl⟩
theorem tw_227 : Cond.selects "java/util/ArrayList" y_AL_elementData y_AL_elementData ∈ vv_wds := List.mem_filter.mpr ⟨List.mem_of_getElem? (i := 227) rfl, rfl⟩
theorem tw_228 : Cond.code y_AL_elementData b_AL_elementData 2 (some (FieldType.object "java/lang/Object")) ∈ vv_wds := List.mem_filter.mpr ⟨List.mem_of_getElem? (i := 228) rfl, rfl⟩
theorem tw_229 : Cond.methodLink "CustomerNotices" 67 y_C_isKind ∈ vv_wds := List.mem_filter.mpr ⟨List.mem_of_getElem? (i := 229) rfl, rfl⟩
theorem tw_230 : Cond.static y_C_isKind ∈ vv_wds := List.mem_filter.mpr ⟨List.mem_of_getElem? (i := 230) rfl, rfl⟩
theorem tw_231 : Cond.code y_C_isKind b_C_isKind 1 (some FieldType.boolean) ∈ vv_wds := List.mem_filter.mpr ⟨List.mem_of_getElem? (i := 231) rfl, rfl⟩
theorem tw_232 : Cond.constantLong "CustomerNotices" 216 7 ∈ vv_wds := List.mem_filter.mpr ⟨List.mem_of_getElem? (i := 232) rfl, rfl⟩
theorem tw_233 : Cond.methodLink "CustomerNotices" 71 y_C_isChannel ∈ vv_wds := List.mem_filter.mpr ⟨List.mem_of_getElem? (i := 233) rfl, rfl⟩
theorem tw_234 : Cond.static y_C_isChannel ∈ vv_wds := List.mem_filter.mpr ⟨List.mem_of_getElem? (i := 234) rfl, rfl⟩
theorem tw_235 : Cond.code y_C_isChannel b_C_isChannel 1 (some FieldType.boolean) ∈ vv_wds := List.mem_filter.mpr ⟨List.mem_of_getElem? (i := 235) rfl, rfl⟩
theorem tw_236 : Cond.constantLong "CustomerNotices" 218 3 ∈ vv_wds := List.mem_filter.mpr ⟨List.mem_of_getElem? (i := 236) rfl, rfl⟩
theorem tw_237 : Cond.methodLink "CustomerNotices" 74 y_K_setOrder ∈ vv_wds := List.mem_filter.mpr ⟨List.mem_of_getElem? (i := 237) rfl, rfl⟩
theorem tw_238 : Cond.instanceMethod y_K_setOrder ∈ vv_wds := List.mem_filter.mpr ⟨List.mem_of_getElem? (i := 238) rfl, rfl⟩
theorem tw_239 : Cond.selects "CustomerNotices$Customer" y_K_setOrder y_K_setOrder ∈ vv_wds := List.mem_filter.mpr ⟨List.mem_of_getElem? (i := 239) rfl, rfl⟩
theorem tw_240 : Cond.code y_K_setOrder b_K_setOrder 4 none ∈ vv_wds := List.mem_filter.mpr ⟨List.mem_of_getElem? (i := 240) rfl, rfl⟩
theorem tw_241 : Cond.methodLinkNest "CustomerNotices$Customer" 25 y_C_isKind "CustomerNotices" ∈ vv_wds := List.mem_filter.mpr ⟨List.mem_of_getElem? (i := 241) rfl, rfl⟩
theorem tw_242 : Cond.methodLinkNest "CustomerNotices$Customer" 29 y_C_isChannel "CustomerNotices" ∈ vv_wds := List.mem_filter.mpr ⟨List.mem_of_getElem? (i := 242) rfl, rfl⟩
theorem tw_243 : Cond.methodLink "CustomerNotices" 77 y_K_countWishes ∈ vv_wds := List.mem_filter.mpr ⟨List.mem_of_getElem? (i := 243) rfl, rfl⟩
theorem tw_244 : Cond.instanceMethod y_K_countWishes ∈ vv_wds := List.mem_filter.mpr ⟨List.mem_of_getElem? (i := 244) rfl, rfl⟩
theorem tw_245 : Cond.selects "CustomerNotices$Customer" y_K_countWishes y_K_countWishes ∈ vv_wds := List.mem_filter.mpr ⟨List.mem_of_getElem? (i := 245) rfl, rfl⟩
theorem tw_246 : Cond.code y_K_countWishes b_K_countWishes 4 (some FieldType.int) ∈ vv_wds := List.mem_filter.mpr ⟨List.mem_of_getElem? (i := 246) rfl, rfl⟩
theorem tw_247 : Cond.methodLink "CustomerNotices$Customer" 36 y_K_orderOf ∈ vv_wds := List.mem_filter.mpr ⟨List.mem_of_getElem? (i := 247) rfl, rfl⟩
theorem tw_249 : Cond.instanceMethod y_K_orderOf ∈ vv_wds := List.mem_filter.mpr ⟨List.mem_of_getElem? (i := 249) rfl, rfl⟩
theorem tw_250 : Cond.code y_K_orderOf b_K_orderOf 3 (some FieldType.int) ∈ vv_wds := List.mem_filter.mpr ⟨List.mem_of_getElem? (i := 250) rfl, rfl⟩
theorem tw_251 : Cond.methodLink "CustomerNoticesLaw" 23 y_C_quiet ∈ vv_wds := List.mem_filter.mpr ⟨List.mem_of_getElem? (i := 251) rfl, rfl⟩
theorem tw_252 : Cond.instanceMethod y_C_quiet ∈ vv_wds := List.mem_filter.mpr ⟨List.mem_of_getElem? (i := 252) rfl, rfl⟩
theorem tw_253 : Cond.selects "CustomerNotices" y_C_quiet y_C_quiet ∈ vv_wds := List.mem_filter.mpr ⟨List.mem_of_getElem? (i := 253) rfl, rfl⟩
theorem tw_254 : Cond.code y_C_quiet b_C_quiet 5 (some FieldType.int) ∈ vv_wds := List.mem_filter.mpr ⟨List.mem_of_getElem? (i := 254) rfl, rfl⟩
theorem tw_255 : Cond.methodLink "CustomerNotices" 81 y_C_isMinuteOfDay ∈ vv_wds := List.mem_filter.mpr ⟨List.mem_of_getElem? (i := 255) rfl, rfl⟩
theorem tw_256 : Cond.static y_C_isMinuteOfDay ∈ vv_wds := List.mem_filter.mpr ⟨List.mem_of_getElem? (i := 256) rfl, rfl⟩
theorem tw_257 : Cond.code y_C_isMinuteOfDay b_C_isMinuteOfDay 1 (some FieldType.boolean) ∈ vv_wds := List.mem_filter.mpr ⟨List.mem_of_getElem? (i := 257) rfl, rfl⟩
theorem tw_258 : Cond.constantLong "CustomerNotices" 220 1439 ∈ vv_wds := List.mem_filter.mpr ⟨List.mem_of_getElem? (i := 258) rfl, rfl⟩
theorem tw_259 : Cond.methodLink "CustomerNotices" 90 y_Ma_floorMod ∈ vv_wds := List.mem_filter.mpr ⟨List.mem_of_getElem? (i := 259) rfl, rfl⟩
theorem tw_260 : Cond.static y_Ma_floorMod ∈ vv_wds := List.mem_filter.mpr ⟨List.mem_of_getElem? (i := 260) rfl, rfl⟩
theorem tw_261 : Cond.code y_Ma_floorMod b_Ma_floorMod 3 (some FieldType.int) ∈ vv_wds := List.mem_filter.mpr ⟨List.mem_of_getElem? (i := 261) rfl, rfl⟩
theorem tw_262 : Cond.methodLink "CustomerNoticesLaw" 30 y_C_event ∈ vv_wds := List.mem_filter.mpr ⟨List.mem_of_getElem? (i := 262) rfl, rfl⟩
theorem tw_263 : Cond.instanceMethod y_C_event ∈ vv_wds := List.mem_filter.mpr ⟨List.mem_of_getElem? (i := 263) rfl, rfl⟩
theorem tw_264 : Cond.selects "CustomerNotices" y_C_event y_C_event ∈ vv_wds := List.mem_filter.mpr ⟨List.mem_of_getElem? (i := 264) rfl, rfl⟩
theorem tw_265 : Cond.code y_C_event b_C_event 11 (some FieldType.int) ∈ vv_wds := List.mem_filter.mpr ⟨List.mem_of_getElem? (i := 265) rfl, rfl⟩
theorem tw_266 : Cond.methodLink "CustomerNotices" 96 y_C_isItemNumber ∈ vv_wds := List.mem_filter.mpr ⟨List.mem_of_getElem? (i := 266) rfl, rfl⟩
theorem tw_267 : Cond.static y_C_isItemNumber ∈ vv_wds := List.mem_filter.mpr ⟨List.mem_of_getElem? (i := 267) rfl, rfl⟩
theorem tw_268 : Cond.code y_C_isItemNumber b_C_isItemNumber 1 (some FieldType.boolean) ∈ vv_wds := List.mem_filter.mpr ⟨List.mem_of_getElem? (i := 268) rfl, rfl⟩
theorem tw_269 : Cond.constantLong "CustomerNotices" 222 9999 ∈ vv_wds := List.mem_filter.mpr ⟨List.mem_of_getElem? (i := 269) rfl, rfl⟩
theorem tw_270 : Cond.methodLink "CustomerNotices" 99 y_C_isTimeFromNow ∈ vv_wds := List.mem_filter.mpr ⟨List.mem_of_getElem? (i := 270) rfl, rfl⟩
theorem tw_272 : Cond.instanceMethod y_C_isTimeFromNow ∈ vv_wds := List.mem_filter.mpr ⟨List.mem_of_getElem? (i := 272) rfl, rfl⟩
theorem tw_273 : Cond.code y_C_isTimeFromNow b_C_isTimeFromNow 3 (some FieldType.boolean) ∈ vv_wds := List.mem_filter.mpr ⟨List.mem_of_getElem? (i := 273) rfl, rfl⟩
theorem tw_274 : Cond.constantLong "CustomerNotices" 135 1000000000 ∈ vv_wds := List.mem_filter.mpr ⟨List.mem_of_getElem? (i := 274) rfl, rfl⟩
theorem tw_275 : Cond.methodLink "CustomerNotices" 103 y_C_findItem ∈ vv_wds := List.mem_filter.mpr ⟨List.mem_of_getElem? (i := 275) rfl, rfl⟩
theorem tw_277 : Cond.instanceMethod y_C_findItem ∈ vv_wds := List.mem_filter.mpr ⟨List.mem_of_getElem? (i := 277) rfl, rfl⟩
theorem tw_278 : Cond.code y_C_findItem b_C_findItem 5 (some (FieldType.object "CustomerNotices$Item")) ∈ vv_wds := List.mem_filter.mpr ⟨List.mem_of_getElem? (i := 278) rfl, rfl⟩
theorem tw_279 : Cond.classLink "CustomerNotices" 108 "CustomerNotices$Item" ∈ vv_wds := List.mem_filter.mpr ⟨List.mem_of_getElem? (i := 279) rfl, rfl⟩
theorem tw_280 : Cond.methodLink "CustomerNotices" 113 y_C_isEnd ∈ vv_wds := List.mem_filter.mpr ⟨List.mem_of_getElem? (i := 280) rfl, rfl⟩
theorem tw_281 : Cond.static y_C_isEnd ∈ vv_wds := List.mem_filter.mpr ⟨List.mem_of_getElem? (i := 281) rfl, rfl⟩
theorem tw_282 : Cond.code y_C_isEnd b_C_isEnd 1 (some FieldType.boolean) ∈ vv_wds := List.mem_filter.mpr ⟨List.mem_of_getElem? (i := 282) rfl, rfl⟩
theorem tw_283 : Cond.methodLink "CustomerNotices" 116 y_C_noticesAreFull ∈ vv_wds := List.mem_filter.mpr ⟨List.mem_of_getElem? (i := 283) rfl, rfl⟩
theorem tw_285 : Cond.instanceMethod y_C_noticesAreFull ∈ vv_wds := List.mem_filter.mpr ⟨List.mem_of_getElem? (i := 285) rfl, rfl⟩
theorem tw_286 : Cond.code y_C_noticesAreFull b_C_noticesAreFull 1 (some FieldType.boolean) ∈ vv_wds := List.mem_filter.mpr ⟨List.mem_of_getElem? (i := 286) rfl, rfl⟩
theorem tw_287 : Cond.methodLink "CustomerNotices" 120 y_C_itemsAreFull ∈ vv_wds := List.mem_filter.mpr ⟨List.mem_of_getElem? (i := 287) rfl, rfl⟩
theorem tw_289 : Cond.instanceMethod y_C_itemsAreFull ∈ vv_wds := List.mem_filter.mpr ⟨List.mem_of_getElem? (i := 289) rfl, rfl⟩
theorem tw_290 : Cond.code y_C_itemsAreFull b_C_itemsAreFull 1 (some FieldType.boolean) ∈ vv_wds := List.mem_filter.mpr ⟨List.mem_of_getElem? (i := 290) rfl, rfl⟩
theorem tw_291 : Cond.methodLink "CustomerNotices" 123 y_C_addItem ∈ vv_wds := List.mem_filter.mpr ⟨List.mem_of_getElem? (i := 291) rfl, rfl⟩
theorem tw_293 : Cond.instanceMethod y_C_addItem ∈ vv_wds := List.mem_filter.mpr ⟨List.mem_of_getElem? (i := 293) rfl, rfl⟩
theorem tw_294 : Cond.code y_C_addItem b_C_addItem 4 (some (FieldType.object "CustomerNotices$Item")) ∈ vv_wds := List.mem_filter.mpr ⟨List.mem_of_getElem? (i := 294) rfl, rfl⟩
theorem tw_295 : Cond.instantiable "CustomerNotices$Item" 4 ∈ vv_wds := List.mem_filter.mpr ⟨List.mem_of_getElem? (i := 295) rfl, rfl⟩
theorem tw_296 : Cond.methodLink "CustomerNotices" 230 y_I_init ∈ vv_wds := List.mem_filter.mpr ⟨List.mem_of_getElem? (i := 296) rfl, rfl⟩
theorem tw_297 : Cond.instanceMethod y_I_init ∈ vv_wds := List.mem_filter.mpr ⟨List.mem_of_getElem? (i := 297) rfl, rfl⟩
theorem tw_298 : Cond.code y_I_init b_I_init 3 none ∈ vv_wds := List.mem_filter.mpr ⟨List.mem_of_getElem? (i := 298) rfl, rfl⟩
theorem tw_299 : Cond.methodLink "CustomerNotices$Item" 1 y_Oj_init ∈ vv_wds := List.mem_filter.mpr ⟨List.mem_of_getElem? (i := 299) rfl, rfl⟩
theorem tw_300 : Cond.fieldLink "CustomerNotices$Item" 7 "CustomerNotices$Item" "customerNumber" "I" ∈ vv_wds := List.mem_filter.mpr ⟨List.mem_of_getElem? (i := 300) rfl, rfl⟩
set_option maxRecDepth 20000 in
theorem tw_301 : Cond.fieldLink "CustomerNotices" 224 "CustomerNotices$Item" "customerNumber" "I" ∈ vv_wds := List.mem_filter.mpr ⟨List.mem_of_getElem? (i := 301) rfl, rfl⟩
set_option maxRecDepth 20000 in
theorem tw_302 : Cond.fieldLink "CustomerNotices$Item" 13 "CustomerNotices$Item" "itemNumber" "I" ∈ vv_wds := List.mem_filter.mpr ⟨List.mem_of_getElem? (i := 302) rfl, rfl⟩
set_option maxRecDepth 20000 in
theorem tw_303 : Cond.fieldLink "CustomerNotices" 227 "CustomerNotices$Item" "itemNumber" "I" ∈ vv_wds := List.mem_filter.mpr ⟨List.mem_of_getElem? (i := 303) rfl, rfl⟩
set_option maxRecDepth 20000 in
theorem tw_304 : Cond.fieldLink "CustomerNotices" 107 "CustomerNotices$Item" "ended" "Z" ∈ vv_wds := List.mem_filter.mpr ⟨List.mem_of_getElem? (i := 304) rfl, rfl⟩
set_option maxRecDepth 20000 in
theorem tw_305 : Cond.fieldLink "CustomerNotices" 139 "CustomerNotices$Item" "latestPromise" "LCustomerNotices$Notice;" ∈ vv_wds := List.mem_filter.mpr ⟨List.mem_of_getElem? (i := 305) rfl, rfl⟩
set_option maxRecDepth 20000 in
theorem tw_306 : Cond.laysFinal "CustomerNotices$Item" "CustomerNotices$Item" "customerNumber" "I" ∈ vv_wds := List.mem_filter.mpr ⟨List.mem_of_getElem? (i := 306) rfl, rfl⟩
set_option maxRecDepth 20000 in
theorem tw_308 : Cond.laysFinal "CustomerNotices$Item" "CustomerNotices$Item" "itemNumber" "I" ∈ vv_wds := List.mem_filter.mpr ⟨List.mem_of_getElem? (i := 308) rfl, rfl⟩
set_option maxRecDepth 20000 in
theorem tw_310 : Cond.lays "CustomerNotices$Item" "CustomerNotices$Item" "ended" "Z" ∈ vv_wds := List.mem_filter.mpr ⟨List.mem_of_getElem? (i := 310) rfl, rfl⟩
set_option maxRecDepth 20000 in
theorem tw_312 : Cond.lays "CustomerNotices$Item" "CustomerNotices$Item" "latestPromise" "LCustomerNotices$Notice;" ∈ vv_wds := List.mem_filter.mpr ⟨List.mem_of_getElem? (i := 312) rfl, rfl⟩
set_option maxRecDepth 20000 in
theorem tw_315 : Cond.methodLink "CustomerNotices" 126 y_C_addNotice ∈ vv_wds := List.mem_filter.mpr ⟨List.mem_of_getElem? (i := 315) rfl, rfl⟩
set_option maxRecDepth 20000 in
theorem tw_317 : Cond.instanceMethod y_C_addNotice ∈ vv_wds := List.mem_filter.mpr ⟨List.mem_of_getElem? (i := 317) rfl, rfl⟩
set_option maxRecDepth 20000 in
theorem tw_318 : Cond.code y_C_addNotice b_C_addNotice 7 (some (FieldType.object "CustomerNotices$Notice")) ∈ vv_wds := List.mem_filter.mpr ⟨List.mem_of_getElem? (i := 318) rfl, rfl⟩
set_option maxRecDepth 20000 in
theorem tw_319 : Cond.classLink "CustomerNotices" 131 "CustomerNotices$Notice" ∈ vv_wds := List.mem_filter.mpr ⟨List.mem_of_getElem? (i := 319) rfl, rfl⟩
set_option maxRecDepth 20000 in
theorem tw_320 : Cond.instantiable "CustomerNotices$Notice" 12 ∈ vv_wds := List.mem_filter.mpr ⟨List.mem_of_getElem? (i := 320) rfl, rfl⟩
set_option maxRecDepth 20000 in
theorem tw_321 : Cond.methodLink "CustomerNotices" 232 y_N_init ∈ vv_wds := List.mem_filter.mpr ⟨List.mem_of_getElem? (i := 321) rfl, rfl⟩
set_option maxRecDepth 20000 in
theorem tw_322 : Cond.instanceMethod y_N_init ∈ vv_wds := List.mem_filter.mpr ⟨List.mem_of_getElem? (i := 322) rfl, rfl⟩
set_option maxRecDepth 20000 in
theorem tw_323 : Cond.code y_N_init b_N_init 7 none ∈ vv_wds := List.mem_filter.mpr ⟨List.mem_of_getElem? (i := 323) rfl, rfl⟩
set_option maxRecDepth 20000 in
theorem tw_324 : Cond.methodLink "CustomerNotices$Notice" 3 y_Oj_init ∈ vv_wds := List.mem_filter.mpr ⟨List.mem_of_getElem? (i := 324) rfl, rfl⟩
set_option maxRecDepth 20000 in
theorem tw_325 : Cond.constantLong "CustomerNotices$Notice" 32 (-1) ∈ vv_wds := List.mem_filter.mpr ⟨List.mem_of_getElem? (i := 325) rfl, rfl⟩
set_option maxRecDepth 20000 in
theorem tw_326 : Cond.fieldLink "CustomerNotices$Notice" 9 "CustomerNotices$Notice" "number" "I" ∈ vv_wds := List.mem_filter.mpr ⟨List.mem_of_getElem? (i := 326) rfl, rfl⟩
set_option maxRecDepth 20000 in
theorem tw_327 : Cond.fieldLink "CustomerNotices" 130 "CustomerNotices$Notice" "number" "I" ∈ vv_wds := List.mem_filter.mpr ⟨List.mem_of_getElem? (i := 327) rfl, rfl⟩
set_option maxRecDepth 20000 in
theorem tw_328 : Cond.fieldLink "CustomerNotices$Notice" 15 "CustomerNotices$Notice" "owner" "LCustomerNotices$Customer;" ∈ vv_wds := List.mem_filter.mpr ⟨List.mem_of_getElem? (i := 328) rfl, rfl⟩
set_option maxRecDepth 20000 in
theorem tw_329 : Cond.fieldLink "CustomerNotices" 185 "CustomerNotices$Notice" "owner" "LCustomerNotices$Customer;" ∈ vv_wds := List.mem_filter.mpr ⟨List.mem_of_getElem? (i := 329) rfl, rfl⟩
set_option maxRecDepth 20000 in
theorem tw_330 : Cond.fieldLink "CustomerNotices$Notice" 19 "CustomerNotices$Notice" "item" "I" ∈ vv_wds := List.mem_filter.mpr ⟨List.mem_of_getElem? (i := 330) rfl, rfl⟩
set_option maxRecDepth 20000 in
theorem tw_331 : Cond.fieldLink "CustomerNotices" 200 "CustomerNotices$Notice" "item" "I" ∈ vv_wds := List.mem_filter.mpr ⟨List.mem_of_getElem? (i := 331) rfl, rfl⟩
set_option maxRecDepth 20000 in
theorem tw_332 : Cond.fieldLink "CustomerNotices$Notice" 22 "CustomerNotices$Notice" "kind" "I" ∈ vv_wds := List.mem_filter.mpr ⟨List.mem_of_getElem? (i := 332) rfl, rfl⟩
set_option maxRecDepth 20000 in
theorem tw_333 : Cond.fieldLink "CustomerNotices" 190 "CustomerNotices$Notice" "kind" "I" ∈ vv_wds := List.mem_filter.mpr ⟨List.mem_of_getElem? (i := 333) rfl, rfl⟩
set_option maxRecDepth 20000 in
theorem tw_334 : Cond.fieldLink "CustomerNotices$Notice" 25 "CustomerNotices$Notice" "time" "J" ∈ vv_wds := List.mem_filter.mpr ⟨List.mem_of_getElem? (i := 334) rfl, rfl⟩
set_option maxRecDepth 20000 in
theorem tw_335 : Cond.fieldLink "CustomerNotices" 247 "CustomerNotices$Notice" "time" "J" ∈ vv_wds := List.mem_filter.mpr ⟨List.mem_of_getElem? (i := 335) rfl, rfl⟩
set_option maxRecDepth 20000 in
theorem tw_336 : Cond.fieldLink "CustomerNotices$Notice" 29 "CustomerNotices$Notice" "state" "I" ∈ vv_wds := List.mem_filter.mpr ⟨List.mem_of_getElem? (i := 336) rfl, rfl⟩
set_option maxRecDepth 20000 in
theorem tw_337 : Cond.fieldLink "CustomerNotices" 154 "CustomerNotices$Notice" "state" "I" ∈ vv_wds := List.mem_filter.mpr ⟨List.mem_of_getElem? (i := 337) rfl, rfl⟩
set_option maxRecDepth 20000 in
theorem tw_338 : Cond.fieldLink "CustomerNotices$Notice" 34 "CustomerNotices$Notice" "promisedTime" "J" ∈ vv_wds := List.mem_filter.mpr ⟨List.mem_of_getElem? (i := 338) rfl, rfl⟩
set_option maxRecDepth 20000 in
theorem tw_339 : Cond.fieldLink "CustomerNotices" 147 "CustomerNotices$Notice" "promisedTime" "J" ∈ vv_wds := List.mem_filter.mpr ⟨List.mem_of_getElem? (i := 339) rfl, rfl⟩
set_option maxRecDepth 20000 in
theorem tw_340 : Cond.fieldLink "CustomerNotices$Notice" 41 "CustomerNotices$Notice" "isCorrection" "Z" ∈ vv_wds := List.mem_filter.mpr ⟨List.mem_of_getElem? (i := 340) rfl, rfl⟩
set_option maxRecDepth 20000 in
theorem tw_341 : Cond.fieldLink "CustomerNotices" 235 "CustomerNotices$Notice" "isCorrection" "Z" ∈ vv_wds := List.mem_filter.mpr ⟨List.mem_of_getElem? (i := 341) rfl, rfl⟩
set_option maxRecDepth 20000 in
theorem tw_342 : Cond.fieldLink "CustomerNotices$Notice" 37 "CustomerNotices$Notice" "corrected" "Z" ∈ vv_wds := List.mem_filter.mpr ⟨List.mem_of_getElem? (i := 342) rfl, rfl⟩
set_option maxRecDepth 20000 in
theorem tw_343 : Cond.fieldLink "CustomerNotices" 207 "CustomerNotices$Notice" "corrected" "Z" ∈ vv_wds := List.mem_filter.mpr ⟨List.mem_of_getElem? (i := 343) rfl, rfl⟩
set_option maxRecDepth 20000 in
theorem tw_344 : Cond.fieldLink "CustomerNotices" 261 "CustomerNotices$Notice" "channel" "I" ∈ vv_wds := List.mem_filter.mpr ⟨List.mem_of_getElem? (i := 344) rfl, rfl⟩
set_option maxRecDepth 20000 in
theorem tw_345 : Cond.fieldLink "CustomerNotices" 264 "CustomerNotices$Notice" "message" "I" ∈ vv_wds := List.mem_filter.mpr ⟨List.mem_of_getElem? (i := 345) rfl, rfl⟩
set_option maxRecDepth 20000 in
theorem tw_346 : Cond.fieldLink "CustomerNotices" 267 "CustomerNotices$Notice" "sentTime" "J" ∈ vv_wds := List.mem_filter.mpr ⟨List.mem_of_getElem? (i := 346) rfl, rfl⟩
set_option maxRecDepth 20000 in
theorem tw_347 : Cond.laysFinal "CustomerNotices$Notice" "CustomerNotices$Notice" "number" "I" ∈ vv_wds := List.mem_filter.mpr ⟨List.mem_of_getElem? (i := 347) rfl, rfl⟩
set_option maxRecDepth 20000 in
theorem tw_349 : Cond.laysFinal "CustomerNotices$Notice" "CustomerNotices$Notice" "owner" "LCustomerNotices$Customer;" ∈ vv_wds := List.mem_filter.mpr ⟨List.mem_of_getElem? (i := 349) rfl, rfl⟩
set_option maxRecDepth 20000 in
theorem tw_351 : Cond.laysFinal "CustomerNotices$Notice" "CustomerNotices$Notice" "item" "I" ∈ vv_wds := List.mem_filter.mpr ⟨List.mem_of_getElem? (i := 351) rfl, rfl⟩
set_option maxRecDepth 20000 in
theorem tw_353 : Cond.laysFinal "CustomerNotices$Notice" "CustomerNotices$Notice" "kind" "I" ∈ vv_wds := List.mem_filter.mpr ⟨List.mem_of_getElem? (i := 353) rfl, rfl⟩
set_option maxRecDepth 20000 in
theorem tw_355 : Cond.laysFinal "CustomerNotices$Notice" "CustomerNotices$Notice" "time" "J" ∈ vv_wds := List.mem_filter.mpr ⟨List.mem_of_getElem? (i := 355) rfl, rfl⟩
set_option maxRecDepth 20000 in
theorem tw_357 : Cond.lays "CustomerNotices$Notice" "CustomerNotices$Notice" "state" "I" ∈ vv_wds := List.mem_filter.mpr ⟨List.mem_of_getElem? (i := 357) rfl, rfl⟩
set_option maxRecDepth 20000 in
theorem tw_359 : Cond.lays "CustomerNotices$Notice" "CustomerNotices$Notice" "promisedTime" "J" ∈ vv_wds := List.mem_filter.mpr ⟨List.mem_of_getElem? (i := 359) rfl, rfl⟩
set_option maxRecDepth 20000 in
theorem tw_361 : Cond.lays "CustomerNotices$Notice" "CustomerNotices$Notice" "isCorrection" "Z" ∈ vv_wds := List.mem_filter.mpr ⟨List.mem_of_getElem? (i := 361) rfl, rfl⟩
set_option maxRecDepth 20000 in
theorem tw_363 : Cond.lays "CustomerNotices$Notice" "CustomerNotices$Notice" "corrected" "Z" ∈ vv_wds := List.mem_filter.mpr ⟨List.mem_of_getElem? (i := 363) rfl, rfl⟩
set_option maxRecDepth 20000 in
theorem tw_365 : Cond.lays "CustomerNotices$Notice" "CustomerNotices$Notice" "channel" "I" ∈ vv_wds := List.mem_filter.mpr ⟨List.mem_of_getElem? (i := 365) rfl, rfl⟩
set_option maxRecDepth 20000 in
theorem tw_367 : Cond.lays "CustomerNotices$Notice" "CustomerNotices$Notice" "message" "I" ∈ vv_wds := List.mem_filter.mpr ⟨List.mem_of_getElem? (i := 367) rfl, rfl⟩
set_option maxRecDepth 20000 in
theorem tw_369 : Cond.lays "CustomerNotices$Notice" "CustomerNotices$Notice" "sentTime" "J" ∈ vv_wds := List.mem_filter.mpr ⟨List.mem_of_getElem? (i := 369) rfl, rfl⟩
set_option maxRecDepth 20000 in
theorem tw_372 : Cond.methodLink "CustomerNoticesLaw" 35 y_C_promise ∈ vv_wds := List.mem_filter.mpr ⟨List.mem_of_getElem? (i := 372) rfl, rfl⟩
set_option maxRecDepth 20000 in
theorem tw_373 : Cond.instanceMethod y_C_promise ∈ vv_wds := List.mem_filter.mpr ⟨List.mem_of_getElem? (i := 373) rfl, rfl⟩
set_option maxRecDepth 20000 in
theorem tw_374 : Cond.selects "CustomerNotices" y_C_promise y_C_promise ∈ vv_wds := List.mem_filter.mpr ⟨List.mem_of_getElem? (i := 374) rfl, rfl⟩
set_option maxRecDepth 20000 in
theorem tw_375 : Cond.code y_C_promise b_C_promise 10 (some FieldType.int) ∈ vv_wds := List.mem_filter.mpr ⟨List.mem_of_getElem? (i := 375) rfl, rfl⟩
set_option maxRecDepth 20000 in
theorem tw_376 : Cond.constantLong "CustomerNotices" 137 1000000 ∈ vv_wds := List.mem_filter.mpr ⟨List.mem_of_getElem? (i := 376) rfl, rfl⟩
set_option maxRecDepth 20000 in
theorem tw_377 : Cond.methodLink "CustomerNotices" 143 y_C_addPromise ∈ vv_wds := List.mem_filter.mpr ⟨List.mem_of_getElem? (i := 377) rfl, rfl⟩
set_option maxRecDepth 20000 in
theorem tw_379 : Cond.instanceMethod y_C_addPromise ∈ vv_wds := List.mem_filter.mpr ⟨List.mem_of_getElem? (i := 379) rfl, rfl⟩
set_option maxRecDepth 20000 in
theorem tw_380 : Cond.code y_C_addPromise b_C_addPromise 8 (some FieldType.int) ∈ vv_wds := List.mem_filter.mpr ⟨List.mem_of_getElem? (i := 380) rfl, rfl⟩
set_option maxRecDepth 20000 in
theorem tw_381 : Cond.methodLink "CustomerNotices" 150 y_Ma_abs ∈ vv_wds := List.mem_filter.mpr ⟨List.mem_of_getElem? (i := 381) rfl, rfl⟩
set_option maxRecDepth 20000 in
theorem tw_382 : Cond.static y_Ma_abs ∈ vv_wds := List.mem_filter.mpr ⟨List.mem_of_getElem? (i := 382) rfl, rfl⟩
set_option maxRecDepth 20000 in
theorem tw_383 : Cond.code y_Ma_abs b_Ma_abs 2 (some FieldType.long) ∈ vv_wds := List.mem_filter.mpr ⟨List.mem_of_getElem? (i := 383) rfl, rfl⟩
set_option maxRecDepth 20000 in
theorem tw_384 : Cond.methodLink "CustomerNoticesLaw" 40 y_C_tick ∈ vv_wds := List.mem_filter.mpr ⟨List.mem_of_getElem? (i := 384) rfl, rfl⟩
set_option maxRecDepth 20000 in
theorem tw_385 : Cond.instanceMethod y_C_tick ∈ vv_wds := List.mem_filter.mpr ⟨List.mem_of_getElem? (i := 385) rfl, rfl⟩
set_option maxRecDepth 20000 in
theorem tw_386 : Cond.selects "CustomerNotices" y_C_tick y_C_tick ∈ vv_wds := List.mem_filter.mpr ⟨List.mem_of_getElem? (i := 386) rfl, rfl⟩
set_option maxRecDepth 20000 in
theorem tw_387 : Cond.code y_C_tick b_C_tick 6 (some FieldType.int) ∈ vv_wds := List.mem_filter.mpr ⟨List.mem_of_getElem? (i := 387) rfl, rfl⟩
set_option maxRecDepth 20000 in
theorem tw_388 : Cond.methodLink "CustomerNotices" 157 y_C_prepareCustomersForTick ∈ vv_wds := List.mem_filter.mpr ⟨List.mem_of_getElem? (i := 388) rfl, rfl⟩
set_option maxRecDepth 20000 in
theorem tw_390 : Cond.instanceMethod y_C_prepareCustomersForTick ∈ vv_wds := List.mem_filter.mpr ⟨List.mem_of_getElem? (i := 390) rfl, rfl⟩
set_option maxRecDepth 20000 in
theorem tw_391 : Cond.code y_C_prepareCustomersForTick b_C_prepareCustomersForTick 4 none ∈ vv_wds := List.mem_filter.mpr ⟨List.mem_of_getElem? (i := 391) rfl, rfl⟩
set_option maxRecDepth 20000 in
theorem tw_392 : Cond.methodLink "CustomerNotices" 244 y_N_isMarked ∈ vv_wds := List.mem_filter.mpr ⟨List.mem_of_getElem? (i := 392) rfl, rfl⟩
set_option maxRecDepth 20000 in
theorem tw_393 : Cond.instanceMethod y_N_isMarked ∈ vv_wds := List.mem_filter.mpr ⟨List.mem_of_getElem? (i := 393) rfl, rfl⟩
set_option maxRecDepth 20000 in
theorem tw_394 : Cond.selects "CustomerNotices$Notice" y_N_isMarked y_N_isMarked ∈ vv_wds := List.mem_filter.mpr ⟨List.mem_of_getElem? (i := 394) rfl, rfl⟩
set_option maxRecDepth 20000 in
theorem tw_395 : Cond.code y_N_isMarked b_N_isMarked 1 (some FieldType.boolean) ∈ vv_wds := List.mem_filter.mpr ⟨List.mem_of_getElem? (i := 395) rfl, rfl⟩
set_option maxRecDepth 20000 in
theorem tw_396 : Cond.methodLink "CustomerNotices" 250 y_Ma_min_JJJ ∈ vv_wds := List.mem_filter.mpr ⟨List.mem_of_getElem? (i := 396) rfl, rfl⟩
set_option maxRecDepth 20000 in
theorem tw_397 : Cond.static y_Ma_min_JJJ ∈ vv_wds := List.mem_filter.mpr ⟨List.mem_of_getElem? (i := 397) rfl, rfl⟩
set_option maxRecDepth 20000 in
theorem tw_398 : Cond.code y_Ma_min_JJJ b_Ma_min_JJJ 4 (some FieldType.long) ∈ vv_wds := List.mem_filter.mpr ⟨List.mem_of_getElem? (i := 398) rfl, rfl⟩
set_option maxRecDepth 20000 in
theorem tw_399 : Cond.methodLink "CustomerNotices" 164 y_C_isDue ∈ vv_wds := List.mem_filter.mpr ⟨List.mem_of_getElem? (i := 399) rfl, rfl⟩
set_option maxRecDepth 20000 in
theorem tw_401 : Cond.instanceMethod y_C_isDue ∈ vv_wds := List.mem_filter.mpr ⟨List.mem_of_getElem? (i := 401) rfl, rfl⟩
set_option maxRecDepth 20000 in
theorem tw_402 : Cond.code y_C_isDue b_C_isDue 2 (some FieldType.boolean) ∈ vv_wds := List.mem_filter.mpr ⟨List.mem_of_getElem? (i := 402) rfl, rfl⟩
set_option maxRecDepth 20000 in
theorem tw_403 : Cond.methodLink "CustomerNotices" 168 y_C_isHeldByQuiet ∈ vv_wds := List.mem_filter.mpr ⟨List.mem_of_getElem? (i := 403) rfl, rfl⟩
set_option maxRecDepth 20000 in
theorem tw_405 : Cond.instanceMethod y_C_isHeldByQuiet ∈ vv_wds := List.mem_filter.mpr ⟨List.mem_of_getElem? (i := 405) rfl, rfl⟩
set_option maxRecDepth 20000 in
theorem tw_406 : Cond.code y_C_isHeldByQuiet b_C_isHeldByQuiet 2 (some FieldType.boolean) ∈ vv_wds := List.mem_filter.mpr ⟨List.mem_of_getElem? (i := 406) rfl, rfl⟩
set_option maxRecDepth 20000 in
theorem tw_407 : Cond.methodLink "CustomerNotices" 254 y_K_isQuietAt ∈ vv_wds := List.mem_filter.mpr ⟨List.mem_of_getElem? (i := 407) rfl, rfl⟩
set_option maxRecDepth 20000 in
theorem tw_408 : Cond.instanceMethod y_K_isQuietAt ∈ vv_wds := List.mem_filter.mpr ⟨List.mem_of_getElem? (i := 408) rfl, rfl⟩
set_option maxRecDepth 20000 in
theorem tw_409 : Cond.selects "CustomerNotices$Customer" y_K_isQuietAt y_K_isQuietAt ∈ vv_wds := List.mem_filter.mpr ⟨List.mem_of_getElem? (i := 409) rfl, rfl⟩
set_option maxRecDepth 20000 in
theorem tw_410 : Cond.code y_K_isQuietAt b_K_isQuietAt 5 (some FieldType.boolean) ∈ vv_wds := List.mem_filter.mpr ⟨List.mem_of_getElem? (i := 410) rfl, rfl⟩
set_option maxRecDepth 20000 in
theorem tw_411 : Cond.constantLong "CustomerNotices$Customer" 40 1440 ∈ vv_wds := List.mem_filter.mpr ⟨List.mem_of_getElem? (i := 411) rfl, rfl⟩
set_option maxRecDepth 20000 in
theorem tw_412 : Cond.methodLink "CustomerNotices$Customer" 42 y_Ma_floorMod_JJJ ∈ vv_wds := List.mem_filter.mpr ⟨List.mem_of_getElem? (i := 412) rfl, rfl⟩
set_option maxRecDepth 20000 in
theorem tw_413 : Cond.static y_Ma_floorMod_JJJ ∈ vv_wds := List.mem_filter.mpr ⟨List.mem_of_getElem? (i := 413) rfl, rfl⟩
set_option maxRecDepth 20000 in
theorem tw_414 : Cond.code y_Ma_floorMod_JJJ b_Ma_floorMod_JJJ 6 (some FieldType.long) ∈ vv_wds := List.mem_filter.mpr ⟨List.mem_of_getElem? (i := 414) rfl, rfl⟩
set_option maxRecDepth 20000 in
theorem tw_415 : Cond.methodLink "CustomerNotices" 171 y_C_deliver ∈ vv_wds := List.mem_filter.mpr ⟨List.mem_of_getElem? (i := 415) rfl, rfl⟩
set_option maxRecDepth 20000 in
theorem tw_417 : Cond.instanceMethod y_C_deliver ∈ vv_wds := List.mem_filter.mpr ⟨List.mem_of_getElem? (i := 417) rfl, rfl⟩
set_option maxRecDepth 20000 in
theorem tw_418 : Cond.code y_C_deliver b_C_deliver 4 none ∈ vv_wds := List.mem_filter.mpr ⟨List.mem_of_getElem? (i := 418) rfl, rfl⟩
set_option maxRecDepth 20000 in
theorem tw_419 : Cond.methodLink "CustomerNotices" 257 y_K_firstWorkingChannel ∈ vv_wds := List.mem_filter.mpr ⟨List.mem_of_getElem? (i := 419) rfl, rfl⟩
set_option maxRecDepth 20000 in
theorem tw_420 : Cond.instanceMethod y_K_firstWorkingChannel ∈ vv_wds := List.mem_filter.mpr ⟨List.mem_of_getElem? (i := 420) rfl, rfl⟩
set_option maxRecDepth 20000 in
theorem tw_421 : Cond.selects "CustomerNotices$Customer" y_K_firstWorkingChannel y_K_firstWorkingChannel ∈ vv_wds := List.mem_filter.mpr ⟨List.mem_of_getElem? (i := 421) rfl, rfl⟩
set_option maxRecDepth 20000 in
theorem tw_422 : Cond.code y_K_firstWorkingChannel b_K_firstWorkingChannel 7 (some FieldType.int) ∈ vv_wds := List.mem_filter.mpr ⟨List.mem_of_getElem? (i := 422) rfl, rfl⟩
set_option maxRecDepth 20000 in
theorem tw_423 : Cond.methodLink "CustomerNoticesLaw" 45 y_C_sent ∈ vv_wds := List.mem_filter.mpr ⟨List.mem_of_getElem? (i := 423) rfl, rfl⟩
set_option maxRecDepth 20000 in
theorem tw_424 : Cond.instanceMethod y_C_sent ∈ vv_wds := List.mem_filter.mpr ⟨List.mem_of_getElem? (i := 424) rfl, rfl⟩
set_option maxRecDepth 20000 in
theorem tw_425 : Cond.selects "CustomerNotices" y_C_sent y_C_sent ∈ vv_wds := List.mem_filter.mpr ⟨List.mem_of_getElem? (i := 425) rfl, rfl⟩
set_option maxRecDepth 20000 in
theorem tw_426 : Cond.code y_C_sent b_C_sent 3 (some FieldType.int) ∈ vv_wds := List.mem_filter.mpr ⟨List.mem_of_getElem? (i := 426) rfl, rfl⟩
set_option maxRecDepth 20000 in
theorem tw_427 : Cond.constantLong "CustomerNotices" 175 8 ∈ vv_wds := List.mem_filter.mpr ⟨List.mem_of_getElem? (i := 427) rfl, rfl⟩
set_option maxRecDepth 20000 in
theorem tw_428 : Cond.methodLink "CustomerNotices" 177 y_C_detail ∈ vv_wds := List.mem_filter.mpr ⟨List.mem_of_getElem? (i := 428) rfl, rfl⟩
set_option maxRecDepth 20000 in
theorem tw_429 : Cond.static y_C_detail ∈ vv_wds := List.mem_filter.mpr ⟨List.mem_of_getElem? (i := 429) rfl, rfl⟩
set_option maxRecDepth 20000 in
theorem tw_430 : Cond.code y_C_detail b_C_detail 2 (some FieldType.int) ∈ vv_wds := List.mem_filter.mpr ⟨List.mem_of_getElem? (i := 430) rfl, rfl⟩
set_option maxRecDepth 20000 in
theorem tw_431 : Cond.methodLink "CustomerNotices" 270 y_N_text ∈ vv_wds := List.mem_filter.mpr ⟨List.mem_of_getElem? (i := 431) rfl, rfl⟩
set_option maxRecDepth 20000 in
theorem tw_432 : Cond.instanceMethod y_N_text ∈ vv_wds := List.mem_filter.mpr ⟨List.mem_of_getElem? (i := 432) rfl, rfl⟩
set_option maxRecDepth 20000 in
theorem tw_433 : Cond.selects "CustomerNotices$Notice" y_N_text y_N_text ∈ vv_wds := List.mem_filter.mpr ⟨List.mem_of_getElem? (i := 433) rfl, rfl⟩
set_option maxRecDepth 20000 in
theorem tw_434 : Cond.code y_N_text b_N_text 1 (some FieldType.int) ∈ vv_wds := List.mem_filter.mpr ⟨List.mem_of_getElem? (i := 434) rfl, rfl⟩
set_option maxRecDepth 20000 in
theorem tw_435 : Cond.methodLink "CustomerNoticesLaw" 49 y_C_works ∈ vv_wds := List.mem_filter.mpr ⟨List.mem_of_getElem? (i := 435) rfl, rfl⟩
set_option maxRecDepth 20000 in
theorem tw_436 : Cond.instanceMethod y_C_works ∈ vv_wds := List.mem_filter.mpr ⟨List.mem_of_getElem? (i := 436) rfl, rfl⟩
set_option maxRecDepth 20000 in
theorem tw_437 : Cond.selects "CustomerNotices" y_C_works y_C_works ∈ vv_wds := List.mem_filter.mpr ⟨List.mem_of_getElem? (i := 437) rfl, rfl⟩
set_option maxRecDepth 20000 in
theorem tw_438 : Cond.code y_C_works b_C_works 4 (some FieldType.boolean) ∈ vv_wds := List.mem_filter.mpr ⟨List.mem_of_getElem? (i := 438) rfl, rfl⟩
set_option maxRecDepth 20000 in
theorem tw_439 : Cond.methodLink "CustomerNoticesLaw" 54 y_C_out ∈ vv_wds := List.mem_filter.mpr ⟨List.mem_of_getElem? (i := 439) rfl, rfl⟩
set_option maxRecDepth 20000 in
theorem tw_440 : Cond.instanceMethod y_C_out ∈ vv_wds := List.mem_filter.mpr ⟨List.mem_of_getElem? (i := 440) rfl, rfl⟩
set_option maxRecDepth 20000 in
theorem tw_441 : Cond.selects "CustomerNotices" y_C_out y_C_out ∈ vv_wds := List.mem_filter.mpr ⟨List.mem_of_getElem? (i := 441) rfl, rfl⟩
set_option maxRecDepth 20000 in
theorem tw_442 : Cond.code y_C_out b_C_out 7 (some FieldType.int) ∈ vv_wds := List.mem_filter.mpr ⟨List.mem_of_getElem? (i := 442) rfl, rfl⟩
set_option maxRecDepth 20000 in
theorem tw_443 : Cond.methodLink "CustomerNotices" 181 y_K_clearWishes ∈ vv_wds := List.mem_filter.mpr ⟨List.mem_of_getElem? (i := 443) rfl, rfl⟩
set_option maxRecDepth 20000 in
theorem tw_444 : Cond.instanceMethod y_K_clearWishes ∈ vv_wds := List.mem_filter.mpr ⟨List.mem_of_getElem? (i := 444) rfl, rfl⟩
set_option maxRecDepth 20000 in
theorem tw_445 : Cond.selects "CustomerNotices$Customer" y_K_clearWishes y_K_clearWishes ∈ vv_wds := List.mem_filter.mpr ⟨List.mem_of_getElem? (i := 445) rfl, rfl⟩
set_option maxRecDepth 20000 in
theorem tw_446 : Cond.code y_K_clearWishes b_K_clearWishes 3 none ∈ vv_wds := List.mem_filter.mpr ⟨List.mem_of_getElem? (i := 446) rfl, rfl⟩
set_option maxRecDepth 20000 in
theorem tw_447 : Cond.methodLink "CustomerNotices$Customer" 32 y_K_setOrder ∈ vv_wds := List.mem_filter.mpr ⟨List.mem_of_getElem? (i := 447) rfl, rfl⟩
set_option maxRecDepth 20000 in
theorem tw_448 : Cond.methodLink "CustomerNoticesLaw" 58 y_C_failed ∈ vv_wds := List.mem_filter.mpr ⟨List.mem_of_getElem? (i := 448) rfl, rfl⟩
set_option maxRecDepth 20000 in
theorem tw_449 : Cond.instanceMethod y_C_failed ∈ vv_wds := List.mem_filter.mpr ⟨List.mem_of_getElem? (i := 449) rfl, rfl⟩
set_option maxRecDepth 20000 in
theorem tw_450 : Cond.selects "CustomerNotices" y_C_failed y_C_failed ∈ vv_wds := List.mem_filter.mpr ⟨List.mem_of_getElem? (i := 450) rfl, rfl⟩
set_option maxRecDepth 20000 in
theorem tw_451 : Cond.code y_C_failed b_C_failed 2 (some FieldType.int) ∈ vv_wds := List.mem_filter.mpr ⟨List.mem_of_getElem? (i := 451) rfl, rfl⟩
set_option maxRecDepth 20000 in
theorem tw_452 : Cond.methodLink "CustomerNoticesLaw" 63 y_C_correct ∈ vv_wds := List.mem_filter.mpr ⟨List.mem_of_getElem? (i := 452) rfl, rfl⟩
set_option maxRecDepth 20000 in
theorem tw_453 : Cond.instanceMethod y_C_correct ∈ vv_wds := List.mem_filter.mpr ⟨List.mem_of_getElem? (i := 453) rfl, rfl⟩
set_option maxRecDepth 20000 in
theorem tw_454 : Cond.selects "CustomerNotices" y_C_correct y_C_correct ∈ vv_wds := List.mem_filter.mpr ⟨List.mem_of_getElem? (i := 454) rfl, rfl⟩
set_option maxRecDepth 20000 in
theorem tw_455 : Cond.code y_C_correct b_C_correct 6 (some FieldType.int) ∈ vv_wds := List.mem_filter.mpr ⟨List.mem_of_getElem? (i := 455) rfl, rfl⟩
set_option maxRecDepth 20000 in
theorem tw_456 : Cond.methodLink "CustomerNotices" 193 y_C_findNotice ∈ vv_wds := List.mem_filter.mpr ⟨List.mem_of_getElem? (i := 456) rfl, rfl⟩
set_option maxRecDepth 20000 in
theorem tw_458 : Cond.instanceMethod y_C_findNotice ∈ vv_wds := List.mem_filter.mpr ⟨List.mem_of_getElem? (i := 458) rfl, rfl⟩
set_option maxRecDepth 20000 in
theorem tw_459 : Cond.code y_C_findNotice b_C_findNotice 2 (some (FieldType.object "CustomerNotices$Notice")) ∈ vv_wds := List.mem_filter.mpr ⟨List.mem_of_getElem? (i := 459) rfl, rfl⟩
set_option maxRecDepth 20000 in
theorem tw_460 : Cond.methodLink "CustomerNotices" 197 y_N_canBeCorrected ∈ vv_wds := List.mem_filter.mpr ⟨List.mem_of_getElem? (i := 460) rfl, rfl⟩
set_option maxRecDepth 20000 in
theorem tw_461 : Cond.instanceMethod y_N_canBeCorrected ∈ vv_wds := List.mem_filter.mpr ⟨List.mem_of_getElem? (i := 461) rfl, rfl⟩
set_option maxRecDepth 20000 in
theorem tw_462 : Cond.selects "CustomerNotices$Notice" y_N_canBeCorrected y_N_canBeCorrected ∈ vv_wds := List.mem_filter.mpr ⟨List.mem_of_getElem? (i := 462) rfl, rfl⟩
set_option maxRecDepth 20000 in
theorem tw_463 : Cond.code y_N_canBeCorrected b_N_canBeCorrected 1 (some FieldType.boolean) ∈ vv_wds := List.mem_filter.mpr ⟨List.mem_of_getElem? (i := 463) rfl, rfl⟩
set_option maxRecDepth 20000 in
theorem tw_464 : Cond.methodLink "CustomerNotices" 203 y_C_reopenItem ∈ vv_wds := List.mem_filter.mpr ⟨List.mem_of_getElem? (i := 464) rfl, rfl⟩
set_option maxRecDepth 20000 in
theorem tw_466 : Cond.instanceMethod y_C_reopenItem ∈ vv_wds := List.mem_filter.mpr ⟨List.mem_of_getElem? (i := 466) rfl, rfl⟩
set_option maxRecDepth 20000 in
theorem tw_467 : Cond.code y_C_reopenItem b_C_reopenItem 4 none ∈ vv_wds := List.mem_filter.mpr ⟨List.mem_of_getElem? (i := 467) rfl, rfl⟩
set_option maxRecDepth 20000 in
theorem tw_468 : Cond.methodLink "CustomerNotices" 210 y_C_addCorrection ∈ vv_wds := List.mem_filter.mpr ⟨List.mem_of_getElem? (i := 468) rfl, rfl⟩
set_option maxRecDepth 20000 in
theorem tw_470 : Cond.instanceMethod y_C_addCorrection ∈ vv_wds := List.mem_filter.mpr ⟨List.mem_of_getElem? (i := 470) rfl, rfl⟩
set_option maxRecDepth 20000 in
theorem tw_471 : Cond.code y_C_addCorrection b_C_addCorrection 5 (some FieldType.int) ∈ vv_wds := List.mem_filter.mpr ⟨List.mem_of_getElem? (i := 471) rfl, rfl⟩
set_option maxRecDepth 20000 in
theorem tw_472 : Cond.methodLink "CustomerNoticesLaw" 68 y_C_join ∈ vv_wds := List.mem_filter.mpr ⟨List.mem_of_getElem? (i := 472) rfl, rfl⟩
set_option maxRecDepth 20000 in
theorem tw_473 : Cond.instanceMethod y_C_join ∈ vv_wds := List.mem_filter.mpr ⟨List.mem_of_getElem? (i := 473) rfl, rfl⟩
set_option maxRecDepth 20000 in
theorem tw_474 : Cond.selects "CustomerNotices" y_C_join y_C_join ∈ vv_wds := List.mem_filter.mpr ⟨List.mem_of_getElem? (i := 474) rfl, rfl⟩
set_option maxRecDepth 20000 in
theorem tw_475 : Cond.code y_C_join b_C_join 3 (some FieldType.int) ∈ vv_wds := List.mem_filter.mpr ⟨List.mem_of_getElem? (i := 475) rfl, rfl⟩
set_option maxRecDepth 20000 in
theorem tw_476 : Cond.constantLong "CustomerNotices" 214 1440 ∈ vv_wds := List.mem_filter.mpr ⟨List.mem_of_getElem? (i := 476) rfl, rfl⟩
set_option maxRecDepth 20000 in
theorem tw_477 : Cond.classLink "CustomerNoticesLaw" 10 "CustomerNoticesModel" ∈ vv_wds := List.mem_filter.mpr ⟨List.mem_of_getElem? (i := 477) rfl, rfl⟩
set_option maxRecDepth 20000 in
theorem tw_478 : Cond.instantiable "CustomerNoticesModel" 32 ∈ vv_wds := List.mem_filter.mpr ⟨List.mem_of_getElem? (i := 478) rfl, rfl⟩
set_option maxRecDepth 20000 in
theorem tw_479 : Cond.methodLink "CustomerNoticesLaw" 12 y_M_init ∈ vv_wds := List.mem_filter.mpr ⟨List.mem_of_getElem? (i := 479) rfl, rfl⟩
set_option maxRecDepth 20000 in
theorem tw_480 : Cond.instanceMethod y_M_init ∈ vv_wds := List.mem_filter.mpr ⟨List.mem_of_getElem? (i := 480) rfl, rfl⟩
set_option maxRecDepth 20000 in
theorem tw_481 : Cond.code y_M_init b_M_init 1 none ∈ vv_wds := List.mem_filter.mpr ⟨List.mem_of_getElem? (i := 481) rfl, rfl⟩
set_option maxRecDepth 20000 in
theorem tw_482 : Cond.methodLink "CustomerNoticesModel" 1 y_Oj_init ∈ vv_wds := List.mem_filter.mpr ⟨List.mem_of_getElem? (i := 482) rfl, rfl⟩
set_option maxRecDepth 20000 in
theorem tw_483 : Cond.fieldLink "CustomerNoticesModel" 95 "CustomerNoticesModel" "clock" "J" ∈ vv_wds := List.mem_filter.mpr ⟨List.mem_of_getElem? (i := 483) rfl, rfl⟩
set_option maxRecDepth 20000 in
theorem tw_484 : Cond.fieldLink "CustomerNoticesModel" 149 "CustomerNoticesModel" "joined" "I" ∈ vv_wds := List.mem_filter.mpr ⟨List.mem_of_getElem? (i := 484) rfl, rfl⟩
set_option maxRecDepth 20000 in
theorem tw_485 : Cond.fieldLink "CustomerNoticesModel" 7 "CustomerNoticesModel" "broken" "[Z" ∈ vv_wds := List.mem_filter.mpr ⟨List.mem_of_getElem? (i := 485) rfl, rfl⟩
set_option maxRecDepth 20000 in
theorem tw_486 : Cond.fieldLink "CustomerNoticesModel" 87 "CustomerNoticesModel" "customers" "I" ∈ vv_wds := List.mem_filter.mpr ⟨List.mem_of_getElem? (i := 486) rfl, rfl⟩
set_option maxRecDepth 20000 in
theorem tw_487 : Cond.fieldLink "CustomerNoticesModel" 13 "CustomerNoticesModel" "languages" "[I" ∈ vv_wds := List.mem_filter.mpr ⟨List.mem_of_getElem? (i := 487) rfl, rfl⟩
set_option maxRecDepth 20000 in
theorem tw_488 : Cond.fieldLink "CustomerNoticesModel" 17 "CustomerNoticesModel" "zones" "[I" ∈ vv_wds := List.mem_filter.mpr ⟨List.mem_of_getElem? (i := 488) rfl, rfl⟩
set_option maxRecDepth 20000 in
theorem tw_489 : Cond.fieldLink "CustomerNoticesModel" 20 "CustomerNoticesModel" "quietFrom" "[I" ∈ vv_wds := List.mem_filter.mpr ⟨List.mem_of_getElem? (i := 489) rfl, rfl⟩
set_option maxRecDepth 20000 in
theorem tw_490 : Cond.fieldLink "CustomerNoticesModel" 23 "CustomerNoticesModel" "quietTo" "[I" ∈ vv_wds := List.mem_filter.mpr ⟨List.mem_of_getElem? (i := 490) rfl, rfl⟩
set_option maxRecDepth 20000 in
theorem tw_491 : Cond.fieldLink "CustomerNoticesModel" 26 "CustomerNoticesModel" "wishes" "[I" ∈ vv_wds := List.mem_filter.mpr ⟨List.mem_of_getElem? (i := 491) rfl, rfl⟩
set_option maxRecDepth 20000 in
theorem tw_492 : Cond.fieldLink "CustomerNoticesModel" 129 "CustomerNoticesModel" "notices" "I" ∈ vv_wds := List.mem_filter.mpr ⟨List.mem_of_getElem? (i := 492) rfl, rfl⟩
set_option maxRecDepth 20000 in
theorem tw_493 : Cond.fieldLink "CustomerNoticesModel" 29 "CustomerNoticesModel" "owner" "[I" ∈ vv_wds := List.mem_filter.mpr ⟨List.mem_of_getElem? (i := 493) rfl, rfl⟩
set_option maxRecDepth 20000 in
theorem tw_494 : Cond.fieldLink "CustomerNoticesModel" 32 "CustomerNoticesModel" "items" "[I" ∈ vv_wds := List.mem_filter.mpr ⟨List.mem_of_getElem? (i := 494) rfl, rfl⟩
set_option maxRecDepth 20000 in
theorem tw_495 : Cond.fieldLink "CustomerNoticesModel" 35 "CustomerNoticesModel" "kinds" "[I" ∈ vv_wds := List.mem_filter.mpr ⟨List.mem_of_getElem? (i := 495) rfl, rfl⟩
set_option maxRecDepth 20000 in
theorem tw_496 : Cond.fieldLink "CustomerNoticesModel" 38 "CustomerNoticesModel" "times" "[J" ∈ vv_wds := List.mem_filter.mpr ⟨List.mem_of_getElem? (i := 496) rfl, rfl⟩
set_option maxRecDepth 20000 in
theorem tw_497 : Cond.fieldLink "CustomerNoticesModel" 42 "CustomerNoticesModel" "promised" "[J" ∈ vv_wds := List.mem_filter.mpr ⟨List.mem_of_getElem? (i := 497) rfl, rfl⟩
set_option maxRecDepth 20000 in
theorem tw_498 : Cond.fieldLink "CustomerNoticesModel" 45 "CustomerNoticesModel" "states" "[I" ∈ vv_wds := List.mem_filter.mpr ⟨List.mem_of_getElem? (i := 498) rfl, rfl⟩
set_option maxRecDepth 20000 in
theorem tw_499 : Cond.fieldLink "CustomerNoticesModel" 48 "CustomerNoticesModel" "correction" "[Z" ∈ vv_wds := List.mem_filter.mpr ⟨List.mem_of_getElem? (i := 499) rfl, rfl⟩
set_option maxRecDepth 20000 in
theorem tw_500 : Cond.fieldLink "CustomerNoticesModel" 51 "CustomerNoticesModel" "corrected" "[Z" ∈ vv_wds := List.mem_filter.mpr ⟨List.mem_of_getElem? (i := 500) rfl, rfl⟩
set_option maxRecDepth 20000 in
theorem tw_501 : Cond.fieldLink "CustomerNoticesModel" 123 "CustomerNoticesModel" "pairs" "I" ∈ vv_wds := List.mem_filter.mpr ⟨List.mem_of_getElem? (i := 501) rfl, rfl⟩
set_option maxRecDepth 20000 in
theorem tw_502 : Cond.fieldLink "CustomerNoticesModel" 54 "CustomerNoticesModel" "pairCustomer" "[I" ∈ vv_wds := List.mem_filter.mpr ⟨List.mem_of_getElem? (i := 502) rfl, rfl⟩
set_option maxRecDepth 20000 in
theorem tw_503 : Cond.fieldLink "CustomerNoticesModel" 57 "CustomerNoticesModel" "pairItem" "[I" ∈ vv_wds := List.mem_filter.mpr ⟨List.mem_of_getElem? (i := 503) rfl, rfl⟩
set_option maxRecDepth 20000 in
theorem tw_504 : Cond.fieldLink "CustomerNoticesModel" 60 "CustomerNoticesModel" "ended" "[Z" ∈ vv_wds := List.mem_filter.mpr ⟨List.mem_of_getElem? (i := 504) rfl, rfl⟩
set_option maxRecDepth 20000 in
theorem tw_505 : Cond.fieldLink "CustomerNoticesModel" 63 "CustomerNoticesModel" "latest" "[I" ∈ vv_wds := List.mem_filter.mpr ⟨List.mem_of_getElem? (i := 505) rfl, rfl⟩
set_option maxRecDepth 20000 in
theorem tw_506 : Cond.fieldLink "CustomerNoticesModel" 167 "CustomerNoticesModel" "sentCount" "I" ∈ vv_wds := List.mem_filter.mpr ⟨List.mem_of_getElem? (i := 506) rfl, rfl⟩
set_option maxRecDepth 20000 in
theorem tw_507 : Cond.fieldLink "CustomerNoticesModel" 66 "CustomerNoticesModel" "sentNotice" "[I" ∈ vv_wds := List.mem_filter.mpr ⟨List.mem_of_getElem? (i := 507) rfl, rfl⟩
set_option maxRecDepth 20000 in
theorem tw_508 : Cond.fieldLink "CustomerNoticesModel" 69 "CustomerNoticesModel" "sentChannel" "[I" ∈ vv_wds := List.mem_filter.mpr ⟨List.mem_of_getElem? (i := 508) rfl, rfl⟩
set_option maxRecDepth 20000 in
theorem tw_509 : Cond.fieldLink "CustomerNoticesModel" 72 "CustomerNoticesModel" "sentMessage" "[I" ∈ vv_wds := List.mem_filter.mpr ⟨List.mem_of_getElem? (i := 509) rfl, rfl⟩
set_option maxRecDepth 20000 in
theorem tw_510 : Cond.fieldLink "CustomerNoticesModel" 75 "CustomerNoticesModel" "sentClock" "[J" ∈ vv_wds := List.mem_filter.mpr ⟨List.mem_of_getElem? (i := 510) rfl, rfl⟩
set_option maxRecDepth 20000 in
theorem tw_511 : Cond.fieldLink "CustomerNoticesModel" 164 "CustomerNoticesModel" "failedCount" "I" ∈ vv_wds := List.mem_filter.mpr ⟨List.mem_of_getElem? (i := 511) rfl, rfl⟩
set_option maxRecDepth 20000 in
theorem tw_512 : Cond.fieldLink "CustomerNoticesModel" 78 "CustomerNoticesModel" "failedNotice" "[I" ∈ vv_wds := List.mem_filter.mpr ⟨List.mem_of_getElem? (i := 512) rfl, rfl⟩
set_option maxRecDepth 20000 in
theorem tw_513 : Cond.fieldLink "CustomerNoticesModel" 81 "CustomerNoticesModel" "least" "[J" ∈ vv_wds := List.mem_filter.mpr ⟨List.mem_of_getElem? (i := 513) rfl, rfl⟩
set_option maxRecDepth 20000 in
theorem tw_514 : Cond.fieldLink "CustomerNoticesModel" 84 "CustomerNoticesModel" "firsts" "[I" ∈ vv_wds := List.mem_filter.mpr ⟨List.mem_of_getElem? (i := 514) rfl, rfl⟩
set_option maxRecDepth 20000 in
theorem tw_515 : Cond.lays "CustomerNoticesModel" "CustomerNoticesModel" "clock" "J" ∈ vv_wds := List.mem_filter.mpr ⟨List.mem_of_getElem? (i := 515) rfl, rfl⟩
set_option maxRecDepth 20000 in
theorem tw_517 : Cond.lays "CustomerNoticesModel" "CustomerNoticesModel" "joined" "I" ∈ vv_wds := List.mem_filter.mpr ⟨List.mem_of_getElem? (i := 517) rfl, rfl⟩
set_option maxRecDepth 20000 in
theorem tw_519 : Cond.laysFinal "CustomerNoticesModel" "CustomerNoticesModel" "broken" "[Z" ∈ vv_wds := List.mem_filter.mpr ⟨List.mem_of_getElem? (i := 519) rfl, rfl⟩
set_option maxRecDepth 20000 in
theorem tw_521 : Cond.lays "CustomerNoticesModel" "CustomerNoticesModel" "customers" "I" ∈ vv_wds := List.mem_filter.mpr ⟨List.mem_of_getElem? (i := 521) rfl, rfl⟩
set_option maxRecDepth 20000 in
theorem tw_523 : Cond.laysFinal "CustomerNoticesModel" "CustomerNoticesModel" "languages" "[I" ∈ vv_wds := List.mem_filter.mpr ⟨List.mem_of_getElem? (i := 523) rfl, rfl⟩
set_option maxRecDepth 20000 in
theorem tw_525 : Cond.laysFinal "CustomerNoticesModel" "CustomerNoticesModel" "zones" "[I" ∈ vv_wds := List.mem_filter.mpr ⟨List.mem_of_getElem? (i := 525) rfl, rfl⟩
set_option maxRecDepth 20000 in
theorem tw_527 : Cond.laysFinal "CustomerNoticesModel" "CustomerNoticesModel" "quietFrom" "[I" ∈ vv_wds := List.mem_filter.mpr ⟨List.mem_of_getElem? (i := 527) rfl, rfl⟩
set_option maxRecDepth 20000 in
theorem tw_529 : Cond.laysFinal "CustomerNoticesModel" "CustomerNoticesModel" "quietTo" "[I" ∈ vv_wds := List.mem_filter.mpr ⟨List.mem_of_getElem? (i := 529) rfl, rfl⟩
set_option maxRecDepth 20000 in
theorem tw_531 : Cond.laysFinal "CustomerNoticesModel" "CustomerNoticesModel" "wishes" "[I" ∈ vv_wds := List.mem_filter.mpr ⟨List.mem_of_getElem? (i := 531) rfl, rfl⟩
set_option maxRecDepth 20000 in
theorem tw_533 : Cond.lays "CustomerNoticesModel" "CustomerNoticesModel" "notices" "I" ∈ vv_wds := List.mem_filter.mpr ⟨List.mem_of_getElem? (i := 533) rfl, rfl⟩
set_option maxRecDepth 20000 in
theorem tw_535 : Cond.laysFinal "CustomerNoticesModel" "CustomerNoticesModel" "owner" "[I" ∈ vv_wds := List.mem_filter.mpr ⟨List.mem_of_getElem? (i := 535) rfl, rfl⟩
set_option maxRecDepth 20000 in
theorem tw_537 : Cond.laysFinal "CustomerNoticesModel" "CustomerNoticesModel" "items" "[I" ∈ vv_wds := List.mem_filter.mpr ⟨List.mem_of_getElem? (i := 537) rfl, rfl⟩
set_option maxRecDepth 20000 in
theorem tw_539 : Cond.laysFinal "CustomerNoticesModel" "CustomerNoticesModel" "kinds" "[I" ∈ vv_wds := List.mem_filter.mpr ⟨List.mem_of_getElem? (i := 539) rfl, rfl⟩
set_option maxRecDepth 20000 in
theorem tw_541 : Cond.laysFinal "CustomerNoticesModel" "CustomerNoticesModel" "times" "[J" ∈ vv_wds := List.mem_filter.mpr ⟨List.mem_of_getElem? (i := 541) rfl, rfl⟩
set_option maxRecDepth 20000 in
theorem tw_543 : Cond.laysFinal "CustomerNoticesModel" "CustomerNoticesModel" "promised" "[J" ∈ vv_wds := List.mem_filter.mpr ⟨List.mem_of_getElem? (i := 543) rfl, rfl⟩
set_option maxRecDepth 20000 in
theorem tw_545 : Cond.laysFinal "CustomerNoticesModel" "CustomerNoticesModel" "states" "[I" ∈ vv_wds := List.mem_filter.mpr ⟨List.mem_of_getElem? (i := 545) rfl, rfl⟩
set_option maxRecDepth 20000 in
theorem tw_547 : Cond.laysFinal "CustomerNoticesModel" "CustomerNoticesModel" "correction" "[Z" ∈ vv_wds := List.mem_filter.mpr ⟨List.mem_of_getElem? (i := 547) rfl, rfl⟩
set_option maxRecDepth 20000 in
theorem tw_549 : Cond.laysFinal "CustomerNoticesModel" "CustomerNoticesModel" "corrected" "[Z" ∈ vv_wds := List.mem_filter.mpr ⟨List.mem_of_getElem? (i := 549) rfl, rfl⟩
set_option maxRecDepth 20000 in
theorem tw_551 : Cond.lays "CustomerNoticesModel" "CustomerNoticesModel" "pairs" "I" ∈ vv_wds := List.mem_filter.mpr ⟨List.mem_of_getElem? (i := 551) rfl, rfl⟩
set_option maxRecDepth 20000 in
theorem tw_553 : Cond.laysFinal "CustomerNoticesModel" "CustomerNoticesModel" "pairCustomer" "[I" ∈ vv_wds := List.mem_filter.mpr ⟨List.mem_of_getElem? (i := 553) rfl, rfl⟩
set_option maxRecDepth 20000 in
theorem tw_555 : Cond.laysFinal "CustomerNoticesModel" "CustomerNoticesModel" "pairItem" "[I" ∈ vv_wds := List.mem_filter.mpr ⟨List.mem_of_getElem? (i := 555) rfl, rfl⟩
set_option maxRecDepth 20000 in
theorem tw_557 : Cond.laysFinal "CustomerNoticesModel" "CustomerNoticesModel" "ended" "[Z" ∈ vv_wds := List.mem_filter.mpr ⟨List.mem_of_getElem? (i := 557) rfl, rfl⟩
set_option maxRecDepth 20000 in
theorem tw_559 : Cond.laysFinal "CustomerNoticesModel" "CustomerNoticesModel" "latest" "[I" ∈ vv_wds := List.mem_filter.mpr ⟨List.mem_of_getElem? (i := 559) rfl, rfl⟩
set_option maxRecDepth 20000 in
theorem tw_561 : Cond.lays "CustomerNoticesModel" "CustomerNoticesModel" "sentCount" "I" ∈ vv_wds := List.mem_filter.mpr ⟨List.mem_of_getElem? (i := 561) rfl, rfl⟩
set_option maxRecDepth 20000 in
theorem tw_563 : Cond.laysFinal "CustomerNoticesModel" "CustomerNoticesModel" "sentNotice" "[I" ∈ vv_wds := List.mem_filter.mpr ⟨List.mem_of_getElem? (i := 563) rfl, rfl⟩
set_option maxRecDepth 20000 in
theorem tw_565 : Cond.laysFinal "CustomerNoticesModel" "CustomerNoticesModel" "sentChannel" "[I" ∈ vv_wds := List.mem_filter.mpr ⟨List.mem_of_getElem? (i := 565) rfl, rfl⟩
set_option maxRecDepth 20000 in
theorem tw_567 : Cond.laysFinal "CustomerNoticesModel" "CustomerNoticesModel" "sentMessage" "[I" ∈ vv_wds := List.mem_filter.mpr ⟨List.mem_of_getElem? (i := 567) rfl, rfl⟩
set_option maxRecDepth 20000 in
theorem tw_569 : Cond.laysFinal "CustomerNoticesModel" "CustomerNoticesModel" "sentClock" "[J" ∈ vv_wds := List.mem_filter.mpr ⟨List.mem_of_getElem? (i := 569) rfl, rfl⟩
set_option maxRecDepth 20000 in
theorem tw_571 : Cond.lays "CustomerNoticesModel" "CustomerNoticesModel" "failedCount" "I" ∈ vv_wds := List.mem_filter.mpr ⟨List.mem_of_getElem? (i := 571) rfl, rfl⟩
set_option maxRecDepth 20000 in
theorem tw_573 : Cond.laysFinal "CustomerNoticesModel" "CustomerNoticesModel" "failedNotice" "[I" ∈ vv_wds := List.mem_filter.mpr ⟨List.mem_of_getElem? (i := 573) rfl, rfl⟩
set_option maxRecDepth 20000 in
theorem tw_575 : Cond.laysFinal "CustomerNoticesModel" "CustomerNoticesModel" "least" "[J" ∈ vv_wds := List.mem_filter.mpr ⟨List.mem_of_getElem? (i := 575) rfl, rfl⟩
set_option maxRecDepth 20000 in
theorem tw_577 : Cond.laysFinal "CustomerNoticesModel" "CustomerNoticesModel" "firsts" "[I" ∈ vv_wds := List.mem_filter.mpr ⟨List.mem_of_getElem? (i := 577) rfl, rfl⟩
set_option maxRecDepth 20000 in
theorem tw_581 : Cond.methodLink "CustomerNoticesLaw" 17 y_M_customer ∈ vv_wds := List.mem_filter.mpr ⟨List.mem_of_getElem? (i := 581) rfl, rfl⟩
set_option maxRecDepth 20000 in
theorem tw_582 : Cond.instanceMethod y_M_customer ∈ vv_wds := List.mem_filter.mpr ⟨List.mem_of_getElem? (i := 582) rfl, rfl⟩
set_option maxRecDepth 20000 in
theorem tw_583 : Cond.selects "CustomerNoticesModel" y_M_customer y_M_customer ∈ vv_wds := List.mem_filter.mpr ⟨List.mem_of_getElem? (i := 583) rfl, rfl⟩
set_option maxRecDepth 20000 in
theorem tw_584 : Cond.code y_M_customer b_M_customer 3 (some FieldType.int) ∈ vv_wds := List.mem_filter.mpr ⟨List.mem_of_getElem? (i := 584) rfl, rfl⟩
set_option maxRecDepth 20000 in
theorem tw_585 : Cond.constantLong "CustomerNoticesModel" 101 9 ∈ vv_wds := List.mem_filter.mpr ⟨List.mem_of_getElem? (i := 585) rfl, rfl⟩
set_option maxRecDepth 20000 in
theorem tw_586 : Cond.methodLink "CustomerNoticesModel" 91 y_M_isIn ∈ vv_wds := List.mem_filter.mpr ⟨List.mem_of_getElem? (i := 586) rfl, rfl⟩
set_option maxRecDepth 20000 in
theorem tw_587 : Cond.static y_M_isIn ∈ vv_wds := List.mem_filter.mpr ⟨List.mem_of_getElem? (i := 587) rfl, rfl⟩
set_option maxRecDepth 20000 in
theorem tw_588 : Cond.code y_M_isIn b_M_isIn 6 (some FieldType.boolean) ∈ vv_wds := List.mem_filter.mpr ⟨List.mem_of_getElem? (i := 588) rfl, rfl⟩
set_option maxRecDepth 20000 in
theorem tw_589 : Cond.constantLong "CustomerNoticesModel" 103 (-12) ∈ vv_wds := List.mem_filter.mpr ⟨List.mem_of_getElem? (i := 589) rfl, rfl⟩
set_option maxRecDepth 20000 in
theorem tw_590 : Cond.constantLong "CustomerNoticesModel" 105 14 ∈ vv_wds := List.mem_filter.mpr ⟨List.mem_of_getElem? (i := 590) rfl, rfl⟩
set_option maxRecDepth 20000 in
theorem tw_591 : Cond.methodLink "CustomerNoticesLaw" 22 y_M_wish ∈ vv_wds := List.mem_filter.mpr ⟨List.mem_of_getElem? (i := 591) rfl, rfl⟩
set_option maxRecDepth 20000 in
theorem tw_592 : Cond.instanceMethod y_M_wish ∈ vv_wds := List.mem_filter.mpr ⟨List.mem_of_getElem? (i := 592) rfl, rfl⟩
set_option maxRecDepth 20000 in
theorem tw_593 : Cond.selects "CustomerNoticesModel" y_M_wish y_M_wish ∈ vv_wds := List.mem_filter.mpr ⟨List.mem_of_getElem? (i := 593) rfl, rfl⟩
set_option maxRecDepth 20000 in
theorem tw_594 : Cond.code y_M_wish b_M_wish 5 (some FieldType.int) ∈ vv_wds := List.mem_filter.mpr ⟨List.mem_of_getElem? (i := 594) rfl, rfl⟩
set_option maxRecDepth 20000 in
theorem tw_595 : Cond.methodLink "CustomerNoticesModel" 107 y_M_isCustomer ∈ vv_wds := List.mem_filter.mpr ⟨List.mem_of_getElem? (i := 595) rfl, rfl⟩
set_option maxRecDepth 20000 in
theorem tw_597 : Cond.instanceMethod y_M_isCustomer ∈ vv_wds := List.mem_filter.mpr ⟨List.mem_of_getElem? (i := 597) rfl, rfl⟩
set_option maxRecDepth 20000 in
theorem tw_598 : Cond.code y_M_isCustomer b_M_isCustomer 2 (some FieldType.boolean) ∈ vv_wds := List.mem_filter.mpr ⟨List.mem_of_getElem? (i := 598) rfl, rfl⟩
set_option maxRecDepth 20000 in
theorem tw_599 : Cond.constantLong "CustomerNoticesModel" 111 7 ∈ vv_wds := List.mem_filter.mpr ⟨List.mem_of_getElem? (i := 599) rfl, rfl⟩
set_option maxRecDepth 20000 in
theorem tw_600 : Cond.constantLong "CustomerNoticesModel" 113 3 ∈ vv_wds := List.mem_filter.mpr ⟨List.mem_of_getElem? (i := 600) rfl, rfl⟩
set_option maxRecDepth 20000 in
theorem tw_601 : Cond.methodLink "CustomerNoticesModel" 115 y_M_wished ∈ vv_wds := List.mem_filter.mpr ⟨List.mem_of_getElem? (i := 601) rfl, rfl⟩
set_option maxRecDepth 20000 in
theorem tw_603 : Cond.instanceMethod y_M_wished ∈ vv_wds := List.mem_filter.mpr ⟨List.mem_of_getElem? (i := 603) rfl, rfl⟩
set_option maxRecDepth 20000 in
theorem tw_604 : Cond.code y_M_wished b_M_wished 5 (some FieldType.int) ∈ vv_wds := List.mem_filter.mpr ⟨List.mem_of_getElem? (i := 604) rfl, rfl⟩
set_option maxRecDepth 20000 in
theorem tw_605 : Cond.methodLink "CustomerNoticesLaw" 27 y_M_quiet ∈ vv_wds := List.mem_filter.mpr ⟨List.mem_of_getElem? (i := 605) rfl, rfl⟩
set_option maxRecDepth 20000 in
theorem tw_606 : Cond.instanceMethod y_M_quiet ∈ vv_wds := List.mem_filter.mpr ⟨List.mem_of_getElem? (i := 606) rfl, rfl⟩
set_option maxRecDepth 20000 in
theorem tw_607 : Cond.selects "CustomerNoticesModel" y_M_quiet y_M_quiet ∈ vv_wds := List.mem_filter.mpr ⟨List.mem_of_getElem? (i := 607) rfl, rfl⟩
set_option maxRecDepth 20000 in
theorem tw_608 : Cond.code y_M_quiet b_M_quiet 4 (some FieldType.int) ∈ vv_wds := List.mem_filter.mpr ⟨List.mem_of_getElem? (i := 608) rfl, rfl⟩
set_option maxRecDepth 20000 in
theorem tw_609 : Cond.constantLong "CustomerNoticesModel" 119 1439 ∈ vv_wds := List.mem_filter.mpr ⟨List.mem_of_getElem? (i := 609) rfl, rfl⟩
set_option maxRecDepth 20000 in
theorem tw_610 : Cond.methodLink "CustomerNoticesLaw" 34 y_M_event ∈ vv_wds := List.mem_filter.mpr ⟨List.mem_of_getElem? (i := 610) rfl, rfl⟩
set_option maxRecDepth 20000 in
theorem tw_611 : Cond.instanceMethod y_M_event ∈ vv_wds := List.mem_filter.mpr ⟨List.mem_of_getElem? (i := 611) rfl, rfl⟩
set_option maxRecDepth 20000 in
theorem tw_612 : Cond.selects "CustomerNoticesModel" y_M_event y_M_event ∈ vv_wds := List.mem_filter.mpr ⟨List.mem_of_getElem? (i := 612) rfl, rfl⟩
set_option maxRecDepth 20000 in
theorem tw_613 : Cond.code y_M_event b_M_event 9 (some FieldType.int) ∈ vv_wds := List.mem_filter.mpr ⟨List.mem_of_getElem? (i := 613) rfl, rfl⟩
set_option maxRecDepth 20000 in
theorem tw_614 : Cond.constantLong "CustomerNoticesModel" 132 9999 ∈ vv_wds := List.mem_filter.mpr ⟨List.mem_of_getElem? (i := 614) rfl, rfl⟩
set_option maxRecDepth 20000 in
theorem tw_615 : Cond.methodLink "CustomerNoticesModel" 134 y_M_isTime ∈ vv_wds := List.mem_filter.mpr ⟨List.mem_of_getElem? (i := 615) rfl, rfl⟩
set_option maxRecDepth 20000 in
theorem tw_617 : Cond.instanceMethod y_M_isTime ∈ vv_wds := List.mem_filter.mpr ⟨List.mem_of_getElem? (i := 617) rfl, rfl⟩
set_option maxRecDepth 20000 in
theorem tw_618 : Cond.code y_M_isTime b_M_isTime 3 (some FieldType.boolean) ∈ vv_wds := List.mem_filter.mpr ⟨List.mem_of_getElem? (i := 618) rfl, rfl⟩
set_option maxRecDepth 20000 in
theorem tw_619 : Cond.constantLong "CustomerNoticesModel" 99 1000000000 ∈ vv_wds := List.mem_filter.mpr ⟨List.mem_of_getElem? (i := 619) rfl, rfl⟩
set_option maxRecDepth 20000 in
theorem tw_620 : Cond.methodLink "CustomerNoticesModel" 126 y_M_pairOf ∈ vv_wds := List.mem_filter.mpr ⟨List.mem_of_getElem? (i := 620) rfl, rfl⟩
set_option maxRecDepth 20000 in
theorem tw_622 : Cond.instanceMethod y_M_pairOf ∈ vv_wds := List.mem_filter.mpr ⟨List.mem_of_getElem? (i := 622) rfl, rfl⟩
set_option maxRecDepth 20000 in
theorem tw_623 : Cond.code y_M_pairOf b_M_pairOf 5 (some FieldType.int) ∈ vv_wds := List.mem_filter.mpr ⟨List.mem_of_getElem? (i := 623) rfl, rfl⟩
set_option maxRecDepth 20000 in
theorem tw_624 : Cond.methodLink "CustomerNoticesModel" 138 y_M_keep ∈ vv_wds := List.mem_filter.mpr ⟨List.mem_of_getElem? (i := 624) rfl, rfl⟩
set_option maxRecDepth 20000 in
theorem tw_626 : Cond.instanceMethod y_M_keep ∈ vv_wds := List.mem_filter.mpr ⟨List.mem_of_getElem? (i := 626) rfl, rfl⟩
set_option maxRecDepth 20000 in
theorem tw_627 : Cond.code y_M_keep b_M_keep 4 (some FieldType.int) ∈ vv_wds := List.mem_filter.mpr ⟨List.mem_of_getElem? (i := 627) rfl, rfl⟩
set_option maxRecDepth 20000 in
theorem tw_628 : Cond.constantLong "CustomerNoticesModel" 141 (-1) ∈ vv_wds := List.mem_filter.mpr ⟨List.mem_of_getElem? (i := 628) rfl, rfl⟩
set_option maxRecDepth 20000 in
theorem tw_629 : Cond.methodLink "CustomerNoticesModel" 143 y_M_put ∈ vv_wds := List.mem_filter.mpr ⟨List.mem_of_getElem? (i := 629) rfl, rfl⟩
set_option maxRecDepth 20000 in
theorem tw_631 : Cond.instanceMethod y_M_put ∈ vv_wds := List.mem_filter.mpr ⟨List.mem_of_getElem? (i := 631) rfl, rfl⟩
set_option maxRecDepth 20000 in
theorem tw_632 : Cond.code y_M_put b_M_put 9 (some FieldType.int) ∈ vv_wds := List.mem_filter.mpr ⟨List.mem_of_getElem? (i := 632) rfl, rfl⟩
set_option maxRecDepth 20000 in
theorem tw_633 : Cond.methodLink "CustomerNoticesLaw" 39 y_M_promise ∈ vv_wds := List.mem_filter.mpr ⟨List.mem_of_getElem? (i := 633) rfl, rfl⟩
set_option maxRecDepth 20000 in
theorem tw_634 : Cond.instanceMethod y_M_promise ∈ vv_wds := List.mem_filter.mpr ⟨List.mem_of_getElem? (i := 634) rfl, rfl⟩
set_option maxRecDepth 20000 in
theorem tw_635 : Cond.selects "CustomerNoticesModel" y_M_promise y_M_promise ∈ vv_wds := List.mem_filter.mpr ⟨List.mem_of_getElem? (i := 635) rfl, rfl⟩
set_option maxRecDepth 20000 in
theorem tw_636 : Cond.code y_M_promise b_M_promise 11 (some FieldType.int) ∈ vv_wds := List.mem_filter.mpr ⟨List.mem_of_getElem? (i := 636) rfl, rfl⟩
set_option maxRecDepth 20000 in
theorem tw_637 : Cond.constantLong "CustomerNoticesModel" 147 1000000 ∈ vv_wds := List.mem_filter.mpr ⟨List.mem_of_getElem? (i := 637) rfl, rfl⟩
set_option maxRecDepth 20000 in
theorem tw_638 : Cond.methodLink "CustomerNoticesLaw" 44 y_M_tick ∈ vv_wds := List.mem_filter.mpr ⟨List.mem_of_getElem? (i := 638) rfl, rfl⟩
set_option maxRecDepth 20000 in
theorem tw_639 : Cond.instanceMethod y_M_tick ∈ vv_wds := List.mem_filter.mpr ⟨List.mem_of_getElem? (i := 639) rfl, rfl⟩
set_option maxRecDepth 20000 in
theorem tw_640 : Cond.selects "CustomerNoticesModel" y_M_tick y_M_tick ∈ vv_wds := List.mem_filter.mpr ⟨List.mem_of_getElem? (i := 640) rfl, rfl⟩
set_option maxRecDepth 20000 in
theorem tw_641 : Cond.code y_M_tick b_M_tick 6 (some FieldType.int) ∈ vv_wds := List.mem_filter.mpr ⟨List.mem_of_getElem? (i := 641) rfl, rfl⟩
set_option maxRecDepth 20000 in
theorem tw_642 : Cond.constantLong "CustomerNoticesModel" 155 1000000001 ∈ vv_wds := List.mem_filter.mpr ⟨List.mem_of_getElem? (i := 642) rfl, rfl⟩
set_option maxRecDepth 20000 in
theorem tw_643 : Cond.methodLink "CustomerNoticesModel" 157 y_M_isDue ∈ vv_wds := List.mem_filter.mpr ⟨List.mem_of_getElem? (i := 643) rfl, rfl⟩
set_option maxRecDepth 20000 in
theorem tw_645 : Cond.instanceMethod y_M_isDue ∈ vv_wds := List.mem_filter.mpr ⟨List.mem_of_getElem? (i := 645) rfl, rfl⟩
set_option maxRecDepth 20000 in
theorem tw_646 : Cond.code y_M_isDue b_M_isDue 4 (some FieldType.boolean) ∈ vv_wds := List.mem_filter.mpr ⟨List.mem_of_getElem? (i := 646) rfl, rfl⟩
set_option maxRecDepth 20000 in
theorem tw_647 : Cond.methodLink "CustomerNoticesModel" 152 y_M_isQuiet ∈ vv_wds := List.mem_filter.mpr ⟨List.mem_of_getElem? (i := 647) rfl, rfl⟩
set_option maxRecDepth 20000 in
theorem tw_649 : Cond.instanceMethod y_M_isQuiet ∈ vv_wds := List.mem_filter.mpr ⟨List.mem_of_getElem? (i := 649) rfl, rfl⟩
set_option maxRecDepth 20000 in
theorem tw_650 : Cond.code y_M_isQuiet b_M_isQuiet 5 (some FieldType.boolean) ∈ vv_wds := List.mem_filter.mpr ⟨List.mem_of_getElem? (i := 650) rfl, rfl⟩
set_option maxRecDepth 20000 in
theorem tw_651 : Cond.constantLong "CustomerNoticesModel" 121 1440 ∈ vv_wds := List.mem_filter.mpr ⟨List.mem_of_getElem? (i := 651) rfl, rfl⟩
set_option maxRecDepth 20000 in
theorem tw_652 : Cond.methodLink "CustomerNoticesModel" 160 y_M_channelOf ∈ vv_wds := List.mem_filter.mpr ⟨List.mem_of_getElem? (i := 652) rfl, rfl⟩
set_option maxRecDepth 20000 in
theorem tw_654 : Cond.instanceMethod y_M_channelOf ∈ vv_wds := List.mem_filter.mpr ⟨List.mem_of_getElem? (i := 654) rfl, rfl⟩
set_option maxRecDepth 20000 in
theorem tw_655 : Cond.code y_M_channelOf b_M_channelOf 6 (some FieldType.int) ∈ vv_wds := List.mem_filter.mpr ⟨List.mem_of_getElem? (i := 655) rfl, rfl⟩
set_option maxRecDepth 20000 in
theorem tw_656 : Cond.methodLink "CustomerNoticesLaw" 48 y_M_sent ∈ vv_wds := List.mem_filter.mpr ⟨List.mem_of_getElem? (i := 656) rfl, rfl⟩
set_option maxRecDepth 20000 in
theorem tw_657 : Cond.instanceMethod y_M_sent ∈ vv_wds := List.mem_filter.mpr ⟨List.mem_of_getElem? (i := 657) rfl, rfl⟩
set_option maxRecDepth 20000 in
theorem tw_658 : Cond.selects "CustomerNoticesModel" y_M_sent y_M_sent ∈ vv_wds := List.mem_filter.mpr ⟨List.mem_of_getElem? (i := 658) rfl, rfl⟩
set_option maxRecDepth 20000 in
theorem tw_659 : Cond.code y_M_sent b_M_sent 4 (some FieldType.int) ∈ vv_wds := List.mem_filter.mpr ⟨List.mem_of_getElem? (i := 659) rfl, rfl⟩
set_option maxRecDepth 20000 in
theorem tw_660 : Cond.constantLong "CustomerNoticesModel" 170 8 ∈ vv_wds := List.mem_filter.mpr ⟨List.mem_of_getElem? (i := 660) rfl, rfl⟩
set_option maxRecDepth 20000 in
theorem tw_661 : Cond.methodLink "CustomerNoticesLaw" 53 y_M_works ∈ vv_wds := List.mem_filter.mpr ⟨List.mem_of_getElem? (i := 661) rfl, rfl⟩
set_option maxRecDepth 20000 in
theorem tw_662 : Cond.instanceMethod y_M_works ∈ vv_wds := List.mem_filter.mpr ⟨List.mem_of_getElem? (i := 662) rfl, rfl⟩
set_option maxRecDepth 20000 in
theorem tw_663 : Cond.selects "CustomerNoticesModel" y_M_works y_M_works ∈ vv_wds := List.mem_filter.mpr ⟨List.mem_of_getElem? (i := 663) rfl, rfl⟩
set_option maxRecDepth 20000 in
theorem tw_664 : Cond.code y_M_works b_M_works 4 (some FieldType.boolean) ∈ vv_wds := List.mem_filter.mpr ⟨List.mem_of_getElem? (i := 664) rfl, rfl⟩
set_option maxRecDepth 20000 in
theorem tw_665 : Cond.methodLink "CustomerNoticesLaw" 57 y_M_out ∈ vv_wds := List.mem_filter.mpr ⟨List.mem_of_getElem? (i := 665) rfl, rfl⟩
set_option maxRecDepth 20000 in
theorem tw_666 : Cond.instanceMethod y_M_out ∈ vv_wds := List.mem_filter.mpr ⟨List.mem_of_getElem? (i := 666) rfl, rfl⟩
set_option maxRecDepth 20000 in
theorem tw_667 : Cond.selects "CustomerNoticesModel" y_M_out y_M_out ∈ vv_wds := List.mem_filter.mpr ⟨List.mem_of_getElem? (i := 667) rfl, rfl⟩
set_option maxRecDepth 20000 in
theorem tw_668 : Cond.code y_M_out b_M_out 5 (some FieldType.int) ∈ vv_wds := List.mem_filter.mpr ⟨List.mem_of_getElem? (i := 668) rfl, rfl⟩
set_option maxRecDepth 20000 in
theorem tw_669 : Cond.methodLink "CustomerNoticesLaw" 62 y_M_failed ∈ vv_wds := List.mem_filter.mpr ⟨List.mem_of_getElem? (i := 669) rfl, rfl⟩
set_option maxRecDepth 20000 in
theorem tw_670 : Cond.instanceMethod y_M_failed ∈ vv_wds := List.mem_filter.mpr ⟨List.mem_of_getElem? (i := 670) rfl, rfl⟩
set_option maxRecDepth 20000 in
theorem tw_671 : Cond.selects "CustomerNoticesModel" y_M_failed y_M_failed ∈ vv_wds := List.mem_filter.mpr ⟨List.mem_of_getElem? (i := 671) rfl, rfl⟩
set_option maxRecDepth 20000 in
theorem tw_672 : Cond.code y_M_failed b_M_failed 2 (some FieldType.int) ∈ vv_wds := List.mem_filter.mpr ⟨List.mem_of_getElem? (i := 672) rfl, rfl⟩
set_option maxRecDepth 20000 in
theorem tw_673 : Cond.methodLink "CustomerNoticesLaw" 67 y_M_correct ∈ vv_wds := List.mem_filter.mpr ⟨List.mem_of_getElem? (i := 673) rfl, rfl⟩
set_option maxRecDepth 20000 in
theorem tw_674 : Cond.instanceMethod y_M_correct ∈ vv_wds := List.mem_filter.mpr ⟨List.mem_of_getElem? (i := 674) rfl, rfl⟩
set_option maxRecDepth 20000 in
theorem tw_675 : Cond.selects "CustomerNoticesModel" y_M_correct y_M_correct ∈ vv_wds := List.mem_filter.mpr ⟨List.mem_of_getElem? (i := 675) rfl, rfl⟩
set_option maxRecDepth 20000 in
theorem tw_676 : Cond.code y_M_correct b_M_correct 5 (some FieldType.int) ∈ vv_wds := List.mem_filter.mpr ⟨List.mem_of_getElem? (i := 676) rfl, rfl⟩
set_option maxRecDepth 20000 in
theorem tw_677 : Cond.methodLink "CustomerNoticesModel" 172 y_M_undo ∈ vv_wds := List.mem_filter.mpr ⟨List.mem_of_getElem? (i := 677) rfl, rfl⟩
set_option maxRecDepth 20000 in
theorem tw_679 : Cond.instanceMethod y_M_undo ∈ vv_wds := List.mem_filter.mpr ⟨List.mem_of_getElem? (i := 679) rfl, rfl⟩
set_option maxRecDepth 20000 in
theorem tw_680 : Cond.code y_M_undo b_M_undo 2 none ∈ vv_wds := List.mem_filter.mpr ⟨List.mem_of_getElem? (i := 680) rfl, rfl⟩
set_option maxRecDepth 20000 in
theorem tw_681 : Cond.methodLink "CustomerNoticesLaw" 71 y_M_join ∈ vv_wds := List.mem_filter.mpr ⟨List.mem_of_getElem? (i := 681) rfl, rfl⟩
set_option maxRecDepth 20000 in
theorem tw_682 : Cond.instanceMethod y_M_join ∈ vv_wds := List.mem_filter.mpr ⟨List.mem_of_getElem? (i := 682) rfl, rfl⟩
set_option maxRecDepth 20000 in
theorem tw_683 : Cond.selects "CustomerNoticesModel" y_M_join y_M_join ∈ vv_wds := List.mem_filter.mpr ⟨List.mem_of_getElem? (i := 683) rfl, rfl⟩
set_option maxRecDepth 20000 in
theorem tw_684 : Cond.code y_M_join b_M_join 3 (some FieldType.int) ∈ vv_wds := List.mem_filter.mpr ⟨List.mem_of_getElem? (i := 684) rfl, rfl⟩
set_option maxRecDepth 20000 in
theorem tw_685 : Cond.constantLong "CustomerNoticesLaw" 28 4294967295 ∈ vv_wds := List.mem_filter.mpr ⟨List.mem_of_getElem? (i := 685) rfl, rfl⟩
set_option maxRecDepth 20000 in
theorem tw_686 : Cond.castable "CustomerNotices$Customer" "CustomerNotices$Customer" ∈ vv_wds := List.mem_filter.mpr ⟨List.mem_of_getElem? (i := 686) rfl, rfl⟩
set_option maxRecDepth 20000 in
theorem tw_687 : Cond.castable "CustomerNotices$Item" "CustomerNotices$Item" ∈ vv_wds := List.mem_filter.mpr ⟨List.mem_of_getElem? (i := 687) rfl, rfl⟩
set_option maxRecDepth 20000 in
theorem tw_688 : Cond.castable "CustomerNotices$Notice" "CustomerNotices$Notice" ∈ vv_wds := List.mem_filter.mpr ⟨List.mem_of_getElem? (i := 688) rfl, rfl⟩
set_option maxRecDepth 20000 in
theorem tw_690 : Cond.selects "[Ljava/lang/Object;" (⟨"java/lang/Object", "getClass", "()Ljava/lang/Class;"⟩) (⟨"java/lang/Object", "getClass", "()Ljava/lang/Class;"⟩) ∈ vv_wds := List.mem_filter.mpr ⟨List.mem_of_getElem? (i := 690) rfl, rfl⟩
set_option maxRecDepth 20000 in
theorem tw_691 : Cond.declares (⟨"java/lang/Object", "getClass", "()Ljava/lang/Class;"⟩) ∈ vv_wds := List.mem_filter.mpr ⟨List.mem_of_getElem? (i := 691) rfl, rfl⟩
set_option maxRecDepth 20000 in
theorem tw_692 : Cond.castable "CustomerNotices" "java/lang/Object" ∈ vv_wds := List.mem_filter.mpr ⟨List.mem_of_getElem? (i := 692) rfl, rfl⟩
set_option maxRecDepth 20000 in
theorem tw_693 : Cond.castable "CustomerNoticesModel" "java/lang/Object" ∈ vv_wds := List.mem_filter.mpr ⟨List.mem_of_getElem? (i := 693) rfl, rfl⟩
set_option maxRecDepth 20000 in
theorem tw_694 : Cond.castable "CustomerNotices$Customer" "java/lang/Object" ∈ vv_wds := List.mem_filter.mpr ⟨List.mem_of_getElem? (i := 694) rfl, rfl⟩
set_option maxRecDepth 20000 in
theorem tw_695 : Cond.castable "CustomerNotices$Item" "java/lang/Object" ∈ vv_wds := List.mem_filter.mpr ⟨List.mem_of_getElem? (i := 695) rfl, rfl⟩
set_option maxRecDepth 20000 in
theorem tw_696 : Cond.castable "CustomerNotices$Notice" "java/lang/Object" ∈ vv_wds := List.mem_filter.mpr ⟨List.mem_of_getElem? (i := 696) rfl, rfl⟩
theorem k_K : vv_cl 0 "CustomerNotices$Customer" T_K 8 t_K := ⟨rfl, by decide, (show ∀ w ∈ [Cond.laysFinal "CustomerNotices$Customer" "CustomerNotices$Customer" "number" "I", Cond.laysFinal "CustomerNotices$Customer" "CustomerNotices$Customer" "language" "I", Cond.laysFinal "CustomerNotices$Customer" "CustomerNotices$Customer" "zone" "I", Cond.lays "CustomerNotices$Customer" "CustomerNotices$Customer" "quietFrom" "I", Cond.lays "CustomerNotices$Customer" "CustomerNotices$Customer" "quietUntil" "I", Cond.lays "CustomerNotices$Customer" "CustomerNotices$Customer" "leastWaitingTime" "J", Cond.lays "CustomerNotices$Customer" "CustomerNotices$Customer" "messageOfTick" "I", Cond.laysFinal "CustomerNotices$Customer" "CustomerNotices$Customer" "orders" "[I"], w ∈ vv_wds from List.forall_mem_cons.mpr ⟨tw_136, List.forall_mem_cons.mpr ⟨tw_138, List.forall_mem_cons.mpr ⟨tw_140, List.forall_mem_cons.mpr ⟨tw_142, List.forall_mem_cons.mpr ⟨tw_144, List.forall_mem_cons.mpr ⟨tw_146, List.forall_mem_cons.mpr ⟨tw_148, List.forall_mem_cons.mpr ⟨tw_150, fun _ h => absurd h List.not_mem_nil⟩⟩⟩⟩⟩⟩⟩⟩), by decide +kernel, by decide +kernel⟩
theorem k_I : vv_cl 1 "CustomerNotices$Item" T_I 4 t_I := ⟨rfl, by decide, (show ∀ w ∈ [Cond.laysFinal "CustomerNotices$Item" "CustomerNotices$Item" "customerNumber" "I", Cond.laysFinal "CustomerNotices$Item" "CustomerNotices$Item" "itemNumber" "I", Cond.lays "CustomerNotices$Item" "CustomerNotices$Item" "ended" "Z", Cond.lays "CustomerNotices$Item" "CustomerNotices$Item" "latestPromise" "LCustomerNotices$Notice;"], w ∈ vv_wds from List.forall_mem_cons.mpr ⟨tw_306, List.forall_mem_cons.mpr ⟨tw_308, List.forall_mem_cons.mpr ⟨tw_310, List.forall_mem_cons.mpr ⟨tw_312, fun _ h => absurd h List.not_mem_nil⟩⟩⟩⟩), by decide +kernel, by decide +kernel⟩
theorem k_N : vv_cl 2 "CustomerNotices$Notice" T_N 12 t_N := ⟨rfl, by decide, (show ∀ w ∈ [Cond.laysFinal "CustomerNotices$Notice" "CustomerNotices$Notice" "number" "I", Cond.laysFinal "CustomerNotices$Notice" "CustomerNotices$Notice" "owner" "LCustomerNotices$Customer;", Cond.laysFinal "CustomerNotices$Notice" "CustomerNotices$Notice" "item" "I", Cond.laysFinal "CustomerNotices$Notice" "CustomerNotices$Notice" "kind" "I", Cond.laysFinal "CustomerNotices$Notice" "CustomerNotices$Notice" "time" "J", Cond.lays "CustomerNotices$Notice" "CustomerNotices$Notice" "state" "I", Cond.lays "CustomerNotices$Notice" "CustomerNotices$Notice" "promisedTime" "J", Cond.lays "CustomerNotices$Notice" "CustomerNotices$Notice" "isCorrection" "Z", Cond.lays "CustomerNotices$Notice" "CustomerNotices$Notice" "corrected" "Z", Cond.lays "CustomerNotices$Notice" "CustomerNotices$Notice" "channel" "I", Cond.lays "CustomerNotices$Notice" "CustomerNotices$Notice" "message" "I", Cond.lays "CustomerNotices$Notice" "CustomerNotices$Notice" "sentTime" "J"], w ∈ vv_wds from List.forall_mem_cons.mpr ⟨tw_347, List.forall_mem_cons.mpr ⟨tw_349, List.forall_mem_cons.mpr ⟨tw_351, List.forall_mem_cons.mpr ⟨tw_353, List.forall_mem_cons.mpr ⟨tw_355, List.forall_mem_cons.mpr ⟨tw_357, List.forall_mem_cons.mpr ⟨tw_359, List.forall_mem_cons.mpr ⟨tw_361, List.forall_mem_cons.mpr ⟨tw_363, List.forall_mem_cons.mpr ⟨tw_365, List.forall_mem_cons.mpr ⟨tw_367, List.forall_mem_cons.mpr ⟨tw_369, fun _ h => absurd h List.not_mem_nil⟩⟩⟩⟩⟩⟩⟩⟩⟩⟩⟩⟩), by decide +kernel, by decide +kernel⟩
theorem k_C : vv_cl 3 "CustomerNotices" T_C 8 t_C := ⟨rfl, by decide, (show ∀ w ∈ [Cond.laysFinal "CustomerNotices" "CustomerNotices" "customers" "Ljava/util/ArrayList;", Cond.laysFinal "CustomerNotices" "CustomerNotices" "notices" "Ljava/util/ArrayList;", Cond.laysFinal "CustomerNotices" "CustomerNotices" "items" "Ljava/util/ArrayList;", Cond.laysFinal "CustomerNotices" "CustomerNotices" "sentNotices" "Ljava/util/ArrayList;", Cond.laysFinal "CustomerNotices" "CustomerNotices" "failedNotices" "Ljava/util/ArrayList;", Cond.laysFinal "CustomerNotices" "CustomerNotices" "channelWorks" "[Z", Cond.lays "CustomerNotices" "CustomerNotices" "clock" "J", Cond.lays "CustomerNotices" "CustomerNotices" "joinMinutes" "I"], w ∈ vv_wds from List.forall_mem_cons.mpr ⟨tw_86, List.forall_mem_cons.mpr ⟨tw_88, List.forall_mem_cons.mpr ⟨tw_90, List.forall_mem_cons.mpr ⟨tw_92, List.forall_mem_cons.mpr ⟨tw_94, List.forall_mem_cons.mpr ⟨tw_96, List.forall_mem_cons.mpr ⟨tw_98, List.forall_mem_cons.mpr ⟨tw_100, fun _ h => absurd h List.not_mem_nil⟩⟩⟩⟩⟩⟩⟩⟩), by decide +kernel, by decide +kernel⟩
theorem k_M : vv_cl 4 "CustomerNoticesModel" T_M 32 t_M := ⟨rfl, by decide, (show ∀ w ∈ [Cond.lays "CustomerNoticesModel" "CustomerNoticesModel" "clock" "J", Cond.lays "CustomerNoticesModel" "CustomerNoticesModel" "joined" "I", Cond.laysFinal "CustomerNoticesModel" "CustomerNoticesModel" "broken" "[Z", Cond.lays "CustomerNoticesModel" "CustomerNoticesModel" "customers" "I", Cond.laysFinal "CustomerNoticesModel" "CustomerNoticesModel" "languages" "[I", Cond.laysFinal "CustomerNoticesModel" "CustomerNoticesModel" "zones" "[I", Cond.laysFinal "CustomerNoticesModel" "CustomerNoticesModel" "quietFrom" "[I", Cond.laysFinal "CustomerNoticesModel" "CustomerNoticesModel" "quietTo" "[I", Cond.laysFinal "CustomerNoticesModel" "CustomerNoticesModel" "wishes" "[I", Cond.lays "CustomerNoticesModel" "CustomerNoticesModel" "notices" "I", Cond.laysFinal "CustomerNoticesModel" "CustomerNoticesModel" "owner" "[I", Cond.laysFinal "CustomerNoticesModel" "CustomerNoticesModel" "items" "[I", Cond.laysFinal "CustomerNoticesModel" "CustomerNoticesModel" "kinds" "[I", Cond.laysFinal "CustomerNoticesModel" "CustomerNoticesModel" "times" "[J", Cond.laysFinal "CustomerNoticesModel" "CustomerNoticesModel" "promised" "[J", Cond.laysFinal "CustomerNoticesModel" "CustomerNoticesModel" "states" "[I", Cond.laysFinal "CustomerNoticesModel" "CustomerNoticesModel" "correction" "[Z", Cond.laysFinal "CustomerNoticesModel" "CustomerNoticesModel" "corrected" "[Z", Cond.lays "CustomerNoticesModel" "CustomerNoticesModel" "pairs" "I", Cond.laysFinal "CustomerNoticesModel" "CustomerNoticesModel" "pairCustomer" "[I", Cond.laysFinal "CustomerNoticesModel" "CustomerNoticesModel" "pairItem" "[I", Cond.laysFinal "CustomerNoticesModel" "CustomerNoticesModel" "ended" "[Z", Cond.laysFinal "CustomerNoticesModel" "CustomerNoticesModel" "latest" "[I", Cond.lays "CustomerNoticesModel" "CustomerNoticesModel" "sentCount" "I", Cond.laysFinal "CustomerNoticesModel" "CustomerNoticesModel" "sentNotice" "[I", Cond.laysFinal "CustomerNoticesModel" "CustomerNoticesModel" "sentChannel" "[I", Cond.laysFinal "CustomerNoticesModel" "CustomerNoticesModel" "sentMessage" "[I", Cond.laysFinal "CustomerNoticesModel" "CustomerNoticesModel" "sentClock" "[J", Cond.lays "CustomerNoticesModel" "CustomerNoticesModel" "failedCount" "I", Cond.laysFinal "CustomerNoticesModel" "CustomerNoticesModel" "failedNotice" "[I", Cond.laysFinal "CustomerNoticesModel" "CustomerNoticesModel" "least" "[J", Cond.laysFinal "CustomerNoticesModel" "CustomerNoticesModel" "firsts" "[I"], w ∈ vv_wds from List.forall_mem_cons.mpr ⟨tw_515, List.forall_mem_cons.mpr ⟨tw_517, List.forall_mem_cons.mpr ⟨tw_519, List.forall_mem_cons.mpr ⟨tw_521, List.forall_mem_cons.mpr ⟨tw_523, List.forall_mem_cons.mpr ⟨tw_525, List.forall_mem_cons.mpr ⟨tw_527, List.forall_mem_cons.mpr ⟨tw_529, List.forall_mem_cons.mpr ⟨tw_531, List.forall_mem_cons.mpr ⟨tw_533, List.forall_mem_cons.mpr ⟨tw_535, List.forall_mem_cons.mpr ⟨tw_537, List.forall_mem_cons.mpr ⟨tw_539, List.forall_mem_cons.mpr ⟨tw_541, List.forall_mem_cons.mpr ⟨tw_543, List.forall_mem_cons.mpr ⟨tw_545, List.forall_mem_cons.mpr ⟨tw_547, List.forall_mem_cons.mpr ⟨tw_549, List.forall_mem_cons.mpr ⟨tw_551, List.forall_mem_cons.mpr ⟨tw_553, List.forall_mem_cons.mpr ⟨tw_555, List.forall_mem_cons.mpr ⟨tw_557, List.forall_mem_cons.mpr ⟨tw_559, List.forall_mem_cons.mpr ⟨tw_561, List.forall_mem_cons.mpr ⟨tw_563, List.forall_mem_cons.mpr ⟨tw_565, List.forall_mem_cons.mpr ⟨tw_567, List.forall_mem_cons.mpr ⟨tw_569, List.forall_mem_cons.mpr ⟨tw_571, List.forall_mem_cons.mpr ⟨tw_573, List.forall_mem_cons.mpr ⟨tw_575, List.forall_mem_cons.mpr ⟨tw_577, fun _ h => absurd h List.not_mem_nil⟩⟩⟩⟩⟩⟩⟩⟩⟩⟩⟩⟩⟩⟩⟩⟩⟩⟩⟩⟩⟩⟩⟩⟩⟩⟩⟩⟩⟩⟩⟩⟩), by decide +kernel, by decide +kernel⟩
theorem k_AL : vv_cl 5 "java/util/ArrayList" T_AL 3 t_AL := ⟨rfl, by decide, (show ∀ w ∈ [Cond.lays "java/util/ArrayList" "java/util/ArrayList" "elementData" "[Ljava/lang/Object;", Cond.lays "java/util/ArrayList" "java/util/ArrayList" "size" "I", Cond.lays "java/util/ArrayList" "java/util/AbstractList" "modCount" "I"], w ∈ vv_wds from List.forall_mem_cons.mpr ⟨tw_71, List.forall_mem_cons.mpr ⟨tw_73, List.forall_mem_cons.mpr ⟨tw_75, fun _ h => absurd h List.not_mem_nil⟩⟩⟩), by decide +kernel, by decide +kernel⟩
end
