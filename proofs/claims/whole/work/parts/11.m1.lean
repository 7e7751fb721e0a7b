-- THE OPERATIONS on the state
theorem i_ge {x y : Int32} : y ≤ x ↔ y.toInt ≤ x.toInt := Int32.le_iff_toInt_le
/-- how many of the first n channels are wished, at place b -/
def zwn (S : zS) (b : Nat) : Nat → Nat
  | 0 => 0
  | n + 1 => zwn S b n + (if 0 < (zi S 8 (b + n)).toInt then 1 else 0)
theorem zwn_le (S : zS) (b n : Nat) : zwn S b n ≤ n := by
  induction n with
  | zero => exact Nat.le_refl _
  | succ n ih => unfold zwn; split <;> omega
/-- the pair of a customer and an item -/
def zpf (S : zS) (x it : Int32) : Nat → Option Nat
  | 0 => none
  | n + 1 => if zi S 19 n = x ∧ zi S 20 n = it then some n else zpf S x it n
theorem zpf_lt {S : zS} {x it : Int32} {n k : Nat} (h : zpf S x it n = some k) : k < n ∧ zi S 19 k = x ∧ zi S 20 k = it := by
  induction n with
  | zero => cases h
  | succ n ih =>
    unfold zpf at h
    split at h
    · rename_i h1
      cases h
      exact ⟨Nat.lt_succ_self _, h1⟩
    · obtain ⟨h1, h2⟩ := ih h
      exact ⟨by omega, h2⟩
def zix (o : Option Nat) : Int32 := match o with
  | none => -1
  | some k => nI k
def zkeep (S : zS) (x it : Int32) : zS := match zpf S x it (zc S 2) with
  | some _ => S
  | none => zuc (zui (zui (zui (zui S 19 (zc S 2) x) 20 (zc S 2) it) 21 (zc S 2) 0) 22 (zc S 2) 0) 2 (zc S 2 + 1)
def zkix (S : zS) (x it : Int32) : Nat := match zpf S x it (zc S 2) with
  | some k => k
  | none => zc S 2
def zput (S : zS) (x it k : Int32) (t w : Int64) (cr : Int32) : zS :=
  zui (zui (zui (zul (zul (zui (zui (zui (zuc S 1 (zc S 1 + 1)) 10 (zc S 1 + 1) x) 11 (zc S 1 + 1) it) 12 (zc S 1 + 1) k) 13 (zc S 1 + 1) t) 14 (zc S 1 + 1) w) 15 (zc S 1 + 1) 0) 16 (zc S 1 + 1) cr) 17 (zc S 1 + 1) 0
def oCust (S : zS) (a b : Int32) : Int32 × zS := if zIn a 0 9 ∧ zIn b (-12) 14 then (if zc S 0 = 40 then (-14, S) else (nI (zc S 0 + 1), zui (zui (zuc S 0 (zc S 0 + 1)) 4 (zc S 0 + 1) a) 5 (zc S 0 + 1) b)) else (-12, S)
def oWish (S : zS) (x k ch od : Int32) : Int32 × zS := if zIn x 1 (zc S 0) then (if zIn k 0 7 ∧ zIn ch 0 3 ∧ zIn od 0 9 then (nI (zwn (zui S 8 (32 * zn x + 4 * zn k + zn ch) (od + 1)) (32 * zn x + 4 * zn k) 4), zui S 8 (32 * zn x + 4 * zn k + zn ch) (od + 1)) else (-12, S)) else (-11, S)
def oQuiet (S : zS) (x a b : Int32) : Int32 × zS := if zIn x 1 (zc S 0) then (if zIn a 0 1439 ∧ zIn b 0 1439 then (b - a + 1440 - (b - a + 1440) / 1440 * 1440, zui (zui S 6 (zn x) a) 7 (zn x) b) else (-12, S)) else (-11, S)
def oJoin (S : zS) (a : Int32) : Int32 × zS := if zIn a 0 1440 then (zi S 1 0, zui S 1 0 a) else (-12, S)
def oWorks (S : zS) (ch on : Int32) : Int32 × zS := if zIn ch 0 3 then (1 - zi S 2 (zn ch), zui S 2 (zn ch) (1 - on)) else (0, S)
def oFail (S : zS) (i : Int32) : Int32 × zS := (if zIn i 0 ((zc S 4 : Int) - 1) then zi S 29 (zn i) else -1, S)
theorem i_le0 {x : Int32} : x ≤ 0 ↔ ¬ 0 < x.toInt := by
  rw [Int32.le_iff_toInt_le, Int32.toInt_zero]; omega
theorem i_lt0 {x : Int32} : x < 0 ↔ x.toInt < 0 := by
  rw [Int32.lt_iff_toInt_lt, Int32.toInt_zero]
theorem i_gt0 {x : Int32} : 0 < x ↔ 0 < x.toInt := by
  rw [Int32.lt_iff_toInt_lt, Int32.toInt_zero]
theorem i_ge0 {x : Int32} : 0 ≤ x ↔ 0 ≤ x.toInt := by
  rw [Int32.le_iff_toInt_le, Int32.toInt_zero]
set_option maxHeartbeats 4000000 in
set_option maxRecDepth 100000 in
theorem c_M_isCustomer (l : Launch) (G : vv_G) (v : vv_V) (o : Nat) (ad : Nat → Nat) (S : zS) (x : Int32) (hR : RM G v o ad S) (hn : zc S 0 < 2 ^ 31) : Mv l y_M_isCustomer b_M_isCustomer 2 (some FieldType.boolean) 1 25 G v [.ref o, .int x] (fun r v' => (r = some (.int 1) ∧ v' = v ∧ (zIn x 1 (zc S 0))) ∨ (r = some (.int 0) ∧ v' = v ∧ ¬ (zIn x 1 (zc S 0)))) 0 0 := by
  refine vv_metF (own := "CustomerNoticesModel") (nm := "isCustomer") pf_M_isCustomer rfl rfl (Nat.le_of_ble_eq_true rfl) ?_
  intro p e s m below meth c C hin
  have hk : vkeep (mX o ad) v v := vkeep.rf
  show vV _ _ _ _ _ _ _ _ _ _ _ _ _ v 0 0 0 [(0, .ref o), (1, .int x)] []
  refine v_iload_n C 1 d_M_isCustomer_0 rfl rfl ?_
  refine v_i2l (y := (Int32.toInt64 x)) C d_M_isCustomer_1 rfl ?_
  refine v_lconst (x := 1) C d_M_isCustomer_2 (by decide) ?_
  refine v_aload_n C 0 d_M_isCustomer_3 rfl rfl ?_
  refine v_get C k_M hR.1 3 (by decide) tw_486 (fun _ h => h) rfl d_M_isCustomer_4 ?_
  refine v_i2l (y := (Int32.toInt64 (nI (zc S 0)))) C d_M_isCustomer_7 rfl ?_
  refine v_callS (rest := []) C (c_M_isIn l G v (Int32.toInt64 x) 1 (Int32.toInt64 (nI (zc S 0)))) tw_588 tw_34 tw_586 tw_587 mn_M_isIn ⟨Nat.le_of_ble_eq_true rfl, Nat.le_of_ble_eq_true rfl⟩ rfl rfl (Nat.le_of_ble_eq_true rfl) d_M_isCustomer_8 ⟨(by first | exact Nat.le_of_ble_eq_true rfl | (show _ ≤ _; omega)), (by first | exact Nat.le_of_ble_eq_true rfl | (show _ ≤ _; omega))⟩ (fun r_1 v_2 hp_3 => ?_)
  rcases hp_3 with ⟨rfl, hv9, hb_8⟩ | ⟨rfl, hv9, hb_8⟩
  · obtain rfl := hv9.symm
    show vV _ _ _ _ _ _ _ _ _ _ _ _ _ v 0 0 11 [(0, .ref o), (1, .int x)] [.int 1]
    exact v_zret C d_M_isCustomer_11 (by first | exact Nat.le_of_ble_eq_true rfl | (show _ ≤ _; omega)) (by first | exact Nat.le_of_ble_eq_true rfl | (show _ ≤ _; omega)) (by decide) (Or.inl ⟨rfl, rfl, (by rw [i64_toInt, i64_toInt, nI_toInt hn] at hb_8; exact hb_8)⟩)
  · obtain rfl := hv9.symm
    show vV _ _ _ _ _ _ _ _ _ _ _ _ _ v 0 0 11 [(0, .ref o), (1, .int x)] [.int 0]
    exact v_zret C d_M_isCustomer_11 (by first | exact Nat.le_of_ble_eq_true rfl | (show _ ≤ _; omega)) (by first | exact Nat.le_of_ble_eq_true rfl | (show _ ≤ _; omega)) (by decide) (Or.inr ⟨rfl, rfl, (by rw [i64_toInt, i64_toInt, nI_toInt hn] at hb_8; exact hb_8)⟩)
set_option maxHeartbeats 4000000 in
set_option maxRecDepth 100000 in
theorem c_M_isTime (l : Launch) (G : vv_G) (v : vv_V) (o : Nat) (ad : Nat → Nat) (S : zS) (t : Int64) (hR : RM G v o ad S) : Mv l y_M_isTime b_M_isTime 3 (some FieldType.boolean) 1 25 G v [.ref o, .long t] (fun r v' => (r = some (.int 1) ∧ v' = v ∧ (zTm S t)) ∨ (r = some (.int 0) ∧ v' = v ∧ ¬ (zTm S t))) 0 0 := by
  refine vv_metF (own := "CustomerNoticesModel") (nm := "isTime") pf_M_isTime rfl rfl (Nat.le_of_ble_eq_true rfl) ?_
  intro p e s m below meth c C hin
  have hk : vkeep (mX o ad) v v := vkeep.rf
  show vV _ _ _ _ _ _ _ _ _ _ _ _ _ v 0 0 0 [(0, .ref o), (1, .long t)] []
  refine v_lload_n C 1 d_M_isTime_0 rfl rfl ?_
  refine v_aload_n C 0 d_M_isTime_1 rfl rfl ?_
  refine v_get C k_M hR.1 0 (by decide) tw_483 (fun _ h => h) rfl d_M_isTime_2 ?_
  refine v_ldc2 (x := 1000000000) C d_M_isTime_5 tw_619 ?_
  refine v_callS (rest := []) C (c_M_isIn l G v t (zl S 0 0) 1000000000) tw_588 tw_34 tw_586 tw_587 mn_M_isIn ⟨Nat.le_of_ble_eq_true rfl, Nat.le_of_ble_eq_true rfl⟩ rfl rfl (Nat.le_of_ble_eq_true rfl) d_M_isTime_8 ⟨(by first | exact Nat.le_of_ble_eq_true rfl | (show _ ≤ _; omega)), (by first | exact Nat.le_of_ble_eq_true rfl | (show _ ≤ _; omega))⟩ (fun r_1 v_2 hp_3 => ?_)
  rcases hp_3 with ⟨rfl, hv9, hb_8⟩ | ⟨rfl, hv9, hb_8⟩
  · obtain rfl := hv9.symm
    show vV _ _ _ _ _ _ _ _ _ _ _ _ _ v 0 0 11 [(0, .ref o), (1, .long t)] [.int 1]
    exact v_zret C d_M_isTime_11 (by first | exact Nat.le_of_ble_eq_true rfl | (show _ ≤ _; omega)) (by first | exact Nat.le_of_ble_eq_true rfl | (show _ ≤ _; omega)) (by decide) (Or.inl ⟨rfl, rfl, hb_8⟩)
  · obtain rfl := hv9.symm
    show vV _ _ _ _ _ _ _ _ _ _ _ _ _ v 0 0 11 [(0, .ref o), (1, .long t)] [.int 0]
    exact v_zret C d_M_isTime_11 (by first | exact Nat.le_of_ble_eq_true rfl | (show _ ≤ _; omega)) (by first | exact Nat.le_of_ble_eq_true rfl | (show _ ≤ _; omega)) (by decide) (Or.inr ⟨rfl, rfl, hb_8⟩)
set_option maxHeartbeats 4000000 in
set_option maxRecDepth 100000 in
theorem c_M_customer (l : Launch) (G : vv_G) (v : vv_V) (o : Nat) (ad : Nat → Nat) (S : zS) (a b : Int32) (hR : RM G v o ad S) (hB : zc S 0 ≤ 40) : Mv l y_M_customer b_M_customer 3 (some FieldType.int) 1 25 G v [.ref o, .int a, .int b] (fun r v' => r = some (.int (oCust S a b).1) ∧ RM G v' o ad (oCust S a b).2 ∧ vkeep (mX o ad) v v') 0 0 := by
  refine vv_metF (own := "CustomerNoticesModel") (nm := "customer") pf_M_customer rfl rfl (Nat.le_of_ble_eq_true rfl) ?_
  intro p e s m below meth c C hin
  have hk : vkeep (mX o ad) v v := vkeep.rf
  show vV _ _ _ _ _ _ _ _ _ _ _ _ _ v 0 0 0 [(0, .ref o), (1, .int a), (2, .int b)] []
  refine v_iload_n C 1 d_M_customer_0 rfl rfl ?_
  refine v_i2l (y := (Int32.toInt64 a)) C d_M_customer_1 rfl ?_
  refine v_lconst (x := 0) C d_M_customer_2 (by decide) ?_
  refine v_ldc2 (x := 9) C d_M_customer_3 tw_585 ?_
  refine v_callS (rest := []) C (c_M_isIn l G v (Int32.toInt64 a) 0 9) tw_588 tw_34 tw_586 tw_587 mn_M_isIn ⟨Nat.le_of_ble_eq_true rfl, Nat.le_of_ble_eq_true rfl⟩ rfl rfl (Nat.le_of_ble_eq_true rfl) d_M_customer_6 ⟨(by first | exact Nat.le_of_ble_eq_true rfl | (show _ ≤ _; omega)), (by first | exact Nat.le_of_ble_eq_true rfl | (show _ ≤ _; omega))⟩ (fun r_1 v_2 hp_3 => ?_)
  rcases hp_3 with ⟨rfl, hv9, hb_6⟩ | ⟨rfl, hv9, hb_6⟩
  · obtain rfl := hv9.symm
    show vV _ _ _ _ _ _ _ _ _ _ _ _ _ v 0 0 9 [(0, .ref o), (1, .int a), (2, .int b)] [.int 1]
    refine v_if_eq C 26 d_M_customer_9 (by decide) (fun z => absurd z (by decide)) (fun _ => ?_)
    refine v_iload_n C 2 d_M_customer_12 rfl rfl ?_
    refine v_i2l (y := (Int32.toInt64 b)) C d_M_customer_13 rfl ?_
    refine v_ldc2 (x := -12) C d_M_customer_14 tw_589 ?_
    refine v_ldc2 (x := 14) C d_M_customer_17 tw_590 ?_
    refine v_callS (rest := []) C (c_M_isIn l G v (Int32.toInt64 b) (-12) 14) tw_588 tw_34 tw_586 tw_587 mn_M_isIn ⟨Nat.le_of_ble_eq_true rfl, Nat.le_of_ble_eq_true rfl⟩ rfl rfl (Nat.le_of_ble_eq_true rfl) d_M_customer_20 ⟨(by first | exact Nat.le_of_ble_eq_true rfl | (show _ ≤ _; omega)), (by first | exact Nat.le_of_ble_eq_true rfl | (show _ ≤ _; omega))⟩ (fun r_4 v_5 hp_6 => ?_)
    rcases hp_6 with ⟨rfl, hv9, hb_20⟩ | ⟨rfl, hv9, hb_20⟩
    · obtain rfl := hv9.symm
      show vV _ _ _ _ _ _ _ _ _ _ _ _ _ v 0 0 23 [(0, .ref o), (1, .int a), (2, .int b)] [.int 1]
      refine v_if_ne C 29 d_M_customer_23 (by decide) (fun _ => ?_) (fun z => absurd z (by decide))
      refine v_aload_n C 0 d_M_customer_29 rfl rfl ?_
      refine v_get C k_M hR.1 3 (by decide) tw_486 (fun _ h => h) rfl d_M_customer_30 ?_
      refine v_bipush (x := 40) C d_M_customer_33 (by decide) ?_
      by_cases hc40 : zc S 0 = 40
      · refine v_icmp_ne C 41 d_M_customer_35 (by decide) (fun z => absurd (by rw [hc40]; rfl) z) (fun _ => ?_)
        refine v_bipush (x := -14) C d_M_customer_38 (by decide) ?_
        exact v_iret C d_M_customer_40 (by first | exact Nat.le_of_ble_eq_true rfl | (show _ ≤ _; omega)) (by first | exact Nat.le_of_ble_eq_true rfl | (show _ ≤ _; omega)) ⟨(by rw [i64_toInt] at hb_6; rw [i64_toInt] at hb_20; rw [oCust, if_pos ⟨hb_6, hb_20⟩, if_pos hc40] <;> (try rfl)), (by rw [i64_toInt] at hb_6; rw [i64_toInt] at hb_20; rw [oCust, if_pos ⟨hb_6, hb_20⟩, if_pos hc40]; exact hR), hk⟩
      · refine v_icmp_ne C 41 d_M_customer_35 (by decide) (fun _ => ?_) (fun z => absurd ((nI_eq (b := 40) (by omega) (by decide)).mp z) hc40)
        refine v_aload_n C 0 d_M_customer_41 rfl rfl ?_
        refine v_dup C d_M_customer_42 rfl ?_
        refine v_get C k_M hR.1 3 (by decide) tw_486 (fun _ h => h) rfl d_M_customer_43 ?_
        refine v_iconst (x := 1) C d_M_customer_46 (by decide) ?_
        refine v_iadd C d_M_customer_47 ?_
        refine v_toi (y := nI ((zc S 0) + 1)) (nI_add (zc S 0) 1) ?_
        refine v_put C k_M hR.1 3 (by decide) tw_486 (fun _ h => h) rfl rfl rfl (Nat.le_of_ble_eq_true rfl) d_M_customer_48 ?_
        refine v_view (fun v1 ev1 => ?_)
        obtain ⟨S_7, eS_7⟩ : ∃ z, z = zuc S 0 ((zc S 0) + 1) := ⟨_, rfl⟩
        have hR_7 : RM G v1 o ad S_7 := by rw [eS_7]; exact (by rw [ev1]; exact hR.puts rfl (fun f hf => rfl) (fun f hf => rfl))
        have hk_7 : vkeep (mX o ad) v v1 := by rw [ev1]; exact hk.up mX_o
        refine v_aload_n C 0 d_M_customer_51 rfl rfl ?_
        refine v_get C k_M hR_7.1 4 (by decide) tw_487 (fun _ h => h) rfl d_M_customer_52 ?_
        refine v_aload_n C 0 d_M_customer_55 rfl rfl ?_
        refine v_get C k_M hR_7.1 3 (by decide) tw_486 (fun _ h => h) rfl d_M_customer_56 ?_
        refine v_toi (y := nI ((zc S 0) + 1)) (by rw [eS_7]; rfl) ?_
        refine v_iload_n C 1 d_M_customer_59 rfl rfl ?_
        refine v_iastN C (hR_7.oi (f := 4) (by decide)) (by show _ < 41; omega) (by decide) d_M_customer_60 ?_
        refine v_view (fun v2 ev2 => ?_)
        obtain ⟨S_8, eS_8⟩ : ∃ z, z = zui S_7 4 ((zc S 0) + 1) a := ⟨_, rfl⟩
        have hR_8 : RM G v2 o ad S_8 := by rw [eS_8]; exact (by rw [ev2]; exact hR_7.puti 4 (by decide) ((zc S 0) + 1) a)
        have hk_8 : vkeep (mX o ad) v v2 := by rw [ev2]; exact hk_7.up (mX_f (by decide))
        refine v_aload_n C 0 d_M_customer_61 rfl rfl ?_
        refine v_get C k_M hR_8.1 5 (by decide) tw_488 (fun _ h => h) rfl d_M_customer_62 ?_
        refine v_aload_n C 0 d_M_customer_65 rfl rfl ?_
        refine v_get C k_M hR_8.1 3 (by decide) tw_486 (fun _ h => h) rfl d_M_customer_66 ?_
        refine v_toi (y := nI ((zc S 0) + 1)) (by rw [eS_8, eS_7]; rfl) ?_
        refine v_iload_n C 2 d_M_customer_69 rfl rfl ?_
        refine v_iastN C (hR_8.oi (f := 5) (by decide)) (by show _ < 41; omega) (by decide) d_M_customer_70 ?_
        refine v_view (fun v3 ev3 => ?_)
        obtain ⟨S_9, eS_9⟩ : ∃ z, z = zui S_8 5 ((zc S 0) + 1) b := ⟨_, rfl⟩
        have hR_9 : RM G v3 o ad S_9 := by rw [eS_9]; exact (by rw [ev3]; exact hR_8.puti 5 (by decide) ((zc S 0) + 1) b)
        have hk_9 : vkeep (mX o ad) v v3 := by rw [ev3]; exact hk_8.up (mX_f (by decide))
        refine v_aload_n C 0 d_M_customer_71 rfl rfl ?_
        refine v_get C k_M hR_9.1 3 (by decide) tw_486 (fun _ h => h) rfl d_M_customer_72 ?_
        refine v_toi (y := nI ((zc S 0) + 1)) (by rw [eS_9, eS_8, eS_7]; rfl) ?_
        exact v_iret C d_M_customer_75 (by first | exact Nat.le_of_ble_eq_true rfl | (show _ ≤ _; omega)) (by first | exact Nat.le_of_ble_eq_true rfl | (show _ ≤ _; omega)) ⟨(by rw [i64_toInt] at hb_6; rw [i64_toInt] at hb_20; rw [oCust, if_pos ⟨hb_6, hb_20⟩, if_neg hc40] <;> (try rfl)), (by rw [i64_toInt] at hb_6; rw [i64_toInt] at hb_20; rw [oCust, if_pos ⟨hb_6, hb_20⟩, if_neg hc40]; subst eS_7 eS_8 eS_9; exact hR_9), hk_9⟩
    · obtain rfl := hv9.symm
      show vV _ _ _ _ _ _ _ _ _ _ _ _ _ v 0 0 23 [(0, .ref o), (1, .int a), (2, .int b)] [.int 0]
      refine v_if_ne C 29 d_M_customer_23 (by decide) (fun z => absurd (by decide) z) (fun _ => ?_)
      refine v_bipush (x := -12) C d_M_customer_26 (by decide) ?_
      exact v_iret C d_M_customer_28 (by first | exact Nat.le_of_ble_eq_true rfl | (show _ ≤ _; omega)) (by first | exact Nat.le_of_ble_eq_true rfl | (show _ ≤ _; omega)) ⟨(by rw [i64_toInt] at hb_6; rw [i64_toInt] at hb_20; rw [oCust, if_neg (fun z => hb_20 z.2)] <;> (try rfl)), (by rw [i64_toInt] at hb_6; rw [i64_toInt] at hb_20; rw [oCust, if_neg (fun z => hb_20 z.2)]; exact hR), hk⟩
  · obtain rfl := hv9.symm
    show vV _ _ _ _ _ _ _ _ _ _ _ _ _ v 0 0 9 [(0, .ref o), (1, .int a), (2, .int b)] [.int 0]
    refine v_if_eq C 26 d_M_customer_9 (by decide) (fun _ => ?_) (fun z => absurd (by decide) z)
    refine v_bipush (x := -12) C d_M_customer_26 (by decide) ?_
    exact v_iret C d_M_customer_28 (by first | exact Nat.le_of_ble_eq_true rfl | (show _ ≤ _; omega)) (by first | exact Nat.le_of_ble_eq_true rfl | (show _ ≤ _; omega)) ⟨(by rw [i64_toInt] at hb_6; rw [oCust, if_neg (fun z => hb_6 z.1)] <;> (try rfl)), (by rw [i64_toInt] at hb_6; rw [oCust, if_neg (fun z => hb_6 z.1)]; exact hR), hk⟩
set_option maxHeartbeats 4000000 in
set_option maxRecDepth 100000 in
theorem lp_M_wished {p : Program} {l : Launch} {e : Env} {R : Room} {s : State} {m : MethodId} {args : Array Value} {below : List Frame} {meth : Method} {c : Code} {Q : State → Prop} {G : vv_G} {o : Nat} {ad : Nat → Nat} {S : zS} {v : vv_V} {kc ks cu kd : Nat} (C : vC p s m args meth c b_M_wished 5 (some FieldType.int) "CustomerNoticesModel" G) (hR : RM G v o ad S) (hcu : cu ≤ 40) (hkd : kd ≤ 7) (kx : vV p l e R s m args below meth c Q G 5 v kc ks 44 [(4, .int (nI 4)), (3, .int (nI (zwn S ((32 * cu) + (4 * kd)) 4))), (0, .ref o), (1, .int (nI cu)), (2, .int (nI kd))] []) : ∀ (n : Nat) (j : Nat), j ≤ 4 → 5 ≤ j + n → vV p l e R s m args below meth c Q G 5 v kc ks 5 [(4, .int (nI j)), (3, .int (nI (zwn S ((32 * cu) + (4 * kd)) j))), (0, .ref o), (1, .int (nI cu)), (2, .int (nI kd))] [] := by
  intro n
  induction n with
  | zero => intro j h1 h2; exfalso; omega
  | succ n ih =>
    intro j h1 h2
    refine v_iload C 0 d_M_wished_5 rfl ?_
    refine v_iconst (x := 4) C d_M_wished_7 (by decide) ?_
    refine v_icmp_ge C 44 d_M_wished_8 (by decide) (fun c_8 => ?_) (fun c_8 => ?_)
    · have n_8 : 4 ≤ j := (nI_leI (a := 4) (b := j) (by omega) (by omega)).mp c_8
      have hj4 : j = 4 := by have := (nI_leI (a := 4) (by decide) (by omega)).mp c_8; omega
      subst hj4
      exact kx
    · have n_8 : ¬ 4 ≤ j := mt (nI_leI (a := 4) (b := j) (by omega) (by omega)).mpr c_8
      have hj : j < 4 := Nat.lt_of_not_le (fun z => c_8 ((nI_leI (a := 4) (by decide) (by omega)).mpr z))
      refine v_aload_n C 2 d_M_wished_11 rfl rfl ?_
      refine v_get C k_M hR.1 8 (by decide) tw_491 (fun _ h => h) rfl d_M_wished_12 ?_
      refine v_bipush (x := 32) C d_M_wished_15 (by decide) ?_
      refine v_iload_n C 3 d_M_wished_17 rfl rfl ?_
      refine v_imul C d_M_wished_18 ?_
      refine v_toi (y := nI (32 * cu)) (pk_mul 32 cu) ?_
      refine v_iconst (x := 4) C d_M_wished_19 (by decide) ?_
      refine v_iload_n C 4 d_M_wished_20 rfl rfl ?_
      refine v_imul C d_M_wished_21 ?_
      refine v_toi (y := nI (4 * kd)) (pk_mul 4 kd) ?_
      refine v_iadd C d_M_wished_22 ?_
      refine v_toi (y := nI ((32 * cu) + (4 * kd))) (nI_add (32 * cu) (4 * kd)) ?_
      refine v_iload C 0 d_M_wished_23 rfl ?_
      refine v_iadd C d_M_wished_25 ?_
      refine v_toi (y := nI (((32 * cu) + (4 * kd)) + j)) (nI_add ((32 * cu) + (4 * kd)) j) ?_
      refine v_ialdN C (hR.oi (f := 8) (by decide)) (by show _ < 1312; omega) (by decide) d_M_wished_26 ?_
      refine v_if_le C 36 d_M_wished_27 (by decide) (fun c_27 => ?_) (fun c_27 => ?_)
      · refine v_iload_n C 1 d_M_wished_36 rfl rfl ?_
        refine v_toi (y := nI (zwn S ((32 * cu) + (4 * kd)) (j + 1))) (by rw [zwn, if_neg (i_le0.mp c_27), Nat.add_zero]) ?_
        refine v_istore_n (lv' := [(3, .int (nI (zwn S ((32 * cu) + (4 * kd)) (j + 1)))), (4, .int (nI j)), (0, .ref o), (1, .int (nI cu)), (2, .int (nI kd))]) C d_M_wished_37 rfl (by decide) rfl ?_
        refine v_iinc (y := (nI (j + 1))) (lv' := [(4, .int (nI (j + 1))), (3, .int (nI (zwn S ((32 * cu) + (4 * kd)) (j + 1)))), (0, .ref o), (1, .int (nI cu)), (2, .int (nI kd))]) C 1 d_M_wished_38 rfl (nI_1 _) (by decide) rfl ?_
        refine v_goto C 5 d_M_wished_41 (by decide) ?_
        refine v_sub [0, 1, 2, 3, 4] rfl ?_
        exact ih (j + 1) (by omega) (by omega)
      · refine v_iload_n C 1 d_M_wished_30 rfl rfl ?_
        refine v_iconst (x := 1) C d_M_wished_31 (by decide) ?_
        refine v_iadd C d_M_wished_32 ?_
        refine v_toi (y := nI ((zwn S ((32 * cu) + (4 * kd)) j) + 1)) (nI_add (zwn S ((32 * cu) + (4 * kd)) j) 1) ?_
        refine v_goto C 37 d_M_wished_33 (by decide) ?_
        refine v_toi (y := nI (zwn S ((32 * cu) + (4 * kd)) (j + 1))) (by rw [zwn, if_pos (Decidable.not_not.mp (mt i_le0.mpr c_27))]) ?_
        refine v_istore_n (lv' := [(3, .int (nI (zwn S ((32 * cu) + (4 * kd)) (j + 1)))), (4, .int (nI j)), (0, .ref o), (1, .int (nI cu)), (2, .int (nI kd))]) C d_M_wished_37 rfl (by decide) rfl ?_
        refine v_iinc (y := (nI (j + 1))) (lv' := [(4, .int (nI (j + 1))), (3, .int (nI (zwn S ((32 * cu) + (4 * kd)) (j + 1)))), (0, .ref o), (1, .int (nI cu)), (2, .int (nI kd))]) C 1 d_M_wished_38 rfl (nI_1 _) (by decide) rfl ?_
        refine v_goto C 5 d_M_wished_41 (by decide) ?_
        refine v_sub [0, 1, 2, 3, 4] rfl ?_
        exact ih (j + 1) (by omega) (by omega)
set_option maxHeartbeats 4000000 in
set_option maxRecDepth 100000 in
theorem c_M_wished (l : Launch) (G : vv_G) (v : vv_V) (o : Nat) (ad : Nat → Nat) (S : zS) (cu kd : Nat) (hR : RM G v o ad S) (hcu : cu ≤ 40) (hkd : kd ≤ 7) : Mv l y_M_wished b_M_wished 5 (some FieldType.int) 0 0 G v [.ref o, .int (nI cu), .int (nI kd)] (fun r v' => r = some (.int (nI (zwn S (32 * cu + 4 * kd) 4))) ∧ v' = v) 0 0 := by
  refine vv_metF (own := "CustomerNoticesModel") (nm := "wished") pf_M_wished rfl rfl (Nat.le_of_ble_eq_true rfl) ?_
  intro p e s m below meth c C hin
  have hk : vkeep (mX o ad) v v := vkeep.rf
  show vV _ _ _ _ _ _ _ _ _ _ _ _ _ v 0 0 0 [(0, .ref o), (1, .int (nI cu)), (2, .int (nI kd))] []
  refine v_iconst (x := 0) C d_M_wished_0 (by decide) ?_
  refine v_istore_n (lv' := [(3, .int 0), (0, .ref o), (1, .int (nI cu)), (2, .int (nI kd))]) C d_M_wished_1 rfl (by decide) rfl ?_
  refine v_iconst (x := 0) C d_M_wished_2 (by decide) ?_
  refine v_istore (lv' := [(4, .int 0), (3, .int 0), (0, .ref o), (1, .int (nI cu)), (2, .int (nI kd))]) C d_M_wished_3 (by decide) rfl ?_
  refine v_sub [0, 1, 2, 3, 4] rfl ?_
  refine lp_M_wished C hR hcu hkd ?_ 5 0 (by omega) (by omega)
  refine v_iload_n C 1 d_M_wished_44 rfl rfl ?_
  exact v_iret C d_M_wished_45 (by first | exact Nat.le_of_ble_eq_true rfl | (show _ ≤ _; omega)) (by first | exact Nat.le_of_ble_eq_true rfl | (show _ ≤ _; omega)) ⟨rfl, rfl⟩
set_option maxHeartbeats 4000000 in
set_option maxRecDepth 100000 in
theorem c_M_wish (l : Launch) (G : vv_G) (v : vv_V) (o : Nat) (ad : Nat → Nat) (S : zS) (x k ch od : Int32) (hR : RM G v o ad S) (hB : zc S 0 ≤ 40) : Mv l y_M_wish b_M_wish 5 (some FieldType.int) 2 46 G v [.ref o, .int x, .int k, .int ch, .int od] (fun r v' => r = some (.int (oWish S x k ch od).1) ∧ RM G v' o ad (oWish S x k ch od).2 ∧ vkeep (mX o ad) v v') 0 0 := by
  refine vv_metF (own := "CustomerNoticesModel") (nm := "wish") pf_M_wish rfl rfl (Nat.le_of_ble_eq_true rfl) ?_
  intro p e s m below meth c C hin
  have hk : vkeep (mX o ad) v v := vkeep.rf
  show vV _ _ _ _ _ _ _ _ _ _ _ _ _ v 0 0 0 [(0, .ref o), (1, .int x), (2, .int k), (3, .int ch), (4, .int od)] []
  refine v_aload_n C 0 d_M_wish_0 rfl rfl ?_
  refine v_iload_n C 1 d_M_wish_1 rfl rfl ?_
  refine v_callV (rest := []) C (c_M_isCustomer l G v o ad S x hR (by omega)) tw_598 tw_34 tw_595 tw_597 tw_19 mn_M_isCustomer hR.1 k_M.1 ⟨Nat.le_of_ble_eq_true rfl, Nat.le_of_ble_eq_true rfl⟩ rfl rfl (Nat.le_of_ble_eq_true rfl) d_M_wish_2 ⟨(by first | exact Nat.le_of_ble_eq_true rfl | (show _ ≤ _; omega)), (by first | exact Nat.le_of_ble_eq_true rfl | (show _ ≤ _; omega))⟩ (fun r_1 v_2 hp_3 => ?_)
  rcases hp_3 with ⟨rfl, hv9, hb_2⟩ | ⟨rfl, hv9, hb_2⟩
  · obtain rfl := hv9.symm
    show vV _ _ _ _ _ _ _ _ _ _ _ _ _ v 0 0 5 [(0, .ref o), (1, .int x), (2, .int k), (3, .int ch), (4, .int od)] [.int 1]
    refine v_if_ne C 11 d_M_wish_5 (by decide) (fun _ => ?_) (fun z => absurd z (by decide))
    refine v_iload_n C 2 d_M_wish_11 rfl rfl ?_
    refine v_i2l (y := (Int32.toInt64 k)) C d_M_wish_12 rfl ?_
    refine v_lconst (x := 0) C d_M_wish_13 (by decide) ?_
    refine v_ldc2 (x := 7) C d_M_wish_14 tw_599 ?_
    refine v_callS (rest := []) C (c_M_isIn l G v (Int32.toInt64 k) 0 7) tw_588 tw_34 tw_586 tw_587 mn_M_isIn ⟨Nat.le_of_ble_eq_true rfl, Nat.le_of_ble_eq_true rfl⟩ rfl rfl (Nat.le_of_ble_eq_true rfl) d_M_wish_17 ⟨(by first | exact Nat.le_of_ble_eq_true rfl | (show _ ≤ _; omega)), (by first | exact Nat.le_of_ble_eq_true rfl | (show _ ≤ _; omega))⟩ (fun r_4 v_5 hp_6 => ?_)
    rcases hp_6 with ⟨rfl, hv9, hb_17⟩ | ⟨rfl, hv9, hb_17⟩
    · obtain rfl := hv9.symm
      show vV _ _ _ _ _ _ _ _ _ _ _ _ _ v 0 0 20 [(0, .ref o), (1, .int x), (2, .int k), (3, .int ch), (4, .int od)] [.int 1]
      refine v_if_eq C 48 d_M_wish_20 (by decide) (fun z => absurd z (by decide)) (fun _ => ?_)
      refine v_iload_n C 3 d_M_wish_23 rfl rfl ?_
      refine v_i2l (y := (Int32.toInt64 ch)) C d_M_wish_24 rfl ?_
      refine v_lconst (x := 0) C d_M_wish_25 (by decide) ?_
      refine v_ldc2 (x := 3) C d_M_wish_26 tw_600 ?_
      refine v_callS (rest := []) C (c_M_isIn l G v (Int32.toInt64 ch) 0 3) tw_588 tw_34 tw_586 tw_587 mn_M_isIn ⟨Nat.le_of_ble_eq_true rfl, Nat.le_of_ble_eq_true rfl⟩ rfl rfl (Nat.le_of_ble_eq_true rfl) d_M_wish_29 ⟨(by first | exact Nat.le_of_ble_eq_true rfl | (show _ ≤ _; omega)), (by first | exact Nat.le_of_ble_eq_true rfl | (show _ ≤ _; omega))⟩ (fun r_7 v_8 hp_9 => ?_)
      rcases hp_9 with ⟨rfl, hv9, hb_29⟩ | ⟨rfl, hv9, hb_29⟩
      · obtain rfl := hv9.symm
        show vV _ _ _ _ _ _ _ _ _ _ _ _ _ v 0 0 32 [(0, .ref o), (1, .int x), (2, .int k), (3, .int ch), (4, .int od)] [.int 1]
        refine v_if_eq C 48 d_M_wish_32 (by decide) (fun z => absurd z (by decide)) (fun _ => ?_)
        refine v_iload C 4 d_M_wish_35 rfl ?_
        refine v_i2l (y := (Int32.toInt64 od)) C d_M_wish_37 rfl ?_
        refine v_lconst (x := 0) C d_M_wish_38 (by decide) ?_
        refine v_ldc2 (x := 9) C d_M_wish_39 tw_585 ?_
        refine v_callS (rest := []) C (c_M_isIn l G v (Int32.toInt64 od) 0 9) tw_588 tw_34 tw_586 tw_587 mn_M_isIn ⟨Nat.le_of_ble_eq_true rfl, Nat.le_of_ble_eq_true rfl⟩ rfl rfl (Nat.le_of_ble_eq_true rfl) d_M_wish_42 ⟨(by first | exact Nat.le_of_ble_eq_true rfl | (show _ ≤ _; omega)), (by first | exact Nat.le_of_ble_eq_true rfl | (show _ ≤ _; omega))⟩ (fun r_10 v_11 hp_12 => ?_)
        rcases hp_12 with ⟨rfl, hv9, hb_42⟩ | ⟨rfl, hv9, hb_42⟩
        · obtain rfl := hv9.symm
          show vV _ _ _ _ _ _ _ _ _ _ _ _ _ v 0 0 45 [(0, .ref o), (1, .int x), (2, .int k), (3, .int ch), (4, .int od)] [.int 1]
          refine v_if_ne C 51 d_M_wish_45 (by decide) (fun _ => ?_) (fun z => absurd z (by decide))
          rw [i64_toInt] at hb_17
          rw [i64_toInt] at hb_29
          rw [i64_toInt] at hb_42
          have hz : zIn k 0 7 ∧ zIn ch 0 3 ∧ zIn od 0 9 := ⟨hb_17, hb_29, hb_42⟩
          have hx0 := hb_2
          obtain ⟨cu, rfl, hcu1, hcu2, hcu3⟩ := zIn_nI (a := 1) (b := zc S 0) hx0
          obtain ⟨kd, rfl, hkd1, hkd2, hkd3⟩ := zIn_nI (a := 0) (b := 7) hz.1
          obtain ⟨cn, rfl, hcn1, hcn2, hcn3⟩ := zIn_nI (a := 0) (b := 3) hz.2.1
          refine v_aload_n C 0 d_M_wish_51 rfl rfl ?_
          refine v_get C k_M hR.1 8 (by decide) tw_491 (fun _ h => h) rfl d_M_wish_52 ?_
          refine v_bipush (x := 32) C d_M_wish_55 (by decide) ?_
          refine v_iload_n C 1 d_M_wish_57 rfl rfl ?_
          refine v_imul C d_M_wish_58 ?_
          refine v_toi (y := nI (32 * cu)) (pk_mul 32 cu) ?_
          refine v_iconst (x := 4) C d_M_wish_59 (by decide) ?_
          refine v_iload_n C 2 d_M_wish_60 rfl rfl ?_
          refine v_imul C d_M_wish_61 ?_
          refine v_toi (y := nI (4 * kd)) (pk_mul 4 kd) ?_
          refine v_iadd C d_M_wish_62 ?_
          refine v_toi (y := nI ((32 * cu) + (4 * kd))) (nI_add (32 * cu) (4 * kd)) ?_
          refine v_iload_n C 3 d_M_wish_63 rfl rfl ?_
          refine v_iadd C d_M_wish_64 ?_
          refine v_toi (y := nI (((32 * cu) + (4 * kd)) + cn)) (nI_add ((32 * cu) + (4 * kd)) cn) ?_
          refine v_iload C 4 d_M_wish_65 rfl ?_
          refine v_iconst (x := 1) C d_M_wish_67 (by decide) ?_
          refine v_iadd C d_M_wish_68 ?_
          refine v_iastN C (hR.oi (f := 8) (by decide)) (by show _ < 1312; omega) (by decide) d_M_wish_69 ?_
          refine v_view (fun v1 ev1 => ?_)
          obtain ⟨S_13, eS_13⟩ : ∃ z, z = zui S 8 (((32 * cu) + (4 * kd)) + cn) (od + 1) := ⟨_, rfl⟩
          have hR_13 : RM G v1 o ad S_13 := by rw [eS_13]; exact (by rw [ev1]; exact hR.puti 8 (by decide) (((32 * cu) + (4 * kd)) + cn) (od + 1))
          have hk_13 : vkeep (mX o ad) v v1 := by rw [ev1]; exact hk.up (mX_f (by decide))
          refine v_aload_n C 0 d_M_wish_70 rfl rfl ?_
          refine v_iload_n C 1 d_M_wish_71 rfl rfl ?_
          refine v_iload_n C 2 d_M_wish_72 rfl rfl ?_
          have hwl_73 := zwn_le S_13 (32 * cu + 4 * kd) 4
          refine v_callV (rest := []) C (c_M_wished l G v1 o ad S_13 cu kd hR_13 (by omega) (by omega)) tw_604 tw_34 tw_601 tw_603 tw_20 mn_M_wished hR_13.1 k_M.1 ⟨Nat.le_of_ble_eq_true rfl, Nat.le_of_ble_eq_true rfl⟩ rfl rfl (Nat.le_of_ble_eq_true rfl) d_M_wish_73 ⟨(by first | exact Nat.le_of_ble_eq_true rfl | (show _ ≤ _; omega)), (by first | exact Nat.le_of_ble_eq_true rfl | (show _ ≤ _; omega))⟩ (fun r_14 v_15 hp_16 => ?_)
          obtain ⟨rfl, hv9⟩ := hp_16
          obtain rfl := hv9.symm
          show vV _ _ _ _ _ _ _ _ _ _ _ _ _ v1 0 0 76 [(0, .ref o), (1, .int (nI cu)), (2, .int (nI kd)), (3, .int (nI cn)), (4, .int od)] [.int (nI (zwn S_13 (32 * cu + 4 * kd) 4))]
          exact v_iret C d_M_wish_76 (by first | exact Nat.le_of_ble_eq_true rfl | (show _ ≤ _; omega)) (by first | exact Nat.le_of_ble_eq_true rfl | (show _ ≤ _; omega)) ⟨(by (try rw [eS_13]); rw [oWish, if_pos hx0, if_pos hz, zn_nI hcu3, zn_nI hkd3, zn_nI hcn3] <;> (try rfl)), (by (try rw [eS_13]); rw [oWish, if_pos hx0, if_pos hz, zn_nI hcu3, zn_nI hkd3, zn_nI hcn3]; subst eS_13; exact hR_13), hk_13⟩
        · obtain rfl := hv9.symm
          show vV _ _ _ _ _ _ _ _ _ _ _ _ _ v 0 0 45 [(0, .ref o), (1, .int x), (2, .int k), (3, .int ch), (4, .int od)] [.int 0]
          refine v_if_ne C 51 d_M_wish_45 (by decide) (fun z => absurd (by decide) z) (fun _ => ?_)
          refine v_bipush (x := -12) C d_M_wish_48 (by decide) ?_
          exact v_iret C d_M_wish_50 (by first | exact Nat.le_of_ble_eq_true rfl | (show _ ≤ _; omega)) (by first | exact Nat.le_of_ble_eq_true rfl | (show _ ≤ _; omega)) ⟨(by rw [i64_toInt] at hb_17; rw [i64_toInt] at hb_29; rw [i64_toInt] at hb_42; rw [oWish, if_pos hb_2, if_neg (fun z => hb_42 z.2.2)] <;> (try rfl)), (by rw [i64_toInt] at hb_17; rw [i64_toInt] at hb_29; rw [i64_toInt] at hb_42; rw [oWish, if_pos hb_2, if_neg (fun z => hb_42 z.2.2)]; exact hR), hk⟩
      · obtain rfl := hv9.symm
        show vV _ _ _ _ _ _ _ _ _ _ _ _ _ v 0 0 32 [(0, .ref o), (1, .int x), (2, .int k), (3, .int ch), (4, .int od)] [.int 0]
        refine v_if_eq C 48 d_M_wish_32 (by decide) (fun _ => ?_) (fun z => absurd (by decide) z)
        refine v_bipush (x := -12) C d_M_wish_48 (by decide) ?_
        exact v_iret C d_M_wish_50 (by first | exact Nat.le_of_ble_eq_true rfl | (show _ ≤ _; omega)) (by first | exact Nat.le_of_ble_eq_true rfl | (show _ ≤ _; omega)) ⟨(by rw [i64_toInt] at hb_17; rw [i64_toInt] at hb_29; rw [oWish, if_pos hb_2, if_neg (fun z => hb_29 z.2.1)] <;> (try rfl)), (by rw [i64_toInt] at hb_17; rw [i64_toInt] at hb_29; rw [oWish, if_pos hb_2, if_neg (fun z => hb_29 z.2.1)]; exact hR), hk⟩
    · obtain rfl := hv9.symm
      show vV _ _ _ _ _ _ _ _ _ _ _ _ _ v 0 0 20 [(0, .ref o), (1, .int x), (2, .int k), (3, .int ch), (4, .int od)] [.int 0]
      refine v_if_eq C 48 d_M_wish_20 (by decide) (fun _ => ?_) (fun z => absurd (by decide) z)
      refine v_bipush (x := -12) C d_M_wish_48 (by decide) ?_
      exact v_iret C d_M_wish_50 (by first | exact Nat.le_of_ble_eq_true rfl | (show _ ≤ _; omega)) (by first | exact Nat.le_of_ble_eq_true rfl | (show _ ≤ _; omega)) ⟨(by rw [i64_toInt] at hb_17; rw [oWish, if_pos hb_2, if_neg (fun z => hb_17 z.1)] <;> (try rfl)), (by rw [i64_toInt] at hb_17; rw [oWish, if_pos hb_2, if_neg (fun z => hb_17 z.1)]; exact hR), hk⟩
  · obtain rfl := hv9.symm
    show vV _ _ _ _ _ _ _ _ _ _ _ _ _ v 0 0 5 [(0, .ref o), (1, .int x), (2, .int k), (3, .int ch), (4, .int od)] [.int 0]
    refine v_if_ne C 11 d_M_wish_5 (by decide) (fun z => absurd (by decide) z) (fun _ => ?_)
    refine v_bipush (x := -11) C d_M_wish_8 (by decide) ?_
    exact v_iret C d_M_wish_10 (by first | exact Nat.le_of_ble_eq_true rfl | (show _ ≤ _; omega)) (by first | exact Nat.le_of_ble_eq_true rfl | (show _ ≤ _; omega)) ⟨(by  rw [oWish, if_neg hb_2] <;> (try rfl)), (by  rw [oWish, if_neg hb_2]; exact hR), hk⟩
