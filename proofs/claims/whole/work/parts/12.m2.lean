abbrev zE (k : Int32) : Prop := k = 5 ∨ k = 6
def zended (S : zS) (x it : Int32) : Int32 := match zpf S x it (zc S 2) with
  | none => 0
  | some j => zi S 21 j
def zendS (S : zS) (x it k : Int32) : zS := if zE k then zui (zkeep S x it) 21 (zkix S x it) 1 else S
def oEvent (S : zS) (x it k : Int32) (t : Int64) : Int32 × zS :=
  if zIn x 1 (zc S 0) then (if zIn it 1 9999 ∧ zIn k 0 7 ∧ zTm S t then (if zended S x it = 0 then (if (0 < zwn S (32 * zn x + 4 * zn k) 4 ∧ zc S 1 = 200) ∨ (zE k ∧ zpf S x it (zc S 2) = none ∧ zc S 2 = 60) then (-14, S) else (if 0 < zwn S (32 * zn x + 4 * zn k) 4 then (nI (zc S 1 + 1), zput (zendS S x it k) x it k t (-1) 0) else (0, zendS S x it k))) else (0, S)) else (-12, S)) else (-11, S)
def zlast (S : zS) (x it : Int32) : Int32 := match zpf S x it (zc S 2) with
  | none => 0
  | some j => zi S 22 j
def oProm (S : zS) (x it : Int32) (w b : Int64) : Int32 × zS :=
  if zIn x 1 (zc S 0) then (if zIn it 1 9999 ∧ (0 ≤ w.toInt ∧ w.toInt ≤ 1000000000) ∧ (0 ≤ b.toInt ∧ b.toInt ≤ 1000000) then (if zended S x it = 0 ∧ ¬ zwn S (32 * zn x + 4 * 3) 4 = 0 then
    (if 0 < (zlast S x it).toInt ∧ (-b).toInt ≤ (w - zl S 14 (zn (zlast S x it))).toInt ∧ (w - zl S 14 (zn (zlast S x it))).toInt ≤ b.toInt then (0, S)
     else (if 0 < (zlast S x it).toInt ∧ zi S 15 (zn (zlast S x it)) = 0 then (zlast S x it, zul S 14 (zn (zlast S x it)) w)
     else (if zc S 1 = 200 ∨ (zpf S x it (zc S 2) = none ∧ zc S 2 = 60) then (-14, S)
     else (nI (zc S 1 + 1), zui (zkeep (zput S x it 3 (zl S 0 0) w 0) x it) 22 (zkix S x it) (nI (zc S 1 + 1))))))
   else (0, S)) else (-12, S)) else (-11, S)
/-- the state is in order, as the reference keeps it -/
def zB (S : zS) : Prop := zc S 0 ≤ 40 ∧ zc S 1 ≤ 200 ∧ zc S 2 ≤ 60 ∧ (∀ j, j < zc S 2 → ∃ n, n ≤ zc S 1 ∧ zi S 22 j = nI n)
theorem zkeep_c1 (S : zS) (x it : Int32) : zc (zkeep S x it) 1 = zc S 1 := by
  unfold zkeep; split <;> rfl
theorem zkix_n {S : zS} {x it : Int32} (h : zpf S x it (zc S 2) = none) : zkix S x it = zc S 2 := by unfold zkix; rw [h]
theorem zkix_s {S : zS} {x it : Int32} {j : Nat} (h : zpf S x it (zc S 2) = some j) : zkix S x it = j := by unfold zkix; rw [h]
set_option maxHeartbeats 4000000 in
set_option maxRecDepth 100000 in
theorem c_M_quiet (l : Launch) (G : vv_G) (v : vv_V) (o : Nat) (ad : Nat → Nat) (S : zS) (x a b : Int32) (hR : RM G v o ad S) (hB : zc S 0 ≤ 40) : Mv l y_M_quiet b_M_quiet 4 (some FieldType.int) 2 46 G v [.ref o, .int x, .int a, .int b] (fun r v' => r = some (.int (oQuiet S x a b).1) ∧ RM G v' o ad (oQuiet S x a b).2 ∧ vkeep (mX o ad) v v') 0 0 := by
  refine vv_metF (own := "CustomerNoticesModel") (nm := "quiet") pf_M_quiet rfl rfl (Nat.le_of_ble_eq_true rfl) ?_
  intro p e s m below meth c C hin
  have hk : vkeep (mX o ad) v v := vkeep.rf
  show vV _ _ _ _ _ _ _ _ _ _ _ _ _ v 0 0 0 [(0, .ref o), (1, .int x), (2, .int a), (3, .int b)] []
  refine v_aload_n C 0 d_M_quiet_0 rfl rfl ?_
  refine v_iload_n C 1 d_M_quiet_1 rfl rfl ?_
  refine v_callV (rest := []) C (c_M_isCustomer l G v o ad S x hR (by omega)) tw_598 tw_34 tw_595 tw_597 tw_19 mn_M_isCustomer hR.1 k_M.1 ⟨Nat.le_of_ble_eq_true rfl, Nat.le_of_ble_eq_true rfl⟩ rfl rfl (Nat.le_of_ble_eq_true rfl) d_M_quiet_2 ⟨(by first | exact Nat.le_of_ble_eq_true rfl | (show _ ≤ _; omega)), (by first | exact Nat.le_of_ble_eq_true rfl | (show _ ≤ _; omega))⟩ (fun r_1 v_2 hp_3 => ?_)
  rcases hp_3 with ⟨rfl, hv9, hb_2⟩ | ⟨rfl, hv9, hb_2⟩
  · obtain rfl := hv9.symm
    show vV _ _ _ _ _ _ _ _ _ _ _ _ _ v 0 0 5 [(0, .ref o), (1, .int x), (2, .int a), (3, .int b)] [.int 1]
    refine v_if_ne C 11 d_M_quiet_5 (by decide) (fun _ => ?_) (fun z => absurd z (by decide))
    refine v_iload_n C 2 d_M_quiet_11 rfl rfl ?_
    refine v_i2l (y := (Int32.toInt64 a)) C d_M_quiet_12 rfl ?_
    refine v_lconst (x := 0) C d_M_quiet_13 (by decide) ?_
    refine v_ldc2 (x := 1439) C d_M_quiet_14 tw_609 ?_
    refine v_callS (rest := []) C (c_M_isIn l G v (Int32.toInt64 a) 0 1439) tw_588 tw_34 tw_586 tw_587 mn_M_isIn ⟨Nat.le_of_ble_eq_true rfl, Nat.le_of_ble_eq_true rfl⟩ rfl rfl (Nat.le_of_ble_eq_true rfl) d_M_quiet_17 ⟨(by first | exact Nat.le_of_ble_eq_true rfl | (show _ ≤ _; omega)), (by first | exact Nat.le_of_ble_eq_true rfl | (show _ ≤ _; omega))⟩ (fun r_4 v_5 hp_6 => ?_)
    rcases hp_6 with ⟨rfl, hv9, hb_17⟩ | ⟨rfl, hv9, hb_17⟩
    · obtain rfl := hv9.symm
      show vV _ _ _ _ _ _ _ _ _ _ _ _ _ v 0 0 20 [(0, .ref o), (1, .int x), (2, .int a), (3, .int b)] [.int 1]
      refine v_if_eq C 35 d_M_quiet_20 (by decide) (fun z => absurd z (by decide)) (fun _ => ?_)
      refine v_iload_n C 3 d_M_quiet_23 rfl rfl ?_
      refine v_i2l (y := (Int32.toInt64 b)) C d_M_quiet_24 rfl ?_
      refine v_lconst (x := 0) C d_M_quiet_25 (by decide) ?_
      refine v_ldc2 (x := 1439) C d_M_quiet_26 tw_609 ?_
      refine v_callS (rest := []) C (c_M_isIn l G v (Int32.toInt64 b) 0 1439) tw_588 tw_34 tw_586 tw_587 mn_M_isIn ⟨Nat.le_of_ble_eq_true rfl, Nat.le_of_ble_eq_true rfl⟩ rfl rfl (Nat.le_of_ble_eq_true rfl) d_M_quiet_29 ⟨(by first | exact Nat.le_of_ble_eq_true rfl | (show _ ≤ _; omega)), (by first | exact Nat.le_of_ble_eq_true rfl | (show _ ≤ _; omega))⟩ (fun r_7 v_8 hp_9 => ?_)
      rcases hp_9 with ⟨rfl, hv9, hb_29⟩ | ⟨rfl, hv9, hb_29⟩
      · obtain rfl := hv9.symm
        show vV _ _ _ _ _ _ _ _ _ _ _ _ _ v 0 0 32 [(0, .ref o), (1, .int x), (2, .int a), (3, .int b)] [.int 1]
        refine v_if_ne C 38 d_M_quiet_32 (by decide) (fun _ => ?_) (fun z => absurd z (by decide))
        have hx0 := hb_2
        rw [i64_toInt] at hb_17 hb_29
        obtain ⟨cu, rfl, hcu1, hcu2, hcu3⟩ := zIn_nI (a := 1) (b := zc S 0) hx0
        refine v_aload_n C 0 d_M_quiet_38 rfl rfl ?_
        refine v_get C k_M hR.1 6 (by decide) tw_489 (fun _ h => h) rfl d_M_quiet_39 ?_
        refine v_iload_n C 1 d_M_quiet_42 rfl rfl ?_
        refine v_iload_n C 2 d_M_quiet_43 rfl rfl ?_
        refine v_iastN C (hR.oi (f := 6) (by decide)) (by show _ < 41; omega) (by decide) d_M_quiet_44 ?_
        refine v_view (fun v1 ev1 => ?_)
        obtain ⟨S_10, eS_10⟩ : ∃ z, z = zui S 6 cu a := ⟨_, rfl⟩
        have hR_10 : RM G v1 o ad S_10 := by rw [eS_10]; exact (by rw [ev1]; exact hR.puti 6 (by decide) cu a)
        have hk_10 : vkeep (mX o ad) v v1 := by rw [ev1]; exact hk.up (mX_f (by decide))
        refine v_aload_n C 0 d_M_quiet_45 rfl rfl ?_
        refine v_get C k_M hR_10.1 7 (by decide) tw_490 (fun _ h => h) rfl d_M_quiet_46 ?_
        refine v_iload_n C 1 d_M_quiet_49 rfl rfl ?_
        refine v_iload_n C 3 d_M_quiet_50 rfl rfl ?_
        refine v_iastN C (hR_10.oi (f := 7) (by decide)) (by show _ < 41; omega) (by decide) d_M_quiet_51 ?_
        refine v_view (fun v2 ev2 => ?_)
        obtain ⟨S_11, eS_11⟩ : ∃ z, z = zui S_10 7 cu b := ⟨_, rfl⟩
        have hR_11 : RM G v2 o ad S_11 := by rw [eS_11]; exact (by rw [ev2]; exact hR_10.puti 7 (by decide) cu b)
        have hk_11 : vkeep (mX o ad) v v2 := by rw [ev2]; exact hk_10.up (mX_f (by decide))
        refine v_iload_n C 3 d_M_quiet_52 rfl rfl ?_
        refine v_iload_n C 2 d_M_quiet_53 rfl rfl ?_
        refine v_isub C d_M_quiet_54 ?_
        refine v_sipush (x := 1440) C d_M_quiet_55 (by decide) ?_
        refine v_iadd C d_M_quiet_58 ?_
        refine v_sipush (x := 1440) C d_M_quiet_59 (by decide) ?_
        refine v_irem C d_M_quiet_62 (by decide) ?_
        exact v_iret C d_M_quiet_63 (by first | exact Nat.le_of_ble_eq_true rfl | (show _ ≤ _; omega)) (by first | exact Nat.le_of_ble_eq_true rfl | (show _ ≤ _; omega)) ⟨(by  rw [oQuiet, if_pos hx0, if_pos ⟨hb_17, hb_29⟩, zn_nI hcu3] <;> (try rfl)), (by  rw [oQuiet, if_pos hx0, if_pos ⟨hb_17, hb_29⟩, zn_nI hcu3]; subst eS_10 eS_11; exact hR_11), hk_11⟩
      · obtain rfl := hv9.symm
        show vV _ _ _ _ _ _ _ _ _ _ _ _ _ v 0 0 32 [(0, .ref o), (1, .int x), (2, .int a), (3, .int b)] [.int 0]
        refine v_if_ne C 38 d_M_quiet_32 (by decide) (fun z => absurd (by decide) z) (fun _ => ?_)
        refine v_bipush (x := -12) C d_M_quiet_35 (by decide) ?_
        exact v_iret C d_M_quiet_37 (by first | exact Nat.le_of_ble_eq_true rfl | (show _ ≤ _; omega)) (by first | exact Nat.le_of_ble_eq_true rfl | (show _ ≤ _; omega)) ⟨(by rw [i64_toInt] at hb_17; rw [i64_toInt] at hb_29; rw [oQuiet, if_pos hb_2, if_neg (fun z => hb_29 z.2)] <;> (try rfl)), (by rw [i64_toInt] at hb_17; rw [i64_toInt] at hb_29; rw [oQuiet, if_pos hb_2, if_neg (fun z => hb_29 z.2)]; exact hR), hk⟩
    · obtain rfl := hv9.symm
      show vV _ _ _ _ _ _ _ _ _ _ _ _ _ v 0 0 20 [(0, .ref o), (1, .int x), (2, .int a), (3, .int b)] [.int 0]
      refine v_if_eq C 35 d_M_quiet_20 (by decide) (fun _ => ?_) (fun z => absurd (by decide) z)
      refine v_bipush (x := -12) C d_M_quiet_35 (by decide) ?_
      exact v_iret C d_M_quiet_37 (by first | exact Nat.le_of_ble_eq_true rfl | (show _ ≤ _; omega)) (by first | exact Nat.le_of_ble_eq_true rfl | (show _ ≤ _; omega)) ⟨(by rw [i64_toInt] at hb_17; rw [oQuiet, if_pos hb_2, if_neg (fun z => hb_17 z.1)] <;> (try rfl)), (by rw [i64_toInt] at hb_17; rw [oQuiet, if_pos hb_2, if_neg (fun z => hb_17 z.1)]; exact hR), hk⟩
  · obtain rfl := hv9.symm
    show vV _ _ _ _ _ _ _ _ _ _ _ _ _ v 0 0 5 [(0, .ref o), (1, .int x), (2, .int a), (3, .int b)] [.int 0]
    refine v_if_ne C 11 d_M_quiet_5 (by decide) (fun z => absurd (by decide) z) (fun _ => ?_)
    refine v_bipush (x := -11) C d_M_quiet_8 (by decide) ?_
    exact v_iret C d_M_quiet_10 (by first | exact Nat.le_of_ble_eq_true rfl | (show _ ≤ _; omega)) (by first | exact Nat.le_of_ble_eq_true rfl | (show _ ≤ _; omega)) ⟨(by  rw [oQuiet, if_neg hb_2] <;> (try rfl)), (by  rw [oQuiet, if_neg hb_2]; exact hR), hk⟩
set_option maxHeartbeats 4000000 in
set_option maxRecDepth 100000 in
theorem c_M_join (l : Launch) (G : vv_G) (v : vv_V) (o : Nat) (ad : Nat → Nat) (S : zS) (a : Int32) (hR : RM G v o ad S) : Mv l y_M_join b_M_join 3 (some FieldType.int) 1 25 G v [.ref o, .int a] (fun r v' => r = some (.int (oJoin S a).1) ∧ RM G v' o ad (oJoin S a).2 ∧ vkeep (mX o ad) v v') 0 0 := by
  refine vv_metF (own := "CustomerNoticesModel") (nm := "join") pf_M_join rfl rfl (Nat.le_of_ble_eq_true rfl) ?_
  intro p e s m below meth c C hin
  have hk : vkeep (mX o ad) v v := vkeep.rf
  show vV _ _ _ _ _ _ _ _ _ _ _ _ _ v 0 0 0 [(0, .ref o), (1, .int a)] []
  refine v_iload_n C 1 d_M_join_0 rfl rfl ?_
  refine v_i2l (y := (Int32.toInt64 a)) C d_M_join_1 rfl ?_
  refine v_lconst (x := 0) C d_M_join_2 (by decide) ?_
  refine v_ldc2 (x := 1440) C d_M_join_3 tw_651 ?_
  refine v_callS (rest := []) C (c_M_isIn l G v (Int32.toInt64 a) 0 1440) tw_588 tw_34 tw_586 tw_587 mn_M_isIn ⟨Nat.le_of_ble_eq_true rfl, Nat.le_of_ble_eq_true rfl⟩ rfl rfl (Nat.le_of_ble_eq_true rfl) d_M_join_6 ⟨(by first | exact Nat.le_of_ble_eq_true rfl | (show _ ≤ _; omega)), (by first | exact Nat.le_of_ble_eq_true rfl | (show _ ≤ _; omega))⟩ (fun r_1 v_2 hp_3 => ?_)
  rcases hp_3 with ⟨rfl, hv9, hb_6⟩ | ⟨rfl, hv9, hb_6⟩
  · obtain rfl := hv9.symm
    show vV _ _ _ _ _ _ _ _ _ _ _ _ _ v 0 0 9 [(0, .ref o), (1, .int a)] [.int 1]
    refine v_if_ne C 15 d_M_join_9 (by decide) (fun _ => ?_) (fun z => absurd z (by decide))
    refine v_aload_n C 0 d_M_join_15 rfl rfl ?_
    refine v_get C k_M hR.1 1 (by decide) tw_484 (fun _ h => h) rfl d_M_join_16 ?_
    refine v_istore_n (lv' := [(2, .int (zi S 1 0)), (0, .ref o), (1, .int a)]) C d_M_join_19 rfl (by decide) rfl ?_
    refine v_aload_n C 1 d_M_join_20 rfl rfl ?_
    refine v_iload_n C 2 d_M_join_21 rfl rfl ?_
    refine v_put C k_M hR.1 1 (by decide) tw_484 (fun _ h => h) rfl rfl rfl (Nat.le_of_ble_eq_true rfl) d_M_join_22 ?_
    refine v_view (fun v1 ev1 => ?_)
    obtain ⟨S_4, eS_4⟩ : ∃ z, z = zui S 1 0 a := ⟨_, rfl⟩
    have hR_4 : RM G v1 o ad S_4 := by rw [eS_4]; exact (by rw [ev1]; exact hR.puts rfl (fun f hf => zi_updn (fun z => by subst z; revert hf; decide)) (fun f hf => rfl))
    have hk_4 : vkeep (mX o ad) v v1 := by rw [ev1]; exact hk.up mX_o
    refine v_iload_n C 0 d_M_join_25 rfl rfl ?_
    exact v_iret C d_M_join_26 (by first | exact Nat.le_of_ble_eq_true rfl | (show _ ≤ _; omega)) (by first | exact Nat.le_of_ble_eq_true rfl | (show _ ≤ _; omega)) ⟨(by rw [i64_toInt] at hb_6; rw [oJoin, if_pos (show zIn a 0 1440 from hb_6)] <;> (try rfl)), (by rw [i64_toInt] at hb_6; rw [oJoin, if_pos (show zIn a 0 1440 from hb_6)]; subst eS_4; exact hR_4), hk_4⟩
  · obtain rfl := hv9.symm
    show vV _ _ _ _ _ _ _ _ _ _ _ _ _ v 0 0 9 [(0, .ref o), (1, .int a)] [.int 0]
    refine v_if_ne C 15 d_M_join_9 (by decide) (fun z => absurd (by decide) z) (fun _ => ?_)
    refine v_bipush (x := -12) C d_M_join_12 (by decide) ?_
    exact v_iret C d_M_join_14 (by first | exact Nat.le_of_ble_eq_true rfl | (show _ ≤ _; omega)) (by first | exact Nat.le_of_ble_eq_true rfl | (show _ ≤ _; omega)) ⟨(by rw [i64_toInt] at hb_6; rw [oJoin, if_neg (show ¬ zIn a 0 1440 from hb_6)] <;> (try rfl)), (by rw [i64_toInt] at hb_6; rw [oJoin, if_neg (show ¬ zIn a 0 1440 from hb_6)]; exact hR), hk⟩
set_option maxHeartbeats 4000000 in
set_option maxRecDepth 100000 in
theorem c_M_works (l : Launch) (G : vv_G) (v : vv_V) (o : Nat) (ad : Nat → Nat) (S : zS) (ch on : Int32) (hR : RM G v o ad S) (hZ2 : ∀ j, j < 4 → zi S 2 j = 0 ∨ zi S 2 j = 1) (hon : on = 0 ∨ on = 1) : Mv l y_M_works b_M_works 4 (some FieldType.boolean) 1 25 G v [.ref o, .int ch, .int on] (fun r v' => r = some (.int (oWorks S ch on).1) ∧ RM G v' o ad (oWorks S ch on).2 ∧ vkeep (mX o ad) v v') 0 0 := by
  refine vv_metF (own := "CustomerNoticesModel") (nm := "works") pf_M_works rfl rfl (Nat.le_of_ble_eq_true rfl) ?_
  intro p e s m below meth c C hin
  have hk : vkeep (mX o ad) v v := vkeep.rf
  show vV _ _ _ _ _ _ _ _ _ _ _ _ _ v 0 0 0 [(0, .ref o), (1, .int ch), (2, .int on)] []
  refine v_iload_n C 1 d_M_works_0 rfl rfl ?_
  refine v_i2l (y := (Int32.toInt64 ch)) C d_M_works_1 rfl ?_
  refine v_lconst (x := 0) C d_M_works_2 (by decide) ?_
  refine v_ldc2 (x := 3) C d_M_works_3 tw_600 ?_
  refine v_callS (rest := []) C (c_M_isIn l G v (Int32.toInt64 ch) 0 3) tw_588 tw_34 tw_586 tw_587 mn_M_isIn ⟨Nat.le_of_ble_eq_true rfl, Nat.le_of_ble_eq_true rfl⟩ rfl rfl (Nat.le_of_ble_eq_true rfl) d_M_works_6 ⟨(by first | exact Nat.le_of_ble_eq_true rfl | (show _ ≤ _; omega)), (by first | exact Nat.le_of_ble_eq_true rfl | (show _ ≤ _; omega))⟩ (fun r_1 v_2 hp_3 => ?_)
  rcases hp_3 with ⟨rfl, hv9, hb_6⟩ | ⟨rfl, hv9, hb_6⟩
  · obtain rfl := hv9.symm
    show vV _ _ _ _ _ _ _ _ _ _ _ _ _ v 0 0 9 [(0, .ref o), (1, .int ch), (2, .int on)] [.int 1]
    refine v_if_ne C 14 d_M_works_9 (by decide) (fun _ => ?_) (fun z => absurd z (by decide))
    rw [i64_toInt] at hb_6
    have hx0 : zIn ch 0 3 := hb_6
    obtain ⟨cn, rfl, hcn1, hcn2, hcn3⟩ := zIn_nI (a := 0) (b := 3) hx0
    have hz2 := hZ2 cn (by omega)
    refine v_aload_n C 0 d_M_works_14 rfl rfl ?_
    refine v_get C k_M hR.1 2 (by decide) tw_485 (fun _ h => h) rfl d_M_works_15 ?_
    refine v_iload_n C 1 d_M_works_18 rfl rfl ?_
    refine v_zaldN C (hR.oz (f := 2) (by decide)) (by show _ < 4; omega) (by decide) d_M_works_19 ?_
    refine v_if_ne C 27 d_M_works_20 (by decide) (fun c_20 => ?_) (fun c_20 => ?_)
    · refine v_iconst (x := 0) C d_M_works_27 (by decide) ?_
      refine v_istore_n (lv' := [(3, .int 0), (0, .ref o), (1, .int (nI cn)), (2, .int on)]) C d_M_works_28 rfl (by decide) rfl ?_
      refine v_aload_n C 1 d_M_works_29 rfl rfl ?_
      refine v_get C k_M hR.1 2 (by decide) tw_485 (fun _ h => h) rfl d_M_works_30 ?_
      refine v_iload_n C 2 d_M_works_33 rfl rfl ?_
      refine v_iload_n C 3 d_M_works_34 rfl rfl ?_
      refine v_if_ne C 42 d_M_works_35 (by decide) (fun c_35 => ?_) (fun c_35 => ?_)
      · refine v_iconst (x := 0) C d_M_works_42 (by decide) ?_
        refine v_zastN C (hR.oz (f := 2) (by decide)) (by show _ < 4; omega) (by decide) d_M_works_43 ?_
        refine v_view (fun v1 ev1 => ?_)
        obtain ⟨S_4, eS_4⟩ : ∃ z, z = zui S 2 cn 0 := ⟨_, rfl⟩
        have hR_4 : RM G v1 o ad S_4 := by rw [eS_4]; exact (by rw [ev1]; exact hR.putz 2 (by decide) cn 0 0 (by decide))
        have hk_4 : vkeep (mX o ad) v v1 := by rw [ev1]; exact hk.up (mX_f (by decide))
        refine v_iload_n C 0 d_M_works_44 rfl rfl ?_
        exact v_zret C d_M_works_45 (by first | exact Nat.le_of_ble_eq_true rfl | (show _ ≤ _; omega)) (by first | exact Nat.le_of_ble_eq_true rfl | (show _ ≤ _; omega)) (by decide) ⟨(by have e1 : zi S 2 cn = 1 := hz2.resolve_left c_20; have e2 : on = 1 := hon.resolve_left c_35; rw [oWorks, if_pos hx0, zn_nI hcn3, e1] <;> (try rfl)), (by have e1 : zi S 2 cn = 1 := hz2.resolve_left c_20; have e2 : on = 1 := hon.resolve_left c_35; rw [oWorks, if_pos hx0, zn_nI hcn3, e2]; subst eS_4; exact hR_4), hk_4⟩
      · refine v_iconst (x := 1) C d_M_works_38 (by decide) ?_
        refine v_goto C 43 d_M_works_39 (by decide) ?_
        refine v_zastN C (hR.oz (f := 2) (by decide)) (by show _ < 4; omega) (by decide) d_M_works_43 ?_
        refine v_view (fun v2 ev2 => ?_)
        obtain ⟨S_5, eS_5⟩ : ∃ z, z = zui S 2 cn 1 := ⟨_, rfl⟩
        have hR_5 : RM G v2 o ad S_5 := by rw [eS_5]; exact (by rw [ev2]; exact hR.putz 2 (by decide) cn 1 1 (by decide))
        have hk_5 : vkeep (mX o ad) v v2 := by rw [ev2]; exact hk.up (mX_f (by decide))
        refine v_iload_n C 0 d_M_works_44 rfl rfl ?_
        exact v_zret C d_M_works_45 (by first | exact Nat.le_of_ble_eq_true rfl | (show _ ≤ _; omega)) (by first | exact Nat.le_of_ble_eq_true rfl | (show _ ≤ _; omega)) (by decide) ⟨(by have e1 : zi S 2 cn = 1 := hz2.resolve_left c_20; have e2 : on = 0 := c_35; rw [oWorks, if_pos hx0, zn_nI hcn3, e1] <;> (try rfl)), (by have e1 : zi S 2 cn = 1 := hz2.resolve_left c_20; have e2 : on = 0 := c_35; rw [oWorks, if_pos hx0, zn_nI hcn3, e2]; subst eS_5; exact hR_5), hk_5⟩
    · refine v_iconst (x := 1) C d_M_works_23 (by decide) ?_
      refine v_goto C 28 d_M_works_24 (by decide) ?_
      refine v_istore_n (lv' := [(3, .int 1), (0, .ref o), (1, .int (nI cn)), (2, .int on)]) C d_M_works_28 rfl (by decide) rfl ?_
      refine v_aload_n C 1 d_M_works_29 rfl rfl ?_
      refine v_get C k_M hR.1 2 (by decide) tw_485 (fun _ h => h) rfl d_M_works_30 ?_
      refine v_iload_n C 2 d_M_works_33 rfl rfl ?_
      refine v_iload_n C 3 d_M_works_34 rfl rfl ?_
      refine v_if_ne C 42 d_M_works_35 (by decide) (fun c_35 => ?_) (fun c_35 => ?_)
      · refine v_iconst (x := 0) C d_M_works_42 (by decide) ?_
        refine v_zastN C (hR.oz (f := 2) (by decide)) (by show _ < 4; omega) (by decide) d_M_works_43 ?_
        refine v_view (fun v3 ev3 => ?_)
        obtain ⟨S_6, eS_6⟩ : ∃ z, z = zui S 2 cn 0 := ⟨_, rfl⟩
        have hR_6 : RM G v3 o ad S_6 := by rw [eS_6]; exact (by rw [ev3]; exact hR.putz 2 (by decide) cn 0 0 (by decide))
        have hk_6 : vkeep (mX o ad) v v3 := by rw [ev3]; exact hk.up (mX_f (by decide))
        refine v_iload_n C 0 d_M_works_44 rfl rfl ?_
        exact v_zret C d_M_works_45 (by first | exact Nat.le_of_ble_eq_true rfl | (show _ ≤ _; omega)) (by first | exact Nat.le_of_ble_eq_true rfl | (show _ ≤ _; omega)) (by decide) ⟨(by have e1 : zi S 2 cn = 0 := c_20; have e2 : on = 1 := hon.resolve_left c_35; rw [oWorks, if_pos hx0, zn_nI hcn3, e1] <;> (try rfl)), (by have e1 : zi S 2 cn = 0 := c_20; have e2 : on = 1 := hon.resolve_left c_35; rw [oWorks, if_pos hx0, zn_nI hcn3, e2]; subst eS_6; exact hR_6), hk_6⟩
      · refine v_iconst (x := 1) C d_M_works_38 (by decide) ?_
        refine v_goto C 43 d_M_works_39 (by decide) ?_
        refine v_zastN C (hR.oz (f := 2) (by decide)) (by show _ < 4; omega) (by decide) d_M_works_43 ?_
        refine v_view (fun v4 ev4 => ?_)
        obtain ⟨S_7, eS_7⟩ : ∃ z, z = zui S 2 cn 1 := ⟨_, rfl⟩
        have hR_7 : RM G v4 o ad S_7 := by rw [eS_7]; exact (by rw [ev4]; exact hR.putz 2 (by decide) cn 1 1 (by decide))
        have hk_7 : vkeep (mX o ad) v v4 := by rw [ev4]; exact hk.up (mX_f (by decide))
        refine v_iload_n C 0 d_M_works_44 rfl rfl ?_
        exact v_zret C d_M_works_45 (by first | exact Nat.le_of_ble_eq_true rfl | (show _ ≤ _; omega)) (by first | exact Nat.le_of_ble_eq_true rfl | (show _ ≤ _; omega)) (by decide) ⟨(by have e1 : zi S 2 cn = 0 := c_20; have e2 : on = 0 := c_35; rw [oWorks, if_pos hx0, zn_nI hcn3, e1] <;> (try rfl)), (by have e1 : zi S 2 cn = 0 := c_20; have e2 : on = 0 := c_35; rw [oWorks, if_pos hx0, zn_nI hcn3, e2]; subst eS_7; exact hR_7), hk_7⟩
  · obtain rfl := hv9.symm
    show vV _ _ _ _ _ _ _ _ _ _ _ _ _ v 0 0 9 [(0, .ref o), (1, .int ch), (2, .int on)] [.int 0]
    refine v_if_ne C 14 d_M_works_9 (by decide) (fun z => absurd (by decide) z) (fun _ => ?_)
    refine v_iconst (x := 0) C d_M_works_12 (by decide) ?_
    exact v_zret C d_M_works_13 (by first | exact Nat.le_of_ble_eq_true rfl | (show _ ≤ _; omega)) (by first | exact Nat.le_of_ble_eq_true rfl | (show _ ≤ _; omega)) (by decide) ⟨(by rw [i64_toInt] at hb_6; rw [oWorks, if_neg (show ¬ zIn ch 0 3 from hb_6)] <;> (try rfl)), (by rw [i64_toInt] at hb_6; rw [oWorks, if_neg (show ¬ zIn ch 0 3 from hb_6)]; exact hR), hk⟩
set_option maxHeartbeats 4000000 in
set_option maxRecDepth 100000 in
theorem c_M_failed (l : Launch) (G : vv_G) (v : vv_V) (o : Nat) (ad : Nat → Nat) (S : zS) (i : Int32) (hR : RM G v o ad S) (hB : zc S 4 ≤ 200) : Mv l y_M_failed b_M_failed 2 (some FieldType.int) 1 25 G v [.ref o, .int i] (fun r v' => r = some (.int (oFail S i).1) ∧ RM G v' o ad (oFail S i).2 ∧ vkeep (mX o ad) v v') 0 0 := by
  refine vv_metF (own := "CustomerNoticesModel") (nm := "failed") pf_M_failed rfl rfl (Nat.le_of_ble_eq_true rfl) ?_
  intro p e s m below meth c C hin
  have hk : vkeep (mX o ad) v v := vkeep.rf
  show vV _ _ _ _ _ _ _ _ _ _ _ _ _ v 0 0 0 [(0, .ref o), (1, .int i)] []
  refine v_iload_n C 1 d_M_failed_0 rfl rfl ?_
  refine v_i2l (y := (Int32.toInt64 i)) C d_M_failed_1 rfl ?_
  refine v_lconst (x := 0) C d_M_failed_2 (by decide) ?_
  refine v_aload_n C 0 d_M_failed_3 rfl rfl ?_
  refine v_get C k_M hR.1 28 (by decide) tw_511 (fun _ h => h) rfl d_M_failed_4 ?_
  refine v_iconst (x := 1) C d_M_failed_7 (by decide) ?_
  refine v_isub C d_M_failed_8 ?_
  refine v_i2l (y := (Int32.toInt64 ((nI (zc S 4)) - 1))) C d_M_failed_9 rfl ?_
  refine v_callS (rest := []) C (c_M_isIn l G v (Int32.toInt64 i) 0 (Int32.toInt64 ((nI (zc S 4)) - 1))) tw_588 tw_34 tw_586 tw_587 mn_M_isIn ⟨Nat.le_of_ble_eq_true rfl, Nat.le_of_ble_eq_true rfl⟩ rfl rfl (Nat.le_of_ble_eq_true rfl) d_M_failed_10 ⟨(by first | exact Nat.le_of_ble_eq_true rfl | (show _ ≤ _; omega)), (by first | exact Nat.le_of_ble_eq_true rfl | (show _ ≤ _; omega))⟩ (fun r_1 v_2 hp_3 => ?_)
  rcases hp_3 with ⟨rfl, hv9, hb_10⟩ | ⟨rfl, hv9, hb_10⟩
  · obtain rfl := hv9.symm
    show vV _ _ _ _ _ _ _ _ _ _ _ _ _ v 0 0 13 [(0, .ref o), (1, .int i)] [.int 1]
    refine v_if_eq C 25 d_M_failed_13 (by decide) (fun z => absurd z (by decide)) (fun _ => ?_)
    have e1 : ((nI (zc S 4) - 1 : Int32)).toInt = (zc S 4 : Int) - 1 := pk_sub_toInt (b := 1) (by omega) (by decide)
    rw [i64_toInt, i64_toInt, e1] at hb_10
    have hx0 : zIn i 0 ((zc S 4 : Int) - 1) := hb_10
    obtain ⟨ni, rfl, hn1, hn2, hn3⟩ := zIn_nI (a := 0) (b := zc S 4 - 1) ⟨hx0.1, by have := hx0.1; have := hx0.2; omega⟩
    have hn4 : ni < zc S 4 := by have := hx0.2; rw [nI_toInt hn3] at this; omega
    refine v_aload_n C 0 d_M_failed_16 rfl rfl ?_
    refine v_get C k_M hR.1 29 (by decide) tw_512 (fun _ h => h) rfl d_M_failed_17 ?_
    refine v_iload_n C 1 d_M_failed_20 rfl rfl ?_
    refine v_ialdN C (hR.oi (f := 29) (by decide)) (by show _ < 200; omega) (by decide) d_M_failed_21 ?_
    refine v_goto C 26 d_M_failed_22 (by decide) ?_
    exact v_iret C d_M_failed_26 (by first | exact Nat.le_of_ble_eq_true rfl | (show _ ≤ _; omega)) (by first | exact Nat.le_of_ble_eq_true rfl | (show _ ≤ _; omega)) ⟨(by rw [oFail, if_pos hx0, zn_nI hn3]), hR, hk⟩
  · obtain rfl := hv9.symm
    show vV _ _ _ _ _ _ _ _ _ _ _ _ _ v 0 0 13 [(0, .ref o), (1, .int i)] [.int 0]
    refine v_if_eq C 25 d_M_failed_13 (by decide) (fun _ => ?_) (fun z => absurd (by decide) z)
    refine v_iconst (x := -1) C d_M_failed_25 (by decide) ?_
    exact v_iret C d_M_failed_26 (by first | exact Nat.le_of_ble_eq_true rfl | (show _ ≤ _; omega)) (by first | exact Nat.le_of_ble_eq_true rfl | (show _ ≤ _; omega)) ⟨(by have e1 : ((nI (zc S 4) - 1 : Int32)).toInt = (zc S 4 : Int) - 1 := pk_sub_toInt (b := 1) (by omega) (by decide); rw [i64_toInt, i64_toInt, e1] at hb_10; rw [oFail, if_neg (show ¬ zIn i 0 ((zc S 4 : Int) - 1) from hb_10)]), hR, hk⟩
set_option maxHeartbeats 4000000 in
set_option maxRecDepth 100000 in
theorem c_M_put (l : Launch) (G : vv_G) (v : vv_V) (o : Nat) (ad : Nat → Nat) (S : zS) (x it k : Int32) (t w : Int64) (cr : Int32) (hR : RM G v o ad S) (hB : zc S 1 < 200) (hcr : cr = 0 ∨ cr = 1) : Mv l y_M_put b_M_put 9 (some FieldType.int) 0 0 G v [.ref o, .int x, .int it, .int k, .long t, .long w, .int cr] (fun r v' => r = some (.int (nI (zc S 1 + 1))) ∧ RM G v' o ad (zput S x it k t w cr) ∧ vkeep (mX o ad) v v') 0 0 := by
  refine vv_metF (own := "CustomerNoticesModel") (nm := "put") pf_M_put rfl rfl (Nat.le_of_ble_eq_true rfl) ?_
  intro p e s m below meth c C hin
  have hk : vkeep (mX o ad) v v := vkeep.rf
  show vV _ _ _ _ _ _ _ _ _ _ _ _ _ v 0 0 0 [(0, .ref o), (1, .int x), (2, .int it), (3, .int k), (4, .long t), (6, .long w), (8, .int cr)] []
  refine v_aload_n C 0 d_M_put_0 rfl rfl ?_
  refine v_dup C d_M_put_1 rfl ?_
  refine v_get C k_M hR.1 9 (by decide) tw_492 (fun _ h => h) rfl d_M_put_2 ?_
  refine v_iconst (x := 1) C d_M_put_5 (by decide) ?_
  refine v_iadd C d_M_put_6 ?_
  refine v_toi (y := nI ((zc S 1) + 1)) (nI_add (zc S 1) 1) ?_
  refine v_put C k_M hR.1 9 (by decide) tw_492 (fun _ h => h) rfl rfl rfl (Nat.le_of_ble_eq_true rfl) d_M_put_7 ?_
  refine v_view (fun v1 ev1 => ?_)
  obtain ⟨S_1, eS_1⟩ : ∃ z, z = zuc S 1 ((zc S 1) + 1) := ⟨_, rfl⟩
  have hR_1 : RM G v1 o ad S_1 := by rw [eS_1]; exact (by rw [ev1]; exact hR.puts rfl (fun f hf => rfl) (fun f hf => rfl))
  have hk_1 : vkeep (mX o ad) v v1 := by rw [ev1]; exact hk.up mX_o
  refine v_aload_n C 0 d_M_put_10 rfl rfl ?_
  refine v_get C k_M hR_1.1 10 (by decide) tw_493 (fun _ h => h) rfl d_M_put_11 ?_
  refine v_aload_n C 0 d_M_put_14 rfl rfl ?_
  refine v_get C k_M hR_1.1 9 (by decide) tw_492 (fun _ h => h) rfl d_M_put_15 ?_
  refine v_toi (y := nI ((zc S 1) + 1)) (by rw [eS_1]; rfl) ?_
  refine v_iload_n C 1 d_M_put_18 rfl rfl ?_
  refine v_iastN C (hR_1.oi (f := 10) (by decide)) (by show _ < 201; omega) (by decide) d_M_put_19 ?_
  refine v_view (fun v2 ev2 => ?_)
  obtain ⟨S_2, eS_2⟩ : ∃ z, z = zui S_1 10 ((zc S 1) + 1) x := ⟨_, rfl⟩
  have hR_2 : RM G v2 o ad S_2 := by rw [eS_2]; exact (by rw [ev2]; exact hR_1.puti 10 (by decide) ((zc S 1) + 1) x)
  have hk_2 : vkeep (mX o ad) v v2 := by rw [ev2]; exact hk_1.up (mX_f (by decide))
  refine v_aload_n C 0 d_M_put_20 rfl rfl ?_
  refine v_get C k_M hR_2.1 11 (by decide) tw_494 (fun _ h => h) rfl d_M_put_21 ?_
  refine v_aload_n C 0 d_M_put_24 rfl rfl ?_
  refine v_get C k_M hR_2.1 9 (by decide) tw_492 (fun _ h => h) rfl d_M_put_25 ?_
  refine v_toi (y := nI ((zc S 1) + 1)) (by rw [eS_2, eS_1]; rfl) ?_
  refine v_iload_n C 2 d_M_put_28 rfl rfl ?_
  refine v_iastN C (hR_2.oi (f := 11) (by decide)) (by show _ < 201; omega) (by decide) d_M_put_29 ?_
  refine v_view (fun v3 ev3 => ?_)
  obtain ⟨S_3, eS_3⟩ : ∃ z, z = zui S_2 11 ((zc S 1) + 1) it := ⟨_, rfl⟩
  have hR_3 : RM G v3 o ad S_3 := by rw [eS_3]; exact (by rw [ev3]; exact hR_2.puti 11 (by decide) ((zc S 1) + 1) it)
  have hk_3 : vkeep (mX o ad) v v3 := by rw [ev3]; exact hk_2.up (mX_f (by decide))
  refine v_aload_n C 0 d_M_put_30 rfl rfl ?_
  refine v_get C k_M hR_3.1 12 (by decide) tw_495 (fun _ h => h) rfl d_M_put_31 ?_
  refine v_aload_n C 0 d_M_put_34 rfl rfl ?_
  refine v_get C k_M hR_3.1 9 (by decide) tw_492 (fun _ h => h) rfl d_M_put_35 ?_
  refine v_toi (y := nI ((zc S 1) + 1)) (by rw [eS_3, eS_2, eS_1]; rfl) ?_
  refine v_iload_n C 3 d_M_put_38 rfl rfl ?_
  refine v_iastN C (hR_3.oi (f := 12) (by decide)) (by show _ < 201; omega) (by decide) d_M_put_39 ?_
  refine v_view (fun v4 ev4 => ?_)
  obtain ⟨S_4, eS_4⟩ : ∃ z, z = zui S_3 12 ((zc S 1) + 1) k := ⟨_, rfl⟩
  have hR_4 : RM G v4 o ad S_4 := by rw [eS_4]; exact (by rw [ev4]; exact hR_3.puti 12 (by decide) ((zc S 1) + 1) k)
  have hk_4 : vkeep (mX o ad) v v4 := by rw [ev4]; exact hk_3.up (mX_f (by decide))
  refine v_aload_n C 0 d_M_put_40 rfl rfl ?_
  refine v_get C k_M hR_4.1 13 (by decide) tw_496 (fun _ h => h) rfl d_M_put_41 ?_
  refine v_aload_n C 0 d_M_put_44 rfl rfl ?_
  refine v_get C k_M hR_4.1 9 (by decide) tw_492 (fun _ h => h) rfl d_M_put_45 ?_
  refine v_toi (y := nI ((zc S 1) + 1)) (by rw [eS_4, eS_3, eS_2, eS_1]; rfl) ?_
  refine v_lload C 4 d_M_put_48 rfl ?_
  refine v_lastN C (hR_4.ol (f := 13) (by decide)) (by show _ < 201; omega) (by decide) d_M_put_50 ?_
  refine v_view (fun v5 ev5 => ?_)
  obtain ⟨S_5, eS_5⟩ : ∃ z, z = zul S_4 13 ((zc S 1) + 1) t := ⟨_, rfl⟩
  have hR_5 : RM G v5 o ad S_5 := by rw [eS_5]; exact (by rw [ev5]; exact hR_4.putl 13 (by decide) ((zc S 1) + 1) t)
  have hk_5 : vkeep (mX o ad) v v5 := by rw [ev5]; exact hk_4.up (mX_f (by decide))
  refine v_aload_n C 0 d_M_put_51 rfl rfl ?_
  refine v_get C k_M hR_5.1 14 (by decide) tw_497 (fun _ h => h) rfl d_M_put_52 ?_
  refine v_aload_n C 0 d_M_put_55 rfl rfl ?_
  refine v_get C k_M hR_5.1 9 (by decide) tw_492 (fun _ h => h) rfl d_M_put_56 ?_
  refine v_toi (y := nI ((zc S 1) + 1)) (by rw [eS_5, eS_4, eS_3, eS_2, eS_1]; rfl) ?_
  refine v_lload C 5 d_M_put_59 rfl ?_
  refine v_lastN C (hR_5.ol (f := 14) (by decide)) (by show _ < 201; omega) (by decide) d_M_put_61 ?_
  refine v_view (fun v6 ev6 => ?_)
  obtain ⟨S_6, eS_6⟩ : ∃ z, z = zul S_5 14 ((zc S 1) + 1) w := ⟨_, rfl⟩
  have hR_6 : RM G v6 o ad S_6 := by rw [eS_6]; exact (by rw [ev6]; exact hR_5.putl 14 (by decide) ((zc S 1) + 1) w)
  have hk_6 : vkeep (mX o ad) v v6 := by rw [ev6]; exact hk_5.up (mX_f (by decide))
  refine v_aload_n C 0 d_M_put_62 rfl rfl ?_
  refine v_get C k_M hR_6.1 15 (by decide) tw_498 (fun _ h => h) rfl d_M_put_63 ?_
  refine v_aload_n C 0 d_M_put_66 rfl rfl ?_
  refine v_get C k_M hR_6.1 9 (by decide) tw_492 (fun _ h => h) rfl d_M_put_67 ?_
  refine v_toi (y := nI ((zc S 1) + 1)) (by rw [eS_6, eS_5, eS_4, eS_3, eS_2, eS_1]; rfl) ?_
  refine v_iconst (x := 0) C d_M_put_70 (by decide) ?_
  refine v_iastN C (hR_6.oi (f := 15) (by decide)) (by show _ < 201; omega) (by decide) d_M_put_71 ?_
  refine v_view (fun v7 ev7 => ?_)
  obtain ⟨S_7, eS_7⟩ : ∃ z, z = zui S_6 15 ((zc S 1) + 1) 0 := ⟨_, rfl⟩
  have hR_7 : RM G v7 o ad S_7 := by rw [eS_7]; exact (by rw [ev7]; exact hR_6.puti 15 (by decide) ((zc S 1) + 1) 0)
  have hk_7 : vkeep (mX o ad) v v7 := by rw [ev7]; exact hk_6.up (mX_f (by decide))
  refine v_aload_n C 0 d_M_put_72 rfl rfl ?_
  refine v_get C k_M hR_7.1 16 (by decide) tw_499 (fun _ h => h) rfl d_M_put_73 ?_
  refine v_aload_n C 0 d_M_put_76 rfl rfl ?_
  refine v_get C k_M hR_7.1 9 (by decide) tw_492 (fun _ h => h) rfl d_M_put_77 ?_
  refine v_toi (y := nI ((zc S 1) + 1)) (by rw [eS_7, eS_6, eS_5, eS_4, eS_3, eS_2, eS_1]; rfl) ?_
  refine v_iload C 6 d_M_put_80 rfl ?_
  refine v_zastN C (hR_7.oz (f := 16) (by decide)) (by show _ < 201; omega) (by decide) d_M_put_82 ?_
  refine v_view (fun v8 ev8 => ?_)
  obtain ⟨S_8, eS_8⟩ : ∃ z, z = zui S_7 16 ((zc S 1) + 1) cr := ⟨_, rfl⟩
  have hR_8 : RM G v8 o ad S_8 := by rw [eS_8]; exact (by rw [ev8]; exact hR_7.putz 16 (by decide) ((zc S 1) + 1) cr cr (vnar_b (by first | assumption | omega)))
  have hk_8 : vkeep (mX o ad) v v8 := by rw [ev8]; exact hk_7.up (mX_f (by decide))
  refine v_aload_n C 0 d_M_put_83 rfl rfl ?_
  refine v_get C k_M hR_8.1 17 (by decide) tw_500 (fun _ h => h) rfl d_M_put_84 ?_
  refine v_aload_n C 0 d_M_put_87 rfl rfl ?_
  refine v_get C k_M hR_8.1 9 (by decide) tw_492 (fun _ h => h) rfl d_M_put_88 ?_
  refine v_toi (y := nI ((zc S 1) + 1)) (by rw [eS_8, eS_7, eS_6, eS_5, eS_4, eS_3, eS_2, eS_1]; rfl) ?_
  refine v_iconst (x := 0) C d_M_put_91 (by decide) ?_
  refine v_zastN C (hR_8.oz (f := 17) (by decide)) (by show _ < 201; omega) (by decide) d_M_put_92 ?_
  refine v_view (fun v9 ev9 => ?_)
  obtain ⟨S_9, eS_9⟩ : ∃ z, z = zui S_8 17 ((zc S 1) + 1) 0 := ⟨_, rfl⟩
  have hR_9 : RM G v9 o ad S_9 := by rw [eS_9]; exact (by rw [ev9]; exact hR_8.putz 17 (by decide) ((zc S 1) + 1) 0 0 (by decide))
  have hk_9 : vkeep (mX o ad) v v9 := by rw [ev9]; exact hk_8.up (mX_f (by decide))
  refine v_aload_n C 0 d_M_put_93 rfl rfl ?_
  refine v_get C k_M hR_9.1 9 (by decide) tw_492 (fun _ h => h) rfl d_M_put_94 ?_
  refine v_toi (y := nI ((zc S 1) + 1)) (by rw [eS_9, eS_8, eS_7, eS_6, eS_5, eS_4, eS_3, eS_2, eS_1]; rfl) ?_
  exact v_iret C d_M_put_97 (by first | exact Nat.le_of_ble_eq_true rfl | (show _ ≤ _; omega)) (by first | exact Nat.le_of_ble_eq_true rfl | (show _ ≤ _; omega)) ⟨rfl, (by subst eS_1 eS_2 eS_3 eS_4 eS_5 eS_6 eS_7 eS_8 eS_9; exact hR_9), hk_9⟩
set_option maxHeartbeats 4000000 in
set_option maxRecDepth 100000 in
theorem lp_M_pairOf {p : Program} {l : Launch} {e : Env} {R : Room} {s : State} {m : MethodId} {args : Array Value} {below : List Frame} {meth : Method} {c : Code} {Q : State → Prop} {G : vv_G} {o : Nat} {ad : Nat → Nat} {S : zS} {v : vv_V} {kc ks : Nat} {x it : Int32} (C : vC p s m args meth c b_M_pairOf 5 (some FieldType.int) "CustomerNoticesModel" G) (hR : RM G v o ad S) (hB : zc S 2 ≤ 60) (kx : vV p l e R s m args below meth c Q G 5 v kc ks 49 [(4, .int (nI (zc S 2))), (3, .int (zix (zpf S x it (zc S 2)))), (0, .ref o), (1, .int x), (2, .int it)] []) : ∀ (n : Nat) (j : Nat), j ≤ zc S 2 → zc S 2 + 1 ≤ j + n → vV p l e R s m args below meth c Q G 5 v kc ks 5 [(4, .int (nI j)), (3, .int (zix (zpf S x it j))), (0, .ref o), (1, .int x), (2, .int it)] [] := by
  intro n
  induction n with
  | zero => intro j h1 h2; exfalso; omega
  | succ n ih =>
    intro j h1 h2
    refine v_iload C 0 d_M_pairOf_5 rfl ?_
    refine v_aload_n C 2 d_M_pairOf_7 rfl rfl ?_
    refine v_get C k_M hR.1 18 (by decide) tw_501 (fun _ h => h) rfl d_M_pairOf_8 ?_
    refine v_icmp_ge C 49 d_M_pairOf_11 (by decide) (fun c_11 => ?_) (fun c_11 => ?_)
    · have n_11 : (zc S 2) ≤ j := (nI_leI (a := (zc S 2)) (b := j) (by omega) (by omega)).mp c_11
      have hj4 : j = zc S 2 := by omega
      subst hj4
      exact kx
    · have n_11 : ¬ (zc S 2) ≤ j := mt (nI_leI (a := (zc S 2)) (b := j) (by omega) (by omega)).mpr c_11
      refine v_aload_n C 2 d_M_pairOf_14 rfl rfl ?_
      refine v_get C k_M hR.1 19 (by decide) tw_502 (fun _ h => h) rfl d_M_pairOf_15 ?_
      refine v_iload C 0 d_M_pairOf_18 rfl ?_
      refine v_ialdN C (hR.oi (f := 19) (by decide)) (by show _ < 60; omega) (by decide) d_M_pairOf_20 ?_
      refine v_iload_n C 3 d_M_pairOf_21 rfl rfl ?_
      refine v_icmp_ne C 41 d_M_pairOf_22 (by decide) (fun c_22 => ?_) (fun c_22 => ?_)
      · refine v_iload_n C 1 d_M_pairOf_41 rfl rfl ?_
        refine v_toi (y := zix (zpf S x it (j + 1))) (by rw [zpf, if_neg (fun z => c_22 z.1)]) ?_
        refine v_istore_n (lv' := [(3, .int (zix (zpf S x it (j + 1)))), (4, .int (nI j)), (0, .ref o), (1, .int x), (2, .int it)]) C d_M_pairOf_42 rfl (by decide) rfl ?_
        refine v_iinc (y := (nI (j + 1))) (lv' := [(4, .int (nI (j + 1))), (3, .int (zix (zpf S x it (j + 1)))), (0, .ref o), (1, .int x), (2, .int it)]) C 1 d_M_pairOf_43 rfl (nI_1 _) (by decide) rfl ?_
        refine v_goto C 5 d_M_pairOf_46 (by decide) ?_
        refine v_sub [0, 1, 2, 3, 4] rfl ?_
        exact ih (j + 1) (by omega) (by omega)
      · refine v_aload_n C 2 d_M_pairOf_25 rfl rfl ?_
        refine v_get C k_M hR.1 20 (by decide) tw_503 (fun _ h => h) rfl d_M_pairOf_26 ?_
        refine v_iload C 0 d_M_pairOf_29 rfl ?_
        refine v_ialdN C (hR.oi (f := 20) (by decide)) (by show _ < 60; omega) (by decide) d_M_pairOf_31 ?_
        refine v_iload_n C 4 d_M_pairOf_32 rfl rfl ?_
        refine v_icmp_ne C 41 d_M_pairOf_33 (by decide) (fun c_33 => ?_) (fun c_33 => ?_)
        · refine v_iload_n C 1 d_M_pairOf_41 rfl rfl ?_
          refine v_toi (y := zix (zpf S x it (j + 1))) (by rw [zpf, if_neg (fun z => c_33 z.2)]) ?_
          refine v_istore_n (lv' := [(3, .int (zix (zpf S x it (j + 1)))), (4, .int (nI j)), (0, .ref o), (1, .int x), (2, .int it)]) C d_M_pairOf_42 rfl (by decide) rfl ?_
          refine v_iinc (y := (nI (j + 1))) (lv' := [(4, .int (nI (j + 1))), (3, .int (zix (zpf S x it (j + 1)))), (0, .ref o), (1, .int x), (2, .int it)]) C 1 d_M_pairOf_43 rfl (nI_1 _) (by decide) rfl ?_
          refine v_goto C 5 d_M_pairOf_46 (by decide) ?_
          refine v_sub [0, 1, 2, 3, 4] rfl ?_
          exact ih (j + 1) (by omega) (by omega)
        · refine v_iload C 0 d_M_pairOf_36 rfl ?_
          refine v_goto C 42 d_M_pairOf_38 (by decide) ?_
          refine v_toi (y := zix (zpf S x it (j + 1))) (by rw [zpf, if_pos ⟨c_22, c_33⟩]; rfl) ?_
          refine v_istore_n (lv' := [(3, .int (zix (zpf S x it (j + 1)))), (4, .int (nI j)), (0, .ref o), (1, .int x), (2, .int it)]) C d_M_pairOf_42 rfl (by decide) rfl ?_
          refine v_iinc (y := (nI (j + 1))) (lv' := [(4, .int (nI (j + 1))), (3, .int (zix (zpf S x it (j + 1)))), (0, .ref o), (1, .int x), (2, .int it)]) C 1 d_M_pairOf_43 rfl (nI_1 _) (by decide) rfl ?_
          refine v_goto C 5 d_M_pairOf_46 (by decide) ?_
          refine v_sub [0, 1, 2, 3, 4] rfl ?_
          exact ih (j + 1) (by omega) (by omega)
set_option maxHeartbeats 4000000 in
set_option maxRecDepth 100000 in
theorem c_M_pairOf (l : Launch) (G : vv_G) (v : vv_V) (o : Nat) (ad : Nat → Nat) (S : zS) (x it : Int32) (hR : RM G v o ad S) (hB : zc S 2 ≤ 60) : Mv l y_M_pairOf b_M_pairOf 5 (some FieldType.int) 0 0 G v [.ref o, .int x, .int it] (fun r v' => r = some (.int (zix (zpf S x it (zc S 2)))) ∧ v' = v) 0 0 := by
  refine vv_metF (own := "CustomerNoticesModel") (nm := "pairOf") pf_M_pairOf rfl rfl (Nat.le_of_ble_eq_true rfl) ?_
  intro p e s m below meth c C hin
  have hk : vkeep (mX o ad) v v := vkeep.rf
  show vV _ _ _ _ _ _ _ _ _ _ _ _ _ v 0 0 0 [(0, .ref o), (1, .int x), (2, .int it)] []
  refine v_iconst (x := -1) C d_M_pairOf_0 (by decide) ?_
  refine v_istore_n (lv' := [(3, .int (-1)), (0, .ref o), (1, .int x), (2, .int it)]) C d_M_pairOf_1 rfl (by decide) rfl ?_
  refine v_iconst (x := 0) C d_M_pairOf_2 (by decide) ?_
  refine v_istore (lv' := [(4, .int 0), (3, .int (-1)), (0, .ref o), (1, .int x), (2, .int it)]) C d_M_pairOf_3 (by decide) rfl ?_
  refine v_sub [0, 1, 2, 3, 4] rfl ?_
  refine lp_M_pairOf C hR hB ?_ (zc S 2 + 1) 0 (by omega) (by omega)
  refine v_iload_n C 1 d_M_pairOf_49 rfl rfl ?_
  exact v_iret C d_M_pairOf_50 (by first | exact Nat.le_of_ble_eq_true rfl | (show _ ≤ _; omega)) (by first | exact Nat.le_of_ble_eq_true rfl | (show _ ≤ _; omega)) ⟨rfl, rfl⟩
set_option maxHeartbeats 4000000 in
set_option maxRecDepth 100000 in
theorem c_M_keep (l : Launch) (G : vv_G) (v : vv_V) (o : Nat) (ad : Nat → Nat) (S : zS) (x it : Int32) (hR : RM G v o ad S) (hB : zc S 2 ≤ 60) (hB2 : zpf S x it (zc S 2) = none → zc S 2 < 60) : Mv l y_M_keep b_M_keep 4 (some FieldType.int) 1 24 G v [.ref o, .int x, .int it] (fun r v' => r = some (.int (nI (zkix S x it))) ∧ RM G v' o ad (zkeep S x it) ∧ vkeep (mX o ad) v v') 0 0 := by
  refine vv_metF (own := "CustomerNoticesModel") (nm := "keep") pf_M_keep rfl rfl (Nat.le_of_ble_eq_true rfl) ?_
  intro p e s m below meth c C hin
  have hk : vkeep (mX o ad) v v := vkeep.rf
  show vV _ _ _ _ _ _ _ _ _ _ _ _ _ v 0 0 0 [(0, .ref o), (1, .int x), (2, .int it)] []
  refine v_aload_n C 0 d_M_keep_0 rfl rfl ?_
  refine v_iload_n C 1 d_M_keep_1 rfl rfl ?_
  refine v_iload_n C 2 d_M_keep_2 rfl rfl ?_
  refine v_callV (rest := []) C (c_M_pairOf l G v o ad S x it hR (by omega)) tw_623 tw_34 tw_620 tw_622 tw_22 mn_M_pairOf hR.1 k_M.1 ⟨Nat.le_of_ble_eq_true rfl, Nat.le_of_ble_eq_true rfl⟩ rfl rfl (Nat.le_of_ble_eq_true rfl) d_M_keep_3 ⟨(by first | exact Nat.le_of_ble_eq_true rfl | (show _ ≤ _; omega)), (by first | exact Nat.le_of_ble_eq_true rfl | (show _ ≤ _; omega))⟩ (fun r_1 v_2 hp_3 => ?_)
  obtain ⟨rfl, hv9⟩ := hp_3
  obtain rfl := hv9.symm
  rcases hpr : zpf S x it (zc S 2) with _ | pk
  · show vV _ _ _ _ _ _ _ _ _ _ _ _ _ v 0 0 6 [(0, .ref o), (1, .int x), (2, .int it)] [.int (-1)]
    refine v_istore_n (lv' := [(3, .int (-1)), (0, .ref o), (1, .int x), (2, .int it)]) C d_M_keep_6 rfl (by decide) rfl ?_
    refine v_iload_n C 0 d_M_keep_7 rfl rfl ?_
    refine v_if_lt C 13 d_M_keep_8 (by decide) (fun _ => ?_) (fun z => absurd (by decide) z)
    have hB3 := hB2 hpr
    refine v_aload_n C 1 d_M_keep_13 rfl rfl ?_
    refine v_get C k_M hR.1 19 (by decide) tw_502 (fun _ h => h) rfl d_M_keep_14 ?_
    refine v_aload_n C 1 d_M_keep_17 rfl rfl ?_
    refine v_get C k_M hR.1 18 (by decide) tw_501 (fun _ h => h) rfl d_M_keep_18 ?_
    refine v_iload_n C 2 d_M_keep_21 rfl rfl ?_
    refine v_iastN C (hR.oi (f := 19) (by decide)) (by show _ < 60; omega) (by decide) d_M_keep_22 ?_
    refine v_view (fun v1 ev1 => ?_)
    obtain ⟨S_4, eS_4⟩ : ∃ z, z = zui S 19 (zc S 2) x := ⟨_, rfl⟩
    have hR_4 : RM G v1 o ad S_4 := by rw [eS_4]; exact (by rw [ev1]; exact hR.puti 19 (by decide) (zc S 2) x)
    have hk_4 : vkeep (mX o ad) v v1 := by rw [ev1]; exact hk.up (mX_f (by decide))
    refine v_aload_n C 1 d_M_keep_23 rfl rfl ?_
    refine v_get C k_M hR_4.1 20 (by decide) tw_503 (fun _ h => h) rfl d_M_keep_24 ?_
    refine v_aload_n C 1 d_M_keep_27 rfl rfl ?_
    refine v_get C k_M hR_4.1 18 (by decide) tw_501 (fun _ h => h) rfl d_M_keep_28 ?_
    refine v_toi (y := nI (zc S 2)) (by rw [eS_4]; rfl) ?_
    refine v_iload_n C 3 d_M_keep_31 rfl rfl ?_
    refine v_iastN C (hR_4.oi (f := 20) (by decide)) (by show _ < 60; omega) (by decide) d_M_keep_32 ?_
    refine v_view (fun v2 ev2 => ?_)
    obtain ⟨S_5, eS_5⟩ : ∃ z, z = zui S_4 20 (zc S 2) it := ⟨_, rfl⟩
    have hR_5 : RM G v2 o ad S_5 := by rw [eS_5]; exact (by rw [ev2]; exact hR_4.puti 20 (by decide) (zc S 2) it)
    have hk_5 : vkeep (mX o ad) v v2 := by rw [ev2]; exact hk_4.up (mX_f (by decide))
    refine v_aload_n C 1 d_M_keep_33 rfl rfl ?_
    refine v_get C k_M hR_5.1 21 (by decide) tw_504 (fun _ h => h) rfl d_M_keep_34 ?_
    refine v_aload_n C 1 d_M_keep_37 rfl rfl ?_
    refine v_get C k_M hR_5.1 18 (by decide) tw_501 (fun _ h => h) rfl d_M_keep_38 ?_
    refine v_toi (y := nI (zc S 2)) (by rw [eS_5, eS_4]; rfl) ?_
    refine v_iconst (x := 0) C d_M_keep_41 (by decide) ?_
    refine v_zastN C (hR_5.oz (f := 21) (by decide)) (by show _ < 60; omega) (by decide) d_M_keep_42 ?_
    refine v_view (fun v3 ev3 => ?_)
    obtain ⟨S_6, eS_6⟩ : ∃ z, z = zui S_5 21 (zc S 2) 0 := ⟨_, rfl⟩
    have hR_6 : RM G v3 o ad S_6 := by rw [eS_6]; exact (by rw [ev3]; exact hR_5.putz 21 (by decide) (zc S 2) 0 0 (by decide))
    have hk_6 : vkeep (mX o ad) v v3 := by rw [ev3]; exact hk_5.up (mX_f (by decide))
    refine v_aload_n C 1 d_M_keep_43 rfl rfl ?_
    refine v_get C k_M hR_6.1 22 (by decide) tw_505 (fun _ h => h) rfl d_M_keep_44 ?_
    refine v_aload_n C 1 d_M_keep_47 rfl rfl ?_
    refine v_get C k_M hR_6.1 18 (by decide) tw_501 (fun _ h => h) rfl d_M_keep_48 ?_
    refine v_toi (y := nI (zc S 2)) (by rw [eS_6, eS_5, eS_4]; rfl) ?_
    refine v_iconst (x := 0) C d_M_keep_51 (by decide) ?_
    refine v_iastN C (hR_6.oi (f := 22) (by decide)) (by show _ < 60; omega) (by decide) d_M_keep_52 ?_
    refine v_view (fun v4 ev4 => ?_)
    obtain ⟨S_7, eS_7⟩ : ∃ z, z = zui S_6 22 (zc S 2) 0 := ⟨_, rfl⟩
    have hR_7 : RM G v4 o ad S_7 := by rw [eS_7]; exact (by rw [ev4]; exact hR_6.puti 22 (by decide) (zc S 2) 0)
    have hk_7 : vkeep (mX o ad) v v4 := by rw [ev4]; exact hk_6.up (mX_f (by decide))
    refine v_aload_n C 1 d_M_keep_53 rfl rfl ?_
    refine v_dup C d_M_keep_54 rfl ?_
    refine v_get C k_M hR_7.1 18 (by decide) tw_501 (fun _ h => h) rfl d_M_keep_55 ?_
    refine v_toi (y := nI (zc S 2)) (by rw [eS_7, eS_6, eS_5, eS_4]; rfl) ?_
    refine v_iconst (x := 1) C d_M_keep_58 (by decide) ?_
    refine v_iadd C d_M_keep_59 ?_
    refine v_toi (y := nI ((zc S 2) + 1)) (nI_add (zc S 2) 1) ?_
    refine v_put C k_M hR_7.1 18 (by decide) tw_501 (fun _ h => h) rfl rfl rfl (Nat.le_of_ble_eq_true rfl) d_M_keep_60 ?_
    refine v_view (fun v5 ev5 => ?_)
    obtain ⟨S_8, eS_8⟩ : ∃ z, z = zuc S_7 2 ((zc S 2) + 1) := ⟨_, rfl⟩
    have hR_8 : RM G v5 o ad S_8 := by rw [eS_8]; exact (by rw [ev5]; exact hR_7.puts rfl (fun f hf => rfl) (fun f hf => rfl))
    have hk_8 : vkeep (mX o ad) v v5 := by rw [ev5]; exact hk_7.up mX_o
    refine v_aload_n C 1 d_M_keep_63 rfl rfl ?_
    refine v_get C k_M hR_8.1 18 (by decide) tw_501 (fun _ h => h) rfl d_M_keep_64 ?_
    refine v_toi (y := nI ((zc S 2) + 1)) (by rw [eS_8, eS_7, eS_6, eS_5, eS_4]; rfl) ?_
    refine v_iconst (x := 1) C d_M_keep_67 (by decide) ?_
    refine v_isub C d_M_keep_68 ?_
    exact v_iret C d_M_keep_69 (by first | exact Nat.le_of_ble_eq_true rfl | (show _ ≤ _; omega)) (by first | exact Nat.le_of_ble_eq_true rfl | (show _ ≤ _; omega)) ⟨(by rw [zkix, hpr]; exact congrArg (fun z => some (Value.int z)) (nI_pred (zc S 2))), (by rw [zkeep, hpr]; subst eS_4 eS_5 eS_6 eS_7 eS_8; exact hR_8), hk_8⟩
  · have hpl := zpf_lt hpr
    show vV _ _ _ _ _ _ _ _ _ _ _ _ _ v 0 0 6 [(0, .ref o), (1, .int x), (2, .int it)] [.int (nI pk)]
    refine v_istore_n (lv' := [(3, .int (nI pk)), (0, .ref o), (1, .int x), (2, .int it)]) C d_M_keep_6 rfl (by decide) rfl ?_
    refine v_iload_n C 0 d_M_keep_7 rfl rfl ?_
    refine v_if_lt C 13 d_M_keep_8 (by decide) (fun z => absurd z (nI_pos (by omega))) (fun _ => ?_)
    refine v_iload_n C 0 d_M_keep_11 rfl rfl ?_
    exact v_iret C d_M_keep_12 (by first | exact Nat.le_of_ble_eq_true rfl | (show _ ≤ _; omega)) (by first | exact Nat.le_of_ble_eq_true rfl | (show _ ≤ _; omega)) ⟨(by rw [zkix, hpr]), (by rw [zkeep, hpr]; exact hR), hk⟩
set_option maxHeartbeats 4000000 in
set_option maxRecDepth 100000 in
theorem c_M_event (l : Launch) (G : vv_G) (v : vv_V) (o : Nat) (ad : Nat → Nat) (S : zS) (x it k : Int32) (t : Int64) (hR : RM G v o ad S) (hB0 : zB S) : Mv l y_M_event b_M_event 9 (some FieldType.int) 2 47 G v [.ref o, .int x, .int it, .int k, .long t] (fun r v' => r = some (.int (oEvent S x it k t).1) ∧ RM G v' o ad (oEvent S x it k t).2 ∧ vkeep (mX o ad) v v') 0 0 := by
  refine vv_metF (own := "CustomerNoticesModel") (nm := "event") pf_M_event rfl rfl (Nat.le_of_ble_eq_true rfl) ?_
  intro p e s m below meth c C hin
  have hk : vkeep (mX o ad) v v := vkeep.rf
  obtain ⟨hB, hB1, hB2, hB3⟩ := hB0
  show vV _ _ _ _ _ _ _ _ _ _ _ _ _ v 0 0 0 [(0, .ref o), (1, .int x), (2, .int it), (3, .int k), (4, .long t)] []
  refine v_aload_n C 0 d_M_event_0 rfl rfl ?_
  refine v_iload_n C 1 d_M_event_1 rfl rfl ?_
  refine v_callV (rest := []) C (c_M_isCustomer l G v o ad S x hR (by omega)) tw_598 tw_34 tw_595 tw_597 tw_19 mn_M_isCustomer hR.1 k_M.1 ⟨Nat.le_of_ble_eq_true rfl, Nat.le_of_ble_eq_true rfl⟩ rfl rfl (Nat.le_of_ble_eq_true rfl) d_M_event_2 ⟨(by first | exact Nat.le_of_ble_eq_true rfl | (show _ ≤ _; omega)), (by first | exact Nat.le_of_ble_eq_true rfl | (show _ ≤ _; omega))⟩ (fun r_1 v_2 hp_3 => ?_)
  rcases hp_3 with ⟨rfl, hv9, hb_2⟩ | ⟨rfl, hv9, hb_2⟩
  · obtain rfl := hv9.symm
    show vV _ _ _ _ _ _ _ _ _ _ _ _ _ v 0 0 5 [(0, .ref o), (1, .int x), (2, .int it), (3, .int k), (4, .long t)] [.int 1]
    refine v_if_ne C 11 d_M_event_5 (by decide) (fun _ => ?_) (fun z => absurd z (by decide))
    refine v_iload_n C 2 d_M_event_11 rfl rfl ?_
    refine v_i2l (y := (Int32.toInt64 it)) C d_M_event_12 rfl ?_
    refine v_lconst (x := 1) C d_M_event_13 (by decide) ?_
    refine v_ldc2 (x := 9999) C d_M_event_14 tw_614 ?_
    refine v_callS (rest := []) C (c_M_isIn l G v (Int32.toInt64 it) 1 9999) tw_588 tw_34 tw_586 tw_587 mn_M_isIn ⟨Nat.le_of_ble_eq_true rfl, Nat.le_of_ble_eq_true rfl⟩ rfl rfl (Nat.le_of_ble_eq_true rfl) d_M_event_17 ⟨(by first | exact Nat.le_of_ble_eq_true rfl | (show _ ≤ _; omega)), (by first | exact Nat.le_of_ble_eq_true rfl | (show _ ≤ _; omega))⟩ (fun r_4 v_5 hp_6 => ?_)
    rcases hp_6 with ⟨rfl, hv9, hb_17⟩ | ⟨rfl, hv9, hb_17⟩
    · obtain rfl := hv9.symm
      show vV _ _ _ _ _ _ _ _ _ _ _ _ _ v 0 0 20 [(0, .ref o), (1, .int x), (2, .int it), (3, .int k), (4, .long t)] [.int 1]
      refine v_if_eq C 44 d_M_event_20 (by decide) (fun z => absurd z (by decide)) (fun _ => ?_)
      refine v_iload_n C 3 d_M_event_23 rfl rfl ?_
      refine v_i2l (y := (Int32.toInt64 k)) C d_M_event_24 rfl ?_
      refine v_lconst (x := 0) C d_M_event_25 (by decide) ?_
      refine v_ldc2 (x := 7) C d_M_event_26 tw_599 ?_
      refine v_callS (rest := []) C (c_M_isIn l G v (Int32.toInt64 k) 0 7) tw_588 tw_34 tw_586 tw_587 mn_M_isIn ⟨Nat.le_of_ble_eq_true rfl, Nat.le_of_ble_eq_true rfl⟩ rfl rfl (Nat.le_of_ble_eq_true rfl) d_M_event_29 ⟨(by first | exact Nat.le_of_ble_eq_true rfl | (show _ ≤ _; omega)), (by first | exact Nat.le_of_ble_eq_true rfl | (show _ ≤ _; omega))⟩ (fun r_7 v_8 hp_9 => ?_)
      rcases hp_9 with ⟨rfl, hv9, hb_29⟩ | ⟨rfl, hv9, hb_29⟩
      · obtain rfl := hv9.symm
        show vV _ _ _ _ _ _ _ _ _ _ _ _ _ v 0 0 32 [(0, .ref o), (1, .int x), (2, .int it), (3, .int k), (4, .long t)] [.int 1]
        refine v_if_eq C 44 d_M_event_32 (by decide) (fun z => absurd z (by decide)) (fun _ => ?_)
        refine v_aload_n C 0 d_M_event_35 rfl rfl ?_
        refine v_lload C 4 d_M_event_36 rfl ?_
        refine v_callV (rest := []) C (c_M_isTime l G v o ad S t hR) tw_618 tw_34 tw_615 tw_617 tw_21 mn_M_isTime hR.1 k_M.1 ⟨Nat.le_of_ble_eq_true rfl, Nat.le_of_ble_eq_true rfl⟩ rfl rfl (Nat.le_of_ble_eq_true rfl) d_M_event_38 ⟨(by first | exact Nat.le_of_ble_eq_true rfl | (show _ ≤ _; omega)), (by first | exact Nat.le_of_ble_eq_true rfl | (show _ ≤ _; omega))⟩ (fun r_10 v_11 hp_12 => ?_)
        rcases hp_12 with ⟨rfl, hv9, hb_38⟩ | ⟨rfl, hv9, hb_38⟩
        · obtain rfl := hv9.symm
          show vV _ _ _ _ _ _ _ _ _ _ _ _ _ v 0 0 41 [(0, .ref o), (1, .int x), (2, .int it), (3, .int k), (4, .long t)] [.int 1]
          refine v_if_ne C 47 d_M_event_41 (by decide) (fun _ => ?_) (fun z => absurd z (by decide))
          rw [i64_toInt] at hb_17 hb_29
          have hz : zIn it 1 9999 ∧ zIn k 0 7 ∧ zTm S t := ⟨hb_17, hb_29, hb_38⟩
          have hx0 := hb_2
          obtain ⟨cu, rfl, hcu1, hcu2, hcu3⟩ := zIn_nI (a := 1) (b := zc S 0) hx0
          obtain ⟨kd, rfl, hkd1, hkd2, hkd3⟩ := zIn_nI (a := 0) (b := 7) hz.2.1
          refine v_aload_n C 0 d_M_event_47 rfl rfl ?_
          refine v_iload_n C 1 d_M_event_48 rfl rfl ?_
          refine v_iload_n C 2 d_M_event_49 rfl rfl ?_
          refine v_callV (rest := []) C (c_M_pairOf l G v o ad S (nI cu) it hR (by omega)) tw_623 tw_34 tw_620 tw_622 tw_22 mn_M_pairOf hR.1 k_M.1 ⟨Nat.le_of_ble_eq_true rfl, Nat.le_of_ble_eq_true rfl⟩ rfl rfl (Nat.le_of_ble_eq_true rfl) d_M_event_50 ⟨(by first | exact Nat.le_of_ble_eq_true rfl | (show _ ≤ _; omega)), (by first | exact Nat.le_of_ble_eq_true rfl | (show _ ≤ _; omega))⟩ (fun r_13 v_14 hp_15 => ?_)
          obtain ⟨rfl, hv9⟩ := hp_15
          obtain rfl := hv9.symm
          rcases hpr : zpf S (nI cu) it (zc S 2) with _ | pk
          · show vV _ _ _ _ _ _ _ _ _ _ _ _ _ v 0 0 53 [(0, .ref o), (1, .int (nI cu)), (2, .int it), (3, .int (nI kd)), (4, .long t)] [.int (-1)]
            refine v_istore (lv' := [(6, .int (-1)), (0, .ref o), (1, .int (nI cu)), (2, .int it), (3, .int (nI kd)), (4, .long t)]) C d_M_event_53 (by decide) rfl ?_
            refine v_iload C 0 d_M_event_55 rfl ?_
            refine v_if_lt C 72 d_M_event_57 (by decide) (fun _ => ?_) (fun z => absurd (by decide) z)
            refine v_iload_n C 4 d_M_event_72 rfl rfl ?_
            refine v_iconst (x := 5) C d_M_event_73 (by decide) ?_
            refine v_icmp_eq C 83 d_M_event_74 (by decide) (fun c_74 => ?_) (fun c_74 => ?_)
            · have n_74 : kd = 5 := (nI_eq (a := kd) (b := 5) (by omega) (by omega)).mp c_74
              refine v_iconst (x := 1) C d_M_event_83 (by decide) ?_
              refine v_goto C 88 d_M_event_84 (by decide) ?_
              refine v_istore (lv' := [(7, .int 1), (6, .int (-1)), (0, .ref o), (1, .int (nI cu)), (2, .int it), (3, .int (nI kd)), (4, .long t)]) C d_M_event_88 (by decide) rfl ?_
              refine v_aload_n C 2 d_M_event_90 rfl rfl ?_
              refine v_iload_n C 3 d_M_event_91 rfl rfl ?_
              refine v_iload_n C 5 d_M_event_92 rfl rfl ?_
              have hwl_93 := zwn_le S (32 * cu + 4 * kd) 4
              refine v_callV (rest := []) C (c_M_wished l G v o ad S cu kd hR (by omega) (by omega)) tw_604 tw_34 tw_601 tw_603 tw_20 mn_M_wished hR.1 k_M.1 ⟨Nat.le_of_ble_eq_true rfl, Nat.le_of_ble_eq_true rfl⟩ rfl rfl (Nat.le_of_ble_eq_true rfl) d_M_event_93 ⟨(by first | exact Nat.le_of_ble_eq_true rfl | (show _ ≤ _; omega)), (by first | exact Nat.le_of_ble_eq_true rfl | (show _ ≤ _; omega))⟩ (fun r_16 v_17 hp_18 => ?_)
              obtain ⟨rfl, hv9⟩ := hp_18
              obtain rfl := hv9.symm
              show vV _ _ _ _ _ _ _ _ _ _ _ _ _ v 0 0 96 [(7, .int 1), (6, .int (-1)), (0, .ref o), (1, .int (nI cu)), (2, .int it), (3, .int (nI kd)), (4, .long t)] [.int (nI (zwn S (32 * cu + 4 * kd) 4))]
              refine v_if_le C 103 d_M_event_96 (by decide) (fun c_96 => ?_) (fun c_96 => ?_)
              · have n_96 : (zwn S (32 * cu + 4 * kd) 4) ≤ 0 := (nI_leI (a := (zwn S (32 * cu + 4 * kd) 4)) (b := 0) (by omega) (by omega)).mp c_96
                refine v_iconst (x := 0) C d_M_event_103 (by decide) ?_
                refine v_istore (lv' := [(8, .int 0), (7, .int 1), (6, .int (-1)), (0, .ref o), (1, .int (nI cu)), (2, .int it), (3, .int (nI kd)), (4, .long t)]) C d_M_event_104 (by decide) rfl ?_
                refine v_iload C 0 d_M_event_106 rfl ?_
                refine v_if_eq C 121 d_M_event_108 (by decide) (fun _ => ?_) (fun z => absurd (by decide) z)
                refine v_iload C 1 d_M_event_121 rfl ?_
                refine v_if_eq C 143 d_M_event_123 (by decide) (fun z => absurd z (by decide)) (fun _ => ?_)
                refine v_iload C 2 d_M_event_126 rfl ?_
                refine v_if_ge C 143 d_M_event_128 (by decide) (fun z => absurd z (by decide)) (fun _ => ?_)
                refine v_aload_n C 3 d_M_event_131 rfl rfl ?_
                refine v_get C k_M hR.1 18 (by decide) tw_501 (fun _ h => h) rfl d_M_event_132 ?_
                refine v_bipush (x := 60) C d_M_event_135 (by decide) ?_
                refine v_icmp_ne C 143 d_M_event_137 (by decide) (fun c_137 => ?_) (fun c_137 => ?_)
                · have n_137 : ¬ (zc S 2) = 60 := mt (nI_eq (a := (zc S 2)) (b := 60) (by omega) (by omega)).mpr c_137
                  refine v_iload C 1 d_M_event_143 rfl ?_
                  refine v_if_eq C 160 d_M_event_145 (by decide) (fun z => absurd z (by decide)) (fun _ => ?_)
                  refine v_aload_n C 3 d_M_event_148 rfl rfl ?_
                  refine v_get C k_M hR.1 21 (by decide) tw_504 (fun _ h => h) rfl d_M_event_149 ?_
                  refine v_aload_n C 3 d_M_event_152 rfl rfl ?_
                  refine v_iload_n C 4 d_M_event_153 rfl rfl ?_
                  refine v_iload_n C 5 d_M_event_154 rfl rfl ?_
                  refine v_callV (rest := [.ref (ad 21)]) C (c_M_keep l G v o ad S (nI cu) it hR (by omega) (by intro z; first | (rw [hpr] at z; exact absurd z (Option.some_ne_none _)) | omega)) tw_627 tw_34 tw_624 tw_626 tw_23 mn_M_keep hR.1 k_M.1 ⟨Nat.le_of_ble_eq_true rfl, Nat.le_of_ble_eq_true rfl⟩ rfl rfl (Nat.le_of_ble_eq_true rfl) d_M_event_155 ⟨(by first | exact Nat.le_of_ble_eq_true rfl | (show _ ≤ _; omega)), (by first | exact Nat.le_of_ble_eq_true rfl | (show _ ≤ _; omega))⟩ (fun r_19 v_20 hp_21 => ?_)
                  obtain ⟨rfl, hRc_hp_21, hkc_hp_21⟩ := hp_21
                  obtain ⟨S_22, eS_22⟩ : ∃ z, z = zkeep S (nI cu) it := ⟨_, rfl⟩
                  have hR_22 : RM G v_20 o ad S_22 := by rw [eS_22]; exact hRc_hp_21
                  have hk_22 : vkeep (mX o ad) v v_20 := hk.tr hkc_hp_21
                  show vV _ _ _ _ _ _ _ _ _ _ _ _ _ v_20 0 0 158 [(8, .int 0), (7, .int 1), (6, .int (-1)), (0, .ref o), (1, .int (nI cu)), (2, .int it), (3, .int (nI kd)), (4, .long t)] [.int (nI (zkix S (nI cu) it)), .ref (ad 21)]
                  refine v_iconst (x := 1) C d_M_event_158 (by decide) ?_
                  have hkx : zkix S (nI cu) it < 60 := by first | (rw [zkix_n hpr]; omega) | (rw [zkix_s hpr]; omega)
                  refine v_zastN C (hR_22.oz (f := 21) (by decide)) hkx (by decide) d_M_event_159 ?_
                  refine v_view (fun v1 ev1 => ?_)
                  obtain ⟨S_23, eS_23⟩ : ∃ z, z = zui S_22 21 (zkix S (nI cu) it) 1 := ⟨_, rfl⟩
                  have hR_23 : RM G v1 o ad S_23 := by rw [eS_23]; exact (by rw [ev1]; exact hR_22.putz 21 (by decide) (zkix S (nI cu) it) 1 1 (by decide))
                  have hk_23 : vkeep (mX o ad) v v1 := by rw [ev1]; exact hk_22.up (mX_f (by decide))
                  have hc1 : zc S_23 1 = zc S 1 := by rw [eS_23, eS_22]; exact zkeep_c1 _ _ _
                  refine v_iload C 0 d_M_event_160 rfl ?_
                  refine v_if_eq C 181 d_M_event_162 (by decide) (fun _ => ?_) (fun z => absurd (by decide) z)
                  refine v_iconst (x := 0) C d_M_event_181 (by decide) ?_
                  exact v_iret C d_M_event_182 (by first | exact Nat.le_of_ble_eq_true rfl | (show _ ≤ _; omega)) (by first | exact Nat.le_of_ble_eq_true rfl | (show _ ≤ _; omega)) ⟨(by  rw [oEvent, zn_nI hcu3, zn_nI hkd3, if_pos hx0, if_pos hz, if_pos (by rw [zended, hpr]), if_neg (by intro z; rcases z with ⟨z1, z2⟩ | ⟨z1, z2, z3⟩; all_goals first | exact n_118 z2 | exact n_137 z3 | (rw [hpr] at z2; cases z2; done) | (rcases z1 with z1 | z1 <;> first | exact c_74 z1 | exact c_80 z1) | omega), if_neg (by omega), zendS, if_pos (Or.inl c_74)] <;> (try rfl)), (by  rw [oEvent, zn_nI hcu3, zn_nI hkd3, if_pos hx0, if_pos hz, if_pos (by rw [zended, hpr]), if_neg (by intro z; rcases z with ⟨z1, z2⟩ | ⟨z1, z2, z3⟩; all_goals first | exact n_118 z2 | exact n_137 z3 | (rw [hpr] at z2; cases z2; done) | (rcases z1 with z1 | z1 <;> first | exact c_74 z1 | exact c_80 z1) | omega), if_neg (by omega), zendS, if_pos (Or.inl c_74)]; subst eS_22 eS_23; exact hR_23), hk_23⟩
                · have n_137 : (zc S 2) = 60 := (nI_eq (a := (zc S 2)) (b := 60) (by omega) (by omega)).mp c_137
                  refine v_bipush (x := -14) C d_M_event_140 (by decide) ?_
                  exact v_iret C d_M_event_142 (by first | exact Nat.le_of_ble_eq_true rfl | (show _ ≤ _; omega)) (by first | exact Nat.le_of_ble_eq_true rfl | (show _ ≤ _; omega)) ⟨(by  rw [oEvent, zn_nI hcu3, zn_nI hkd3, if_pos hx0, if_pos hz, if_pos (by rw [zended, hpr]), if_pos (Or.inr ⟨(Or.inl c_74), hpr, n_137⟩)] <;> (try rfl)), (by  rw [oEvent, zn_nI hcu3, zn_nI hkd3, if_pos hx0, if_pos hz, if_pos (by rw [zended, hpr]), if_pos (Or.inr ⟨(Or.inl c_74), hpr, n_137⟩)]; exact hR), hk⟩
              · have n_96 : ¬ (zwn S (32 * cu + 4 * kd) 4) ≤ 0 := mt (nI_leI (a := (zwn S (32 * cu + 4 * kd) 4)) (b := 0) (by omega) (by omega)).mpr c_96
                refine v_iconst (x := 1) C d_M_event_99 (by decide) ?_
                refine v_goto C 104 d_M_event_100 (by decide) ?_
                refine v_istore (lv' := [(8, .int 1), (7, .int 1), (6, .int (-1)), (0, .ref o), (1, .int (nI cu)), (2, .int it), (3, .int (nI kd)), (4, .long t)]) C d_M_event_104 (by decide) rfl ?_
                refine v_iload C 0 d_M_event_106 rfl ?_
                refine v_if_eq C 121 d_M_event_108 (by decide) (fun z => absurd z (by decide)) (fun _ => ?_)
                refine v_aload_n C 3 d_M_event_111 rfl rfl ?_
                refine v_get C k_M hR.1 9 (by decide) tw_492 (fun _ h => h) rfl d_M_event_112 ?_
                refine v_sipush (x := 200) C d_M_event_115 (by decide) ?_
                refine v_icmp_eq C 140 d_M_event_118 (by decide) (fun c_118 => ?_) (fun c_118 => ?_)
                · have n_118 : (zc S 1) = 200 := (nI_eq (a := (zc S 1)) (b := 200) (by omega) (by omega)).mp c_118
                  refine v_bipush (x := -14) C d_M_event_140 (by decide) ?_
                  exact v_iret C d_M_event_142 (by first | exact Nat.le_of_ble_eq_true rfl | (show _ ≤ _; omega)) (by first | exact Nat.le_of_ble_eq_true rfl | (show _ ≤ _; omega)) ⟨(by  rw [oEvent, zn_nI hcu3, zn_nI hkd3, if_pos hx0, if_pos hz, if_pos (by rw [zended, hpr]), if_pos (Or.inl ⟨by omega, n_118⟩)] <;> (try rfl)), (by  rw [oEvent, zn_nI hcu3, zn_nI hkd3, if_pos hx0, if_pos hz, if_pos (by rw [zended, hpr]), if_pos (Or.inl ⟨by omega, n_118⟩)]; exact hR), hk⟩
                · have n_118 : ¬ (zc S 1) = 200 := mt (nI_eq (a := (zc S 1)) (b := 200) (by omega) (by omega)).mpr c_118
                  refine v_iload C 1 d_M_event_121 rfl ?_
                  refine v_if_eq C 143 d_M_event_123 (by decide) (fun z => absurd z (by decide)) (fun _ => ?_)
                  refine v_iload C 2 d_M_event_126 rfl ?_
                  refine v_if_ge C 143 d_M_event_128 (by decide) (fun z => absurd z (by decide)) (fun _ => ?_)
                  refine v_aload_n C 3 d_M_event_131 rfl rfl ?_
                  refine v_get C k_M hR.1 18 (by decide) tw_501 (fun _ h => h) rfl d_M_event_132 ?_
                  refine v_bipush (x := 60) C d_M_event_135 (by decide) ?_
                  refine v_icmp_ne C 143 d_M_event_137 (by decide) (fun c_137 => ?_) (fun c_137 => ?_)
                  · have n_137 : ¬ (zc S 2) = 60 := mt (nI_eq (a := (zc S 2)) (b := 60) (by omega) (by omega)).mpr c_137
                    refine v_iload C 1 d_M_event_143 rfl ?_
                    refine v_if_eq C 160 d_M_event_145 (by decide) (fun z => absurd z (by decide)) (fun _ => ?_)
                    refine v_aload_n C 3 d_M_event_148 rfl rfl ?_
                    refine v_get C k_M hR.1 21 (by decide) tw_504 (fun _ h => h) rfl d_M_event_149 ?_
                    refine v_aload_n C 3 d_M_event_152 rfl rfl ?_
                    refine v_iload_n C 4 d_M_event_153 rfl rfl ?_
                    refine v_iload_n C 5 d_M_event_154 rfl rfl ?_
                    refine v_callV (rest := [.ref (ad 21)]) C (c_M_keep l G v o ad S (nI cu) it hR (by omega) (by intro z; first | (rw [hpr] at z; exact absurd z (Option.some_ne_none _)) | omega)) tw_627 tw_34 tw_624 tw_626 tw_23 mn_M_keep hR.1 k_M.1 ⟨Nat.le_of_ble_eq_true rfl, Nat.le_of_ble_eq_true rfl⟩ rfl rfl (Nat.le_of_ble_eq_true rfl) d_M_event_155 ⟨(by first | exact Nat.le_of_ble_eq_true rfl | (show _ ≤ _; omega)), (by first | exact Nat.le_of_ble_eq_true rfl | (show _ ≤ _; omega))⟩ (fun r_24 v_25 hp_26 => ?_)
                    obtain ⟨rfl, hRc_hp_26, hkc_hp_26⟩ := hp_26
                    obtain ⟨S_27, eS_27⟩ : ∃ z, z = zkeep S (nI cu) it := ⟨_, rfl⟩
                    have hR_27 : RM G v_25 o ad S_27 := by rw [eS_27]; exact hRc_hp_26
                    have hk_27 : vkeep (mX o ad) v v_25 := hk.tr hkc_hp_26
                    show vV _ _ _ _ _ _ _ _ _ _ _ _ _ v_25 0 0 158 [(8, .int 1), (7, .int 1), (6, .int (-1)), (0, .ref o), (1, .int (nI cu)), (2, .int it), (3, .int (nI kd)), (4, .long t)] [.int (nI (zkix S (nI cu) it)), .ref (ad 21)]
                    refine v_iconst (x := 1) C d_M_event_158 (by decide) ?_
                    have hkx : zkix S (nI cu) it < 60 := by first | (rw [zkix_n hpr]; omega) | (rw [zkix_s hpr]; omega)
                    refine v_zastN C (hR_27.oz (f := 21) (by decide)) hkx (by decide) d_M_event_159 ?_
                    refine v_view (fun v2 ev2 => ?_)
                    obtain ⟨S_28, eS_28⟩ : ∃ z, z = zui S_27 21 (zkix S (nI cu) it) 1 := ⟨_, rfl⟩
                    have hR_28 : RM G v2 o ad S_28 := by rw [eS_28]; exact (by rw [ev2]; exact hR_27.putz 21 (by decide) (zkix S (nI cu) it) 1 1 (by decide))
                    have hk_28 : vkeep (mX o ad) v v2 := by rw [ev2]; exact hk_27.up (mX_f (by decide))
                    have hc1 : zc S_28 1 = zc S 1 := by rw [eS_28, eS_27]; exact zkeep_c1 _ _ _
                    refine v_iload C 0 d_M_event_160 rfl ?_
                    refine v_if_eq C 181 d_M_event_162 (by decide) (fun z => absurd z (by decide)) (fun _ => ?_)
                    refine v_aload_n C 3 d_M_event_165 rfl rfl ?_
                    refine v_iload_n C 4 d_M_event_166 rfl rfl ?_
                    refine v_iload_n C 5 d_M_event_167 rfl rfl ?_
                    refine v_iload_n C 6 d_M_event_168 rfl rfl ?_
                    refine v_lload C 7 d_M_event_169 rfl ?_
                    refine v_ldc2 (x := -1) C d_M_event_171 tw_628 ?_
                    refine v_iconst (x := 0) C d_M_event_174 (by decide) ?_
                    refine v_callV (rest := []) C (c_M_put l G v2 o ad S_28 (nI cu) it (nI kd) t (-1) 0 hR_28 (by rw [hc1]; omega) (by first | exact Or.inl rfl | exact Or.inr rfl)) tw_632 tw_34 tw_629 tw_631 tw_24 mn_M_put hR_28.1 k_M.1 ⟨Nat.le_of_ble_eq_true rfl, Nat.le_of_ble_eq_true rfl⟩ rfl rfl (Nat.le_of_ble_eq_true rfl) d_M_event_175 ⟨(by first | exact Nat.le_of_ble_eq_true rfl | (show _ ≤ _; omega)), (by first | exact Nat.le_of_ble_eq_true rfl | (show _ ≤ _; omega))⟩ (fun r_29 v_30 hp_31 => ?_)
                    obtain ⟨rfl, hRc_hp_31, hkc_hp_31⟩ := hp_31
                    obtain ⟨S_32, eS_32⟩ : ∃ z, z = zput S_28 (nI cu) it (nI kd) t (-1) 0 := ⟨_, rfl⟩
                    have hR_32 : RM G v_30 o ad S_32 := by rw [eS_32]; exact hRc_hp_31
                    have hk_32 : vkeep (mX o ad) v v_30 := hk_28.tr hkc_hp_31
                    show vV _ _ _ _ _ _ _ _ _ _ _ _ _ v_30 0 0 178 [(8, .int 1), (7, .int 1), (6, .int (-1)), (0, .ref o), (1, .int (nI cu)), (2, .int it), (3, .int (nI kd)), (4, .long t)] [.int (nI (zc S_28 1 + 1))]
                    refine v_toi (y := nI (zc S 1 + 1)) (by rw [hc1]) ?_
                    refine v_goto C 182 d_M_event_178 (by decide) ?_
                    exact v_iret C d_M_event_182 (by first | exact Nat.le_of_ble_eq_true rfl | (show _ ≤ _; omega)) (by first | exact Nat.le_of_ble_eq_true rfl | (show _ ≤ _; omega)) ⟨(by  rw [oEvent, zn_nI hcu3, zn_nI hkd3, if_pos hx0, if_pos hz, if_pos (by rw [zended, hpr]), if_neg (by intro z; rcases z with ⟨z1, z2⟩ | ⟨z1, z2, z3⟩; all_goals first | exact n_118 z2 | exact n_137 z3 | (rw [hpr] at z2; cases z2; done) | (rcases z1 with z1 | z1 <;> first | exact c_74 z1 | exact c_80 z1) | omega), if_pos (by omega), zendS, if_pos (Or.inl c_74)] <;> (try rfl)), (by  rw [oEvent, zn_nI hcu3, zn_nI hkd3, if_pos hx0, if_pos hz, if_pos (by rw [zended, hpr]), if_neg (by intro z; rcases z with ⟨z1, z2⟩ | ⟨z1, z2, z3⟩; all_goals first | exact n_118 z2 | exact n_137 z3 | (rw [hpr] at z2; cases z2; done) | (rcases z1 with z1 | z1 <;> first | exact c_74 z1 | exact c_80 z1) | omega), if_pos (by omega), zendS, if_pos (Or.inl c_74)]; subst eS_27 eS_28 eS_32; exact hR_32), hk_32⟩
                  · have n_137 : (zc S 2) = 60 := (nI_eq (a := (zc S 2)) (b := 60) (by omega) (by omega)).mp c_137
                    refine v_bipush (x := -14) C d_M_event_140 (by decide) ?_
                    exact v_iret C d_M_event_142 (by first | exact Nat.le_of_ble_eq_true rfl | (show _ ≤ _; omega)) (by first | exact Nat.le_of_ble_eq_true rfl | (show _ ≤ _; omega)) ⟨(by  rw [oEvent, zn_nI hcu3, zn_nI hkd3, if_pos hx0, if_pos hz, if_pos (by rw [zended, hpr]), if_pos (Or.inr ⟨(Or.inl c_74), hpr, n_137⟩)] <;> (try rfl)), (by  rw [oEvent, zn_nI hcu3, zn_nI hkd3, if_pos hx0, if_pos hz, if_pos (by rw [zended, hpr]), if_pos (Or.inr ⟨(Or.inl c_74), hpr, n_137⟩)]; exact hR), hk⟩
            · have n_74 : ¬ kd = 5 := mt (nI_eq (a := kd) (b := 5) (by omega) (by omega)).mpr c_74
              refine v_iload_n C 4 d_M_event_77 rfl rfl ?_
              refine v_bipush (x := 6) C d_M_event_78 (by decide) ?_
              refine v_icmp_ne C 87 d_M_event_80 (by decide) (fun c_80 => ?_) (fun c_80 => ?_)
              · have n_80 : ¬ kd = 6 := mt (nI_eq (a := kd) (b := 6) (by omega) (by omega)).mpr c_80
                refine v_iconst (x := 0) C d_M_event_87 (by decide) ?_
                refine v_istore (lv' := [(7, .int 0), (6, .int (-1)), (0, .ref o), (1, .int (nI cu)), (2, .int it), (3, .int (nI kd)), (4, .long t)]) C d_M_event_88 (by decide) rfl ?_
                refine v_aload_n C 2 d_M_event_90 rfl rfl ?_
                refine v_iload_n C 3 d_M_event_91 rfl rfl ?_
                refine v_iload_n C 5 d_M_event_92 rfl rfl ?_
                have hwl_93 := zwn_le S (32 * cu + 4 * kd) 4
                refine v_callV (rest := []) C (c_M_wished l G v o ad S cu kd hR (by omega) (by omega)) tw_604 tw_34 tw_601 tw_603 tw_20 mn_M_wished hR.1 k_M.1 ⟨Nat.le_of_ble_eq_true rfl, Nat.le_of_ble_eq_true rfl⟩ rfl rfl (Nat.le_of_ble_eq_true rfl) d_M_event_93 ⟨(by first | exact Nat.le_of_ble_eq_true rfl | (show _ ≤ _; omega)), (by first | exact Nat.le_of_ble_eq_true rfl | (show _ ≤ _; omega))⟩ (fun r_33 v_34 hp_35 => ?_)
                obtain ⟨rfl, hv9⟩ := hp_35
                obtain rfl := hv9.symm
                show vV _ _ _ _ _ _ _ _ _ _ _ _ _ v 0 0 96 [(7, .int 0), (6, .int (-1)), (0, .ref o), (1, .int (nI cu)), (2, .int it), (3, .int (nI kd)), (4, .long t)] [.int (nI (zwn S (32 * cu + 4 * kd) 4))]
                refine v_if_le C 103 d_M_event_96 (by decide) (fun c_96 => ?_) (fun c_96 => ?_)
                · have n_96 : (zwn S (32 * cu + 4 * kd) 4) ≤ 0 := (nI_leI (a := (zwn S (32 * cu + 4 * kd) 4)) (b := 0) (by omega) (by omega)).mp c_96
                  refine v_iconst (x := 0) C d_M_event_103 (by decide) ?_
                  refine v_istore (lv' := [(8, .int 0), (7, .int 0), (6, .int (-1)), (0, .ref o), (1, .int (nI cu)), (2, .int it), (3, .int (nI kd)), (4, .long t)]) C d_M_event_104 (by decide) rfl ?_
                  refine v_iload C 0 d_M_event_106 rfl ?_
                  refine v_if_eq C 121 d_M_event_108 (by decide) (fun _ => ?_) (fun z => absurd (by decide) z)
                  refine v_iload C 1 d_M_event_121 rfl ?_
                  refine v_if_eq C 143 d_M_event_123 (by decide) (fun _ => ?_) (fun z => absurd (by decide) z)
                  refine v_iload C 1 d_M_event_143 rfl ?_
                  refine v_if_eq C 160 d_M_event_145 (by decide) (fun _ => ?_) (fun z => absurd (by decide) z)
                  refine v_iload C 0 d_M_event_160 rfl ?_
                  refine v_if_eq C 181 d_M_event_162 (by decide) (fun _ => ?_) (fun z => absurd (by decide) z)
                  refine v_iconst (x := 0) C d_M_event_181 (by decide) ?_
                  exact v_iret C d_M_event_182 (by first | exact Nat.le_of_ble_eq_true rfl | (show _ ≤ _; omega)) (by first | exact Nat.le_of_ble_eq_true rfl | (show _ ≤ _; omega)) ⟨(by  rw [oEvent, zn_nI hcu3, zn_nI hkd3, if_pos hx0, if_pos hz, if_pos (by rw [zended, hpr]), if_neg (by intro z; rcases z with ⟨z1, z2⟩ | ⟨z1, z2, z3⟩; all_goals first | exact n_118 z2 | exact n_137 z3 | (rw [hpr] at z2; cases z2; done) | (rcases z1 with z1 | z1 <;> first | exact c_74 z1 | exact c_80 z1) | omega), if_neg (by omega), zendS, if_neg (fun z => by rcases z with z | z; exact c_74 z; exact c_80 z)] <;> (try rfl)), (by  rw [oEvent, zn_nI hcu3, zn_nI hkd3, if_pos hx0, if_pos hz, if_pos (by rw [zended, hpr]), if_neg (by intro z; rcases z with ⟨z1, z2⟩ | ⟨z1, z2, z3⟩; all_goals first | exact n_118 z2 | exact n_137 z3 | (rw [hpr] at z2; cases z2; done) | (rcases z1 with z1 | z1 <;> first | exact c_74 z1 | exact c_80 z1) | omega), if_neg (by omega), zendS, if_neg (fun z => by rcases z with z | z; exact c_74 z; exact c_80 z)]; exact hR), hk⟩
                · have n_96 : ¬ (zwn S (32 * cu + 4 * kd) 4) ≤ 0 := mt (nI_leI (a := (zwn S (32 * cu + 4 * kd) 4)) (b := 0) (by omega) (by omega)).mpr c_96
                  refine v_iconst (x := 1) C d_M_event_99 (by decide) ?_
                  refine v_goto C 104 d_M_event_100 (by decide) ?_
                  refine v_istore (lv' := [(8, .int 1), (7, .int 0), (6, .int (-1)), (0, .ref o), (1, .int (nI cu)), (2, .int it), (3, .int (nI kd)), (4, .long t)]) C d_M_event_104 (by decide) rfl ?_
                  refine v_iload C 0 d_M_event_106 rfl ?_
                  refine v_if_eq C 121 d_M_event_108 (by decide) (fun z => absurd z (by decide)) (fun _ => ?_)
                  refine v_aload_n C 3 d_M_event_111 rfl rfl ?_
                  refine v_get C k_M hR.1 9 (by decide) tw_492 (fun _ h => h) rfl d_M_event_112 ?_
                  refine v_sipush (x := 200) C d_M_event_115 (by decide) ?_
                  refine v_icmp_eq C 140 d_M_event_118 (by decide) (fun c_118 => ?_) (fun c_118 => ?_)
                  · have n_118 : (zc S 1) = 200 := (nI_eq (a := (zc S 1)) (b := 200) (by omega) (by omega)).mp c_118
                    refine v_bipush (x := -14) C d_M_event_140 (by decide) ?_
                    exact v_iret C d_M_event_142 (by first | exact Nat.le_of_ble_eq_true rfl | (show _ ≤ _; omega)) (by first | exact Nat.le_of_ble_eq_true rfl | (show _ ≤ _; omega)) ⟨(by  rw [oEvent, zn_nI hcu3, zn_nI hkd3, if_pos hx0, if_pos hz, if_pos (by rw [zended, hpr]), if_pos (Or.inl ⟨by omega, n_118⟩)] <;> (try rfl)), (by  rw [oEvent, zn_nI hcu3, zn_nI hkd3, if_pos hx0, if_pos hz, if_pos (by rw [zended, hpr]), if_pos (Or.inl ⟨by omega, n_118⟩)]; exact hR), hk⟩
                  · have n_118 : ¬ (zc S 1) = 200 := mt (nI_eq (a := (zc S 1)) (b := 200) (by omega) (by omega)).mpr c_118
                    refine v_iload C 1 d_M_event_121 rfl ?_
                    refine v_if_eq C 143 d_M_event_123 (by decide) (fun _ => ?_) (fun z => absurd (by decide) z)
                    refine v_iload C 1 d_M_event_143 rfl ?_
                    refine v_if_eq C 160 d_M_event_145 (by decide) (fun _ => ?_) (fun z => absurd (by decide) z)
                    refine v_iload C 0 d_M_event_160 rfl ?_
                    refine v_if_eq C 181 d_M_event_162 (by decide) (fun z => absurd z (by decide)) (fun _ => ?_)
                    refine v_aload_n C 3 d_M_event_165 rfl rfl ?_
                    refine v_iload_n C 4 d_M_event_166 rfl rfl ?_
                    refine v_iload_n C 5 d_M_event_167 rfl rfl ?_
                    refine v_iload_n C 6 d_M_event_168 rfl rfl ?_
                    refine v_lload C 7 d_M_event_169 rfl ?_
                    refine v_ldc2 (x := -1) C d_M_event_171 tw_628 ?_
                    refine v_iconst (x := 0) C d_M_event_174 (by decide) ?_
                    refine v_callV (rest := []) C (c_M_put l G v o ad S (nI cu) it (nI kd) t (-1) 0 hR (by omega) (by first | exact Or.inl rfl | exact Or.inr rfl)) tw_632 tw_34 tw_629 tw_631 tw_24 mn_M_put hR.1 k_M.1 ⟨Nat.le_of_ble_eq_true rfl, Nat.le_of_ble_eq_true rfl⟩ rfl rfl (Nat.le_of_ble_eq_true rfl) d_M_event_175 ⟨(by first | exact Nat.le_of_ble_eq_true rfl | (show _ ≤ _; omega)), (by first | exact Nat.le_of_ble_eq_true rfl | (show _ ≤ _; omega))⟩ (fun r_36 v_37 hp_38 => ?_)
                    obtain ⟨rfl, hRc_hp_38, hkc_hp_38⟩ := hp_38
                    obtain ⟨S_39, eS_39⟩ : ∃ z, z = zput S (nI cu) it (nI kd) t (-1) 0 := ⟨_, rfl⟩
                    have hR_39 : RM G v_37 o ad S_39 := by rw [eS_39]; exact hRc_hp_38
                    have hk_39 : vkeep (mX o ad) v v_37 := hk.tr hkc_hp_38
                    show vV _ _ _ _ _ _ _ _ _ _ _ _ _ v_37 0 0 178 [(8, .int 1), (7, .int 0), (6, .int (-1)), (0, .ref o), (1, .int (nI cu)), (2, .int it), (3, .int (nI kd)), (4, .long t)] [.int (nI (zc S 1 + 1))]
                    refine v_goto C 182 d_M_event_178 (by decide) ?_
                    exact v_iret C d_M_event_182 (by first | exact Nat.le_of_ble_eq_true rfl | (show _ ≤ _; omega)) (by first | exact Nat.le_of_ble_eq_true rfl | (show _ ≤ _; omega)) ⟨(by  rw [oEvent, zn_nI hcu3, zn_nI hkd3, if_pos hx0, if_pos hz, if_pos (by rw [zended, hpr]), if_neg (by intro z; rcases z with ⟨z1, z2⟩ | ⟨z1, z2, z3⟩; all_goals first | exact n_118 z2 | exact n_137 z3 | (rw [hpr] at z2; cases z2; done) | (rcases z1 with z1 | z1 <;> first | exact c_74 z1 | exact c_80 z1) | omega), if_pos (by omega), zendS, if_neg (fun z => by rcases z with z | z; exact c_74 z; exact c_80 z)] <;> (try rfl)), (by  rw [oEvent, zn_nI hcu3, zn_nI hkd3, if_pos hx0, if_pos hz, if_pos (by rw [zended, hpr]), if_neg (by intro z; rcases z with ⟨z1, z2⟩ | ⟨z1, z2, z3⟩; all_goals first | exact n_118 z2 | exact n_137 z3 | (rw [hpr] at z2; cases z2; done) | (rcases z1 with z1 | z1 <;> first | exact c_74 z1 | exact c_80 z1) | omega), if_pos (by omega), zendS, if_neg (fun z => by rcases z with z | z; exact c_74 z; exact c_80 z)]; subst eS_39; exact hR_39), hk_39⟩
              · have n_80 : kd = 6 := (nI_eq (a := kd) (b := 6) (by omega) (by omega)).mp c_80
                refine v_iconst (x := 1) C d_M_event_83 (by decide) ?_
                refine v_goto C 88 d_M_event_84 (by decide) ?_
                refine v_istore (lv' := [(7, .int 1), (6, .int (-1)), (0, .ref o), (1, .int (nI cu)), (2, .int it), (3, .int (nI kd)), (4, .long t)]) C d_M_event_88 (by decide) rfl ?_
                refine v_aload_n C 2 d_M_event_90 rfl rfl ?_
                refine v_iload_n C 3 d_M_event_91 rfl rfl ?_
                refine v_iload_n C 5 d_M_event_92 rfl rfl ?_
                have hwl_93 := zwn_le S (32 * cu + 4 * kd) 4
                refine v_callV (rest := []) C (c_M_wished l G v o ad S cu kd hR (by omega) (by omega)) tw_604 tw_34 tw_601 tw_603 tw_20 mn_M_wished hR.1 k_M.1 ⟨Nat.le_of_ble_eq_true rfl, Nat.le_of_ble_eq_true rfl⟩ rfl rfl (Nat.le_of_ble_eq_true rfl) d_M_event_93 ⟨(by first | exact Nat.le_of_ble_eq_true rfl | (show _ ≤ _; omega)), (by first | exact Nat.le_of_ble_eq_true rfl | (show _ ≤ _; omega))⟩ (fun r_40 v_41 hp_42 => ?_)
                obtain ⟨rfl, hv9⟩ := hp_42
                obtain rfl := hv9.symm
                show vV _ _ _ _ _ _ _ _ _ _ _ _ _ v 0 0 96 [(7, .int 1), (6, .int (-1)), (0, .ref o), (1, .int (nI cu)), (2, .int it), (3, .int (nI kd)), (4, .long t)] [.int (nI (zwn S (32 * cu + 4 * kd) 4))]
                refine v_if_le C 103 d_M_event_96 (by decide) (fun c_96 => ?_) (fun c_96 => ?_)
                · have n_96 : (zwn S (32 * cu + 4 * kd) 4) ≤ 0 := (nI_leI (a := (zwn S (32 * cu + 4 * kd) 4)) (b := 0) (by omega) (by omega)).mp c_96
                  refine v_iconst (x := 0) C d_M_event_103 (by decide) ?_
                  refine v_istore (lv' := [(8, .int 0), (7, .int 1), (6, .int (-1)), (0, .ref o), (1, .int (nI cu)), (2, .int it), (3, .int (nI kd)), (4, .long t)]) C d_M_event_104 (by decide) rfl ?_
                  refine v_iload C 0 d_M_event_106 rfl ?_
                  refine v_if_eq C 121 d_M_event_108 (by decide) (fun _ => ?_) (fun z => absurd (by decide) z)
                  refine v_iload C 1 d_M_event_121 rfl ?_
                  refine v_if_eq C 143 d_M_event_123 (by decide) (fun z => absurd z (by decide)) (fun _ => ?_)
                  refine v_iload C 2 d_M_event_126 rfl ?_
                  refine v_if_ge C 143 d_M_event_128 (by decide) (fun z => absurd z (by decide)) (fun _ => ?_)
                  refine v_aload_n C 3 d_M_event_131 rfl rfl ?_
                  refine v_get C k_M hR.1 18 (by decide) tw_501 (fun _ h => h) rfl d_M_event_132 ?_
                  refine v_bipush (x := 60) C d_M_event_135 (by decide) ?_
                  refine v_icmp_ne C 143 d_M_event_137 (by decide) (fun c_137 => ?_) (fun c_137 => ?_)
                  · have n_137 : ¬ (zc S 2) = 60 := mt (nI_eq (a := (zc S 2)) (b := 60) (by omega) (by omega)).mpr c_137
                    refine v_iload C 1 d_M_event_143 rfl ?_
                    refine v_if_eq C 160 d_M_event_145 (by decide) (fun z => absurd z (by decide)) (fun _ => ?_)
                    refine v_aload_n C 3 d_M_event_148 rfl rfl ?_
                    refine v_get C k_M hR.1 21 (by decide) tw_504 (fun _ h => h) rfl d_M_event_149 ?_
                    refine v_aload_n C 3 d_M_event_152 rfl rfl ?_
                    refine v_iload_n C 4 d_M_event_153 rfl rfl ?_
                    refine v_iload_n C 5 d_M_event_154 rfl rfl ?_
                    refine v_callV (rest := [.ref (ad 21)]) C (c_M_keep l G v o ad S (nI cu) it hR (by omega) (by intro z; first | (rw [hpr] at z; exact absurd z (Option.some_ne_none _)) | omega)) tw_627 tw_34 tw_624 tw_626 tw_23 mn_M_keep hR.1 k_M.1 ⟨Nat.le_of_ble_eq_true rfl, Nat.le_of_ble_eq_true rfl⟩ rfl rfl (Nat.le_of_ble_eq_true rfl) d_M_event_155 ⟨(by first | exact Nat.le_of_ble_eq_true rfl | (show _ ≤ _; omega)), (by first | exact Nat.le_of_ble_eq_true rfl | (show _ ≤ _; omega))⟩ (fun r_43 v_44 hp_45 => ?_)
                    obtain ⟨rfl, hRc_hp_45, hkc_hp_45⟩ := hp_45
                    obtain ⟨S_46, eS_46⟩ : ∃ z, z = zkeep S (nI cu) it := ⟨_, rfl⟩
                    have hR_46 : RM G v_44 o ad S_46 := by rw [eS_46]; exact hRc_hp_45
                    have hk_46 : vkeep (mX o ad) v v_44 := hk.tr hkc_hp_45
                    show vV _ _ _ _ _ _ _ _ _ _ _ _ _ v_44 0 0 158 [(8, .int 0), (7, .int 1), (6, .int (-1)), (0, .ref o), (1, .int (nI cu)), (2, .int it), (3, .int (nI kd)), (4, .long t)] [.int (nI (zkix S (nI cu) it)), .ref (ad 21)]
                    refine v_iconst (x := 1) C d_M_event_158 (by decide) ?_
                    have hkx : zkix S (nI cu) it < 60 := by first | (rw [zkix_n hpr]; omega) | (rw [zkix_s hpr]; omega)
                    refine v_zastN C (hR_46.oz (f := 21) (by decide)) hkx (by decide) d_M_event_159 ?_
                    refine v_view (fun v3 ev3 => ?_)
                    obtain ⟨S_47, eS_47⟩ : ∃ z, z = zui S_46 21 (zkix S (nI cu) it) 1 := ⟨_, rfl⟩
                    have hR_47 : RM G v3 o ad S_47 := by rw [eS_47]; exact (by rw [ev3]; exact hR_46.putz 21 (by decide) (zkix S (nI cu) it) 1 1 (by decide))
                    have hk_47 : vkeep (mX o ad) v v3 := by rw [ev3]; exact hk_46.up (mX_f (by decide))
                    have hc1 : zc S_47 1 = zc S 1 := by rw [eS_47, eS_46]; exact zkeep_c1 _ _ _
                    refine v_iload C 0 d_M_event_160 rfl ?_
                    refine v_if_eq C 181 d_M_event_162 (by decide) (fun _ => ?_) (fun z => absurd (by decide) z)
                    refine v_iconst (x := 0) C d_M_event_181 (by decide) ?_
                    exact v_iret C d_M_event_182 (by first | exact Nat.le_of_ble_eq_true rfl | (show _ ≤ _; omega)) (by first | exact Nat.le_of_ble_eq_true rfl | (show _ ≤ _; omega)) ⟨(by  rw [oEvent, zn_nI hcu3, zn_nI hkd3, if_pos hx0, if_pos hz, if_pos (by rw [zended, hpr]), if_neg (by intro z; rcases z with ⟨z1, z2⟩ | ⟨z1, z2, z3⟩; all_goals first | exact n_118 z2 | exact n_137 z3 | (rw [hpr] at z2; cases z2; done) | (rcases z1 with z1 | z1 <;> first | exact c_74 z1 | exact c_80 z1) | omega), if_neg (by omega), zendS, if_pos (Or.inr c_80)] <;> (try rfl)), (by  rw [oEvent, zn_nI hcu3, zn_nI hkd3, if_pos hx0, if_pos hz, if_pos (by rw [zended, hpr]), if_neg (by intro z; rcases z with ⟨z1, z2⟩ | ⟨z1, z2, z3⟩; all_goals first | exact n_118 z2 | exact n_137 z3 | (rw [hpr] at z2; cases z2; done) | (rcases z1 with z1 | z1 <;> first | exact c_74 z1 | exact c_80 z1) | omega), if_neg (by omega), zendS, if_pos (Or.inr c_80)]; subst eS_46 eS_47; exact hR_47), hk_47⟩
                  · have n_137 : (zc S 2) = 60 := (nI_eq (a := (zc S 2)) (b := 60) (by omega) (by omega)).mp c_137
                    refine v_bipush (x := -14) C d_M_event_140 (by decide) ?_
                    exact v_iret C d_M_event_142 (by first | exact Nat.le_of_ble_eq_true rfl | (show _ ≤ _; omega)) (by first | exact Nat.le_of_ble_eq_true rfl | (show _ ≤ _; omega)) ⟨(by  rw [oEvent, zn_nI hcu3, zn_nI hkd3, if_pos hx0, if_pos hz, if_pos (by rw [zended, hpr]), if_pos (Or.inr ⟨(Or.inr c_80), hpr, n_137⟩)] <;> (try rfl)), (by  rw [oEvent, zn_nI hcu3, zn_nI hkd3, if_pos hx0, if_pos hz, if_pos (by rw [zended, hpr]), if_pos (Or.inr ⟨(Or.inr c_80), hpr, n_137⟩)]; exact hR), hk⟩
                · have n_96 : ¬ (zwn S (32 * cu + 4 * kd) 4) ≤ 0 := mt (nI_leI (a := (zwn S (32 * cu + 4 * kd) 4)) (b := 0) (by omega) (by omega)).mpr c_96
                  refine v_iconst (x := 1) C d_M_event_99 (by decide) ?_
                  refine v_goto C 104 d_M_event_100 (by decide) ?_
                  refine v_istore (lv' := [(8, .int 1), (7, .int 1), (6, .int (-1)), (0, .ref o), (1, .int (nI cu)), (2, .int it), (3, .int (nI kd)), (4, .long t)]) C d_M_event_104 (by decide) rfl ?_
                  refine v_iload C 0 d_M_event_106 rfl ?_
                  refine v_if_eq C 121 d_M_event_108 (by decide) (fun z => absurd z (by decide)) (fun _ => ?_)
                  refine v_aload_n C 3 d_M_event_111 rfl rfl ?_
                  refine v_get C k_M hR.1 9 (by decide) tw_492 (fun _ h => h) rfl d_M_event_112 ?_
                  refine v_sipush (x := 200) C d_M_event_115 (by decide) ?_
                  refine v_icmp_eq C 140 d_M_event_118 (by decide) (fun c_118 => ?_) (fun c_118 => ?_)
                  · have n_118 : (zc S 1) = 200 := (nI_eq (a := (zc S 1)) (b := 200) (by omega) (by omega)).mp c_118
                    refine v_bipush (x := -14) C d_M_event_140 (by decide) ?_
                    exact v_iret C d_M_event_142 (by first | exact Nat.le_of_ble_eq_true rfl | (show _ ≤ _; omega)) (by first | exact Nat.le_of_ble_eq_true rfl | (show _ ≤ _; omega)) ⟨(by  rw [oEvent, zn_nI hcu3, zn_nI hkd3, if_pos hx0, if_pos hz, if_pos (by rw [zended, hpr]), if_pos (Or.inl ⟨by omega, n_118⟩)] <;> (try rfl)), (by  rw [oEvent, zn_nI hcu3, zn_nI hkd3, if_pos hx0, if_pos hz, if_pos (by rw [zended, hpr]), if_pos (Or.inl ⟨by omega, n_118⟩)]; exact hR), hk⟩
                  · have n_118 : ¬ (zc S 1) = 200 := mt (nI_eq (a := (zc S 1)) (b := 200) (by omega) (by omega)).mpr c_118
                    refine v_iload C 1 d_M_event_121 rfl ?_
                    refine v_if_eq C 143 d_M_event_123 (by decide) (fun z => absurd z (by decide)) (fun _ => ?_)
                    refine v_iload C 2 d_M_event_126 rfl ?_
                    refine v_if_ge C 143 d_M_event_128 (by decide) (fun z => absurd z (by decide)) (fun _ => ?_)
                    refine v_aload_n C 3 d_M_event_131 rfl rfl ?_
                    refine v_get C k_M hR.1 18 (by decide) tw_501 (fun _ h => h) rfl d_M_event_132 ?_
                    refine v_bipush (x := 60) C d_M_event_135 (by decide) ?_
                    refine v_icmp_ne C 143 d_M_event_137 (by decide) (fun c_137 => ?_) (fun c_137 => ?_)
                    · have n_137 : ¬ (zc S 2) = 60 := mt (nI_eq (a := (zc S 2)) (b := 60) (by omega) (by omega)).mpr c_137
                      refine v_iload C 1 d_M_event_143 rfl ?_
                      refine v_if_eq C 160 d_M_event_145 (by decide) (fun z => absurd z (by decide)) (fun _ => ?_)
                      refine v_aload_n C 3 d_M_event_148 rfl rfl ?_
                      refine v_get C k_M hR.1 21 (by decide) tw_504 (fun _ h => h) rfl d_M_event_149 ?_
                      refine v_aload_n C 3 d_M_event_152 rfl rfl ?_
                      refine v_iload_n C 4 d_M_event_153 rfl rfl ?_
                      refine v_iload_n C 5 d_M_event_154 rfl rfl ?_
                      refine v_callV (rest := [.ref (ad 21)]) C (c_M_keep l G v o ad S (nI cu) it hR (by omega) (by intro z; first | (rw [hpr] at z; exact absurd z (Option.some_ne_none _)) | omega)) tw_627 tw_34 tw_624 tw_626 tw_23 mn_M_keep hR.1 k_M.1 ⟨Nat.le_of_ble_eq_true rfl, Nat.le_of_ble_eq_true rfl⟩ rfl rfl (Nat.le_of_ble_eq_true rfl) d_M_event_155 ⟨(by first | exact Nat.le_of_ble_eq_true rfl | (show _ ≤ _; omega)), (by first | exact Nat.le_of_ble_eq_true rfl | (show _ ≤ _; omega))⟩ (fun r_48 v_49 hp_50 => ?_)
                      obtain ⟨rfl, hRc_hp_50, hkc_hp_50⟩ := hp_50
                      obtain ⟨S_51, eS_51⟩ : ∃ z, z = zkeep S (nI cu) it := ⟨_, rfl⟩
                      have hR_51 : RM G v_49 o ad S_51 := by rw [eS_51]; exact hRc_hp_50
                      have hk_51 : vkeep (mX o ad) v v_49 := hk.tr hkc_hp_50
                      show vV _ _ _ _ _ _ _ _ _ _ _ _ _ v_49 0 0 158 [(8, .int 1), (7, .int 1), (6, .int (-1)), (0, .ref o), (1, .int (nI cu)), (2, .int it), (3, .int (nI kd)), (4, .long t)] [.int (nI (zkix S (nI cu) it)), .ref (ad 21)]
                      refine v_iconst (x := 1) C d_M_event_158 (by decide) ?_
                      have hkx : zkix S (nI cu) it < 60 := by first | (rw [zkix_n hpr]; omega) | (rw [zkix_s hpr]; omega)
                      refine v_zastN C (hR_51.oz (f := 21) (by decide)) hkx (by decide) d_M_event_159 ?_
                      refine v_view (fun v4 ev4 => ?_)
                      obtain ⟨S_52, eS_52⟩ : ∃ z, z = zui S_51 21 (zkix S (nI cu) it) 1 := ⟨_, rfl⟩
                      have hR_52 : RM G v4 o ad S_52 := by rw [eS_52]; exact (by rw [ev4]; exact hR_51.putz 21 (by decide) (zkix S (nI cu) it) 1 1 (by decide))
                      have hk_52 : vkeep (mX o ad) v v4 := by rw [ev4]; exact hk_51.up (mX_f (by decide))
                      have hc1 : zc S_52 1 = zc S 1 := by rw [eS_52, eS_51]; exact zkeep_c1 _ _ _
                      refine v_iload C 0 d_M_event_160 rfl ?_
                      refine v_if_eq C 181 d_M_event_162 (by decide) (fun z => absurd z (by decide)) (fun _ => ?_)
                      refine v_aload_n C 3 d_M_event_165 rfl rfl ?_
                      refine v_iload_n C 4 d_M_event_166 rfl rfl ?_
                      refine v_iload_n C 5 d_M_event_167 rfl rfl ?_
                      refine v_iload_n C 6 d_M_event_168 rfl rfl ?_
                      refine v_lload C 7 d_M_event_169 rfl ?_
                      refine v_ldc2 (x := -1) C d_M_event_171 tw_628 ?_
                      refine v_iconst (x := 0) C d_M_event_174 (by decide) ?_
                      refine v_callV (rest := []) C (c_M_put l G v4 o ad S_52 (nI cu) it (nI kd) t (-1) 0 hR_52 (by rw [hc1]; omega) (by first | exact Or.inl rfl | exact Or.inr rfl)) tw_632 tw_34 tw_629 tw_631 tw_24 mn_M_put hR_52.1 k_M.1 ⟨Nat.le_of_ble_eq_true rfl, Nat.le_of_ble_eq_true rfl⟩ rfl rfl (Nat.le_of_ble_eq_true rfl) d_M_event_175 ⟨(by first | exact Nat.le_of_ble_eq_true rfl | (show _ ≤ _; omega)), (by first | exact Nat.le_of_ble_eq_true rfl | (show _ ≤ _; omega))⟩ (fun r_53 v_54 hp_55 => ?_)
                      obtain ⟨rfl, hRc_hp_55, hkc_hp_55⟩ := hp_55
                      obtain ⟨S_56, eS_56⟩ : ∃ z, z = zput S_52 (nI cu) it (nI kd) t (-1) 0 := ⟨_, rfl⟩
                      have hR_56 : RM G v_54 o ad S_56 := by rw [eS_56]; exact hRc_hp_55
                      have hk_56 : vkeep (mX o ad) v v_54 := hk_52.tr hkc_hp_55
                      show vV _ _ _ _ _ _ _ _ _ _ _ _ _ v_54 0 0 178 [(8, .int 1), (7, .int 1), (6, .int (-1)), (0, .ref o), (1, .int (nI cu)), (2, .int it), (3, .int (nI kd)), (4, .long t)] [.int (nI (zc S_52 1 + 1))]
                      refine v_toi (y := nI (zc S 1 + 1)) (by rw [hc1]) ?_
                      refine v_goto C 182 d_M_event_178 (by decide) ?_
                      exact v_iret C d_M_event_182 (by first | exact Nat.le_of_ble_eq_true rfl | (show _ ≤ _; omega)) (by first | exact Nat.le_of_ble_eq_true rfl | (show _ ≤ _; omega)) ⟨(by  rw [oEvent, zn_nI hcu3, zn_nI hkd3, if_pos hx0, if_pos hz, if_pos (by rw [zended, hpr]), if_neg (by intro z; rcases z with ⟨z1, z2⟩ | ⟨z1, z2, z3⟩; all_goals first | exact n_118 z2 | exact n_137 z3 | (rw [hpr] at z2; cases z2; done) | (rcases z1 with z1 | z1 <;> first | exact c_74 z1 | exact c_80 z1) | omega), if_pos (by omega), zendS, if_pos (Or.inr c_80)] <;> (try rfl)), (by  rw [oEvent, zn_nI hcu3, zn_nI hkd3, if_pos hx0, if_pos hz, if_pos (by rw [zended, hpr]), if_neg (by intro z; rcases z with ⟨z1, z2⟩ | ⟨z1, z2, z3⟩; all_goals first | exact n_118 z2 | exact n_137 z3 | (rw [hpr] at z2; cases z2; done) | (rcases z1 with z1 | z1 <;> first | exact c_74 z1 | exact c_80 z1) | omega), if_pos (by omega), zendS, if_pos (Or.inr c_80)]; subst eS_51 eS_52 eS_56; exact hR_56), hk_56⟩
                    · have n_137 : (zc S 2) = 60 := (nI_eq (a := (zc S 2)) (b := 60) (by omega) (by omega)).mp c_137
                      refine v_bipush (x := -14) C d_M_event_140 (by decide) ?_
                      exact v_iret C d_M_event_142 (by first | exact Nat.le_of_ble_eq_true rfl | (show _ ≤ _; omega)) (by first | exact Nat.le_of_ble_eq_true rfl | (show _ ≤ _; omega)) ⟨(by  rw [oEvent, zn_nI hcu3, zn_nI hkd3, if_pos hx0, if_pos hz, if_pos (by rw [zended, hpr]), if_pos (Or.inr ⟨(Or.inr c_80), hpr, n_137⟩)] <;> (try rfl)), (by  rw [oEvent, zn_nI hcu3, zn_nI hkd3, if_pos hx0, if_pos hz, if_pos (by rw [zended, hpr]), if_pos (Or.inr ⟨(Or.inr c_80), hpr, n_137⟩)]; exact hR), hk⟩
          · have hpl := zpf_lt hpr
            show vV _ _ _ _ _ _ _ _ _ _ _ _ _ v 0 0 53 [(0, .ref o), (1, .int (nI cu)), (2, .int it), (3, .int (nI kd)), (4, .long t)] [.int (nI pk)]
            refine v_istore (lv' := [(6, .int (nI pk)), (0, .ref o), (1, .int (nI cu)), (2, .int it), (3, .int (nI kd)), (4, .long t)]) C d_M_event_53 (by decide) rfl ?_
            refine v_iload C 0 d_M_event_55 rfl ?_
            refine v_if_lt C 72 d_M_event_57 (by decide) (fun z => absurd z (nI_pos (by omega))) (fun _ => ?_)
            refine v_aload_n C 1 d_M_event_60 rfl rfl ?_
            refine v_get C k_M hR.1 21 (by decide) tw_504 (fun _ h => h) rfl d_M_event_61 ?_
            refine v_iload C 0 d_M_event_64 rfl ?_
            refine v_zaldN C (hR.oz (f := 21) (by decide)) (by show _ < 60; omega) (by decide) d_M_event_66 ?_
            refine v_if_eq C 72 d_M_event_67 (by decide) (fun c_67 => ?_) (fun c_67 => ?_)
            · refine v_iload_n C 4 d_M_event_72 rfl rfl ?_
              refine v_iconst (x := 5) C d_M_event_73 (by decide) ?_
              refine v_icmp_eq C 83 d_M_event_74 (by decide) (fun c_74 => ?_) (fun c_74 => ?_)
              · have n_74 : kd = 5 := (nI_eq (a := kd) (b := 5) (by omega) (by omega)).mp c_74
                refine v_iconst (x := 1) C d_M_event_83 (by decide) ?_
                refine v_goto C 88 d_M_event_84 (by decide) ?_
                refine v_istore (lv' := [(7, .int 1), (6, .int (nI pk)), (0, .ref o), (1, .int (nI cu)), (2, .int it), (3, .int (nI kd)), (4, .long t)]) C d_M_event_88 (by decide) rfl ?_
                refine v_aload_n C 2 d_M_event_90 rfl rfl ?_
                refine v_iload_n C 3 d_M_event_91 rfl rfl ?_
                refine v_iload_n C 5 d_M_event_92 rfl rfl ?_
                have hwl_93 := zwn_le S (32 * cu + 4 * kd) 4
                refine v_callV (rest := []) C (c_M_wished l G v o ad S cu kd hR (by omega) (by omega)) tw_604 tw_34 tw_601 tw_603 tw_20 mn_M_wished hR.1 k_M.1 ⟨Nat.le_of_ble_eq_true rfl, Nat.le_of_ble_eq_true rfl⟩ rfl rfl (Nat.le_of_ble_eq_true rfl) d_M_event_93 ⟨(by first | exact Nat.le_of_ble_eq_true rfl | (show _ ≤ _; omega)), (by first | exact Nat.le_of_ble_eq_true rfl | (show _ ≤ _; omega))⟩ (fun r_57 v_58 hp_59 => ?_)
                obtain ⟨rfl, hv9⟩ := hp_59
                obtain rfl := hv9.symm
                show vV _ _ _ _ _ _ _ _ _ _ _ _ _ v 0 0 96 [(7, .int 1), (6, .int (nI pk)), (0, .ref o), (1, .int (nI cu)), (2, .int it), (3, .int (nI kd)), (4, .long t)] [.int (nI (zwn S (32 * cu + 4 * kd) 4))]
                refine v_if_le C 103 d_M_event_96 (by decide) (fun c_96 => ?_) (fun c_96 => ?_)
                · have n_96 : (zwn S (32 * cu + 4 * kd) 4) ≤ 0 := (nI_leI (a := (zwn S (32 * cu + 4 * kd) 4)) (b := 0) (by omega) (by omega)).mp c_96
                  refine v_iconst (x := 0) C d_M_event_103 (by decide) ?_
                  refine v_istore (lv' := [(8, .int 0), (7, .int 1), (6, .int (nI pk)), (0, .ref o), (1, .int (nI cu)), (2, .int it), (3, .int (nI kd)), (4, .long t)]) C d_M_event_104 (by decide) rfl ?_
                  refine v_iload C 0 d_M_event_106 rfl ?_
                  refine v_if_eq C 121 d_M_event_108 (by decide) (fun _ => ?_) (fun z => absurd (by decide) z)
                  refine v_iload C 1 d_M_event_121 rfl ?_
                  refine v_if_eq C 143 d_M_event_123 (by decide) (fun z => absurd z (by decide)) (fun _ => ?_)
                  refine v_iload C 2 d_M_event_126 rfl ?_
                  refine v_if_ge C 143 d_M_event_128 (by decide) (fun _ => ?_) (fun z => absurd (nI_pos' (by omega)) z)
                  refine v_iload C 1 d_M_event_143 rfl ?_
                  refine v_if_eq C 160 d_M_event_145 (by decide) (fun z => absurd z (by decide)) (fun _ => ?_)
                  refine v_aload_n C 3 d_M_event_148 rfl rfl ?_
                  refine v_get C k_M hR.1 21 (by decide) tw_504 (fun _ h => h) rfl d_M_event_149 ?_
                  refine v_aload_n C 3 d_M_event_152 rfl rfl ?_
                  refine v_iload_n C 4 d_M_event_153 rfl rfl ?_
                  refine v_iload_n C 5 d_M_event_154 rfl rfl ?_
                  refine v_callV (rest := [.ref (ad 21)]) C (c_M_keep l G v o ad S (nI cu) it hR (by omega) (by intro z; first | (rw [hpr] at z; exact absurd z (Option.some_ne_none _)) | omega)) tw_627 tw_34 tw_624 tw_626 tw_23 mn_M_keep hR.1 k_M.1 ⟨Nat.le_of_ble_eq_true rfl, Nat.le_of_ble_eq_true rfl⟩ rfl rfl (Nat.le_of_ble_eq_true rfl) d_M_event_155 ⟨(by first | exact Nat.le_of_ble_eq_true rfl | (show _ ≤ _; omega)), (by first | exact Nat.le_of_ble_eq_true rfl | (show _ ≤ _; omega))⟩ (fun r_60 v_61 hp_62 => ?_)
                  obtain ⟨rfl, hRc_hp_62, hkc_hp_62⟩ := hp_62
                  obtain ⟨S_63, eS_63⟩ : ∃ z, z = zkeep S (nI cu) it := ⟨_, rfl⟩
                  have hR_63 : RM G v_61 o ad S_63 := by rw [eS_63]; exact hRc_hp_62
                  have hk_63 : vkeep (mX o ad) v v_61 := hk.tr hkc_hp_62
                  show vV _ _ _ _ _ _ _ _ _ _ _ _ _ v_61 0 0 158 [(8, .int 0), (7, .int 1), (6, .int (nI pk)), (0, .ref o), (1, .int (nI cu)), (2, .int it), (3, .int (nI kd)), (4, .long t)] [.int (nI (zkix S (nI cu) it)), .ref (ad 21)]
                  refine v_iconst (x := 1) C d_M_event_158 (by decide) ?_
                  have hkx : zkix S (nI cu) it < 60 := by first | (rw [zkix_n hpr]; omega) | (rw [zkix_s hpr]; omega)
                  refine v_zastN C (hR_63.oz (f := 21) (by decide)) hkx (by decide) d_M_event_159 ?_
                  refine v_view (fun v5 ev5 => ?_)
                  obtain ⟨S_64, eS_64⟩ : ∃ z, z = zui S_63 21 (zkix S (nI cu) it) 1 := ⟨_, rfl⟩
                  have hR_64 : RM G v5 o ad S_64 := by rw [eS_64]; exact (by rw [ev5]; exact hR_63.putz 21 (by decide) (zkix S (nI cu) it) 1 1 (by decide))
                  have hk_64 : vkeep (mX o ad) v v5 := by rw [ev5]; exact hk_63.up (mX_f (by decide))
                  have hc1 : zc S_64 1 = zc S 1 := by rw [eS_64, eS_63]; exact zkeep_c1 _ _ _
                  refine v_iload C 0 d_M_event_160 rfl ?_
                  refine v_if_eq C 181 d_M_event_162 (by decide) (fun _ => ?_) (fun z => absurd (by decide) z)
                  refine v_iconst (x := 0) C d_M_event_181 (by decide) ?_
                  exact v_iret C d_M_event_182 (by first | exact Nat.le_of_ble_eq_true rfl | (show _ ≤ _; omega)) (by first | exact Nat.le_of_ble_eq_true rfl | (show _ ≤ _; omega)) ⟨(by  rw [oEvent, zn_nI hcu3, zn_nI hkd3, if_pos hx0, if_pos hz, if_pos (by rw [zended, hpr]; exact c_67), if_neg (by intro z; rcases z with ⟨z1, z2⟩ | ⟨z1, z2, z3⟩; all_goals first | exact n_118 z2 | exact n_137 z3 | (rw [hpr] at z2; cases z2; done) | (rcases z1 with z1 | z1 <;> first | exact c_74 z1 | exact c_80 z1) | omega), if_neg (by omega), zendS, if_pos (Or.inl c_74)] <;> (try rfl)), (by  rw [oEvent, zn_nI hcu3, zn_nI hkd3, if_pos hx0, if_pos hz, if_pos (by rw [zended, hpr]; exact c_67), if_neg (by intro z; rcases z with ⟨z1, z2⟩ | ⟨z1, z2, z3⟩; all_goals first | exact n_118 z2 | exact n_137 z3 | (rw [hpr] at z2; cases z2; done) | (rcases z1 with z1 | z1 <;> first | exact c_74 z1 | exact c_80 z1) | omega), if_neg (by omega), zendS, if_pos (Or.inl c_74)]; subst eS_63 eS_64; exact hR_64), hk_64⟩
                · have n_96 : ¬ (zwn S (32 * cu + 4 * kd) 4) ≤ 0 := mt (nI_leI (a := (zwn S (32 * cu + 4 * kd) 4)) (b := 0) (by omega) (by omega)).mpr c_96
                  refine v_iconst (x := 1) C d_M_event_99 (by decide) ?_
                  refine v_goto C 104 d_M_event_100 (by decide) ?_
                  refine v_istore (lv' := [(8, .int 1), (7, .int 1), (6, .int (nI pk)), (0, .ref o), (1, .int (nI cu)), (2, .int it), (3, .int (nI kd)), (4, .long t)]) C d_M_event_104 (by decide) rfl ?_
                  refine v_iload C 0 d_M_event_106 rfl ?_
                  refine v_if_eq C 121 d_M_event_108 (by decide) (fun z => absurd z (by decide)) (fun _ => ?_)
                  refine v_aload_n C 3 d_M_event_111 rfl rfl ?_
                  refine v_get C k_M hR.1 9 (by decide) tw_492 (fun _ h => h) rfl d_M_event_112 ?_
                  refine v_sipush (x := 200) C d_M_event_115 (by decide) ?_
                  refine v_icmp_eq C 140 d_M_event_118 (by decide) (fun c_118 => ?_) (fun c_118 => ?_)
                  · have n_118 : (zc S 1) = 200 := (nI_eq (a := (zc S 1)) (b := 200) (by omega) (by omega)).mp c_118
                    refine v_bipush (x := -14) C d_M_event_140 (by decide) ?_
                    exact v_iret C d_M_event_142 (by first | exact Nat.le_of_ble_eq_true rfl | (show _ ≤ _; omega)) (by first | exact Nat.le_of_ble_eq_true rfl | (show _ ≤ _; omega)) ⟨(by  rw [oEvent, zn_nI hcu3, zn_nI hkd3, if_pos hx0, if_pos hz, if_pos (by rw [zended, hpr]; exact c_67), if_pos (Or.inl ⟨by omega, n_118⟩)] <;> (try rfl)), (by  rw [oEvent, zn_nI hcu3, zn_nI hkd3, if_pos hx0, if_pos hz, if_pos (by rw [zended, hpr]; exact c_67), if_pos (Or.inl ⟨by omega, n_118⟩)]; exact hR), hk⟩
                  · have n_118 : ¬ (zc S 1) = 200 := mt (nI_eq (a := (zc S 1)) (b := 200) (by omega) (by omega)).mpr c_118
                    refine v_iload C 1 d_M_event_121 rfl ?_
                    refine v_if_eq C 143 d_M_event_123 (by decide) (fun z => absurd z (by decide)) (fun _ => ?_)
                    refine v_iload C 2 d_M_event_126 rfl ?_
                    refine v_if_ge C 143 d_M_event_128 (by decide) (fun _ => ?_) (fun z => absurd (nI_pos' (by omega)) z)
                    refine v_iload C 1 d_M_event_143 rfl ?_
                    refine v_if_eq C 160 d_M_event_145 (by decide) (fun z => absurd z (by decide)) (fun _ => ?_)
                    refine v_aload_n C 3 d_M_event_148 rfl rfl ?_
                    refine v_get C k_M hR.1 21 (by decide) tw_504 (fun _ h => h) rfl d_M_event_149 ?_
                    refine v_aload_n C 3 d_M_event_152 rfl rfl ?_
                    refine v_iload_n C 4 d_M_event_153 rfl rfl ?_
                    refine v_iload_n C 5 d_M_event_154 rfl rfl ?_
                    refine v_callV (rest := [.ref (ad 21)]) C (c_M_keep l G v o ad S (nI cu) it hR (by omega) (by intro z; first | (rw [hpr] at z; exact absurd z (Option.some_ne_none _)) | omega)) tw_627 tw_34 tw_624 tw_626 tw_23 mn_M_keep hR.1 k_M.1 ⟨Nat.le_of_ble_eq_true rfl, Nat.le_of_ble_eq_true rfl⟩ rfl rfl (Nat.le_of_ble_eq_true rfl) d_M_event_155 ⟨(by first | exact Nat.le_of_ble_eq_true rfl | (show _ ≤ _; omega)), (by first | exact Nat.le_of_ble_eq_true rfl | (show _ ≤ _; omega))⟩ (fun r_65 v_66 hp_67 => ?_)
                    obtain ⟨rfl, hRc_hp_67, hkc_hp_67⟩ := hp_67
                    obtain ⟨S_68, eS_68⟩ : ∃ z, z = zkeep S (nI cu) it := ⟨_, rfl⟩
                    have hR_68 : RM G v_66 o ad S_68 := by rw [eS_68]; exact hRc_hp_67
                    have hk_68 : vkeep (mX o ad) v v_66 := hk.tr hkc_hp_67
                    show vV _ _ _ _ _ _ _ _ _ _ _ _ _ v_66 0 0 158 [(8, .int 1), (7, .int 1), (6, .int (nI pk)), (0, .ref o), (1, .int (nI cu)), (2, .int it), (3, .int (nI kd)), (4, .long t)] [.int (nI (zkix S (nI cu) it)), .ref (ad 21)]
                    refine v_iconst (x := 1) C d_M_event_158 (by decide) ?_
                    have hkx : zkix S (nI cu) it < 60 := by first | (rw [zkix_n hpr]; omega) | (rw [zkix_s hpr]; omega)
                    refine v_zastN C (hR_68.oz (f := 21) (by decide)) hkx (by decide) d_M_event_159 ?_
                    refine v_view (fun v6 ev6 => ?_)
                    obtain ⟨S_69, eS_69⟩ : ∃ z, z = zui S_68 21 (zkix S (nI cu) it) 1 := ⟨_, rfl⟩
                    have hR_69 : RM G v6 o ad S_69 := by rw [eS_69]; exact (by rw [ev6]; exact hR_68.putz 21 (by decide) (zkix S (nI cu) it) 1 1 (by decide))
                    have hk_69 : vkeep (mX o ad) v v6 := by rw [ev6]; exact hk_68.up (mX_f (by decide))
                    have hc1 : zc S_69 1 = zc S 1 := by rw [eS_69, eS_68]; exact zkeep_c1 _ _ _
                    refine v_iload C 0 d_M_event_160 rfl ?_
                    refine v_if_eq C 181 d_M_event_162 (by decide) (fun z => absurd z (by decide)) (fun _ => ?_)
                    refine v_aload_n C 3 d_M_event_165 rfl rfl ?_
                    refine v_iload_n C 4 d_M_event_166 rfl rfl ?_
                    refine v_iload_n C 5 d_M_event_167 rfl rfl ?_
                    refine v_iload_n C 6 d_M_event_168 rfl rfl ?_
                    refine v_lload C 7 d_M_event_169 rfl ?_
                    refine v_ldc2 (x := -1) C d_M_event_171 tw_628 ?_
                    refine v_iconst (x := 0) C d_M_event_174 (by decide) ?_
                    refine v_callV (rest := []) C (c_M_put l G v6 o ad S_69 (nI cu) it (nI kd) t (-1) 0 hR_69 (by rw [hc1]; omega) (by first | exact Or.inl rfl | exact Or.inr rfl)) tw_632 tw_34 tw_629 tw_631 tw_24 mn_M_put hR_69.1 k_M.1 ⟨Nat.le_of_ble_eq_true rfl, Nat.le_of_ble_eq_true rfl⟩ rfl rfl (Nat.le_of_ble_eq_true rfl) d_M_event_175 ⟨(by first | exact Nat.le_of_ble_eq_true rfl | (show _ ≤ _; omega)), (by first | exact Nat.le_of_ble_eq_true rfl | (show _ ≤ _; omega))⟩ (fun r_70 v_71 hp_72 => ?_)
                    obtain ⟨rfl, hRc_hp_72, hkc_hp_72⟩ := hp_72
                    obtain ⟨S_73, eS_73⟩ : ∃ z, z = zput S_69 (nI cu) it (nI kd) t (-1) 0 := ⟨_, rfl⟩
                    have hR_73 : RM G v_71 o ad S_73 := by rw [eS_73]; exact hRc_hp_72
                    have hk_73 : vkeep (mX o ad) v v_71 := hk_69.tr hkc_hp_72
                    show vV _ _ _ _ _ _ _ _ _ _ _ _ _ v_71 0 0 178 [(8, .int 1), (7, .int 1), (6, .int (nI pk)), (0, .ref o), (1, .int (nI cu)), (2, .int it), (3, .int (nI kd)), (4, .long t)] [.int (nI (zc S_69 1 + 1))]
                    refine v_toi (y := nI (zc S 1 + 1)) (by rw [hc1]) ?_
                    refine v_goto C 182 d_M_event_178 (by decide) ?_
                    exact v_iret C d_M_event_182 (by first | exact Nat.le_of_ble_eq_true rfl | (show _ ≤ _; omega)) (by first | exact Nat.le_of_ble_eq_true rfl | (show _ ≤ _; omega)) ⟨(by  rw [oEvent, zn_nI hcu3, zn_nI hkd3, if_pos hx0, if_pos hz, if_pos (by rw [zended, hpr]; exact c_67), if_neg (by intro z; rcases z with ⟨z1, z2⟩ | ⟨z1, z2, z3⟩; all_goals first | exact n_118 z2 | exact n_137 z3 | (rw [hpr] at z2; cases z2; done) | (rcases z1 with z1 | z1 <;> first | exact c_74 z1 | exact c_80 z1) | omega), if_pos (by omega), zendS, if_pos (Or.inl c_74)] <;> (try rfl)), (by  rw [oEvent, zn_nI hcu3, zn_nI hkd3, if_pos hx0, if_pos hz, if_pos (by rw [zended, hpr]; exact c_67), if_neg (by intro z; rcases z with ⟨z1, z2⟩ | ⟨z1, z2, z3⟩; all_goals first | exact n_118 z2 | exact n_137 z3 | (rw [hpr] at z2; cases z2; done) | (rcases z1 with z1 | z1 <;> first | exact c_74 z1 | exact c_80 z1) | omega), if_pos (by omega), zendS, if_pos (Or.inl c_74)]; subst eS_68 eS_69 eS_73; exact hR_73), hk_73⟩
              · have n_74 : ¬ kd = 5 := mt (nI_eq (a := kd) (b := 5) (by omega) (by omega)).mpr c_74
                refine v_iload_n C 4 d_M_event_77 rfl rfl ?_
                refine v_bipush (x := 6) C d_M_event_78 (by decide) ?_
                refine v_icmp_ne C 87 d_M_event_80 (by decide) (fun c_80 => ?_) (fun c_80 => ?_)
                · have n_80 : ¬ kd = 6 := mt (nI_eq (a := kd) (b := 6) (by omega) (by omega)).mpr c_80
                  refine v_iconst (x := 0) C d_M_event_87 (by decide) ?_
                  refine v_istore (lv' := [(7, .int 0), (6, .int (nI pk)), (0, .ref o), (1, .int (nI cu)), (2, .int it), (3, .int (nI kd)), (4, .long t)]) C d_M_event_88 (by decide) rfl ?_
                  refine v_aload_n C 2 d_M_event_90 rfl rfl ?_
                  refine v_iload_n C 3 d_M_event_91 rfl rfl ?_
                  refine v_iload_n C 5 d_M_event_92 rfl rfl ?_
                  have hwl_93 := zwn_le S (32 * cu + 4 * kd) 4
                  refine v_callV (rest := []) C (c_M_wished l G v o ad S cu kd hR (by omega) (by omega)) tw_604 tw_34 tw_601 tw_603 tw_20 mn_M_wished hR.1 k_M.1 ⟨Nat.le_of_ble_eq_true rfl, Nat.le_of_ble_eq_true rfl⟩ rfl rfl (Nat.le_of_ble_eq_true rfl) d_M_event_93 ⟨(by first | exact Nat.le_of_ble_eq_true rfl | (show _ ≤ _; omega)), (by first | exact Nat.le_of_ble_eq_true rfl | (show _ ≤ _; omega))⟩ (fun r_74 v_75 hp_76 => ?_)
                  obtain ⟨rfl, hv9⟩ := hp_76
                  obtain rfl := hv9.symm
                  show vV _ _ _ _ _ _ _ _ _ _ _ _ _ v 0 0 96 [(7, .int 0), (6, .int (nI pk)), (0, .ref o), (1, .int (nI cu)), (2, .int it), (3, .int (nI kd)), (4, .long t)] [.int (nI (zwn S (32 * cu + 4 * kd) 4))]
                  refine v_if_le C 103 d_M_event_96 (by decide) (fun c_96 => ?_) (fun c_96 => ?_)
                  · have n_96 : (zwn S (32 * cu + 4 * kd) 4) ≤ 0 := (nI_leI (a := (zwn S (32 * cu + 4 * kd) 4)) (b := 0) (by omega) (by omega)).mp c_96
                    refine v_iconst (x := 0) C d_M_event_103 (by decide) ?_
                    refine v_istore (lv' := [(8, .int 0), (7, .int 0), (6, .int (nI pk)), (0, .ref o), (1, .int (nI cu)), (2, .int it), (3, .int (nI kd)), (4, .long t)]) C d_M_event_104 (by decide) rfl ?_
                    refine v_iload C 0 d_M_event_106 rfl ?_
                    refine v_if_eq C 121 d_M_event_108 (by decide) (fun _ => ?_) (fun z => absurd (by decide) z)
                    refine v_iload C 1 d_M_event_121 rfl ?_
                    refine v_if_eq C 143 d_M_event_123 (by decide) (fun _ => ?_) (fun z => absurd (by decide) z)
                    refine v_iload C 1 d_M_event_143 rfl ?_
                    refine v_if_eq C 160 d_M_event_145 (by decide) (fun _ => ?_) (fun z => absurd (by decide) z)
                    refine v_iload C 0 d_M_event_160 rfl ?_
                    refine v_if_eq C 181 d_M_event_162 (by decide) (fun _ => ?_) (fun z => absurd (by decide) z)
                    refine v_iconst (x := 0) C d_M_event_181 (by decide) ?_
                    exact v_iret C d_M_event_182 (by first | exact Nat.le_of_ble_eq_true rfl | (show _ ≤ _; omega)) (by first | exact Nat.le_of_ble_eq_true rfl | (show _ ≤ _; omega)) ⟨(by  rw [oEvent, zn_nI hcu3, zn_nI hkd3, if_pos hx0, if_pos hz, if_pos (by rw [zended, hpr]; exact c_67), if_neg (by intro z; rcases z with ⟨z1, z2⟩ | ⟨z1, z2, z3⟩; all_goals first | exact n_118 z2 | exact n_137 z3 | (rw [hpr] at z2; cases z2; done) | (rcases z1 with z1 | z1 <;> first | exact c_74 z1 | exact c_80 z1) | omega), if_neg (by omega), zendS, if_neg (fun z => by rcases z with z | z; exact c_74 z; exact c_80 z)] <;> (try rfl)), (by  rw [oEvent, zn_nI hcu3, zn_nI hkd3, if_pos hx0, if_pos hz, if_pos (by rw [zended, hpr]; exact c_67), if_neg (by intro z; rcases z with ⟨z1, z2⟩ | ⟨z1, z2, z3⟩; all_goals first | exact n_118 z2 | exact n_137 z3 | (rw [hpr] at z2; cases z2; done) | (rcases z1 with z1 | z1 <;> first | exact c_74 z1 | exact c_80 z1) | omega), if_neg (by omega), zendS, if_neg (fun z => by rcases z with z | z; exact c_74 z; exact c_80 z)]; exact hR), hk⟩
                  · have n_96 : ¬ (zwn S (32 * cu + 4 * kd) 4) ≤ 0 := mt (nI_leI (a := (zwn S (32 * cu + 4 * kd) 4)) (b := 0) (by omega) (by omega)).mpr c_96
                    refine v_iconst (x := 1) C d_M_event_99 (by decide) ?_
                    refine v_goto C 104 d_M_event_100 (by decide) ?_
                    refine v_istore (lv' := [(8, .int 1), (7, .int 0), (6, .int (nI pk)), (0, .ref o), (1, .int (nI cu)), (2, .int it), (3, .int (nI kd)), (4, .long t)]) C d_M_event_104 (by decide) rfl ?_
                    refine v_iload C 0 d_M_event_106 rfl ?_
                    refine v_if_eq C 121 d_M_event_108 (by decide) (fun z => absurd z (by decide)) (fun _ => ?_)
                    refine v_aload_n C 3 d_M_event_111 rfl rfl ?_
                    refine v_get C k_M hR.1 9 (by decide) tw_492 (fun _ h => h) rfl d_M_event_112 ?_
                    refine v_sipush (x := 200) C d_M_event_115 (by decide) ?_
                    refine v_icmp_eq C 140 d_M_event_118 (by decide) (fun c_118 => ?_) (fun c_118 => ?_)
                    · have n_118 : (zc S 1) = 200 := (nI_eq (a := (zc S 1)) (b := 200) (by omega) (by omega)).mp c_118
                      refine v_bipush (x := -14) C d_M_event_140 (by decide) ?_
                      exact v_iret C d_M_event_142 (by first | exact Nat.le_of_ble_eq_true rfl | (show _ ≤ _; omega)) (by first | exact Nat.le_of_ble_eq_true rfl | (show _ ≤ _; omega)) ⟨(by  rw [oEvent, zn_nI hcu3, zn_nI hkd3, if_pos hx0, if_pos hz, if_pos (by rw [zended, hpr]; exact c_67), if_pos (Or.inl ⟨by omega, n_118⟩)] <;> (try rfl)), (by  rw [oEvent, zn_nI hcu3, zn_nI hkd3, if_pos hx0, if_pos hz, if_pos (by rw [zended, hpr]; exact c_67), if_pos (Or.inl ⟨by omega, n_118⟩)]; exact hR), hk⟩
                    · have n_118 : ¬ (zc S 1) = 200 := mt (nI_eq (a := (zc S 1)) (b := 200) (by omega) (by omega)).mpr c_118
                      refine v_iload C 1 d_M_event_121 rfl ?_
                      refine v_if_eq C 143 d_M_event_123 (by decide) (fun _ => ?_) (fun z => absurd (by decide) z)
                      refine v_iload C 1 d_M_event_143 rfl ?_
                      refine v_if_eq C 160 d_M_event_145 (by decide) (fun _ => ?_) (fun z => absurd (by decide) z)
                      refine v_iload C 0 d_M_event_160 rfl ?_
                      refine v_if_eq C 181 d_M_event_162 (by decide) (fun z => absurd z (by decide)) (fun _ => ?_)
                      refine v_aload_n C 3 d_M_event_165 rfl rfl ?_
                      refine v_iload_n C 4 d_M_event_166 rfl rfl ?_
                      refine v_iload_n C 5 d_M_event_167 rfl rfl ?_
                      refine v_iload_n C 6 d_M_event_168 rfl rfl ?_
                      refine v_lload C 7 d_M_event_169 rfl ?_
                      refine v_ldc2 (x := -1) C d_M_event_171 tw_628 ?_
                      refine v_iconst (x := 0) C d_M_event_174 (by decide) ?_
                      refine v_callV (rest := []) C (c_M_put l G v o ad S (nI cu) it (nI kd) t (-1) 0 hR (by omega) (by first | exact Or.inl rfl | exact Or.inr rfl)) tw_632 tw_34 tw_629 tw_631 tw_24 mn_M_put hR.1 k_M.1 ⟨Nat.le_of_ble_eq_true rfl, Nat.le_of_ble_eq_true rfl⟩ rfl rfl (Nat.le_of_ble_eq_true rfl) d_M_event_175 ⟨(by first | exact Nat.le_of_ble_eq_true rfl | (show _ ≤ _; omega)), (by first | exact Nat.le_of_ble_eq_true rfl | (show _ ≤ _; omega))⟩ (fun r_77 v_78 hp_79 => ?_)
                      obtain ⟨rfl, hRc_hp_79, hkc_hp_79⟩ := hp_79
                      obtain ⟨S_80, eS_80⟩ : ∃ z, z = zput S (nI cu) it (nI kd) t (-1) 0 := ⟨_, rfl⟩
                      have hR_80 : RM G v_78 o ad S_80 := by rw [eS_80]; exact hRc_hp_79
                      have hk_80 : vkeep (mX o ad) v v_78 := hk.tr hkc_hp_79
                      show vV _ _ _ _ _ _ _ _ _ _ _ _ _ v_78 0 0 178 [(8, .int 1), (7, .int 0), (6, .int (nI pk)), (0, .ref o), (1, .int (nI cu)), (2, .int it), (3, .int (nI kd)), (4, .long t)] [.int (nI (zc S 1 + 1))]
                      refine v_goto C 182 d_M_event_178 (by decide) ?_
                      exact v_iret C d_M_event_182 (by first | exact Nat.le_of_ble_eq_true rfl | (show _ ≤ _; omega)) (by first | exact Nat.le_of_ble_eq_true rfl | (show _ ≤ _; omega)) ⟨(by  rw [oEvent, zn_nI hcu3, zn_nI hkd3, if_pos hx0, if_pos hz, if_pos (by rw [zended, hpr]; exact c_67), if_neg (by intro z; rcases z with ⟨z1, z2⟩ | ⟨z1, z2, z3⟩; all_goals first | exact n_118 z2 | exact n_137 z3 | (rw [hpr] at z2; cases z2; done) | (rcases z1 with z1 | z1 <;> first | exact c_74 z1 | exact c_80 z1) | omega), if_pos (by omega), zendS, if_neg (fun z => by rcases z with z | z; exact c_74 z; exact c_80 z)] <;> (try rfl)), (by  rw [oEvent, zn_nI hcu3, zn_nI hkd3, if_pos hx0, if_pos hz, if_pos (by rw [zended, hpr]; exact c_67), if_neg (by intro z; rcases z with ⟨z1, z2⟩ | ⟨z1, z2, z3⟩; all_goals first | exact n_118 z2 | exact n_137 z3 | (rw [hpr] at z2; cases z2; done) | (rcases z1 with z1 | z1 <;> first | exact c_74 z1 | exact c_80 z1) | omega), if_pos (by omega), zendS, if_neg (fun z => by rcases z with z | z; exact c_74 z; exact c_80 z)]; subst eS_80; exact hR_80), hk_80⟩
                · have n_80 : kd = 6 := (nI_eq (a := kd) (b := 6) (by omega) (by omega)).mp c_80
                  refine v_iconst (x := 1) C d_M_event_83 (by decide) ?_
                  refine v_goto C 88 d_M_event_84 (by decide) ?_
                  refine v_istore (lv' := [(7, .int 1), (6, .int (nI pk)), (0, .ref o), (1, .int (nI cu)), (2, .int it), (3, .int (nI kd)), (4, .long t)]) C d_M_event_88 (by decide) rfl ?_
                  refine v_aload_n C 2 d_M_event_90 rfl rfl ?_
                  refine v_iload_n C 3 d_M_event_91 rfl rfl ?_
                  refine v_iload_n C 5 d_M_event_92 rfl rfl ?_
                  have hwl_93 := zwn_le S (32 * cu + 4 * kd) 4
                  refine v_callV (rest := []) C (c_M_wished l G v o ad S cu kd hR (by omega) (by omega)) tw_604 tw_34 tw_601 tw_603 tw_20 mn_M_wished hR.1 k_M.1 ⟨Nat.le_of_ble_eq_true rfl, Nat.le_of_ble_eq_true rfl⟩ rfl rfl (Nat.le_of_ble_eq_true rfl) d_M_event_93 ⟨(by first | exact Nat.le_of_ble_eq_true rfl | (show _ ≤ _; omega)), (by first | exact Nat.le_of_ble_eq_true rfl | (show _ ≤ _; omega))⟩ (fun r_81 v_82 hp_83 => ?_)
                  obtain ⟨rfl, hv9⟩ := hp_83
                  obtain rfl := hv9.symm
                  show vV _ _ _ _ _ _ _ _ _ _ _ _ _ v 0 0 96 [(7, .int 1), (6, .int (nI pk)), (0, .ref o), (1, .int (nI cu)), (2, .int it), (3, .int (nI kd)), (4, .long t)] [.int (nI (zwn S (32 * cu + 4 * kd) 4))]
                  refine v_if_le C 103 d_M_event_96 (by decide) (fun c_96 => ?_) (fun c_96 => ?_)
                  · have n_96 : (zwn S (32 * cu + 4 * kd) 4) ≤ 0 := (nI_leI (a := (zwn S (32 * cu + 4 * kd) 4)) (b := 0) (by omega) (by omega)).mp c_96
                    refine v_iconst (x := 0) C d_M_event_103 (by decide) ?_
                    refine v_istore (lv' := [(8, .int 0), (7, .int 1), (6, .int (nI pk)), (0, .ref o), (1, .int (nI cu)), (2, .int it), (3, .int (nI kd)), (4, .long t)]) C d_M_event_104 (by decide) rfl ?_
                    refine v_iload C 0 d_M_event_106 rfl ?_
                    refine v_if_eq C 121 d_M_event_108 (by decide) (fun _ => ?_) (fun z => absurd (by decide) z)
                    refine v_iload C 1 d_M_event_121 rfl ?_
                    refine v_if_eq C 143 d_M_event_123 (by decide) (fun z => absurd z (by decide)) (fun _ => ?_)
                    refine v_iload C 2 d_M_event_126 rfl ?_
                    refine v_if_ge C 143 d_M_event_128 (by decide) (fun _ => ?_) (fun z => absurd (nI_pos' (by omega)) z)
                    refine v_iload C 1 d_M_event_143 rfl ?_
                    refine v_if_eq C 160 d_M_event_145 (by decide) (fun z => absurd z (by decide)) (fun _ => ?_)
                    refine v_aload_n C 3 d_M_event_148 rfl rfl ?_
                    refine v_get C k_M hR.1 21 (by decide) tw_504 (fun _ h => h) rfl d_M_event_149 ?_
                    refine v_aload_n C 3 d_M_event_152 rfl rfl ?_
                    refine v_iload_n C 4 d_M_event_153 rfl rfl ?_
                    refine v_iload_n C 5 d_M_event_154 rfl rfl ?_
                    refine v_callV (rest := [.ref (ad 21)]) C (c_M_keep l G v o ad S (nI cu) it hR (by omega) (by intro z; first | (rw [hpr] at z; exact absurd z (Option.some_ne_none _)) | omega)) tw_627 tw_34 tw_624 tw_626 tw_23 mn_M_keep hR.1 k_M.1 ⟨Nat.le_of_ble_eq_true rfl, Nat.le_of_ble_eq_true rfl⟩ rfl rfl (Nat.le_of_ble_eq_true rfl) d_M_event_155 ⟨(by first | exact Nat.le_of_ble_eq_true rfl | (show _ ≤ _; omega)), (by first | exact Nat.le_of_ble_eq_true rfl | (show _ ≤ _; omega))⟩ (fun r_84 v_85 hp_86 => ?_)
                    obtain ⟨rfl, hRc_hp_86, hkc_hp_86⟩ := hp_86
                    obtain ⟨S_87, eS_87⟩ : ∃ z, z = zkeep S (nI cu) it := ⟨_, rfl⟩
                    have hR_87 : RM G v_85 o ad S_87 := by rw [eS_87]; exact hRc_hp_86
                    have hk_87 : vkeep (mX o ad) v v_85 := hk.tr hkc_hp_86
                    show vV _ _ _ _ _ _ _ _ _ _ _ _ _ v_85 0 0 158 [(8, .int 0), (7, .int 1), (6, .int (nI pk)), (0, .ref o), (1, .int (nI cu)), (2, .int it), (3, .int (nI kd)), (4, .long t)] [.int (nI (zkix S (nI cu) it)), .ref (ad 21)]
                    refine v_iconst (x := 1) C d_M_event_158 (by decide) ?_
                    have hkx : zkix S (nI cu) it < 60 := by first | (rw [zkix_n hpr]; omega) | (rw [zkix_s hpr]; omega)
                    refine v_zastN C (hR_87.oz (f := 21) (by decide)) hkx (by decide) d_M_event_159 ?_
                    refine v_view (fun v7 ev7 => ?_)
                    obtain ⟨S_88, eS_88⟩ : ∃ z, z = zui S_87 21 (zkix S (nI cu) it) 1 := ⟨_, rfl⟩
                    have hR_88 : RM G v7 o ad S_88 := by rw [eS_88]; exact (by rw [ev7]; exact hR_87.putz 21 (by decide) (zkix S (nI cu) it) 1 1 (by decide))
                    have hk_88 : vkeep (mX o ad) v v7 := by rw [ev7]; exact hk_87.up (mX_f (by decide))
                    have hc1 : zc S_88 1 = zc S 1 := by rw [eS_88, eS_87]; exact zkeep_c1 _ _ _
                    refine v_iload C 0 d_M_event_160 rfl ?_
                    refine v_if_eq C 181 d_M_event_162 (by decide) (fun _ => ?_) (fun z => absurd (by decide) z)
                    refine v_iconst (x := 0) C d_M_event_181 (by decide) ?_
                    exact v_iret C d_M_event_182 (by first | exact Nat.le_of_ble_eq_true rfl | (show _ ≤ _; omega)) (by first | exact Nat.le_of_ble_eq_true rfl | (show _ ≤ _; omega)) ⟨(by  rw [oEvent, zn_nI hcu3, zn_nI hkd3, if_pos hx0, if_pos hz, if_pos (by rw [zended, hpr]; exact c_67), if_neg (by intro z; rcases z with ⟨z1, z2⟩ | ⟨z1, z2, z3⟩; all_goals first | exact n_118 z2 | exact n_137 z3 | (rw [hpr] at z2; cases z2; done) | (rcases z1 with z1 | z1 <;> first | exact c_74 z1 | exact c_80 z1) | omega), if_neg (by omega), zendS, if_pos (Or.inr c_80)] <;> (try rfl)), (by  rw [oEvent, zn_nI hcu3, zn_nI hkd3, if_pos hx0, if_pos hz, if_pos (by rw [zended, hpr]; exact c_67), if_neg (by intro z; rcases z with ⟨z1, z2⟩ | ⟨z1, z2, z3⟩; all_goals first | exact n_118 z2 | exact n_137 z3 | (rw [hpr] at z2; cases z2; done) | (rcases z1 with z1 | z1 <;> first | exact c_74 z1 | exact c_80 z1) | omega), if_neg (by omega), zendS, if_pos (Or.inr c_80)]; subst eS_87 eS_88; exact hR_88), hk_88⟩
                  · have n_96 : ¬ (zwn S (32 * cu + 4 * kd) 4) ≤ 0 := mt (nI_leI (a := (zwn S (32 * cu + 4 * kd) 4)) (b := 0) (by omega) (by omega)).mpr c_96
                    refine v_iconst (x := 1) C d_M_event_99 (by decide) ?_
                    refine v_goto C 104 d_M_event_100 (by decide) ?_
                    refine v_istore (lv' := [(8, .int 1), (7, .int 1), (6, .int (nI pk)), (0, .ref o), (1, .int (nI cu)), (2, .int it), (3, .int (nI kd)), (4, .long t)]) C d_M_event_104 (by decide) rfl ?_
                    refine v_iload C 0 d_M_event_106 rfl ?_
                    refine v_if_eq C 121 d_M_event_108 (by decide) (fun z => absurd z (by decide)) (fun _ => ?_)
                    refine v_aload_n C 3 d_M_event_111 rfl rfl ?_
                    refine v_get C k_M hR.1 9 (by decide) tw_492 (fun _ h => h) rfl d_M_event_112 ?_
                    refine v_sipush (x := 200) C d_M_event_115 (by decide) ?_
                    refine v_icmp_eq C 140 d_M_event_118 (by decide) (fun c_118 => ?_) (fun c_118 => ?_)
                    · have n_118 : (zc S 1) = 200 := (nI_eq (a := (zc S 1)) (b := 200) (by omega) (by omega)).mp c_118
                      refine v_bipush (x := -14) C d_M_event_140 (by decide) ?_
                      exact v_iret C d_M_event_142 (by first | exact Nat.le_of_ble_eq_true rfl | (show _ ≤ _; omega)) (by first | exact Nat.le_of_ble_eq_true rfl | (show _ ≤ _; omega)) ⟨(by  rw [oEvent, zn_nI hcu3, zn_nI hkd3, if_pos hx0, if_pos hz, if_pos (by rw [zended, hpr]; exact c_67), if_pos (Or.inl ⟨by omega, n_118⟩)] <;> (try rfl)), (by  rw [oEvent, zn_nI hcu3, zn_nI hkd3, if_pos hx0, if_pos hz, if_pos (by rw [zended, hpr]; exact c_67), if_pos (Or.inl ⟨by omega, n_118⟩)]; exact hR), hk⟩
                    · have n_118 : ¬ (zc S 1) = 200 := mt (nI_eq (a := (zc S 1)) (b := 200) (by omega) (by omega)).mpr c_118
                      refine v_iload C 1 d_M_event_121 rfl ?_
                      refine v_if_eq C 143 d_M_event_123 (by decide) (fun z => absurd z (by decide)) (fun _ => ?_)
                      refine v_iload C 2 d_M_event_126 rfl ?_
                      refine v_if_ge C 143 d_M_event_128 (by decide) (fun _ => ?_) (fun z => absurd (nI_pos' (by omega)) z)
                      refine v_iload C 1 d_M_event_143 rfl ?_
                      refine v_if_eq C 160 d_M_event_145 (by decide) (fun z => absurd z (by decide)) (fun _ => ?_)
                      refine v_aload_n C 3 d_M_event_148 rfl rfl ?_
                      refine v_get C k_M hR.1 21 (by decide) tw_504 (fun _ h => h) rfl d_M_event_149 ?_
                      refine v_aload_n C 3 d_M_event_152 rfl rfl ?_
                      refine v_iload_n C 4 d_M_event_153 rfl rfl ?_
                      refine v_iload_n C 5 d_M_event_154 rfl rfl ?_
                      refine v_callV (rest := [.ref (ad 21)]) C (c_M_keep l G v o ad S (nI cu) it hR (by omega) (by intro z; first | (rw [hpr] at z; exact absurd z (Option.some_ne_none _)) | omega)) tw_627 tw_34 tw_624 tw_626 tw_23 mn_M_keep hR.1 k_M.1 ⟨Nat.le_of_ble_eq_true rfl, Nat.le_of_ble_eq_true rfl⟩ rfl rfl (Nat.le_of_ble_eq_true rfl) d_M_event_155 ⟨(by first | exact Nat.le_of_ble_eq_true rfl | (show _ ≤ _; omega)), (by first | exact Nat.le_of_ble_eq_true rfl | (show _ ≤ _; omega))⟩ (fun r_89 v_90 hp_91 => ?_)
                      obtain ⟨rfl, hRc_hp_91, hkc_hp_91⟩ := hp_91
                      obtain ⟨S_92, eS_92⟩ : ∃ z, z = zkeep S (nI cu) it := ⟨_, rfl⟩
                      have hR_92 : RM G v_90 o ad S_92 := by rw [eS_92]; exact hRc_hp_91
                      have hk_92 : vkeep (mX o ad) v v_90 := hk.tr hkc_hp_91
                      show vV _ _ _ _ _ _ _ _ _ _ _ _ _ v_90 0 0 158 [(8, .int 1), (7, .int 1), (6, .int (nI pk)), (0, .ref o), (1, .int (nI cu)), (2, .int it), (3, .int (nI kd)), (4, .long t)] [.int (nI (zkix S (nI cu) it)), .ref (ad 21)]
                      refine v_iconst (x := 1) C d_M_event_158 (by decide) ?_
                      have hkx : zkix S (nI cu) it < 60 := by first | (rw [zkix_n hpr]; omega) | (rw [zkix_s hpr]; omega)
                      refine v_zastN C (hR_92.oz (f := 21) (by decide)) hkx (by decide) d_M_event_159 ?_
                      refine v_view (fun v8 ev8 => ?_)
                      obtain ⟨S_93, eS_93⟩ : ∃ z, z = zui S_92 21 (zkix S (nI cu) it) 1 := ⟨_, rfl⟩
                      have hR_93 : RM G v8 o ad S_93 := by rw [eS_93]; exact (by rw [ev8]; exact hR_92.putz 21 (by decide) (zkix S (nI cu) it) 1 1 (by decide))
                      have hk_93 : vkeep (mX o ad) v v8 := by rw [ev8]; exact hk_92.up (mX_f (by decide))
                      have hc1 : zc S_93 1 = zc S 1 := by rw [eS_93, eS_92]; exact zkeep_c1 _ _ _
                      refine v_iload C 0 d_M_event_160 rfl ?_
                      refine v_if_eq C 181 d_M_event_162 (by decide) (fun z => absurd z (by decide)) (fun _ => ?_)
                      refine v_aload_n C 3 d_M_event_165 rfl rfl ?_
                      refine v_iload_n C 4 d_M_event_166 rfl rfl ?_
                      refine v_iload_n C 5 d_M_event_167 rfl rfl ?_
                      refine v_iload_n C 6 d_M_event_168 rfl rfl ?_
                      refine v_lload C 7 d_M_event_169 rfl ?_
                      refine v_ldc2 (x := -1) C d_M_event_171 tw_628 ?_
                      refine v_iconst (x := 0) C d_M_event_174 (by decide) ?_
                      refine v_callV (rest := []) C (c_M_put l G v8 o ad S_93 (nI cu) it (nI kd) t (-1) 0 hR_93 (by rw [hc1]; omega) (by first | exact Or.inl rfl | exact Or.inr rfl)) tw_632 tw_34 tw_629 tw_631 tw_24 mn_M_put hR_93.1 k_M.1 ⟨Nat.le_of_ble_eq_true rfl, Nat.le_of_ble_eq_true rfl⟩ rfl rfl (Nat.le_of_ble_eq_true rfl) d_M_event_175 ⟨(by first | exact Nat.le_of_ble_eq_true rfl | (show _ ≤ _; omega)), (by first | exact Nat.le_of_ble_eq_true rfl | (show _ ≤ _; omega))⟩ (fun r_94 v_95 hp_96 => ?_)
                      obtain ⟨rfl, hRc_hp_96, hkc_hp_96⟩ := hp_96
                      obtain ⟨S_97, eS_97⟩ : ∃ z, z = zput S_93 (nI cu) it (nI kd) t (-1) 0 := ⟨_, rfl⟩
                      have hR_97 : RM G v_95 o ad S_97 := by rw [eS_97]; exact hRc_hp_96
                      have hk_97 : vkeep (mX o ad) v v_95 := hk_93.tr hkc_hp_96
                      show vV _ _ _ _ _ _ _ _ _ _ _ _ _ v_95 0 0 178 [(8, .int 1), (7, .int 1), (6, .int (nI pk)), (0, .ref o), (1, .int (nI cu)), (2, .int it), (3, .int (nI kd)), (4, .long t)] [.int (nI (zc S_93 1 + 1))]
                      refine v_toi (y := nI (zc S 1 + 1)) (by rw [hc1]) ?_
                      refine v_goto C 182 d_M_event_178 (by decide) ?_
                      exact v_iret C d_M_event_182 (by first | exact Nat.le_of_ble_eq_true rfl | (show _ ≤ _; omega)) (by first | exact Nat.le_of_ble_eq_true rfl | (show _ ≤ _; omega)) ⟨(by  rw [oEvent, zn_nI hcu3, zn_nI hkd3, if_pos hx0, if_pos hz, if_pos (by rw [zended, hpr]; exact c_67), if_neg (by intro z; rcases z with ⟨z1, z2⟩ | ⟨z1, z2, z3⟩; all_goals first | exact n_118 z2 | exact n_137 z3 | (rw [hpr] at z2; cases z2; done) | (rcases z1 with z1 | z1 <;> first | exact c_74 z1 | exact c_80 z1) | omega), if_pos (by omega), zendS, if_pos (Or.inr c_80)] <;> (try rfl)), (by  rw [oEvent, zn_nI hcu3, zn_nI hkd3, if_pos hx0, if_pos hz, if_pos (by rw [zended, hpr]; exact c_67), if_neg (by intro z; rcases z with ⟨z1, z2⟩ | ⟨z1, z2, z3⟩; all_goals first | exact n_118 z2 | exact n_137 z3 | (rw [hpr] at z2; cases z2; done) | (rcases z1 with z1 | z1 <;> first | exact c_74 z1 | exact c_80 z1) | omega), if_pos (by omega), zendS, if_pos (Or.inr c_80)]; subst eS_92 eS_93 eS_97; exact hR_97), hk_97⟩
            · refine v_iconst (x := 0) C d_M_event_70 (by decide) ?_
              exact v_iret C d_M_event_71 (by first | exact Nat.le_of_ble_eq_true rfl | (show _ ≤ _; omega)) (by first | exact Nat.le_of_ble_eq_true rfl | (show _ ≤ _; omega)) ⟨(by  rw [oEvent, zn_nI hcu3, zn_nI hkd3, if_pos hx0, if_pos hz, if_neg (by rw [zended, hpr]; exact c_67)] <;> (try rfl)), (by  rw [oEvent, zn_nI hcu3, zn_nI hkd3, if_pos hx0, if_pos hz, if_neg (by rw [zended, hpr]; exact c_67)]; exact hR), hk⟩
        · obtain rfl := hv9.symm
          show vV _ _ _ _ _ _ _ _ _ _ _ _ _ v 0 0 41 [(0, .ref o), (1, .int x), (2, .int it), (3, .int k), (4, .long t)] [.int 0]
          refine v_if_ne C 47 d_M_event_41 (by decide) (fun z => absurd (by decide) z) (fun _ => ?_)
          refine v_bipush (x := -12) C d_M_event_44 (by decide) ?_
          exact v_iret C d_M_event_46 (by first | exact Nat.le_of_ble_eq_true rfl | (show _ ≤ _; omega)) (by first | exact Nat.le_of_ble_eq_true rfl | (show _ ≤ _; omega)) ⟨(by rw [i64_toInt] at hb_17; rw [i64_toInt] at hb_29; rw [oEvent, if_pos hb_2, if_neg (fun z => hb_38 z.2.2)] <;> (try rfl)), (by rw [i64_toInt] at hb_17; rw [i64_toInt] at hb_29; rw [oEvent, if_pos hb_2, if_neg (fun z => hb_38 z.2.2)]; exact hR), hk⟩
      · obtain rfl := hv9.symm
        show vV _ _ _ _ _ _ _ _ _ _ _ _ _ v 0 0 32 [(0, .ref o), (1, .int x), (2, .int it), (3, .int k), (4, .long t)] [.int 0]
        refine v_if_eq C 44 d_M_event_32 (by decide) (fun _ => ?_) (fun z => absurd (by decide) z)
        refine v_bipush (x := -12) C d_M_event_44 (by decide) ?_
        exact v_iret C d_M_event_46 (by first | exact Nat.le_of_ble_eq_true rfl | (show _ ≤ _; omega)) (by first | exact Nat.le_of_ble_eq_true rfl | (show _ ≤ _; omega)) ⟨(by rw [i64_toInt] at hb_17; rw [i64_toInt] at hb_29; rw [oEvent, if_pos hb_2, if_neg (fun z => hb_29 z.2.1)] <;> (try rfl)), (by rw [i64_toInt] at hb_17; rw [i64_toInt] at hb_29; rw [oEvent, if_pos hb_2, if_neg (fun z => hb_29 z.2.1)]; exact hR), hk⟩
    · obtain rfl := hv9.symm
      show vV _ _ _ _ _ _ _ _ _ _ _ _ _ v 0 0 20 [(0, .ref o), (1, .int x), (2, .int it), (3, .int k), (4, .long t)] [.int 0]
      refine v_if_eq C 44 d_M_event_20 (by decide) (fun _ => ?_) (fun z => absurd (by decide) z)
      refine v_bipush (x := -12) C d_M_event_44 (by decide) ?_
      exact v_iret C d_M_event_46 (by first | exact Nat.le_of_ble_eq_true rfl | (show _ ≤ _; omega)) (by first | exact Nat.le_of_ble_eq_true rfl | (show _ ≤ _; omega)) ⟨(by rw [i64_toInt] at hb_17; rw [oEvent, if_pos hb_2, if_neg (fun z => hb_17 z.1)] <;> (try rfl)), (by rw [i64_toInt] at hb_17; rw [oEvent, if_pos hb_2, if_neg (fun z => hb_17 z.1)]; exact hR), hk⟩
  · obtain rfl := hv9.symm
    show vV _ _ _ _ _ _ _ _ _ _ _ _ _ v 0 0 5 [(0, .ref o), (1, .int x), (2, .int it), (3, .int k), (4, .long t)] [.int 0]
    refine v_if_ne C 11 d_M_event_5 (by decide) (fun z => absurd (by decide) z) (fun _ => ?_)
    refine v_bipush (x := -11) C d_M_event_8 (by decide) ?_
    exact v_iret C d_M_event_10 (by first | exact Nat.le_of_ble_eq_true rfl | (show _ ≤ _; omega)) (by first | exact Nat.le_of_ble_eq_true rfl | (show _ ≤ _; omega)) ⟨(by  rw [oEvent, if_neg hb_2] <;> (try rfl)), (by  rw [oEvent, if_neg hb_2]; exact hR), hk⟩
