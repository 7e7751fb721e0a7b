section VO
variable {p : Program} {l : Launch} {e : Env} {R : Room} {s : State} {m : MethodId} {args : Array Value} {below : List Frame} {meth : Method} {c : Code} {Q : State → Prop} {G : vv_G} {nL : Nat} {v : vv_V} {kc ks pc : Nat} {lv : List (Nat × Value)} {st : List Value}
theorem v_lv {lv' : List (Nat × Value)} (h : lv = lv') (k : vV p l e R s m args below meth c Q G nL v kc ks pc lv' st) : vV p l e R s m args below meth c Q G nL v kc ks pc lv st := by subst h; exact k
end VO
theorem zr3_B2 {S : zS} (h : zB2 S) (j : Nat) : zB2 (zr3 S j) := by
  intro n h1 h2
  obtain ⟨a1, a2, a3⟩ := zr3_k S j
  rw [a1 1 (by decide) (by decide)] at h2
  rw [a1 0 (by decide) (by decide), a2 10 n (by decide) (by decide) (by decide) (by decide) (by decide) (by decide), a2 12 n (by decide) (by decide) (by decide) (by decide) (by decide) (by decide)]
  exact h n h1 h2
set_option maxHeartbeats 4000000 in
set_option maxRecDepth 100000 in
theorem c_M_isQuiet (l : Launch) (G : vv_G) (v : vv_V) (o : Nat) (ad : Nat → Nat) (S : zS) (cn : Nat) (hR : RM G v o ad S) (hcn : cn ≤ 40) : Mv l y_M_isQuiet b_M_isQuiet 5 (some FieldType.boolean) 0 0 G v [.ref o, .int (nI cn)] (fun r v' => (r = some (.int 1) ∧ v' = v ∧ (zqu S cn)) ∨ (r = some (.int 0) ∧ v' = v ∧ ¬ (zqu S cn))) 0 0 := by
  refine vv_metF (own := "CustomerNoticesModel") (nm := "isQuiet") pf_M_isQuiet rfl rfl (Nat.le_of_ble_eq_true rfl) ?_
  intro p e s m below meth c C hin
  have hk : vkeep (mX o ad) v v := vkeep.rf
  show vV _ _ _ _ _ _ _ _ _ _ _ _ _ v 0 0 0 [(0, .ref o), (1, .int (nI cn))] []
  refine v_aload_n C 0 d_M_isQuiet_0 rfl rfl ?_
  refine v_get C k_M hR.1 0 (by decide) tw_483 (fun _ h => h) rfl d_M_isQuiet_1 ?_
  refine v_bipush (x := 60) C d_M_isQuiet_4 (by decide) ?_
  refine v_aload_n C 0 d_M_isQuiet_6 rfl rfl ?_
  refine v_get C k_M hR.1 5 (by decide) tw_488 (fun _ h => h) rfl d_M_isQuiet_7 ?_
  refine v_iload_n C 1 d_M_isQuiet_10 rfl rfl ?_
  refine v_ialdN C (hR.oi (f := 5) (by decide)) (by show _ < 41; omega) (by decide) d_M_isQuiet_11 ?_
  refine v_imul C d_M_isQuiet_12 ?_
  refine v_i2l (y := (Int32.toInt64 (60 * (zi S 5 cn)))) C d_M_isQuiet_13 rfl ?_
  refine v_ladd C d_M_isQuiet_14 ?_
  refine v_ldc2 (x := 1440) C d_M_isQuiet_15 tw_651 ?_
  refine v_ladd C d_M_isQuiet_18 ?_
  refine v_ldc2 (x := 1440) C d_M_isQuiet_19 tw_651 ?_
  refine v_lrem C d_M_isQuiet_22 (by decide) ?_
  refine v_l2i (y := (Int64.toInt32 ((((zl S 0 0) + (Int32.toInt64 (60 * (zi S 5 cn)))) + 1440) - (((zl S 0 0) + (Int32.toInt64 (60 * (zi S 5 cn)))) + 1440) / 1440 * 1440))) C d_M_isQuiet_23 rfl ?_
  refine v_toi (y := zloc S cn) rfl ?_
  refine v_istore_n (lv' := [(2, .int (zloc S cn)), (0, .ref o), (1, .int (nI cn))]) C d_M_isQuiet_24 rfl (by decide) rfl ?_
  refine v_aload_n C 1 d_M_isQuiet_25 rfl rfl ?_
  refine v_get C k_M hR.1 6 (by decide) tw_489 (fun _ h => h) rfl d_M_isQuiet_26 ?_
  refine v_iload_n C 2 d_M_isQuiet_29 rfl rfl ?_
  refine v_ialdN C (hR.oi (f := 6) (by decide)) (by show _ < 41; omega) (by decide) d_M_isQuiet_30 ?_
  refine v_istore_n (lv' := [(3, .int (zi S 6 cn)), (2, .int (zloc S cn)), (0, .ref o), (1, .int (nI cn))]) C d_M_isQuiet_31 rfl (by decide) rfl ?_
  refine v_aload_n C 2 d_M_isQuiet_32 rfl rfl ?_
  refine v_get C k_M hR.1 7 (by decide) tw_490 (fun _ h => h) rfl d_M_isQuiet_33 ?_
  refine v_iload_n C 3 d_M_isQuiet_36 rfl rfl ?_
  refine v_ialdN C (hR.oi (f := 7) (by decide)) (by show _ < 41; omega) (by decide) d_M_isQuiet_37 ?_
  refine v_istore (lv' := [(4, .int (zi S 7 cn)), (3, .int (zi S 6 cn)), (2, .int (zloc S cn)), (0, .ref o), (1, .int (nI cn))]) C d_M_isQuiet_38 (by decide) rfl ?_
  refine v_iload_n C 1 d_M_isQuiet_40 rfl rfl ?_
  refine v_iload C 0 d_M_isQuiet_41 rfl ?_
  refine v_icmp_gt C 65 d_M_isQuiet_43 (by decide) (fun c_43 => ?_) (fun c_43 => ?_)
  · refine v_iload_n C 2 d_M_isQuiet_65 rfl rfl ?_
    refine v_iload_n C 1 d_M_isQuiet_66 rfl rfl ?_
    refine v_icmp_ge C 76 d_M_isQuiet_67 (by decide) (fun c_67 => ?_) (fun c_67 => ?_)
    · refine v_iconst (x := 1) C d_M_isQuiet_76 (by decide) ?_
      refine v_goto C 81 d_M_isQuiet_77 (by decide) ?_
      exact v_zret C d_M_isQuiet_81 (by first | exact Nat.le_of_ble_eq_true rfl | (show _ ≤ _; omega)) (by first | exact Nat.le_of_ble_eq_true rfl | (show _ ≤ _; omega)) (by decide) (Or.inl ⟨rfl, rfl, (by simp only [zqu, Int32.lt_iff_toInt_lt, Int32.le_iff_toInt_le] at *; omega)⟩)
    · refine v_iload_n C 2 d_M_isQuiet_70 rfl rfl ?_
      refine v_iload C 0 d_M_isQuiet_71 rfl ?_
      refine v_icmp_ge C 80 d_M_isQuiet_73 (by decide) (fun c_73 => ?_) (fun c_73 => ?_)
      · refine v_iconst (x := 0) C d_M_isQuiet_80 (by decide) ?_
        exact v_zret C d_M_isQuiet_81 (by first | exact Nat.le_of_ble_eq_true rfl | (show _ ≤ _; omega)) (by first | exact Nat.le_of_ble_eq_true rfl | (show _ ≤ _; omega)) (by decide) (Or.inr ⟨rfl, rfl, (by simp only [zqu, Int32.lt_iff_toInt_lt, Int32.le_iff_toInt_le] at *; omega)⟩)
      · refine v_iconst (x := 1) C d_M_isQuiet_76 (by decide) ?_
        refine v_goto C 81 d_M_isQuiet_77 (by decide) ?_
        exact v_zret C d_M_isQuiet_81 (by first | exact Nat.le_of_ble_eq_true rfl | (show _ ≤ _; omega)) (by first | exact Nat.le_of_ble_eq_true rfl | (show _ ≤ _; omega)) (by decide) (Or.inl ⟨rfl, rfl, (by simp only [zqu, Int32.lt_iff_toInt_lt, Int32.le_iff_toInt_le] at *; omega)⟩)
  · refine v_iload_n C 2 d_M_isQuiet_46 rfl rfl ?_
    refine v_iload_n C 1 d_M_isQuiet_47 rfl rfl ?_
    refine v_icmp_lt C 61 d_M_isQuiet_48 (by decide) (fun c_48 => ?_) (fun c_48 => ?_)
    · refine v_iconst (x := 0) C d_M_isQuiet_61 (by decide) ?_
      refine v_goto C 81 d_M_isQuiet_62 (by decide) ?_
      exact v_zret C d_M_isQuiet_81 (by first | exact Nat.le_of_ble_eq_true rfl | (show _ ≤ _; omega)) (by first | exact Nat.le_of_ble_eq_true rfl | (show _ ≤ _; omega)) (by decide) (Or.inr ⟨rfl, rfl, (by simp only [zqu, Int32.lt_iff_toInt_lt, Int32.le_iff_toInt_le] at *; omega)⟩)
    · refine v_iload_n C 2 d_M_isQuiet_51 rfl rfl ?_
      refine v_iload C 0 d_M_isQuiet_52 rfl ?_
      refine v_icmp_ge C 61 d_M_isQuiet_54 (by decide) (fun c_54 => ?_) (fun c_54 => ?_)
      · refine v_iconst (x := 0) C d_M_isQuiet_61 (by decide) ?_
        refine v_goto C 81 d_M_isQuiet_62 (by decide) ?_
        exact v_zret C d_M_isQuiet_81 (by first | exact Nat.le_of_ble_eq_true rfl | (show _ ≤ _; omega)) (by first | exact Nat.le_of_ble_eq_true rfl | (show _ ≤ _; omega)) (by decide) (Or.inr ⟨rfl, rfl, (by simp only [zqu, Int32.lt_iff_toInt_lt, Int32.le_iff_toInt_le] at *; omega)⟩)
      · refine v_iconst (x := 1) C d_M_isQuiet_57 (by decide) ?_
        refine v_goto C 81 d_M_isQuiet_58 (by decide) ?_
        exact v_zret C d_M_isQuiet_81 (by first | exact Nat.le_of_ble_eq_true rfl | (show _ ≤ _; omega)) (by first | exact Nat.le_of_ble_eq_true rfl | (show _ ≤ _; omega)) (by decide) (Or.inl ⟨rfl, rfl, (by simp only [zqu, Int32.lt_iff_toInt_lt, Int32.le_iff_toInt_le] at *; omega)⟩)
set_option maxHeartbeats 4000000 in
set_option maxRecDepth 100000 in
theorem c_M_isDue (l : Launch) (G : vv_G) (v : vv_V) (o : Nat) (ad : Nat → Nat) (S : zS) (n : Nat) (hR : RM G v o ad S) (h1 : 1 ≤ n) (h2 : n ≤ zc S 1) (hB : zc S 0 ≤ 40 ∧ zc S 1 ≤ 200) (hB2 : zB2 S) : Mv l y_M_isDue b_M_isDue 4 (some FieldType.boolean) 1 24 G v [.ref o, .int (nI n)] (fun r v' => (r = some (.int 1) ∧ v' = v ∧ (zdue S n)) ∨ (r = some (.int 0) ∧ v' = v ∧ ¬ (zdue S n))) 0 0 := by
  refine vv_metF (own := "CustomerNoticesModel") (nm := "isDue") pf_M_isDue rfl rfl (Nat.le_of_ble_eq_true rfl) ?_
  intro p e s m below meth c C hin
  have hk : vkeep (mX o ad) v v := vkeep.rf
  obtain ⟨cn, kd, e10, hc1, hc2, e12, hk7⟩ := hB2 n h1 h2
  have e13 : zn (zi S 10 n) = cn := by rw [e10]; exact zn_nI (by omega)
  show vV _ _ _ _ _ _ _ _ _ _ _ _ _ v 0 0 0 [(0, .ref o), (1, .int (nI n))] []
  refine v_aload_n C 0 d_M_isDue_0 rfl rfl ?_
  refine v_get C k_M hR.1 12 (by decide) tw_495 (fun _ h => h) rfl d_M_isDue_1 ?_
  refine v_iload_n C 1 d_M_isDue_4 rfl rfl ?_
  refine v_ialdN C (hR.oi (f := 12) (by decide)) (by show _ < 201; omega) (by decide) d_M_isDue_5 ?_
  refine v_bipush (x := 7) C d_M_isDue_6 (by decide) ?_
  refine v_icmp_ne C 15 d_M_isDue_8 (by decide) (fun c_8 => ?_) (fun c_8 => ?_)
  · refine v_iconst (x := 0) C d_M_isDue_15 (by decide) ?_
    refine v_istore_n (lv' := [(2, .int 0), (0, .ref o), (1, .int (nI n))]) C d_M_isDue_16 rfl (by decide) rfl ?_
    refine v_aload_n C 1 d_M_isDue_17 rfl rfl ?_
    refine v_get C k_M hR.1 10 (by decide) tw_493 (fun _ h => h) rfl d_M_isDue_18 ?_
    refine v_iload_n C 2 d_M_isDue_21 rfl rfl ?_
    refine v_ialdN C (hR.oi (f := 10) (by decide)) (by show _ < 201; omega) (by decide) d_M_isDue_22 ?_
    refine v_toi (y := (nI cn)) e10 ?_
    refine v_istore_n (lv' := [(3, .int (nI cn)), (2, .int 0), (0, .ref o), (1, .int (nI n))]) C d_M_isDue_23 rfl (by decide) rfl ?_
    refine v_aload_n C 2 d_M_isDue_24 rfl rfl ?_
    refine v_get C k_M hR.1 13 (by decide) tw_496 (fun _ h => h) rfl d_M_isDue_25 ?_
    refine v_iload_n C 3 d_M_isDue_28 rfl rfl ?_
    refine v_laldN C (hR.ol (f := 13) (by decide)) (by show _ < 201; omega) (by decide) d_M_isDue_29 ?_
    refine v_aload_n C 2 d_M_isDue_30 rfl rfl ?_
    refine v_get C k_M hR.1 0 (by decide) tw_483 (fun _ h => h) rfl d_M_isDue_31 ?_
    refine v_lcmp C d_M_isDue_34 ?_
    refine v_if_gt C 74 d_M_isDue_35 (by decide) (fun c_35 => ?_) (fun c_35 => ?_)
    · refine v_iconst (x := 0) C d_M_isDue_74 (by decide) ?_
      exact v_zret C d_M_isDue_75 (by first | exact Nat.le_of_ble_eq_true rfl | (show _ ≤ _; omega)) (by first | exact Nat.le_of_ble_eq_true rfl | (show _ ≤ _; omega)) (by decide) (Or.inr ⟨rfl, rfl, fun z => absurd z.1 (Int.not_le.mpr (lc_gt.mp c_35))⟩)
    · refine v_iload_n C 1 d_M_isDue_38 rfl rfl ?_
      refine v_if_ne C 70 d_M_isDue_39 (by decide) (fun z => absurd (by decide) z) (fun _ => ?_)
      refine v_aload_n C 2 d_M_isDue_42 rfl rfl ?_
      refine v_get C k_M hR.1 0 (by decide) tw_483 (fun _ h => h) rfl d_M_isDue_43 ?_
      refine v_aload_n C 2 d_M_isDue_46 rfl rfl ?_
      refine v_get C k_M hR.1 30 (by decide) tw_513 (fun _ h => h) rfl d_M_isDue_47 ?_
      refine v_iload_n C 0 d_M_isDue_50 rfl rfl ?_
      refine v_laldN C (hR.ol (f := 30) (by decide)) (by show _ < 41; omega) (by decide) d_M_isDue_51 ?_
      refine v_aload_n C 2 d_M_isDue_52 rfl rfl ?_
      refine v_get C k_M hR.1 1 (by decide) tw_484 (fun _ h => h) rfl d_M_isDue_53 ?_
      refine v_i2l (y := (Int32.toInt64 (zi S 1 0))) C d_M_isDue_56 rfl ?_
      refine v_ladd C d_M_isDue_57 ?_
      refine v_lcmp C d_M_isDue_58 ?_
      refine v_if_lt C 74 d_M_isDue_59 (by decide) (fun c_59 => ?_) (fun c_59 => ?_)
      · refine v_iconst (x := 0) C d_M_isDue_74 (by decide) ?_
        exact v_zret C d_M_isDue_75 (by first | exact Nat.le_of_ble_eq_true rfl | (show _ ≤ _; omega)) (by first | exact Nat.le_of_ble_eq_true rfl | (show _ ≤ _; omega)) (by decide) (Or.inr ⟨rfl, rfl, fun z => by rcases z.2 with q | q; exact c_8 q; rw [e13] at q; exact absurd q.1 (Int.not_le.mpr (lc_lt.mp c_59))⟩)
      · refine v_aload_n C 2 d_M_isDue_62 rfl rfl ?_
        refine v_iload_n C 0 d_M_isDue_63 rfl rfl ?_
        refine v_callV (rest := []) C (c_M_isQuiet l G v o ad S cn hR (by omega)) tw_650 tw_34 tw_647 tw_649 tw_26 mn_M_isQuiet hR.1 k_M.1 ⟨Nat.le_of_ble_eq_true rfl, Nat.le_of_ble_eq_true rfl⟩ rfl rfl (Nat.le_of_ble_eq_true rfl) d_M_isDue_64 ⟨(by first | exact Nat.le_of_ble_eq_true rfl | (show _ ≤ _; omega)), (by first | exact Nat.le_of_ble_eq_true rfl | (show _ ≤ _; omega))⟩ (fun r_1 v_2 hp_3 => ?_)
        rcases hp_3 with ⟨rfl, hv9, hb_64⟩ | ⟨rfl, hv9, hb_64⟩
        · obtain rfl := hv9.symm
          show vV _ _ _ _ _ _ _ _ _ _ _ _ _ v 0 0 67 [(3, .int (nI cn)), (2, .int 0), (0, .ref o), (1, .int (nI n))] [.int 1]
          refine v_if_ne C 74 d_M_isDue_67 (by decide) (fun _ => ?_) (fun z => absurd z (by decide))
          refine v_iconst (x := 0) C d_M_isDue_74 (by decide) ?_
          exact v_zret C d_M_isDue_75 (by first | exact Nat.le_of_ble_eq_true rfl | (show _ ≤ _; omega)) (by first | exact Nat.le_of_ble_eq_true rfl | (show _ ≤ _; omega)) (by decide) (Or.inr ⟨rfl, rfl, fun z => by rcases z.2 with q | q; exact c_8 q; rw [e13] at q; exact q.2 hb_64⟩)
        · obtain rfl := hv9.symm
          show vV _ _ _ _ _ _ _ _ _ _ _ _ _ v 0 0 67 [(3, .int (nI cn)), (2, .int 0), (0, .ref o), (1, .int (nI n))] [.int 0]
          refine v_if_ne C 74 d_M_isDue_67 (by decide) (fun z => absurd (by decide) z) (fun _ => ?_)
          refine v_iconst (x := 1) C d_M_isDue_70 (by decide) ?_
          refine v_goto C 75 d_M_isDue_71 (by decide) ?_
          exact v_zret C d_M_isDue_75 (by first | exact Nat.le_of_ble_eq_true rfl | (show _ ≤ _; omega)) (by first | exact Nat.le_of_ble_eq_true rfl | (show _ ≤ _; omega)) (by decide) (Or.inl ⟨rfl, rfl, (Int.not_lt.mp (mt lc_gt.mpr c_35)), Or.inr ⟨(by rw [e13]; exact Int.not_lt.mp (mt lc_lt.mpr c_59)), (by rw [e13]; exact hb_64)⟩⟩)
  · refine v_iconst (x := 1) C d_M_isDue_11 (by decide) ?_
    refine v_goto C 16 d_M_isDue_12 (by decide) ?_
    refine v_istore_n (lv' := [(2, .int 1), (0, .ref o), (1, .int (nI n))]) C d_M_isDue_16 rfl (by decide) rfl ?_
    refine v_aload_n C 1 d_M_isDue_17 rfl rfl ?_
    refine v_get C k_M hR.1 10 (by decide) tw_493 (fun _ h => h) rfl d_M_isDue_18 ?_
    refine v_iload_n C 2 d_M_isDue_21 rfl rfl ?_
    refine v_ialdN C (hR.oi (f := 10) (by decide)) (by show _ < 201; omega) (by decide) d_M_isDue_22 ?_
    refine v_toi (y := (nI cn)) e10 ?_
    refine v_istore_n (lv' := [(3, .int (nI cn)), (2, .int 1), (0, .ref o), (1, .int (nI n))]) C d_M_isDue_23 rfl (by decide) rfl ?_
    refine v_aload_n C 2 d_M_isDue_24 rfl rfl ?_
    refine v_get C k_M hR.1 13 (by decide) tw_496 (fun _ h => h) rfl d_M_isDue_25 ?_
    refine v_iload_n C 3 d_M_isDue_28 rfl rfl ?_
    refine v_laldN C (hR.ol (f := 13) (by decide)) (by show _ < 201; omega) (by decide) d_M_isDue_29 ?_
    refine v_aload_n C 2 d_M_isDue_30 rfl rfl ?_
    refine v_get C k_M hR.1 0 (by decide) tw_483 (fun _ h => h) rfl d_M_isDue_31 ?_
    refine v_lcmp C d_M_isDue_34 ?_
    refine v_if_gt C 74 d_M_isDue_35 (by decide) (fun c_35 => ?_) (fun c_35 => ?_)
    · refine v_iconst (x := 0) C d_M_isDue_74 (by decide) ?_
      exact v_zret C d_M_isDue_75 (by first | exact Nat.le_of_ble_eq_true rfl | (show _ ≤ _; omega)) (by first | exact Nat.le_of_ble_eq_true rfl | (show _ ≤ _; omega)) (by decide) (Or.inr ⟨rfl, rfl, fun z => absurd z.1 (Int.not_le.mpr (lc_gt.mp c_35))⟩)
    · refine v_iload_n C 1 d_M_isDue_38 rfl rfl ?_
      refine v_if_ne C 70 d_M_isDue_39 (by decide) (fun _ => ?_) (fun z => absurd z (by decide))
      refine v_iconst (x := 1) C d_M_isDue_70 (by decide) ?_
      refine v_goto C 75 d_M_isDue_71 (by decide) ?_
      exact v_zret C d_M_isDue_75 (by first | exact Nat.le_of_ble_eq_true rfl | (show _ ≤ _; omega)) (by first | exact Nat.le_of_ble_eq_true rfl | (show _ ≤ _; omega)) (by decide) (Or.inl ⟨rfl, rfl, (Int.not_lt.mp (mt lc_gt.mpr c_35)), Or.inl c_8⟩)
set_option maxHeartbeats 4000000 in
set_option maxRecDepth 100000 in
theorem lp_M_channelOf {p : Program} {l : Launch} {e : Env} {R : Room} {s : State} {m : MethodId} {args : Array Value} {below : List Frame} {meth : Method} {c : Code} {Q : State → Prop} {G : vv_G} {o : Nat} {ad : Nat → Nat} {S : zS} {v : vv_V} {kc ks n cn kd : Nat} (C : vC p s m args meth c b_M_channelOf 6 (some FieldType.int) "CustomerNoticesModel" G) (hR : RM G v o ad S) (hn : n ≤ 200) (hcn : cn ≤ 40) (hkd : kd ≤ 7) (e10 : zi S 10 n = nI cn) (e12 : zi S 12 n = nI kd) (kx : vV p l e R s m args below meth c Q G 6 v kc ks 149 [(3, .int (nI 4)), (2, .int (zix (zbo S ((32 * cn) + (4 * kd)) 4))), (0, .ref o), (1, .int (nI n))] []) : ∀ (nn : Nat) (j : Nat), j ≤ 4 → 5 ≤ j + nn → vV p l e R s m args below meth c Q G 6 v kc ks 49 [(3, .int (nI j)), (2, .int (zix (zbo S ((32 * cn) + (4 * kd)) j))), (0, .ref o), (1, .int (nI n))] [] := by
  intro nn
  induction nn with
  | zero => intro j h1 h2; exfalso; omega
  | succ nn ih =>
    intro j h1 h2
    refine v_iload_n C 0 d_M_channelOf_49 rfl rfl ?_
    refine v_iconst (x := 4) C d_M_channelOf_50 (by decide) ?_
    refine v_icmp_ge C 149 d_M_channelOf_51 (by decide) (fun c_51 => ?_) (fun c_51 => ?_)
    · have n_51 : 4 ≤ j := (nI_leI (a := 4) (b := j) (by omega) (by omega)).mp c_51
      have hj4 : j = 4 := by omega
      subst hj4
      exact kx
    · have n_51 : ¬ 4 ≤ j := mt (nI_leI (a := 4) (b := j) (by omega) (by omega)).mpr c_51
      refine v_aload_n C 2 d_M_channelOf_54 rfl rfl ?_
      refine v_get C k_M hR.1 8 (by decide) tw_491 (fun _ h => h) rfl d_M_channelOf_55 ?_
      refine v_bipush (x := 32) C d_M_channelOf_58 (by decide) ?_
      refine v_aload_n C 2 d_M_channelOf_60 rfl rfl ?_
      refine v_get C k_M hR.1 10 (by decide) tw_493 (fun _ h => h) rfl d_M_channelOf_61 ?_
      refine v_iload_n C 3 d_M_channelOf_64 rfl rfl ?_
      refine v_ialdN C (hR.oi (f := 10) (by decide)) (by show _ < 201; omega) (by decide) d_M_channelOf_65 ?_
      refine v_toi (y := (nI cn)) e10 ?_
      refine v_imul C d_M_channelOf_66 ?_
      refine v_toi (y := nI (32 * cn)) (pk_mul 32 cn) ?_
      refine v_iconst (x := 4) C d_M_channelOf_67 (by decide) ?_
      refine v_aload_n C 2 d_M_channelOf_68 rfl rfl ?_
      refine v_get C k_M hR.1 12 (by decide) tw_495 (fun _ h => h) rfl d_M_channelOf_69 ?_
      refine v_iload_n C 3 d_M_channelOf_72 rfl rfl ?_
      refine v_ialdN C (hR.oi (f := 12) (by decide)) (by show _ < 201; omega) (by decide) d_M_channelOf_73 ?_
      refine v_toi (y := (nI kd)) e12 ?_
      refine v_imul C d_M_channelOf_74 ?_
      refine v_toi (y := nI (4 * kd)) (pk_mul 4 kd) ?_
      refine v_iadd C d_M_channelOf_75 ?_
      refine v_toi (y := nI ((32 * cn) + (4 * kd))) (nI_add (32 * cn) (4 * kd)) ?_
      refine v_iload_n C 0 d_M_channelOf_76 rfl rfl ?_
      refine v_iadd C d_M_channelOf_77 ?_
      refine v_toi (y := nI (((32 * cn) + (4 * kd)) + j)) (nI_add ((32 * cn) + (4 * kd)) j) ?_
      refine v_ialdN C (hR.oi (f := 8) (by decide)) (by show _ < 1312; omega) (by decide) d_M_channelOf_78 ?_
      refine v_istore (lv' := [(4, .int (zi S 8 (((32 * cn) + (4 * kd)) + j))), (3, .int (nI j)), (2, .int (zix (zbo S ((32 * cn) + (4 * kd)) j))), (0, .ref o), (1, .int (nI n))]) C d_M_channelOf_79 (by decide) rfl ?_
      refine v_iload C 0 d_M_channelOf_81 rfl ?_
      refine v_if_le C 99 d_M_channelOf_83 (by decide) (fun c_83 => ?_) (fun c_83 => ?_)
      · refine v_iconst (x := 0) C d_M_channelOf_99 (by decide) ?_
        refine v_istore (lv' := [(5, .int 0), (4, .int (zi S 8 (((32 * cn) + (4 * kd)) + j))), (3, .int (nI j)), (2, .int (zix (zbo S ((32 * cn) + (4 * kd)) j))), (0, .ref o), (1, .int (nI n))]) C d_M_channelOf_100 (by decide) rfl ?_
        refine v_iload C 0 d_M_channelOf_102 rfl ?_
        refine v_if_eq C 143 d_M_channelOf_104 (by decide) (fun _ => ?_) (fun z => absurd (by decide) z)
        have hbn : zbo S ((32 * cn) + (4 * kd)) (j + 1) = zbo S ((32 * cn) + (4 * kd)) j := by rw [zbo, if_neg (fun z => absurd z.1 (i_le0.mp c_83))]
        refine v_lv (lv' := [(5, .int 0), (4, .int (zi S 8 (((32 * cn) + (4 * kd)) + j))), (3, .int (nI j)), (2, .int (zix (zbo S ((32 * cn) + (4 * kd)) (j + 1)))), (0, .ref o), (1, .int (nI n))]) (by rw [hbn]) ?_
        refine v_iinc (y := (nI (j + 1))) (lv' := [(3, .int (nI (j + 1))), (5, .int 0), (4, .int (zi S 8 (((32 * cn) + (4 * kd)) + j))), (2, .int (zix (zbo S ((32 * cn) + (4 * kd)) (j + 1)))), (0, .ref o), (1, .int (nI n))]) C 2 d_M_channelOf_143 rfl (nI_1 _) (by decide) rfl ?_
        refine v_goto C 49 d_M_channelOf_146 (by decide) ?_
        refine v_sub [0, 3, 4, 5] rfl ?_
        exact ih (j + 1) (by omega) (by omega)
      · refine v_aload_n C 3 d_M_channelOf_86 rfl rfl ?_
        refine v_get C k_M hR.1 2 (by decide) tw_485 (fun _ h => h) rfl d_M_channelOf_87 ?_
        refine v_iload_n C 1 d_M_channelOf_90 rfl rfl ?_
        refine v_zaldN C (hR.oz (f := 2) (by decide)) (by show _ < 4; omega) (by decide) d_M_channelOf_91 ?_
        refine v_if_ne C 99 d_M_channelOf_92 (by decide) (fun c_92 => ?_) (fun c_92 => ?_)
        · refine v_iconst (x := 0) C d_M_channelOf_99 (by decide) ?_
          refine v_istore (lv' := [(5, .int 0), (4, .int (zi S 8 (((32 * cn) + (4 * kd)) + j))), (3, .int (nI j)), (2, .int (zix (zbo S ((32 * cn) + (4 * kd)) j))), (0, .ref o), (1, .int (nI n))]) C d_M_channelOf_100 (by decide) rfl ?_
          refine v_iload C 0 d_M_channelOf_102 rfl ?_
          refine v_if_eq C 143 d_M_channelOf_104 (by decide) (fun _ => ?_) (fun z => absurd (by decide) z)
          have hbn : zbo S ((32 * cn) + (4 * kd)) (j + 1) = zbo S ((32 * cn) + (4 * kd)) j := by rw [zbo, if_neg (fun z => c_92 z.2.1)]
          refine v_lv (lv' := [(5, .int 0), (4, .int (zi S 8 (((32 * cn) + (4 * kd)) + j))), (3, .int (nI j)), (2, .int (zix (zbo S ((32 * cn) + (4 * kd)) (j + 1)))), (0, .ref o), (1, .int (nI n))]) (by rw [hbn]) ?_
          refine v_iinc (y := (nI (j + 1))) (lv' := [(3, .int (nI (j + 1))), (5, .int 0), (4, .int (zi S 8 (((32 * cn) + (4 * kd)) + j))), (2, .int (zix (zbo S ((32 * cn) + (4 * kd)) (j + 1)))), (0, .ref o), (1, .int (nI n))]) C 2 d_M_channelOf_143 rfl (nI_1 _) (by decide) rfl ?_
          refine v_goto C 49 d_M_channelOf_146 (by decide) ?_
          refine v_sub [0, 3, 4, 5] rfl ?_
          exact ih (j + 1) (by omega) (by omega)
        · refine v_iconst (x := 1) C d_M_channelOf_95 (by decide) ?_
          refine v_goto C 100 d_M_channelOf_96 (by decide) ?_
          refine v_istore (lv' := [(5, .int 1), (4, .int (zi S 8 (((32 * cn) + (4 * kd)) + j))), (3, .int (nI j)), (2, .int (zix (zbo S ((32 * cn) + (4 * kd)) j))), (0, .ref o), (1, .int (nI n))]) C d_M_channelOf_100 (by decide) rfl ?_
          refine v_iload C 0 d_M_channelOf_102 rfl ?_
          refine v_if_eq C 143 d_M_channelOf_104 (by decide) (fun z => absurd z (by decide)) (fun _ => ?_)
          rcases hbo : zbo S ((32 * cn) + (4 * kd)) j with _ | q
          · show vV _ _ _ _ _ _ _ _ _ _ _ _ _ v kc ks 107 [(5, .int 1), (4, .int (zi S 8 (((32 * cn) + (4 * kd)) + j))), (3, .int (nI j)), (2, .int (-1)), (0, .ref o), (1, .int (nI n))] []
            refine v_iload_n C 3 d_M_channelOf_107 rfl rfl ?_
            refine v_if_lt C 141 d_M_channelOf_108 (by decide) (fun _ => ?_) (fun z => absurd (by decide) z)
            refine v_iload_n C 2 d_M_channelOf_141 rfl rfl ?_
            refine v_istore_n (lv' := [(2, .int (nI j)), (5, .int 1), (4, .int (zi S 8 (((32 * cn) + (4 * kd)) + j))), (3, .int (nI j)), (0, .ref o), (1, .int (nI n))]) C d_M_channelOf_142 rfl (by decide) rfl ?_
            have hbn : zbo S ((32 * cn) + (4 * kd)) (j + 1) = some j := by rw [zbo, if_pos ⟨Decidable.not_not.mp (mt i_le0.mpr c_83), c_92, (by rw [hbo]; rfl)⟩]
            refine v_lv (lv' := [(2, .int (zix (zbo S ((32 * cn) + (4 * kd)) (j + 1)))), (5, .int 1), (4, .int (zi S 8 (((32 * cn) + (4 * kd)) + j))), (3, .int (nI j)), (0, .ref o), (1, .int (nI n))]) (by rw [hbn]; rfl) ?_
            refine v_iinc (y := (nI (j + 1))) (lv' := [(3, .int (nI (j + 1))), (2, .int (zix (zbo S ((32 * cn) + (4 * kd)) (j + 1)))), (5, .int 1), (4, .int (zi S 8 (((32 * cn) + (4 * kd)) + j))), (0, .ref o), (1, .int (nI n))]) C 3 d_M_channelOf_143 rfl (nI_1 _) (by decide) rfl ?_
            refine v_goto C 49 d_M_channelOf_146 (by decide) ?_
            refine v_sub [0, 1, 4, 5] rfl ?_
            exact ih (j + 1) (by omega) (by omega)
          · have hql := zbo_lt hbo
            show vV _ _ _ _ _ _ _ _ _ _ _ _ _ v kc ks 107 [(5, .int 1), (4, .int (zi S 8 (((32 * cn) + (4 * kd)) + j))), (3, .int (nI j)), (2, .int (nI q)), (0, .ref o), (1, .int (nI n))] []
            refine v_iload_n C 3 d_M_channelOf_107 rfl rfl ?_
            refine v_if_lt C 141 d_M_channelOf_108 (by decide) (fun z => absurd z (nI_pos (by omega))) (fun _ => ?_)
            refine v_iload C 1 d_M_channelOf_111 rfl ?_
            refine v_aload_n C 4 d_M_channelOf_113 rfl rfl ?_
            refine v_get C k_M hR.1 8 (by decide) tw_491 (fun _ h => h) rfl d_M_channelOf_114 ?_
            refine v_bipush (x := 32) C d_M_channelOf_117 (by decide) ?_
            refine v_aload_n C 4 d_M_channelOf_119 rfl rfl ?_
            refine v_get C k_M hR.1 10 (by decide) tw_493 (fun _ h => h) rfl d_M_channelOf_120 ?_
            refine v_iload_n C 5 d_M_channelOf_123 rfl rfl ?_
            refine v_ialdN C (hR.oi (f := 10) (by decide)) (by show _ < 201; omega) (by decide) d_M_channelOf_124 ?_
            refine v_toi (y := (nI cn)) e10 ?_
            refine v_imul C d_M_channelOf_125 ?_
            refine v_toi (y := nI (32 * cn)) (pk_mul 32 cn) ?_
            refine v_iconst (x := 4) C d_M_channelOf_126 (by decide) ?_
            refine v_aload_n C 4 d_M_channelOf_127 rfl rfl ?_
            refine v_get C k_M hR.1 12 (by decide) tw_495 (fun _ h => h) rfl d_M_channelOf_128 ?_
            refine v_iload_n C 5 d_M_channelOf_131 rfl rfl ?_
            refine v_ialdN C (hR.oi (f := 12) (by decide)) (by show _ < 201; omega) (by decide) d_M_channelOf_132 ?_
            refine v_toi (y := (nI kd)) e12 ?_
            refine v_imul C d_M_channelOf_133 ?_
            refine v_toi (y := nI (4 * kd)) (pk_mul 4 kd) ?_
            refine v_iadd C d_M_channelOf_134 ?_
            refine v_toi (y := nI ((32 * cn) + (4 * kd))) (nI_add (32 * cn) (4 * kd)) ?_
            refine v_iload_n C 3 d_M_channelOf_135 rfl rfl ?_
            refine v_iadd C d_M_channelOf_136 ?_
            refine v_toi (y := nI (((32 * cn) + (4 * kd)) + q)) (nI_add ((32 * cn) + (4 * kd)) q) ?_
            refine v_ialdN C (hR.oi (f := 8) (by decide)) (by show _ < 1312; omega) (by decide) d_M_channelOf_137 ?_
            refine v_icmp_ge C 143 d_M_channelOf_138 (by decide) (fun c_138 => ?_) (fun c_138 => ?_)
            · have hbn : zbo S ((32 * cn) + (4 * kd)) (j + 1) = zbo S ((32 * cn) + (4 * kd)) j := by rw [zbo, if_neg (fun z => absurd (of_decide_eq_true (by have z3 := z.2.2; rw [hbo] at z3; exact z3)) (Int32.not_lt.mpr c_138))]
              refine v_lv (lv' := [(5, .int 1), (4, .int (zi S 8 (((32 * cn) + (4 * kd)) + j))), (3, .int (nI j)), (2, .int (zix (zbo S ((32 * cn) + (4 * kd)) (j + 1)))), (0, .ref o), (1, .int (nI n))]) (by rw [hbn, hbo]; rfl) ?_
              refine v_iinc (y := (nI (j + 1))) (lv' := [(3, .int (nI (j + 1))), (5, .int 1), (4, .int (zi S 8 (((32 * cn) + (4 * kd)) + j))), (2, .int (zix (zbo S ((32 * cn) + (4 * kd)) (j + 1)))), (0, .ref o), (1, .int (nI n))]) C 2 d_M_channelOf_143 rfl (nI_1 _) (by decide) rfl ?_
              refine v_goto C 49 d_M_channelOf_146 (by decide) ?_
              refine v_sub [0, 3, 4, 5] rfl ?_
              exact ih (j + 1) (by omega) (by omega)
            · refine v_iload_n C 2 d_M_channelOf_141 rfl rfl ?_
              refine v_istore_n (lv' := [(2, .int (nI j)), (5, .int 1), (4, .int (zi S 8 (((32 * cn) + (4 * kd)) + j))), (3, .int (nI j)), (0, .ref o), (1, .int (nI n))]) C d_M_channelOf_142 rfl (by decide) rfl ?_
              have hbn : zbo S ((32 * cn) + (4 * kd)) (j + 1) = some j := by rw [zbo, if_pos ⟨Decidable.not_not.mp (mt i_le0.mpr c_83), c_92, (by rw [hbo]; exact decide_eq_true (Int32.not_le.mp c_138))⟩]
              refine v_lv (lv' := [(2, .int (zix (zbo S ((32 * cn) + (4 * kd)) (j + 1)))), (5, .int 1), (4, .int (zi S 8 (((32 * cn) + (4 * kd)) + j))), (3, .int (nI j)), (0, .ref o), (1, .int (nI n))]) (by rw [hbn]; rfl) ?_
              refine v_iinc (y := (nI (j + 1))) (lv' := [(3, .int (nI (j + 1))), (2, .int (zix (zbo S ((32 * cn) + (4 * kd)) (j + 1)))), (5, .int 1), (4, .int (zi S 8 (((32 * cn) + (4 * kd)) + j))), (0, .ref o), (1, .int (nI n))]) C 3 d_M_channelOf_143 rfl (nI_1 _) (by decide) rfl ?_
              refine v_goto C 49 d_M_channelOf_146 (by decide) ?_
              refine v_sub [0, 1, 4, 5] rfl ?_
              exact ih (j + 1) (by omega) (by omega)
set_option maxHeartbeats 4000000 in
set_option maxRecDepth 100000 in
theorem c_M_channelOf (l : Launch) (G : vv_G) (v : vv_V) (o : Nat) (ad : Nat → Nat) (S : zS) (n : Nat) (hR : RM G v o ad S) (h1 : 1 ≤ n) (h2 : n ≤ zc S 1) (hB : zc S 0 ≤ 40 ∧ zc S 1 ≤ 200) (hB2 : zB2 S) : Mv l y_M_channelOf b_M_channelOf 6 (some FieldType.int) 0 0 G v [.ref o, .int (nI n)] (fun r v' => r = some (.int (zix (zcho S n))) ∧ v' = v) 0 0 := by
  refine vv_metF (own := "CustomerNoticesModel") (nm := "channelOf") pf_M_channelOf rfl rfl (Nat.le_of_ble_eq_true rfl) ?_
  intro p e s m below meth c C hin
  have hk : vkeep (mX o ad) v v := vkeep.rf
  obtain ⟨cn, kd, e10, hc1, hc2, e12, hk7⟩ := hB2 n h1 h2
  have e13 : zn (zi S 10 n) = cn := by rw [e10]; exact zn_nI (by omega)
  show vV _ _ _ _ _ _ _ _ _ _ _ _ _ v 0 0 0 [(0, .ref o), (1, .int (nI n))] []
  refine v_aload_n C 0 d_M_channelOf_0 rfl rfl ?_
  refine v_get C k_M hR.1 12 (by decide) tw_495 (fun _ h => h) rfl d_M_channelOf_1 ?_
  refine v_iload_n C 1 d_M_channelOf_4 rfl rfl ?_
  refine v_ialdN C (hR.oi (f := 12) (by decide)) (by show _ < 201; omega) (by decide) d_M_channelOf_5 ?_
  refine v_toi (y := (nI kd)) e12 ?_
  refine v_iconst (x := 4) C d_M_channelOf_6 (by decide) ?_
  refine v_icmp_ne C 45 d_M_channelOf_7 (by decide) (fun c_7 => ?_) (fun c_7 => ?_)
  · have n_7 : ¬ kd = 4 := mt (nI_eq (a := kd) (b := 4) (by omega) (by omega)).mpr c_7
    refine v_iconst (x := -1) C d_M_channelOf_45 (by decide) ?_
    refine v_istore_n (lv' := [(2, .int (-1)), (0, .ref o), (1, .int (nI n))]) C d_M_channelOf_46 rfl (by decide) rfl ?_
    refine v_iconst (x := 0) C d_M_channelOf_47 (by decide) ?_
    refine v_istore_n (lv' := [(3, .int 0), (2, .int (-1)), (0, .ref o), (1, .int (nI n))]) C d_M_channelOf_48 rfl (by decide) rfl ?_
    refine v_sub [0, 1, 2, 3] rfl ?_
    refine lp_M_channelOf C hR (by omega) (by omega) (by omega) e10 e12 ?_ 5 0 (by omega) (by omega)
    refine v_iload_n C 1 d_M_channelOf_149 rfl rfl ?_
    exact v_iret C d_M_channelOf_150 (by first | exact Nat.le_of_ble_eq_true rfl | (show _ ≤ _; omega)) (by first | exact Nat.le_of_ble_eq_true rfl | (show _ ≤ _; omega)) ⟨(by rw [zcho, e12, if_neg c_7, e13, zn_nI (show kd < 2 ^ 31 by omega)]), rfl⟩
  · have n_7 : kd = 4 := (nI_eq (a := kd) (b := 4) (by omega) (by omega)).mp c_7
    refine v_aload_n C 0 d_M_channelOf_10 rfl rfl ?_
    refine v_get C k_M hR.1 2 (by decide) tw_485 (fun _ h => h) rfl d_M_channelOf_11 ?_
    refine v_iconst (x := 0) C d_M_channelOf_14 (by decide) ?_
    refine v_toi (y := nI 0) rfl ?_
    refine v_zaldN C (hR.oz (f := 2) (by decide)) (by show _ < 4; omega) (by decide) d_M_channelOf_15 ?_
    refine v_if_ne C 39 d_M_channelOf_16 (by decide) (fun c_16 => ?_) (fun c_16 => ?_)
    · refine v_iconst (x := -1) C d_M_channelOf_39 (by decide) ?_
      refine v_goto C 44 d_M_channelOf_40 (by decide) ?_
      exact v_iret C d_M_channelOf_44 (by first | exact Nat.le_of_ble_eq_true rfl | (show _ ≤ _; omega)) (by first | exact Nat.le_of_ble_eq_true rfl | (show _ ≤ _; omega)) ⟨(by rw [zcho, e12, if_pos c_7, if_neg (fun z => c_16 z.1)]; rfl), rfl⟩
    · refine v_aload_n C 0 d_M_channelOf_19 rfl rfl ?_
      refine v_get C k_M hR.1 8 (by decide) tw_491 (fun _ h => h) rfl d_M_channelOf_20 ?_
      refine v_bipush (x := 32) C d_M_channelOf_23 (by decide) ?_
      refine v_aload_n C 0 d_M_channelOf_25 rfl rfl ?_
      refine v_get C k_M hR.1 10 (by decide) tw_493 (fun _ h => h) rfl d_M_channelOf_26 ?_
      refine v_iload_n C 1 d_M_channelOf_29 rfl rfl ?_
      refine v_ialdN C (hR.oi (f := 10) (by decide)) (by show _ < 201; omega) (by decide) d_M_channelOf_30 ?_
      refine v_toi (y := (nI cn)) e10 ?_
      refine v_imul C d_M_channelOf_31 ?_
      refine v_toi (y := nI (32 * cn)) (pk_mul 32 cn) ?_
      refine v_bipush (x := 16) C d_M_channelOf_32 (by decide) ?_
      refine v_iadd C d_M_channelOf_34 ?_
      refine v_toi (y := nI ((32 * cn) + 16)) (nI_add (32 * cn) 16) ?_
      refine v_ialdN C (hR.oi (f := 8) (by decide)) (by show _ < 1312; omega) (by decide) d_M_channelOf_35 ?_
      refine v_if_ne C 43 d_M_channelOf_36 (by decide) (fun c_36 => ?_) (fun c_36 => ?_)
      · refine v_iconst (x := 0) C d_M_channelOf_43 (by decide) ?_
        exact v_iret C d_M_channelOf_44 (by first | exact Nat.le_of_ble_eq_true rfl | (show _ ≤ _; omega)) (by first | exact Nat.le_of_ble_eq_true rfl | (show _ ≤ _; omega)) ⟨(by rw [zcho, e12, if_pos c_7, e13, if_pos ⟨c_16, c_36⟩]; rfl), rfl⟩
      · refine v_iconst (x := -1) C d_M_channelOf_39 (by decide) ?_
        refine v_goto C 44 d_M_channelOf_40 (by decide) ?_
        exact v_iret C d_M_channelOf_44 (by first | exact Nat.le_of_ble_eq_true rfl | (show _ ≤ _; omega)) (by first | exact Nat.le_of_ble_eq_true rfl | (show _ ≤ _; omega)) ⟨(by rw [zcho, e12, if_pos c_7, e13, if_neg (fun z => z.2 c_36)]; rfl), rfl⟩
