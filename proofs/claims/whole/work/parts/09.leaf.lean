theorem tw_obj : Cond.code objectInit ⟨#[0xb1]⟩ 1 none ∈ vv_wds := tw_51
theorem nar_b {b : Int32} (h : b = 0 ∨ b = 1) : narrow .boolean (.int b) = .int b := by
  rcases h with rfl | rfl <;> decide
theorem fit_b {b : Int32} (h : b = 0 ∨ b = 1) : fits .boolean (.int b) = true := by
  rcases h with rfl | rfl <;> decide
theorem vnar_b {b : Int32} (h : b = 0 ∨ b = 1) : vp_nar .boolean b = b := by
  rcases h with rfl | rfl <;> decide
theorem lc_lt {x y : Int64} : lg_cmp x y < 0 ↔ x.toInt < y.toInt := by
  unfold lg_cmp
  by_cases h1 : y < x
  · have := Int64.lt_iff_toInt_lt.mp h1
    simp [h1]; omega
  · have h1' : ¬ y.toInt < x.toInt := fun z => h1 (Int64.lt_iff_toInt_lt.mpr z)
    by_cases h2 : x = y
    · subst h2; simp
    · have h2' : ¬ x.toInt = y.toInt := fun z => h2 (Int64.toInt_inj.mp z)
      simp [h1, h2]; omega
theorem lc_gt {x y : Int64} : 0 < lg_cmp x y ↔ y.toInt < x.toInt := by
  unfold lg_cmp
  by_cases h1 : y < x
  · have := Int64.lt_iff_toInt_lt.mp h1
    simp [h1]; omega
  · have h1' : ¬ y.toInt < x.toInt := fun z => h1 (Int64.lt_iff_toInt_lt.mpr z)
    by_cases h2 : x = y
    · subst h2; simp
    · have h2' : ¬ x.toInt = y.toInt := fun z => h2 (Int64.toInt_inj.mp z)
      simp [h1, h2]; omega
theorem lc_ge {x y : Int64} : 0 ≤ lg_cmp x y ↔ y.toInt ≤ x.toInt := by
  have := lc_lt (x := x) (y := y)
  rw [Int32.lt_iff_toInt_lt] at this
  rw [Int32.le_iff_toInt_le]
  simp at this ⊢
  omega
theorem lc_le {x y : Int64} : lg_cmp x y ≤ 0 ↔ x.toInt ≤ y.toInt := by
  have := lc_gt (x := x) (y := y)
  rw [Int32.lt_iff_toInt_lt] at this
  rw [Int32.le_iff_toInt_le]
  simp at this ⊢
  omega
theorem lc_eq {x y : Int64} : lg_cmp x y = 0 ↔ x = y := by
  constructor
  · intro h
    have h1 := mt lc_lt.mpr (by rw [h]; decide)
    have h2 := mt lc_gt.mpr (by rw [h]; decide)
    exact Int64.toInt_inj.mp (by omega)
  · intro h
    subst h
    simp [lg_cmp]
theorem i64_toInt (x : Int32) : x.toInt64.toInt = x.toInt := Int32.toInt_toInt64 x
set_option maxHeartbeats 4000000 in
set_option maxRecDepth 100000 in
/-- x lies within a .. b -/
theorem c_C_isWithin (l : Launch) (G : vv_G) (v : vv_V) (x a b : Int64) : Mv l y_C_isWithin b_C_isWithin 6 (some FieldType.boolean) 0 0 G v [.long x, .long a, .long b] (fun r v' => (r = some (.int 1) ∧ v' = v ∧ (a.toInt ≤ x.toInt ∧ x.toInt ≤ b.toInt)) ∨ (r = some (.int 0) ∧ v' = v ∧ ¬ (a.toInt ≤ x.toInt ∧ x.toInt ≤ b.toInt))) 0 0 := by
  refine vv_metF (own := "CustomerNotices") (nm := "isWithin") pf_C_isWithin rfl rfl (Nat.le_of_ble_eq_true rfl) ?_
  intro p e s m below meth c C hin
  show vV _ _ _ _ _ _ _ _ _ _ _ _ _ v 0 0 0 [(0, .long x), (2, .long a), (4, .long b)] []
  refine v_lload_n C 0 d_C_isWithin_0 rfl rfl ?_
  refine v_lload_n C 1 d_C_isWithin_1 rfl rfl ?_
  refine v_lcmp C d_C_isWithin_2 ?_
  refine v_if_lt C 17 d_C_isWithin_3 (by decide) (fun c_3 => ?_) (fun c_3 => ?_)
  · refine v_iconst (x := 0) C d_C_isWithin_17 (by decide) ?_
    exact v_zret C d_C_isWithin_18 (by first | exact Nat.le_of_ble_eq_true rfl | (show _ ≤ _; omega)) (by first | exact Nat.le_of_ble_eq_true rfl | (show _ ≤ _; omega)) (by decide) (Or.inr ⟨rfl, rfl, (by simp only [lc_lt, lc_gt, lc_ge, lc_le] at *; omega)⟩)
  · refine v_lload_n C 0 d_C_isWithin_6 rfl rfl ?_
    refine v_lload C 2 d_C_isWithin_7 rfl ?_
    refine v_lcmp C d_C_isWithin_9 ?_
    refine v_if_gt C 17 d_C_isWithin_10 (by decide) (fun c_10 => ?_) (fun c_10 => ?_)
    · refine v_iconst (x := 0) C d_C_isWithin_17 (by decide) ?_
      exact v_zret C d_C_isWithin_18 (by first | exact Nat.le_of_ble_eq_true rfl | (show _ ≤ _; omega)) (by first | exact Nat.le_of_ble_eq_true rfl | (show _ ≤ _; omega)) (by decide) (Or.inr ⟨rfl, rfl, (by simp only [lc_lt, lc_gt, lc_ge, lc_le] at *; omega)⟩)
    · refine v_iconst (x := 1) C d_C_isWithin_13 (by decide) ?_
      refine v_goto C 18 d_C_isWithin_14 (by decide) ?_
      exact v_zret C d_C_isWithin_18 (by first | exact Nat.le_of_ble_eq_true rfl | (show _ ≤ _; omega)) (by first | exact Nat.le_of_ble_eq_true rfl | (show _ ≤ _; omega)) (by decide) (Or.inl ⟨rfl, rfl, (by simp only [lc_lt, lc_gt, lc_ge, lc_le] at *; omega)⟩)
set_option maxHeartbeats 4000000 in
set_option maxRecDepth 100000 in
/-- x lies within a .. b -/
theorem c_M_isIn (l : Launch) (G : vv_G) (v : vv_V) (x a b : Int64) : Mv l y_M_isIn b_M_isIn 6 (some FieldType.boolean) 0 0 G v [.long x, .long a, .long b] (fun r v' => (r = some (.int 1) ∧ v' = v ∧ (a.toInt ≤ x.toInt ∧ x.toInt ≤ b.toInt)) ∨ (r = some (.int 0) ∧ v' = v ∧ ¬ (a.toInt ≤ x.toInt ∧ x.toInt ≤ b.toInt))) 0 0 := by
  refine vv_metF (own := "CustomerNoticesModel") (nm := "isIn") pf_M_isIn rfl rfl (Nat.le_of_ble_eq_true rfl) ?_
  intro p e s m below meth c C hin
  show vV _ _ _ _ _ _ _ _ _ _ _ _ _ v 0 0 0 [(0, .long x), (2, .long a), (4, .long b)] []
  refine v_lload_n C 0 d_M_isIn_0 rfl rfl ?_
  refine v_lload_n C 1 d_M_isIn_1 rfl rfl ?_
  refine v_lcmp C d_M_isIn_2 ?_
  refine v_if_lt C 17 d_M_isIn_3 (by decide) (fun c_3 => ?_) (fun c_3 => ?_)
  · refine v_iconst (x := 0) C d_M_isIn_17 (by decide) ?_
    exact v_zret C d_M_isIn_18 (by first | exact Nat.le_of_ble_eq_true rfl | (show _ ≤ _; omega)) (by first | exact Nat.le_of_ble_eq_true rfl | (show _ ≤ _; omega)) (by decide) (Or.inr ⟨rfl, rfl, (by simp only [lc_lt, lc_gt, lc_ge, lc_le] at *; omega)⟩)
  · refine v_lload_n C 0 d_M_isIn_6 rfl rfl ?_
    refine v_lload C 2 d_M_isIn_7 rfl ?_
    refine v_lcmp C d_M_isIn_9 ?_
    refine v_if_gt C 17 d_M_isIn_10 (by decide) (fun c_10 => ?_) (fun c_10 => ?_)
    · refine v_iconst (x := 0) C d_M_isIn_17 (by decide) ?_
      exact v_zret C d_M_isIn_18 (by first | exact Nat.le_of_ble_eq_true rfl | (show _ ≤ _; omega)) (by first | exact Nat.le_of_ble_eq_true rfl | (show _ ≤ _; omega)) (by decide) (Or.inr ⟨rfl, rfl, (by simp only [lc_lt, lc_gt, lc_ge, lc_le] at *; omega)⟩)
    · refine v_iconst (x := 1) C d_M_isIn_13 (by decide) ?_
      refine v_goto C 18 d_M_isIn_14 (by decide) ?_
      exact v_zret C d_M_isIn_18 (by first | exact Nat.le_of_ble_eq_true rfl | (show _ ≤ _; omega)) (by first | exact Nat.le_of_ble_eq_true rfl | (show _ ≤ _; omega)) (by decide) (Or.inl ⟨rfl, rfl, (by simp only [lc_lt, lc_gt, lc_ge, lc_le] at *; omega)⟩)
set_option maxHeartbeats 4000000 in
set_option maxRecDepth 100000 in
theorem c_C_isKind (l : Launch) (G : vv_G) (v : vv_V) (x : Int32) : Mv l y_C_isKind b_C_isKind 1 (some FieldType.boolean) 1 25 G v [.int x] (fun r v' => (r = some (.int 1) ∧ v' = v ∧ (0 ≤ x.toInt ∧ x.toInt ≤ 7)) ∨ (r = some (.int 0) ∧ v' = v ∧ ¬ (0 ≤ x.toInt ∧ x.toInt ≤ 7))) 0 0 := by
  refine vv_metF (own := "CustomerNotices") (nm := "isKind") pf_C_isKind rfl rfl (Nat.le_of_ble_eq_true rfl) ?_
  intro p e s m below meth c C hin
  show vV _ _ _ _ _ _ _ _ _ _ _ _ _ v 0 0 0 [(0, .int x)] []
  refine v_iload_n C 0 d_C_isKind_0 rfl rfl ?_
  refine v_i2l (y := (Int32.toInt64 x)) C d_C_isKind_1 rfl ?_
  refine v_lconst (x := 0) C d_C_isKind_2 (by decide) ?_
  refine v_ldc2 (x := 7) C d_C_isKind_3 tw_232 ?_
  refine v_callS (rest := []) C (c_C_isWithin l G v (Int32.toInt64 x) 0 7) tw_111 tw_30 tw_109 tw_110 mn_C_isWithin ⟨Nat.le_of_ble_eq_true rfl, Nat.le_of_ble_eq_true rfl⟩ rfl rfl (Nat.le_of_ble_eq_true rfl) d_C_isKind_6 ⟨(by first | exact Nat.le_of_ble_eq_true rfl | (show _ ≤ _; omega)), (by first | exact Nat.le_of_ble_eq_true rfl | (show _ ≤ _; omega))⟩ (fun r_1 v_2 hp_3 => ?_)
  rcases hp_3 with ⟨rfl, hv9, hb_6⟩ | ⟨rfl, hv9, hb_6⟩
  · obtain rfl := hv9.symm
    show vV _ _ _ _ _ _ _ _ _ _ _ _ _ v 0 0 9 [(0, .int x)] [.int 1]
    exact v_zret C d_C_isKind_9 (by first | exact Nat.le_of_ble_eq_true rfl | (show _ ≤ _; omega)) (by first | exact Nat.le_of_ble_eq_true rfl | (show _ ≤ _; omega)) (by decide) (Or.inl ⟨rfl, rfl, (by rw [i64_toInt] at hb_6; exact hb_6)⟩)
  · obtain rfl := hv9.symm
    show vV _ _ _ _ _ _ _ _ _ _ _ _ _ v 0 0 9 [(0, .int x)] [.int 0]
    exact v_zret C d_C_isKind_9 (by first | exact Nat.le_of_ble_eq_true rfl | (show _ ≤ _; omega)) (by first | exact Nat.le_of_ble_eq_true rfl | (show _ ≤ _; omega)) (by decide) (Or.inr ⟨rfl, rfl, (by rw [i64_toInt] at hb_6; exact hb_6)⟩)
set_option maxHeartbeats 4000000 in
set_option maxRecDepth 100000 in
theorem c_C_isChannel (l : Launch) (G : vv_G) (v : vv_V) (x : Int32) : Mv l y_C_isChannel b_C_isChannel 1 (some FieldType.boolean) 1 25 G v [.int x] (fun r v' => (r = some (.int 1) ∧ v' = v ∧ (0 ≤ x.toInt ∧ x.toInt ≤ 3)) ∨ (r = some (.int 0) ∧ v' = v ∧ ¬ (0 ≤ x.toInt ∧ x.toInt ≤ 3))) 0 0 := by
  refine vv_metF (own := "CustomerNotices") (nm := "isChannel") pf_C_isChannel rfl rfl (Nat.le_of_ble_eq_true rfl) ?_
  intro p e s m below meth c C hin
  show vV _ _ _ _ _ _ _ _ _ _ _ _ _ v 0 0 0 [(0, .int x)] []
  refine v_iload_n C 0 d_C_isChannel_0 rfl rfl ?_
  refine v_i2l (y := (Int32.toInt64 x)) C d_C_isChannel_1 rfl ?_
  refine v_lconst (x := 0) C d_C_isChannel_2 (by decide) ?_
  refine v_ldc2 (x := 3) C d_C_isChannel_3 tw_236 ?_
  refine v_callS (rest := []) C (c_C_isWithin l G v (Int32.toInt64 x) 0 3) tw_111 tw_30 tw_109 tw_110 mn_C_isWithin ⟨Nat.le_of_ble_eq_true rfl, Nat.le_of_ble_eq_true rfl⟩ rfl rfl (Nat.le_of_ble_eq_true rfl) d_C_isChannel_6 ⟨(by first | exact Nat.le_of_ble_eq_true rfl | (show _ ≤ _; omega)), (by first | exact Nat.le_of_ble_eq_true rfl | (show _ ≤ _; omega))⟩ (fun r_1 v_2 hp_3 => ?_)
  rcases hp_3 with ⟨rfl, hv9, hb_6⟩ | ⟨rfl, hv9, hb_6⟩
  · obtain rfl := hv9.symm
    show vV _ _ _ _ _ _ _ _ _ _ _ _ _ v 0 0 9 [(0, .int x)] [.int 1]
    exact v_zret C d_C_isChannel_9 (by first | exact Nat.le_of_ble_eq_true rfl | (show _ ≤ _; omega)) (by first | exact Nat.le_of_ble_eq_true rfl | (show _ ≤ _; omega)) (by decide) (Or.inl ⟨rfl, rfl, (by rw [i64_toInt] at hb_6; exact hb_6)⟩)
  · obtain rfl := hv9.symm
    show vV _ _ _ _ _ _ _ _ _ _ _ _ _ v 0 0 9 [(0, .int x)] [.int 0]
    exact v_zret C d_C_isChannel_9 (by first | exact Nat.le_of_ble_eq_true rfl | (show _ ≤ _; omega)) (by first | exact Nat.le_of_ble_eq_true rfl | (show _ ≤ _; omega)) (by decide) (Or.inr ⟨rfl, rfl, (by rw [i64_toInt] at hb_6; exact hb_6)⟩)
set_option maxHeartbeats 4000000 in
set_option maxRecDepth 100000 in
theorem c_C_isMinuteOfDay (l : Launch) (G : vv_G) (v : vv_V) (x : Int32) : Mv l y_C_isMinuteOfDay b_C_isMinuteOfDay 1 (some FieldType.boolean) 1 25 G v [.int x] (fun r v' => (r = some (.int 1) ∧ v' = v ∧ (0 ≤ x.toInt ∧ x.toInt ≤ 1439)) ∨ (r = some (.int 0) ∧ v' = v ∧ ¬ (0 ≤ x.toInt ∧ x.toInt ≤ 1439))) 0 0 := by
  refine vv_metF (own := "CustomerNotices") (nm := "isMinuteOfDay") pf_C_isMinuteOfDay rfl rfl (Nat.le_of_ble_eq_true rfl) ?_
  intro p e s m below meth c C hin
  show vV _ _ _ _ _ _ _ _ _ _ _ _ _ v 0 0 0 [(0, .int x)] []
  refine v_iload_n C 0 d_C_isMinuteOfDay_0 rfl rfl ?_
  refine v_i2l (y := (Int32.toInt64 x)) C d_C_isMinuteOfDay_1 rfl ?_
  refine v_lconst (x := 0) C d_C_isMinuteOfDay_2 (by decide) ?_
  refine v_ldc2 (x := 1439) C d_C_isMinuteOfDay_3 tw_258 ?_
  refine v_callS (rest := []) C (c_C_isWithin l G v (Int32.toInt64 x) 0 1439) tw_111 tw_30 tw_109 tw_110 mn_C_isWithin ⟨Nat.le_of_ble_eq_true rfl, Nat.le_of_ble_eq_true rfl⟩ rfl rfl (Nat.le_of_ble_eq_true rfl) d_C_isMinuteOfDay_6 ⟨(by first | exact Nat.le_of_ble_eq_true rfl | (show _ ≤ _; omega)), (by first | exact Nat.le_of_ble_eq_true rfl | (show _ ≤ _; omega))⟩ (fun r_1 v_2 hp_3 => ?_)
  rcases hp_3 with ⟨rfl, hv9, hb_6⟩ | ⟨rfl, hv9, hb_6⟩
  · obtain rfl := hv9.symm
    show vV _ _ _ _ _ _ _ _ _ _ _ _ _ v 0 0 9 [(0, .int x)] [.int 1]
    exact v_zret C d_C_isMinuteOfDay_9 (by first | exact Nat.le_of_ble_eq_true rfl | (show _ ≤ _; omega)) (by first | exact Nat.le_of_ble_eq_true rfl | (show _ ≤ _; omega)) (by decide) (Or.inl ⟨rfl, rfl, (by rw [i64_toInt] at hb_6; exact hb_6)⟩)
  · obtain rfl := hv9.symm
    show vV _ _ _ _ _ _ _ _ _ _ _ _ _ v 0 0 9 [(0, .int x)] [.int 0]
    exact v_zret C d_C_isMinuteOfDay_9 (by first | exact Nat.le_of_ble_eq_true rfl | (show _ ≤ _; omega)) (by first | exact Nat.le_of_ble_eq_true rfl | (show _ ≤ _; omega)) (by decide) (Or.inr ⟨rfl, rfl, (by rw [i64_toInt] at hb_6; exact hb_6)⟩)
set_option maxHeartbeats 4000000 in
set_option maxRecDepth 100000 in
theorem c_C_isItemNumber (l : Launch) (G : vv_G) (v : vv_V) (x : Int32) : Mv l y_C_isItemNumber b_C_isItemNumber 1 (some FieldType.boolean) 1 25 G v [.int x] (fun r v' => (r = some (.int 1) ∧ v' = v ∧ (1 ≤ x.toInt ∧ x.toInt ≤ 9999)) ∨ (r = some (.int 0) ∧ v' = v ∧ ¬ (1 ≤ x.toInt ∧ x.toInt ≤ 9999))) 0 0 := by
  refine vv_metF (own := "CustomerNotices") (nm := "isItemNumber") pf_C_isItemNumber rfl rfl (Nat.le_of_ble_eq_true rfl) ?_
  intro p e s m below meth c C hin
  show vV _ _ _ _ _ _ _ _ _ _ _ _ _ v 0 0 0 [(0, .int x)] []
  refine v_iload_n C 0 d_C_isItemNumber_0 rfl rfl ?_
  refine v_i2l (y := (Int32.toInt64 x)) C d_C_isItemNumber_1 rfl ?_
  refine v_lconst (x := 1) C d_C_isItemNumber_2 (by decide) ?_
  refine v_ldc2 (x := 9999) C d_C_isItemNumber_3 tw_269 ?_
  refine v_callS (rest := []) C (c_C_isWithin l G v (Int32.toInt64 x) 1 9999) tw_111 tw_30 tw_109 tw_110 mn_C_isWithin ⟨Nat.le_of_ble_eq_true rfl, Nat.le_of_ble_eq_true rfl⟩ rfl rfl (Nat.le_of_ble_eq_true rfl) d_C_isItemNumber_6 ⟨(by first | exact Nat.le_of_ble_eq_true rfl | (show _ ≤ _; omega)), (by first | exact Nat.le_of_ble_eq_true rfl | (show _ ≤ _; omega))⟩ (fun r_1 v_2 hp_3 => ?_)
  rcases hp_3 with ⟨rfl, hv9, hb_6⟩ | ⟨rfl, hv9, hb_6⟩
  · obtain rfl := hv9.symm
    show vV _ _ _ _ _ _ _ _ _ _ _ _ _ v 0 0 9 [(0, .int x)] [.int 1]
    exact v_zret C d_C_isItemNumber_9 (by first | exact Nat.le_of_ble_eq_true rfl | (show _ ≤ _; omega)) (by first | exact Nat.le_of_ble_eq_true rfl | (show _ ≤ _; omega)) (by decide) (Or.inl ⟨rfl, rfl, (by rw [i64_toInt] at hb_6; exact hb_6)⟩)
  · obtain rfl := hv9.symm
    show vV _ _ _ _ _ _ _ _ _ _ _ _ _ v 0 0 9 [(0, .int x)] [.int 0]
    exact v_zret C d_C_isItemNumber_9 (by first | exact Nat.le_of_ble_eq_true rfl | (show _ ≤ _; omega)) (by first | exact Nat.le_of_ble_eq_true rfl | (show _ ≤ _; omega)) (by decide) (Or.inr ⟨rfl, rfl, (by rw [i64_toInt] at hb_6; exact hb_6)⟩)
set_option maxHeartbeats 4000000 in
set_option maxRecDepth 100000 in
theorem c_C_isEnd (l : Launch) (G : vv_G) (v : vv_V) (x : Int32) : Mv l y_C_isEnd b_C_isEnd 1 (some FieldType.boolean) 0 0 G v [.int x] (fun r v' => (r = some (.int 1) ∧ v' = v ∧ (x = 5 ∨ x = 6)) ∨ (r = some (.int 0) ∧ v' = v ∧ ¬ (x = 5 ∨ x = 6))) 0 0 := by
  refine vv_metF (own := "CustomerNotices") (nm := "isEnd") pf_C_isEnd rfl rfl (Nat.le_of_ble_eq_true rfl) ?_
  intro p e s m below meth c C hin
  show vV _ _ _ _ _ _ _ _ _ _ _ _ _ v 0 0 0 [(0, .int x)] []
  refine v_iload_n C 0 d_C_isEnd_0 rfl rfl ?_
  refine v_iconst (x := 5) C d_C_isEnd_1 (by decide) ?_
  refine v_icmp_eq C 11 d_C_isEnd_2 (by decide) (fun c_2 => ?_) (fun c_2 => ?_)
  · refine v_iconst (x := 1) C d_C_isEnd_11 (by decide) ?_
    refine v_goto C 16 d_C_isEnd_12 (by decide) ?_
    exact v_zret C d_C_isEnd_16 (by first | exact Nat.le_of_ble_eq_true rfl | (show _ ≤ _; omega)) (by first | exact Nat.le_of_ble_eq_true rfl | (show _ ≤ _; omega)) (by decide) (Or.inl ⟨rfl, rfl, (by first | exact Or.inl (by assumption) | exact Or.inr (by assumption))⟩)
  · refine v_iload_n C 0 d_C_isEnd_5 rfl rfl ?_
    refine v_bipush (x := 6) C d_C_isEnd_6 (by decide) ?_
    refine v_icmp_ne C 15 d_C_isEnd_8 (by decide) (fun c_8 => ?_) (fun c_8 => ?_)
    · refine v_iconst (x := 0) C d_C_isEnd_15 (by decide) ?_
      exact v_zret C d_C_isEnd_16 (by first | exact Nat.le_of_ble_eq_true rfl | (show _ ≤ _; omega)) (by first | exact Nat.le_of_ble_eq_true rfl | (show _ ≤ _; omega)) (by decide) (Or.inr ⟨rfl, rfl, (by intro h; rcases h with h | h <;> contradiction)⟩)
    · refine v_iconst (x := 1) C d_C_isEnd_11 (by decide) ?_
      refine v_goto C 16 d_C_isEnd_12 (by decide) ?_
      exact v_zret C d_C_isEnd_16 (by first | exact Nat.le_of_ble_eq_true rfl | (show _ ≤ _; omega)) (by first | exact Nat.le_of_ble_eq_true rfl | (show _ ≤ _; omega)) (by decide) (Or.inl ⟨rfl, rfl, (by first | exact Or.inl (by assumption) | exact Or.inr (by assumption))⟩)
set_option maxHeartbeats 4000000 in
set_option maxRecDepth 100000 in
theorem c_Ma_max (l : Launch) (G : vv_G) (v : vv_V) (x y : Int32) : Mv l y_Ma_max b_Ma_max 2 (some FieldType.int) 0 0 G v [.int x, .int y] (fun r v' => r = some (.int (if x < y then y else x)) ∧ v' = v) 0 0 := by
  refine vv_metF (own := "java/lang/Math") (nm := "max") pf_Ma_max rfl rfl (Nat.le_of_ble_eq_true rfl) ?_
  intro p e s m below meth c C hin
  show vV _ _ _ _ _ _ _ _ _ _ _ _ _ v 0 0 0 [(0, .int x), (1, .int y)] []
  refine v_iload_n C 0 d_Ma_max_0 rfl rfl ?_
  refine v_iload_n C 1 d_Ma_max_1 rfl rfl ?_
  refine v_icmp_lt C 9 d_Ma_max_2 (by decide) (fun c_2 => ?_) (fun c_2 => ?_)
  · refine v_iload_n C 1 d_Ma_max_9 rfl rfl ?_
    exact v_iret C d_Ma_max_10 (by first | exact Nat.le_of_ble_eq_true rfl | (show _ ≤ _; omega)) (by first | exact Nat.le_of_ble_eq_true rfl | (show _ ≤ _; omega)) ⟨by first | rw [if_pos (by assumption)] | rw [if_neg (by assumption)], rfl⟩
  · refine v_iload_n C 0 d_Ma_max_5 rfl rfl ?_
    refine v_goto C 10 d_Ma_max_6 (by decide) ?_
    exact v_iret C d_Ma_max_10 (by first | exact Nat.le_of_ble_eq_true rfl | (show _ ≤ _; omega)) (by first | exact Nat.le_of_ble_eq_true rfl | (show _ ≤ _; omega)) ⟨by first | rw [if_pos (by assumption)] | rw [if_neg (by assumption)], rfl⟩
set_option maxHeartbeats 4000000 in
set_option maxRecDepth 100000 in
theorem c_Ma_min (l : Launch) (G : vv_G) (v : vv_V) (x y : Int32) : Mv l y_Ma_min b_Ma_min 2 (some FieldType.int) 0 0 G v [.int x, .int y] (fun r v' => r = some (.int (if y < x then y else x)) ∧ v' = v) 0 0 := by
  refine vv_metF (own := "java/lang/Math") (nm := "min") pf_Ma_min rfl rfl (Nat.le_of_ble_eq_true rfl) ?_
  intro p e s m below meth c C hin
  show vV _ _ _ _ _ _ _ _ _ _ _ _ _ v 0 0 0 [(0, .int x), (1, .int y)] []
  refine v_iload_n C 0 d_Ma_min_0 rfl rfl ?_
  refine v_iload_n C 1 d_Ma_min_1 rfl rfl ?_
  refine v_icmp_gt C 9 d_Ma_min_2 (by decide) (fun c_2 => ?_) (fun c_2 => ?_)
  · refine v_iload_n C 1 d_Ma_min_9 rfl rfl ?_
    exact v_iret C d_Ma_min_10 (by first | exact Nat.le_of_ble_eq_true rfl | (show _ ≤ _; omega)) (by first | exact Nat.le_of_ble_eq_true rfl | (show _ ≤ _; omega)) ⟨by first | rw [if_pos (by assumption)] | rw [if_neg (by assumption)], rfl⟩
  · refine v_iload_n C 0 d_Ma_min_5 rfl rfl ?_
    refine v_goto C 10 d_Ma_min_6 (by decide) ?_
    exact v_iret C d_Ma_min_10 (by first | exact Nat.le_of_ble_eq_true rfl | (show _ ≤ _; omega)) (by first | exact Nat.le_of_ble_eq_true rfl | (show _ ≤ _; omega)) ⟨by first | rw [if_pos (by assumption)] | rw [if_neg (by assumption)], rfl⟩
set_option maxHeartbeats 4000000 in
set_option maxRecDepth 100000 in
theorem c_Ma_min_JJJ (l : Launch) (G : vv_G) (v : vv_V) (x y : Int64) : Mv l y_Ma_min_JJJ b_Ma_min_JJJ 4 (some FieldType.long) 0 0 G v [.long x, .long y] (fun r v' => r = some (.long (if y.toInt < x.toInt then y else x)) ∧ v' = v) 0 0 := by
  refine vv_metF (own := "java/lang/Math") (nm := "min") pf_Ma_min_JJJ rfl rfl (Nat.le_of_ble_eq_true rfl) ?_
  intro p e s m below meth c C hin
  show vV _ _ _ _ _ _ _ _ _ _ _ _ _ v 0 0 0 [(0, .long x), (2, .long y)] []
  refine v_lload_n C 0 d_Ma_min_JJJ_0 rfl rfl ?_
  refine v_lload_n C 1 d_Ma_min_JJJ_1 rfl rfl ?_
  refine v_lcmp C d_Ma_min_JJJ_2 ?_
  refine v_if_gt C 10 d_Ma_min_JJJ_3 (by decide) (fun c_3 => ?_) (fun c_3 => ?_)
  · refine v_lload_n C 1 d_Ma_min_JJJ_10 rfl rfl ?_
    exact v_lret C d_Ma_min_JJJ_11 (by first | exact Nat.le_of_ble_eq_true rfl | (show _ ≤ _; omega)) (by first | exact Nat.le_of_ble_eq_true rfl | (show _ ≤ _; omega)) ⟨by first | rw [if_pos (by rw [← lc_gt]; assumption)] | rw [if_neg (by rw [← lc_gt]; assumption)], rfl⟩
  · refine v_lload_n C 0 d_Ma_min_JJJ_6 rfl rfl ?_
    refine v_goto C 11 d_Ma_min_JJJ_7 (by decide) ?_
    exact v_lret C d_Ma_min_JJJ_11 (by first | exact Nat.le_of_ble_eq_true rfl | (show _ ≤ _; omega)) (by first | exact Nat.le_of_ble_eq_true rfl | (show _ ≤ _; omega)) ⟨by first | rw [if_pos (by rw [← lc_gt]; assumption)] | rw [if_neg (by rw [← lc_gt]; assumption)], rfl⟩
set_option maxHeartbeats 4000000 in
set_option maxRecDepth 100000 in
theorem c_Ma_abs (l : Launch) (G : vv_G) (v : vv_V) (x : Int64) : Mv l y_Ma_abs b_Ma_abs 2 (some FieldType.long) 0 0 G v [.long x] (fun r v' => r = some (.long (if (0 : Int64).toInt ≤ x.toInt then x else -x)) ∧ v' = v) 0 0 := by
  refine vv_metF (own := "java/lang/Math") (nm := "abs") pf_Ma_abs rfl rfl (Nat.le_of_ble_eq_true rfl) ?_
  intro p e s m below meth c C hin
  show vV _ _ _ _ _ _ _ _ _ _ _ _ _ v 0 0 0 [(0, .long x)] []
  refine v_lload_n C 0 d_Ma_abs_0 rfl rfl ?_
  refine v_lconst (x := 0) C d_Ma_abs_1 (by decide) ?_
  refine v_lcmp C d_Ma_abs_2 ?_
  refine v_if_ge C 11 d_Ma_abs_3 (by decide) (fun c_3 => ?_) (fun c_3 => ?_)
  · refine v_lload_n C 0 d_Ma_abs_11 rfl rfl ?_
    exact v_lret C d_Ma_abs_12 (by first | exact Nat.le_of_ble_eq_true rfl | (show _ ≤ _; omega)) (by first | exact Nat.le_of_ble_eq_true rfl | (show _ ≤ _; omega)) ⟨by first | rw [if_pos (by first | rw [← lc_ge]; assumption)] | rw [if_neg (by rw [← lc_ge]; assumption)], rfl⟩
  · refine v_lload_n C 0 d_Ma_abs_6 rfl rfl ?_
    refine v_lneg C d_Ma_abs_7 ?_
    refine v_goto C 12 d_Ma_abs_8 (by decide) ?_
    exact v_lret C d_Ma_abs_12 (by first | exact Nat.le_of_ble_eq_true rfl | (show _ ≤ _; omega)) (by first | exact Nat.le_of_ble_eq_true rfl | (show _ ≤ _; omega)) ⟨by first | rw [if_pos (by first | rw [← lc_ge]; assumption)] | rw [if_neg (by rw [← lc_ge]; assumption)], rfl⟩
