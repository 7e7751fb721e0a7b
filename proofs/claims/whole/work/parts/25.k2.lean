theorem fm_a {x : Int64} (h : x.toInt < 0) (h2 : ¬ (x - x / 1440 * 1440) = 0) : ((x - x / 1440 * 1440) + 1440).toInt = x.toInt % 1440 := by
  have e := lm_rem x
  have h4 := tm_c x.toInt
  have h5 : ¬ (x - x / 1440 * 1440).toInt = 0 := fun z => h2 (Int64.toInt_inj.mp z)
  have e0 : (1440 : Int64).toInt = 1440 := rfl
  rw [Int64.toInt_add, e0, e, Int.bmod_eq_of_le (by omega) (by omega)]
  rw [e] at h5
  omega
theorem fm_b {x : Int64} (h : 0 ≤ x.toInt ∨ (x - x / 1440 * 1440) = 0) : (x - x / 1440 * 1440).toInt = x.toInt % 1440 := by
  have e := lm_rem x
  have h4 := tm_c x.toInt
  rcases h with h | h
  · omega
  · have : (x - x / 1440 * 1440).toInt = 0 := by rw [h]; rfl
    omega
theorem fi_a {x : Int32} (h : x.toInt < 0) (h2 : ¬ (x - x / 1440 * 1440) = 0) : ((x - x / 1440 * 1440) + 1440).toInt = x.toInt % 1440 := by
  have e := im_rem x
  have h4 := tm_c x.toInt
  have h5 : ¬ (x - x / 1440 * 1440).toInt = 0 := fun z => h2 (Int32.toInt_inj.mp z)
  have e0 : (1440 : Int32).toInt = 1440 := rfl
  rw [Int32.toInt_add, e0, e, Int.bmod_eq_of_le (by omega) (by omega)]
  rw [e] at h5
  omega
theorem fi_b {x : Int32} (h : 0 ≤ x.toInt ∨ (x - x / 1440 * 1440) = 0) : (x - x / 1440 * 1440).toInt = x.toInt % 1440 := by
  have e := im_rem x
  have h4 := tm_c x.toInt
  rcases h with h | h
  · omega
  · have : (x - x / 1440 * 1440).toInt = 0 := by rw [h]; rfl
    omega
abbrev vn (num : Int32) (ow : Nat) (item kind : Int32) (time : Int64) (state : Int32) (prom : Int64) (isc cor ch msg : Int32) (sent : Int64) : va_E := .inr (2, [.int num, .ref ow, .int item, .int kind, .long time, .int state, .long prom, .int isc, .int cor, .int ch, .int msg, .long sent])
abbrev vi (cu it en : Int32) (la : Option Nat) : va_E := .inr (1, [.int cu, .int it, .int en, va_rf la])
set_option maxHeartbeats 4000000 in
set_option maxRecDepth 100000 in
theorem c_Ma_floorMod_JJJ (l : Launch) (G : vv_G) (v : vv_V) (x : Int64)  : Mv l y_Ma_floorMod_JJJ b_Ma_floorMod_JJJ 6 (some FieldType.long) 0 0 G v [.long x, .long 1440] (fun r v' => ∃ z : Int64, r = some (.long z) ∧ z.toInt = x.toInt % 1440 ∧ v' = v) 0 0 := by
  refine vv_metF (own := "java/lang/Math") (nm := "floorMod") pf_Ma_floorMod_JJJ rfl rfl (Nat.le_of_ble_eq_true rfl) ?_
  intro p e s m below meth c C hin
  show vV _ _ _ _ _ _ _ _ _ _ _ _ _ v 0 0 0 [(0, .long x), (2, .long 1440)] []
  refine v_lload_n C 0 d_Ma_floorMod_JJJ_0 rfl rfl ?_
  refine v_lload_n C 1 d_Ma_floorMod_JJJ_1 rfl rfl ?_
  refine v_lrem C d_Ma_floorMod_JJJ_2 (by decide) ?_
  refine v_lstore (lv' := [(4, .long (x - x / 1440 * 1440)), (0, .long x), (2, .long 1440)]) C d_Ma_floorMod_JJJ_3 (by decide) rfl ?_
  refine v_lload_n C 1 d_Ma_floorMod_JJJ_5 rfl rfl ?_
  refine v_lload_n C 2 d_Ma_floorMod_JJJ_6 rfl rfl ?_
  refine v_lxor C d_Ma_floorMod_JJJ_7 ?_
  refine v_lconst (x := 0) C d_Ma_floorMod_JJJ_8 (by decide) ?_
  refine v_lcmp C d_Ma_floorMod_JJJ_9 ?_
  refine v_if_ge C 25 d_Ma_floorMod_JJJ_10 (by decide) (fun c_10 => ?_) (fun c_10 => ?_)
  · refine v_lload C 0 d_Ma_floorMod_JJJ_25 rfl ?_
    exact v_lret C d_Ma_floorMod_JJJ_27 (by first | exact Nat.le_of_ble_eq_true rfl | (show _ ≤ _; omega)) (by first | exact Nat.le_of_ble_eq_true rfl | (show _ ≤ _; omega)) ⟨_, rfl, fm_b (Or.inl (Int.not_lt.mp (fun z => absurd c_10 (Int32.not_le.mpr (lc_lt.mpr ((lx_neg x).mpr z)))))), rfl⟩
  · refine v_lload C 0 d_Ma_floorMod_JJJ_13 rfl ?_
    refine v_lconst (x := 0) C d_Ma_floorMod_JJJ_15 (by decide) ?_
    refine v_lcmp C d_Ma_floorMod_JJJ_16 ?_
    refine v_if_eq C 25 d_Ma_floorMod_JJJ_17 (by decide) (fun c_17 => ?_) (fun c_17 => ?_)
    · refine v_lload C 0 d_Ma_floorMod_JJJ_25 rfl ?_
      exact v_lret C d_Ma_floorMod_JJJ_27 (by first | exact Nat.le_of_ble_eq_true rfl | (show _ ≤ _; omega)) (by first | exact Nat.le_of_ble_eq_true rfl | (show _ ≤ _; omega)) ⟨_, rfl, fm_b (Or.inr (lc_eq.mp c_17)), rfl⟩
    · refine v_lload C 0 d_Ma_floorMod_JJJ_20 rfl ?_
      refine v_lload_n C 2 d_Ma_floorMod_JJJ_22 rfl rfl ?_
      refine v_ladd C d_Ma_floorMod_JJJ_23 ?_
      exact v_lret C d_Ma_floorMod_JJJ_24 (by first | exact Nat.le_of_ble_eq_true rfl | (show _ ≤ _; omega)) (by first | exact Nat.le_of_ble_eq_true rfl | (show _ ≤ _; omega)) ⟨_, rfl, fm_a ((lx_neg x).mp (lc_lt.mp (Int32.not_le.mp c_10))) (fun z => c_17 (lc_eq.mpr z)), rfl⟩
set_option maxHeartbeats 4000000 in
set_option maxRecDepth 100000 in
theorem c_Ma_floorMod (l : Launch) (G : vv_G) (v : vv_V) (x : Int32)  : Mv l y_Ma_floorMod b_Ma_floorMod 3 (some FieldType.int) 0 0 G v [.int x, .int 1440] (fun r v' => ∃ z : Int32, r = some (.int z) ∧ z.toInt = x.toInt % 1440 ∧ v' = v) 0 0 := by
  refine vv_metF (own := "java/lang/Math") (nm := "floorMod") pf_Ma_floorMod rfl rfl (Nat.le_of_ble_eq_true rfl) ?_
  intro p e s m below meth c C hin
  show vV _ _ _ _ _ _ _ _ _ _ _ _ _ v 0 0 0 [(0, .int x), (1, .int 1440)] []
  refine v_iload_n C 0 d_Ma_floorMod_0 rfl rfl ?_
  refine v_iload_n C 1 d_Ma_floorMod_1 rfl rfl ?_
  refine v_irem C d_Ma_floorMod_2 (by decide) ?_
  refine v_istore_n (lv' := [(2, .int (x - x / 1440 * 1440)), (0, .int x), (1, .int 1440)]) C d_Ma_floorMod_3 rfl (by decide) rfl ?_
  refine v_iload_n C 1 d_Ma_floorMod_4 rfl rfl ?_
  refine v_iload_n C 2 d_Ma_floorMod_5 rfl rfl ?_
  refine v_ixor C d_Ma_floorMod_6 ?_
  refine v_if_ge C 18 d_Ma_floorMod_7 (by decide) (fun c_7 => ?_) (fun c_7 => ?_)
  · refine v_iload_n C 0 d_Ma_floorMod_18 rfl rfl ?_
    exact v_iret C d_Ma_floorMod_19 (by first | exact Nat.le_of_ble_eq_true rfl | (show _ ≤ _; omega)) (by first | exact Nat.le_of_ble_eq_true rfl | (show _ ≤ _; omega)) ⟨_, rfl, fi_b (Or.inl (Int.not_lt.mp (fun z => absurd (i_ge0.mp c_7) (Int.not_le.mpr ((ix_neg x).mpr z))))), rfl⟩
  · refine v_iload_n C 0 d_Ma_floorMod_10 rfl rfl ?_
    refine v_if_eq C 18 d_Ma_floorMod_11 (by decide) (fun c_11 => ?_) (fun c_11 => ?_)
    · refine v_iload_n C 0 d_Ma_floorMod_18 rfl rfl ?_
      exact v_iret C d_Ma_floorMod_19 (by first | exact Nat.le_of_ble_eq_true rfl | (show _ ≤ _; omega)) (by first | exact Nat.le_of_ble_eq_true rfl | (show _ ≤ _; omega)) ⟨_, rfl, fi_b (Or.inr c_11), rfl⟩
    · refine v_iload_n C 0 d_Ma_floorMod_14 rfl rfl ?_
      refine v_iload_n C 2 d_Ma_floorMod_15 rfl rfl ?_
      refine v_iadd C d_Ma_floorMod_16 ?_
      exact v_iret C d_Ma_floorMod_17 (by first | exact Nat.le_of_ble_eq_true rfl | (show _ ≤ _; omega)) (by first | exact Nat.le_of_ble_eq_true rfl | (show _ ≤ _; omega)) ⟨_, rfl, fi_a ((ix_neg x).mp (Int.not_le.mp (fun z => c_7 (i_ge0.mpr z)))) c_11, rfl⟩
set_option maxHeartbeats 4000000 in
set_option maxRecDepth 100000 in
theorem c_K_isQuietAt (l : Launch) (G : vv_G) (v : vv_V) (a : Nat) (num lang zone qf qu : Int32) (lw : Int64) (mt0 : Int32) (oa : Nat) (t : Int64) (h0 : v 0 a = some (vk num lang zone qf qu lw mt0 oa)) : Mv l y_K_isQuietAt b_K_isQuietAt 5 (some FieldType.boolean) 1 25 G v [.ref a, .long t] (fun r v' => (r = some (.int 1) ∧ v' = v ∧ (kqu zone qf qu t)) ∨ (r = some (.int 0) ∧ v' = v ∧ ¬ (kqu zone qf qu t))) 0 0 := by
  refine vv_metF (own := "CustomerNotices$Customer") (nm := "isQuietAt") pf_K_isQuietAt rfl rfl (Nat.le_of_ble_eq_true rfl) ?_
  intro p e s m below meth c C hin
  show vV _ _ _ _ _ _ _ _ _ _ _ _ _ v 0 0 0 [(0, .ref a), (1, .long t)] []
  refine v_lload_n C 1 d_K_isQuietAt_0 rfl rfl ?_
  refine v_bipush (x := 60) C d_K_isQuietAt_1 (by decide) ?_
  refine v_aload_n C 0 d_K_isQuietAt_3 rfl rfl ?_
  refine v_get C k_K h0 2 (by decide) tw_128 (fun _ h => h) rfl d_K_isQuietAt_4 ?_
  refine v_imul C d_K_isQuietAt_7 ?_
  refine v_i2l (y := (Int32.toInt64 (60 * zone))) C d_K_isQuietAt_8 rfl ?_
  refine v_ladd C d_K_isQuietAt_9 ?_
  refine v_ldc2 (x := 1440) C d_K_isQuietAt_10 tw_411 ?_
  refine v_callS (rest := []) C (c_Ma_floorMod_JJJ l G v (t + (Int32.toInt64 (60 * zone)))) tw_414 tw_37 tw_412 tw_413 mn_Ma_floorMod_JJJ ⟨Nat.le_of_ble_eq_true rfl, Nat.le_of_ble_eq_true rfl⟩ rfl rfl (Nat.le_of_ble_eq_true rfl) d_K_isQuietAt_13 ⟨(by first | exact Nat.le_of_ble_eq_true rfl | (dsimp only; omega)), (by first | exact Nat.le_of_ble_eq_true rfl | (dsimp only; omega))⟩ (fun r_1 v_2 hp_3 => ?_)
  obtain ⟨z, rfl, hz, hv9⟩ := hp_3
  obtain rfl := hv9.symm
  show vV _ _ _ _ _ _ _ _ _ _ _ _ _ v 0 0 16 [(0, .ref a), (1, .long t)] [.long z]
  refine v_lstore_n (lv' := [(3, .long z), (0, .ref a), (1, .long t)]) C d_K_isQuietAt_16 rfl (by decide) rfl ?_
  refine v_aload_n C 1 d_K_isQuietAt_17 rfl rfl ?_
  refine v_get C k_K h0 3 (by decide) tw_130 (fun _ h => h) rfl d_K_isQuietAt_18 ?_
  refine v_aload_n C 1 d_K_isQuietAt_21 rfl rfl ?_
  refine v_get C k_K h0 4 (by decide) tw_132 (fun _ h => h) rfl d_K_isQuietAt_22 ?_
  refine v_icmp_gt C 54 d_K_isQuietAt_25 (by decide) (fun c_25 => ?_) (fun c_25 => ?_)
  · refine v_lload_n C 0 d_K_isQuietAt_54 rfl rfl ?_
    refine v_aload_n C 1 d_K_isQuietAt_55 rfl rfl ?_
    refine v_get C k_K h0 3 (by decide) tw_130 (fun _ h => h) rfl d_K_isQuietAt_56 ?_
    refine v_i2l (y := (Int32.toInt64 qf)) C d_K_isQuietAt_59 rfl ?_
    refine v_lcmp C d_K_isQuietAt_60 ?_
    refine v_if_ge C 74 d_K_isQuietAt_61 (by decide) (fun c_61 => ?_) (fun c_61 => ?_)
    · refine v_iconst (x := 1) C d_K_isQuietAt_74 (by decide) ?_
      refine v_goto C 79 d_K_isQuietAt_75 (by decide) ?_
      exact v_zret C d_K_isQuietAt_79 (by first | exact Nat.le_of_ble_eq_true rfl | (show _ ≤ _; omega)) (by first | exact Nat.le_of_ble_eq_true rfl | (show _ ≤ _; omega)) (by decide) (Or.inl ⟨rfl, rfl, (by simp only [kqu, lc_lt, lc_ge, lc_gt, lc_le, i64_toInt] at *; (try simp only [Int32.lt_iff_toInt_lt, Int32.le_iff_toInt_le] at *); rw [← hz]; omega)⟩)
    · refine v_lload_n C 0 d_K_isQuietAt_64 rfl rfl ?_
      refine v_aload_n C 1 d_K_isQuietAt_65 rfl rfl ?_
      refine v_get C k_K h0 4 (by decide) tw_132 (fun _ h => h) rfl d_K_isQuietAt_66 ?_
      refine v_i2l (y := (Int32.toInt64 qu)) C d_K_isQuietAt_69 rfl ?_
      refine v_lcmp C d_K_isQuietAt_70 ?_
      refine v_if_ge C 78 d_K_isQuietAt_71 (by decide) (fun c_71 => ?_) (fun c_71 => ?_)
      · refine v_iconst (x := 0) C d_K_isQuietAt_78 (by decide) ?_
        exact v_zret C d_K_isQuietAt_79 (by first | exact Nat.le_of_ble_eq_true rfl | (show _ ≤ _; omega)) (by first | exact Nat.le_of_ble_eq_true rfl | (show _ ≤ _; omega)) (by decide) (Or.inr ⟨rfl, rfl, (by simp only [kqu, lc_lt, lc_ge, lc_gt, lc_le, i64_toInt] at *; (try simp only [Int32.lt_iff_toInt_lt, Int32.le_iff_toInt_le] at *); rw [← hz]; omega)⟩)
      · refine v_iconst (x := 1) C d_K_isQuietAt_74 (by decide) ?_
        refine v_goto C 79 d_K_isQuietAt_75 (by decide) ?_
        exact v_zret C d_K_isQuietAt_79 (by first | exact Nat.le_of_ble_eq_true rfl | (show _ ≤ _; omega)) (by first | exact Nat.le_of_ble_eq_true rfl | (show _ ≤ _; omega)) (by decide) (Or.inl ⟨rfl, rfl, (by simp only [kqu, lc_lt, lc_ge, lc_gt, lc_le, i64_toInt] at *; (try simp only [Int32.lt_iff_toInt_lt, Int32.le_iff_toInt_le] at *); rw [← hz]; omega)⟩)
  · refine v_lload_n C 0 d_K_isQuietAt_28 rfl rfl ?_
    refine v_aload_n C 1 d_K_isQuietAt_29 rfl rfl ?_
    refine v_get C k_K h0 3 (by decide) tw_130 (fun _ h => h) rfl d_K_isQuietAt_30 ?_
    refine v_i2l (y := (Int32.toInt64 qf)) C d_K_isQuietAt_33 rfl ?_
    refine v_lcmp C d_K_isQuietAt_34 ?_
    refine v_if_lt C 52 d_K_isQuietAt_35 (by decide) (fun c_35 => ?_) (fun c_35 => ?_)
    · refine v_iconst (x := 0) C d_K_isQuietAt_52 (by decide) ?_
      exact v_zret C d_K_isQuietAt_53 (by first | exact Nat.le_of_ble_eq_true rfl | (show _ ≤ _; omega)) (by first | exact Nat.le_of_ble_eq_true rfl | (show _ ≤ _; omega)) (by decide) (Or.inr ⟨rfl, rfl, (by simp only [kqu, lc_lt, lc_ge, lc_gt, lc_le, i64_toInt] at *; (try simp only [Int32.lt_iff_toInt_lt, Int32.le_iff_toInt_le] at *); rw [← hz]; omega)⟩)
    · refine v_lload_n C 0 d_K_isQuietAt_38 rfl rfl ?_
      refine v_aload_n C 1 d_K_isQuietAt_39 rfl rfl ?_
      refine v_get C k_K h0 4 (by decide) tw_132 (fun _ h => h) rfl d_K_isQuietAt_40 ?_
      refine v_i2l (y := (Int32.toInt64 qu)) C d_K_isQuietAt_43 rfl ?_
      refine v_lcmp C d_K_isQuietAt_44 ?_
      refine v_if_ge C 52 d_K_isQuietAt_45 (by decide) (fun c_45 => ?_) (fun c_45 => ?_)
      · refine v_iconst (x := 0) C d_K_isQuietAt_52 (by decide) ?_
        exact v_zret C d_K_isQuietAt_53 (by first | exact Nat.le_of_ble_eq_true rfl | (show _ ≤ _; omega)) (by first | exact Nat.le_of_ble_eq_true rfl | (show _ ≤ _; omega)) (by decide) (Or.inr ⟨rfl, rfl, (by simp only [kqu, lc_lt, lc_ge, lc_gt, lc_le, i64_toInt] at *; (try simp only [Int32.lt_iff_toInt_lt, Int32.le_iff_toInt_le] at *); rw [← hz]; omega)⟩)
      · refine v_iconst (x := 1) C d_K_isQuietAt_48 (by decide) ?_
        refine v_goto C 53 d_K_isQuietAt_49 (by decide) ?_
        exact v_zret C d_K_isQuietAt_53 (by first | exact Nat.le_of_ble_eq_true rfl | (show _ ≤ _; omega)) (by first | exact Nat.le_of_ble_eq_true rfl | (show _ ≤ _; omega)) (by decide) (Or.inl ⟨rfl, rfl, (by simp only [kqu, lc_lt, lc_ge, lc_gt, lc_le, i64_toInt] at *; (try simp only [Int32.lt_iff_toInt_lt, Int32.le_iff_toInt_le] at *); rw [← hz]; omega)⟩)
set_option maxHeartbeats 4000000 in
set_option maxRecDepth 100000 in
theorem lp_K_clear {p : Program} {l : Launch} {e : Env} {R : Room} {s : State} {m : MethodId} {args : Array Value} {below : List Frame} {meth : Method} {c : Code} {Q : State → Prop} {G : vv_G} {v0 : vv_V} {kc ks : Nat} {a : Nat} {num lang zone qf qu : Int32} {lw : Int64} {mt0 : Int32} {oa : Nat} {g : Nat → Int32} {kd : Nat} (C : vC p s m args meth c b_K_clearWishes 3 none "CustomerNotices$Customer" G) (hkd : kd ≤ 7) (hRm : 3 ≤ R.frames ∧ 68 ≤ R.locals) (hRc : kc ≤ R.cells ∧ ks ≤ R.slots) (kx : ∀ v : vv_V, v 0 a = some (vk num lang zone qf qu lw mt0 oa) → v 50 oa = some (va32 G 32 (kclr g (kd * 4) 4)) → vkp (fun k x => k = 50 ∧ x = oa) v0 v → vV p l e R s m args below meth c Q G 3 v kc ks 20 [(2, .int (nI 4)), (0, .ref a), (1, .int (nI kd))] []) : ∀ (n : Nat) (j : Nat) (v : vv_V), j ≤ 4 → 5 ≤ j + n → v 0 a = some (vk num lang zone qf qu lw mt0 oa) → v 50 oa = some (va32 G 32 (kclr g (kd * 4) j)) → vkp (fun k x => k = 50 ∧ x = oa) v0 v → vV p l e R s m args below meth c Q G 3 v kc ks 2 [(2, .int (nI j)), (0, .ref a), (1, .int (nI kd))] [] := by
  intro n
  induction n with
  | zero => intro j v hj1 hj2 hA0 hO0 hk0; exfalso; omega
  | succ n ih =>
    intro j v hj1 hj2 hA0 hO0 hk0
    refine v_iload_n C 0 d_K_clearWishes_2 rfl rfl ?_
    refine v_iconst (x := 4) C d_K_clearWishes_3 (by decide) ?_
    refine v_icmp_ge C 20 d_K_clearWishes_4 (by decide) (fun c_4 => ?_) (fun c_4 => ?_)
    · have n_4 : 4 ≤ j := (nI_leI (a := 4) (b := j) (by omega) (by omega)).mp c_4
      have hj4 : j = 4 := by omega
      subst hj4
      exact kx v hA0 hO0 hk0
    · have n_4 : ¬ 4 ≤ j := mt (nI_leI (a := 4) (b := j) (by omega) (by omega)).mpr c_4
      refine v_aload_n C 1 d_K_clearWishes_7 rfl rfl ?_
      refine v_iload_n C 2 d_K_clearWishes_8 rfl rfl ?_
      refine v_iload_n C 0 d_K_clearWishes_9 rfl rfl ?_
      refine v_iconst (x := -1) C d_K_clearWishes_10 (by decide) ?_
      refine v_callV (rest := []) C (c_K_setOrder l G v a num lang zone qf qu lw mt0 oa _ kd j (-1) hA0 hO0 hkd (by omega)) tw_240 tw_35 tw_447 tw_238 tw_239 mn_K_setOrder hA0 k_K.1 ⟨Nat.le_trans (Nat.le_of_ble_eq_true rfl) hRm.1, Nat.le_trans (Nat.le_of_ble_eq_true rfl) hRm.2⟩ rfl rfl (Nat.le_of_ble_eq_true rfl) d_K_clearWishes_11 ⟨hRc.1, hRc.2⟩ (fun r_1 v_2 hp_3 => ?_)
      obtain ⟨rfl, hv9⟩ := hp_3
      have hA : v_2 0 a = some (vk num lang zone qf qu lw mt0 oa) := by rw [hv9]; exact (vv_up_k _ _ _ _ (by decide)).trans hA0
      have hO : v_2 50 oa = some (va32 G 32 (kclr g (kd * 4) (j + 1))) := by rw [hv9]; exact vv_up_s _ _ _ _
      have hK : vkp (fun k x => k = 50 ∧ x = oa) v0 v_2 := by rw [hv9]; exact hk0.up ⟨rfl, rfl⟩
      show vV _ _ _ _ _ _ _ _ _ _ _ _ _ v_2 kc ks 14 [(2, .int (nI j)), (0, .ref a), (1, .int (nI kd))] []
      refine v_iinc (y := (nI (j + 1))) (lv' := [(2, .int (nI (j + 1))), (0, .ref a), (1, .int (nI kd))]) C 0 d_K_clearWishes_14 rfl (nI_1 _) (by decide) rfl ?_
      refine v_goto C 2 d_K_clearWishes_17 (by decide) ?_
      refine v_sub [0, 1, 2] rfl ?_
      exact ih (j + 1) v_2 (by omega) (by omega) hA hO hK
set_option maxHeartbeats 4000000 in
set_option maxRecDepth 100000 in
theorem c_K_clearWishes (l : Launch) (G : vv_G) (v : vv_V) (a : Nat) (num lang zone qf qu : Int32) (lw : Int64) (mt0 : Int32) (oa : Nat) (g : Nat → Int32) (kd : Nat) (h0 : v 0 a = some (vk num lang zone qf qu lw mt0 oa)) (h1 : v 50 oa = some (va32 G 32 g)) (hkd : kd ≤ 7) : Mv l y_K_clearWishes b_K_clearWishes 3 none 3 68 G v [.ref a, .int (nI kd)] (fun r v' => r = none ∧ v' 0 a = some (vk num lang zone qf qu lw mt0 oa) ∧ v' 50 oa = some (va32 G 32 (kclr g (kd * 4) 4)) ∧ vkp (fun k x => k = 50 ∧ x = oa) v v') 0 0 := by
  refine vv_metF (own := "CustomerNotices$Customer") (nm := "clearWishes") pf_K_clearWishes rfl rfl (Nat.le_of_ble_eq_true rfl) ?_
  intro p e s m below meth c C hin
  show vV _ _ _ _ _ _ _ _ _ _ _ _ _ v 0 0 0 [(0, .ref a), (1, .int (nI kd))] []
  refine v_iconst (x := 0) C d_K_clearWishes_0 (by decide) ?_
  refine v_istore_n (lv' := [(2, .int 0), (0, .ref a), (1, .int (nI kd))]) C d_K_clearWishes_1 rfl (by decide) rfl ?_
  refine v_sub [0, 1, 2] rfl ?_
  refine lp_K_clear (g := g) (v0 := v) C hkd ⟨Nat.le_of_ble_eq_true rfl, Nat.le_of_ble_eq_true rfl⟩ ⟨Nat.le_refl _, Nat.le_refl _⟩ (fun va hA hO hK => ?_) 5 0 v (by omega) (by omega) h0 h1 vkp.rf
  exact v_vret C d_K_clearWishes_20 (by first | exact Nat.le_of_ble_eq_true rfl | (show _ ≤ _; omega)) (by first | exact Nat.le_of_ble_eq_true rfl | (show _ ≤ _; omega)) ⟨rfl, hA, hO, hK⟩
set_option maxHeartbeats 4000000 in
set_option maxRecDepth 100000 in
theorem lp_K_init {p : Program} {l : Launch} {e : Env} {R : Room} {s : State} {m : MethodId} {args : Array Value} {below : List Frame} {meth : Method} {c : Code} {Q : State → Prop} {G : vv_G} {v0 : vv_V} {kc ks : Nat} {a : Nat} {num lang zone : Int32} {oa : Nat} (C : vC p s m args meth c b_K_init 5 none "CustomerNotices$Customer" G)  (kx : ∀ v : vv_V, v 0 a = some (vk num lang zone 0 0 0 0 oa) → v 50 oa = some (va32 G 32 (kfil (fun _ => 0) 32)) → vkp (fun k x => (k = 0 ∧ x = a) ∨ (k = 50 ∧ x = oa)) v0 v → vV p l e R s m args below meth c Q G 5 v kc ks 54 [(4, .int (nI 32)), (0, .ref a), (1, .int num), (2, .int lang), (3, .int zone)] []) : ∀ (n : Nat) (j : Nat) (v : vv_V), j ≤ 32 → 33 ≤ j + n → v 0 a = some (vk num lang zone 0 0 0 0 oa) → v 50 oa = some (va32 G 32 (kfil (fun _ => 0) j)) → vkp (fun k x => (k = 0 ∧ x = a) ∨ (k = 50 ∧ x = oa)) v0 v → vV p l e R s m args below meth c Q G 5 v kc ks 30 [(4, .int (nI j)), (0, .ref a), (1, .int num), (2, .int lang), (3, .int zone)] [] := by
  intro n
  induction n with
  | zero => intro j v hj1 hj2 hA0 hO0 hk0; exfalso; omega
  | succ n ih =>
    intro j v hj1 hj2 hA0 hO0 hk0
    refine v_iload C 0 d_K_init_30 rfl ?_
    refine v_aload_n C 1 d_K_init_32 rfl rfl ?_
    refine v_get C k_K hA0 7 (by decide) tw_135 (fun _ h => h) rfl d_K_init_33 ?_
    refine v_alen (z := 32) C 50 0 hO0 rfl rfl d_K_init_36 ?_
    refine v_icmp_ge C 54 d_K_init_37 (by decide) (fun c_37 => ?_) (fun c_37 => ?_)
    · have n_37 : 32 ≤ j := (nI_leI (a := 32) (b := j) (by omega) (by omega)).mp c_37
      have hj4 : j = 32 := by omega
      subst hj4
      exact kx v hA0 hO0 hk0
    · have n_37 : ¬ 32 ≤ j := mt (nI_leI (a := 32) (b := j) (by omega) (by omega)).mpr c_37
      refine v_aload_n C 1 d_K_init_40 rfl rfl ?_
      refine v_get C k_K hA0 7 (by decide) tw_135 (fun _ h => h) rfl d_K_init_41 ?_
      refine v_iload C 0 d_K_init_44 rfl ?_
      refine v_iconst (x := -1) C d_K_init_46 (by decide) ?_
      refine v_iastN C hO0 (by omega) (by omega) d_K_init_47 ?_
      refine v_view (fun v1 ev1 => ?_)
      have he_1 : v1 0 a = some (.inr (0, [.int num, .int lang, .int zone, .int 0, .int 0, .long 0, .int 0, .ref oa])) := by rw [ev1]; exact (vv_up_k _ _ _ _ (by decide)).trans hA0
      have he_2 : v1 50 oa = some (.inl (G.2.2.2.2 0, 32, .inl (upd (kfil (fun _ => 0) j) j (-1)))) := by rw [ev1]; exact vv_up_s _ _ _ _
      refine v_iinc (y := (nI (j + 1))) (lv' := [(4, .int (nI (j + 1))), (0, .ref a), (1, .int num), (2, .int lang), (3, .int zone)]) C 0 d_K_init_48 rfl (nI_1 _) (by decide) rfl ?_
      refine v_goto C 30 d_K_init_51 (by decide) ?_
      refine v_sub [0, 1, 2, 3, 4] rfl ?_
      exact ih (j + 1) v1 (by omega) (by omega) he_1 he_2 (by rw [ev1]; exact hk0.up (Or.inr ⟨rfl, rfl⟩))
set_option maxHeartbeats 4000000 in
set_option maxRecDepth 100000 in
theorem c_K_init (l : Launch) (G : vv_G) (v : vv_V) (a : Nat) (num lang zone : Int32) (h0 : v 0 a = some (.inr (0, [.int 0, .int 0, .int 0, .int 0, .int 0, .long 0, .int 0, .null]))) : Mv l y_K_init b_K_init 5 none 1 12 G v [.ref a, .int num, .int lang, .int zone] (fun r v' => ∃ q, r = none ∧ (∀ k, v k q = none) ∧ v' 0 a = some (vk num lang zone 0 0 0 0 q) ∧ v' 50 q = some (va32 G 32 (kfil (fun _ => 0) 32)) ∧ vkp (fun k x => k = 0 ∧ x = a) v v') 1 32 := by
  refine vv_metF (own := "CustomerNotices$Customer") (nm := "<init>") pf_K_init rfl rfl (Nat.le_of_ble_eq_true rfl) ?_
  intro p e s m below meth c C hin
  have hk : vkp (fun k x => k = 0 ∧ x = a) v v := vkp.rf
  show vV _ _ _ _ _ _ _ _ _ _ _ _ _ v 0 0 0 [(0, .ref a), (1, .int num), (2, .int lang), (3, .int zone)] []
  refine v_aload_n C 0 d_K_init_0 rfl rfl ?_
  refine v_objInit C tw_123 tw_50 tw_obj d_K_init_1 (Nat.le_of_ble_eq_true rfl) (Nat.le_of_ble_eq_true rfl) ?_
  refine v_aload_n C 0 d_K_init_4 rfl rfl ?_
  refine v_iload_n C 1 d_K_init_5 rfl rfl ?_
  refine v_putF C hin k_K h0 0 (by decide) tw_124 (fun _ h => h) rfl rfl rfl rfl (Nat.le_of_ble_eq_true rfl) d_K_init_6 ?_
  refine v_view (fun v1 ev1 => ?_)
  have he_1 : v1 0 a = some (.inr (0, [.int num, .int 0, .int 0, .int 0, .int 0, .long 0, .int 0, .null])) := by rw [ev1]; exact vv_up_s _ _ _ _
  have hkv1 : vkp (fun k x => k = 0 ∧ x = a) v v1 := by rw [ev1]; exact hk.up (⟨rfl, rfl⟩)
  refine v_aload_n C 0 d_K_init_9 rfl rfl ?_
  refine v_iload_n C 2 d_K_init_10 rfl rfl ?_
  refine v_putF C hin k_K he_1 1 (by decide) tw_126 (fun _ h => h) rfl rfl rfl rfl (Nat.le_of_ble_eq_true rfl) d_K_init_11 ?_
  refine v_view (fun v2 ev2 => ?_)
  have he_2 : v2 0 a = some (.inr (0, [.int num, .int lang, .int 0, .int 0, .int 0, .long 0, .int 0, .null])) := by rw [ev2]; exact vv_up_s _ _ _ _
  have hkv2 : vkp (fun k x => k = 0 ∧ x = a) v v2 := by rw [ev2]; exact hkv1.up (⟨rfl, rfl⟩)
  refine v_aload_n C 0 d_K_init_14 rfl rfl ?_
  refine v_iload_n C 3 d_K_init_15 rfl rfl ?_
  refine v_putF C hin k_K he_2 2 (by decide) tw_128 (fun _ h => h) rfl rfl rfl rfl (Nat.le_of_ble_eq_true rfl) d_K_init_16 ?_
  refine v_view (fun v3 ev3 => ?_)
  have he_3 : v3 0 a = some (.inr (0, [.int num, .int lang, .int zone, .int 0, .int 0, .long 0, .int 0, .null])) := by rw [ev3]; exact vv_up_s _ _ _ _
  have hkv3 : vkp (fun k x => k = 0 ∧ x = a) v v3 := by rw [ev3]; exact hkv2.up (⟨rfl, rfl⟩)
  refine v_aload_n C 0 d_K_init_19 rfl rfl ?_
  refine v_bipush (x := 32) C d_K_init_20 (by decide) ?_
  refine v_newai (n := 32) C (by decide) (by decide) (by decide) (by first | exact Nat.le_of_ble_eq_true rfl | (dsimp only; omega)) (by first | exact Nat.le_of_ble_eq_true rfl | (dsimp only; omega)) d_K_init_22 (fun q_4 hfr_5 => ?_)
  have hfz : ∀ k, v k q_4 = none := fun k => by cases hz : v k q_4 with | none => rfl | some e => exact absurd (hkv3 k q_4 e (fun z => by have y9 := hfr_5 0; rw [z.2, he_3] at y9; cases y9) hz) (by rw [hfr_5 k]; exact fun z => by cases z)
  refine v_cs (kc' := 1) (ks' := 32) rfl rfl ?_
  refine v_view (fun v4 ev4 => ?_)
  have he_6 : v4 0 a = some (.inr (0, [.int num, .int lang, .int zone, .int 0, .int 0, .long 0, .int 0, .null])) := by rw [ev4]; exact (vv_up_a _ _ _ _ (fun z => by subst z; have y := hfr_5 0; rw [he_3] at y; cases y)).trans he_3
  have he_7 : v4 50 q_4 = some (.inl (G.2.2.2.2 0, 32, .inl (fun _ => 0))) := by rw [ev4]; exact vv_up_s _ _ _ _
  have hkv4 : vkp (fun k x => k = 0 ∧ x = a) v v4 := by rw [ev4]; exact hkv3.nu hfr_5
  refine v_putF C hin k_K he_6 7 (by decide) tw_135 (fun _ h => h) rfl rfl rfl rfl (Nat.le_of_ble_eq_true rfl) d_K_init_24 ?_
  refine v_view (fun v5 ev5 => ?_)
  have he_8 : v5 0 a = some (.inr (0, [.int num, .int lang, .int zone, .int 0, .int 0, .long 0, .int 0, .ref q_4])) := by rw [ev5]; exact vv_up_s _ _ _ _
  have he_9 : v5 50 q_4 = some (.inl (G.2.2.2.2 0, 32, .inl (fun _ => 0))) := by rw [ev5]; exact (vv_up_k _ _ _ _ (by decide)).trans he_7
  have hkv5 : vkp (fun k x => k = 0 ∧ x = a) v v5 := by rw [ev5]; exact hkv4.up (⟨rfl, rfl⟩)
  refine v_iconst (x := 0) C d_K_init_27 (by decide) ?_
  refine v_istore (lv' := [(4, .int 0), (0, .ref a), (1, .int num), (2, .int lang), (3, .int zone)]) C d_K_init_28 (by decide) rfl ?_
  refine v_sub [0, 1, 2, 3, 4] rfl ?_
  refine lp_K_init (oa := q_4) (v0 := v5) C (fun va hA hO hK => ?_) 33 0 v5 (by omega) (by omega) he_8 he_9 vkp.rf
  exact v_vret C d_K_init_54 (by first | exact Nat.le_of_ble_eq_true rfl | (show _ ≤ _; omega)) (by first | exact Nat.le_of_ble_eq_true rfl | (show _ ≤ _; omega)) ⟨q_4, rfl, hfz, hA, hO, (fun k x e hx h => hK k x e (fun z => by rcases z with z | z; exact hx z; have y9 := hfz k; rw [← z.2, h] at y9; cases y9) (hkv5 k x e hx h))⟩
set_option maxHeartbeats 4000000 in
set_option maxRecDepth 100000 in
theorem c_I_init (l : Launch) (G : vv_G) (v : vv_V) (a : Nat) (cu it : Int32) (h0 : v 1 a = some (vi 0 0 0 none)) : Mv l y_I_init b_I_init 3 none 1 12 G v [.ref a, .int cu, .int it] (fun r v' => r = none ∧ v' 1 a = some (vi cu it 0 none) ∧ vkp (fun k x => k = 1 ∧ x = a) v v') 0 0 := by
  refine vv_metF (own := "CustomerNotices$Item") (nm := "<init>") pf_I_init rfl rfl (Nat.le_of_ble_eq_true rfl) ?_
  intro p e s m below meth c C hin
  have hk : vkp (fun k x => k = 1 ∧ x = a) v v := vkp.rf
  show vV _ _ _ _ _ _ _ _ _ _ _ _ _ v 0 0 0 [(0, .ref a), (1, .int cu), (2, .int it)] []
  refine v_aload_n C 0 d_I_init_0 rfl rfl ?_
  refine v_objInit C tw_299 tw_50 tw_obj d_I_init_1 (Nat.le_of_ble_eq_true rfl) (Nat.le_of_ble_eq_true rfl) ?_
  refine v_aload_n C 0 d_I_init_4 rfl rfl ?_
  refine v_iload_n C 1 d_I_init_5 rfl rfl ?_
  refine v_putF C hin k_I h0 0 (by decide) tw_300 (fun _ h => h) rfl rfl rfl rfl (Nat.le_of_ble_eq_true rfl) d_I_init_6 ?_
  refine v_view (fun v1 ev1 => ?_)
  have he_1 : v1 1 a = some (.inr (1, [.int cu, .int 0, .int 0, .null])) := by rw [ev1]; exact vv_up_s _ _ _ _
  have hkv1 : vkp (fun k x => k = 1 ∧ x = a) v v1 := by rw [ev1]; exact hk.up (⟨rfl, rfl⟩)
  refine v_aload_n C 0 d_I_init_9 rfl rfl ?_
  refine v_iload_n C 2 d_I_init_10 rfl rfl ?_
  refine v_putF C hin k_I he_1 1 (by decide) tw_302 (fun _ h => h) rfl rfl rfl rfl (Nat.le_of_ble_eq_true rfl) d_I_init_11 ?_
  refine v_view (fun v2 ev2 => ?_)
  have he_2 : v2 1 a = some (.inr (1, [.int cu, .int it, .int 0, .null])) := by rw [ev2]; exact vv_up_s _ _ _ _
  have hkv2 : vkp (fun k x => k = 1 ∧ x = a) v v2 := by rw [ev2]; exact hkv1.up (⟨rfl, rfl⟩)
  exact v_vret C d_I_init_14 (by first | exact Nat.le_of_ble_eq_true rfl | (show _ ≤ _; omega)) (by first | exact Nat.le_of_ble_eq_true rfl | (show _ ≤ _; omega)) ⟨rfl, he_2, hkv2⟩
set_option maxHeartbeats 4000000 in
set_option maxRecDepth 100000 in
theorem c_N_init (l : Launch) (G : vv_G) (v : vv_V) (a : Nat) (num : Int32) (ow : Nat) (item kind : Int32) (time : Int64) (h0 : v 2 a = some (.inr (2, [.int 0, .null, .int 0, .int 0, .long 0, .int 0, .long 0, .int 0, .int 0, .int 0, .int 0, .long 0]))) : Mv l y_N_init b_N_init 7 none 1 12 G v [.ref a, .int num, .ref ow, .int item, .int kind, .long time] (fun r v' => r = none ∧ v' 2 a = some (vn num ow item kind time 0 (-1) 0 0 0 0 0) ∧ vkp (fun k x => k = 2 ∧ x = a) v v') 0 0 := by
  refine vv_metF (own := "CustomerNotices$Notice") (nm := "<init>") pf_N_init rfl rfl (Nat.le_of_ble_eq_true rfl) ?_
  intro p e s m below meth c C hin
  have hk : vkp (fun k x => k = 2 ∧ x = a) v v := vkp.rf
  show vV _ _ _ _ _ _ _ _ _ _ _ _ _ v 0 0 0 [(0, .ref a), (1, .int num), (2, .ref ow), (3, .int item), (4, .int kind), (5, .long time)] []
  refine v_aload_n C 0 d_N_init_0 rfl rfl ?_
  refine v_objInit C tw_324 tw_50 tw_obj d_N_init_1 (Nat.le_of_ble_eq_true rfl) (Nat.le_of_ble_eq_true rfl) ?_
  refine v_aload_n C 0 d_N_init_4 rfl rfl ?_
  refine v_iload_n C 1 d_N_init_5 rfl rfl ?_
  refine v_putF C hin k_N h0 0 (by decide) tw_326 (fun _ h => h) rfl rfl rfl rfl (Nat.le_of_ble_eq_true rfl) d_N_init_6 ?_
  refine v_view (fun v1 ev1 => ?_)
  have he_1 : v1 2 a = some (.inr (2, [.int num, .null, .int 0, .int 0, .long 0, .int 0, .long 0, .int 0, .int 0, .int 0, .int 0, .long 0])) := by rw [ev1]; exact vv_up_s _ _ _ _
  have hkv1 : vkp (fun k x => k = 2 ∧ x = a) v v1 := by rw [ev1]; exact hk.up (⟨rfl, rfl⟩)
  refine v_aload_n C 0 d_N_init_9 rfl rfl ?_
  refine v_aload_n C 2 d_N_init_10 rfl rfl ?_
  refine v_putF C hin k_N he_1 1 (by decide) tw_328 (fun _ h => h) rfl rfl rfl rfl (Nat.le_of_ble_eq_true rfl) d_N_init_11 ?_
  refine v_view (fun v2 ev2 => ?_)
  have he_2 : v2 2 a = some (.inr (2, [.int num, .ref ow, .int 0, .int 0, .long 0, .int 0, .long 0, .int 0, .int 0, .int 0, .int 0, .long 0])) := by rw [ev2]; exact vv_up_s _ _ _ _
  have hkv2 : vkp (fun k x => k = 2 ∧ x = a) v v2 := by rw [ev2]; exact hkv1.up (⟨rfl, rfl⟩)
  refine v_aload_n C 0 d_N_init_14 rfl rfl ?_
  refine v_iload_n C 3 d_N_init_15 rfl rfl ?_
  refine v_putF C hin k_N he_2 2 (by decide) tw_330 (fun _ h => h) rfl rfl rfl rfl (Nat.le_of_ble_eq_true rfl) d_N_init_16 ?_
  refine v_view (fun v3 ev3 => ?_)
  have he_3 : v3 2 a = some (.inr (2, [.int num, .ref ow, .int item, .int 0, .long 0, .int 0, .long 0, .int 0, .int 0, .int 0, .int 0, .long 0])) := by rw [ev3]; exact vv_up_s _ _ _ _
  have hkv3 : vkp (fun k x => k = 2 ∧ x = a) v v3 := by rw [ev3]; exact hkv2.up (⟨rfl, rfl⟩)
  refine v_aload_n C 0 d_N_init_19 rfl rfl ?_
  refine v_iload C 4 d_N_init_20 rfl ?_
  refine v_putF C hin k_N he_3 3 (by decide) tw_332 (fun _ h => h) rfl rfl rfl rfl (Nat.le_of_ble_eq_true rfl) d_N_init_22 ?_
  refine v_view (fun v4 ev4 => ?_)
  have he_4 : v4 2 a = some (.inr (2, [.int num, .ref ow, .int item, .int kind, .long 0, .int 0, .long 0, .int 0, .int 0, .int 0, .int 0, .long 0])) := by rw [ev4]; exact vv_up_s _ _ _ _
  have hkv4 : vkp (fun k x => k = 2 ∧ x = a) v v4 := by rw [ev4]; exact hkv3.up (⟨rfl, rfl⟩)
  refine v_aload_n C 0 d_N_init_25 rfl rfl ?_
  refine v_lload C 5 d_N_init_26 rfl ?_
  refine v_putF C hin k_N he_4 4 (by decide) tw_334 (fun _ h => h) rfl rfl rfl rfl (Nat.le_of_ble_eq_true rfl) d_N_init_28 ?_
  refine v_view (fun v5 ev5 => ?_)
  have he_5 : v5 2 a = some (.inr (2, [.int num, .ref ow, .int item, .int kind, .long time, .int 0, .long 0, .int 0, .int 0, .int 0, .int 0, .long 0])) := by rw [ev5]; exact vv_up_s _ _ _ _
  have hkv5 : vkp (fun k x => k = 2 ∧ x = a) v v5 := by rw [ev5]; exact hkv4.up (⟨rfl, rfl⟩)
  refine v_aload_n C 0 d_N_init_31 rfl rfl ?_
  refine v_iconst (x := 0) C d_N_init_32 (by decide) ?_
  refine v_put C k_N he_5 5 (by decide) tw_336 (fun _ h => h) rfl rfl rfl (Nat.le_of_ble_eq_true rfl) d_N_init_33 ?_
  refine v_view (fun v6 ev6 => ?_)
  have he_6 : v6 2 a = some (.inr (2, [.int num, .ref ow, .int item, .int kind, .long time, .int 0, .long 0, .int 0, .int 0, .int 0, .int 0, .long 0])) := by rw [ev6]; exact vv_up_s _ _ _ _
  have hkv6 : vkp (fun k x => k = 2 ∧ x = a) v v6 := by rw [ev6]; exact hkv5.up (⟨rfl, rfl⟩)
  refine v_aload_n C 0 d_N_init_36 rfl rfl ?_
  refine v_ldc2 (x := -1) C d_N_init_37 tw_325 ?_
  refine v_put C k_N he_6 6 (by decide) tw_338 (fun _ h => h) rfl rfl rfl (Nat.le_of_ble_eq_true rfl) d_N_init_40 ?_
  refine v_view (fun v7 ev7 => ?_)
  have he_7 : v7 2 a = some (.inr (2, [.int num, .ref ow, .int item, .int kind, .long time, .int 0, .long (-1), .int 0, .int 0, .int 0, .int 0, .long 0])) := by rw [ev7]; exact vv_up_s _ _ _ _
  have hkv7 : vkp (fun k x => k = 2 ∧ x = a) v v7 := by rw [ev7]; exact hkv6.up (⟨rfl, rfl⟩)
  exact v_vret C d_N_init_43 (by first | exact Nat.le_of_ble_eq_true rfl | (show _ ≤ _; omega)) (by first | exact Nat.le_of_ble_eq_true rfl | (show _ ≤ _; omega)) ⟨rfl, he_7, hkv7⟩
set_option maxHeartbeats 4000000 in
set_option maxRecDepth 100000 in
theorem c_N_isMarked (l : Launch) (G : vv_G) (v : vv_V) (a : Nat) (num : Int32) (ow : Nat) (item kind : Int32) (time : Int64) (state : Int32) (prom : Int64) (isc cor ch msg : Int32) (sent : Int64) (h0 : v 2 a = some (vn num ow item kind time state prom isc cor ch msg sent)) : Mv l y_N_isMarked b_N_isMarked 1 (some FieldType.boolean) 0 0 G v [.ref a] (fun r v' => (r = some (.int 1) ∧ v' = v ∧ (kind = 7)) ∨ (r = some (.int 0) ∧ v' = v ∧ ¬ (kind = 7))) 0 0 := by
  refine vv_metF (own := "CustomerNotices$Notice") (nm := "isMarked") pf_N_isMarked rfl rfl (Nat.le_of_ble_eq_true rfl) ?_
  intro p e s m below meth c C hin
  show vV _ _ _ _ _ _ _ _ _ _ _ _ _ v 0 0 0 [(0, .ref a)] []
  refine v_aload_n C 0 d_N_isMarked_0 rfl rfl ?_
  refine v_get C k_N h0 3 (by decide) tw_332 (fun _ h => h) rfl d_N_isMarked_1 ?_
  refine v_bipush (x := 7) C d_N_isMarked_4 (by decide) ?_
  refine v_icmp_ne C 13 d_N_isMarked_6 (by decide) (fun c_6 => ?_) (fun c_6 => ?_)
  · refine v_iconst (x := 0) C d_N_isMarked_13 (by decide) ?_
    exact v_zret C d_N_isMarked_14 (by first | exact Nat.le_of_ble_eq_true rfl | (show _ ≤ _; omega)) (by first | exact Nat.le_of_ble_eq_true rfl | (show _ ≤ _; omega)) (by decide) (Or.inr ⟨rfl, rfl, c_6⟩)
  · refine v_iconst (x := 1) C d_N_isMarked_9 (by decide) ?_
    refine v_goto C 14 d_N_isMarked_10 (by decide) ?_
    exact v_zret C d_N_isMarked_14 (by first | exact Nat.le_of_ble_eq_true rfl | (show _ ≤ _; omega)) (by first | exact Nat.le_of_ble_eq_true rfl | (show _ ≤ _; omega)) (by decide) (Or.inl ⟨rfl, rfl, c_6⟩)
set_option maxHeartbeats 4000000 in
set_option maxRecDepth 100000 in
theorem c_N_can (l : Launch) (G : vv_G) (v : vv_V) (a : Nat) (num : Int32) (ow : Nat) (item kind : Int32) (time : Int64) (state : Int32) (prom : Int64) (isc cor ch msg : Int32) (sent : Int64) (h0 : v 2 a = some (vn num ow item kind time state prom isc cor ch msg sent)) : Mv l y_N_canBeCorrected b_N_canBeCorrected 1 (some FieldType.boolean) 0 0 G v [.ref a] (fun r v' => (r = some (.int 1) ∧ v' = v ∧ ((state = 0 ∨ state = 1) ∧ cor = 0 ∧ isc = 0)) ∨ (r = some (.int 0) ∧ v' = v ∧ ¬ ((state = 0 ∨ state = 1) ∧ cor = 0 ∧ isc = 0))) 0 0 := by
  refine vv_metF (own := "CustomerNotices$Notice") (nm := "canBeCorrected") pf_N_canBeCorrected rfl rfl (Nat.le_of_ble_eq_true rfl) ?_
  intro p e s m below meth c C hin
  show vV _ _ _ _ _ _ _ _ _ _ _ _ _ v 0 0 0 [(0, .ref a)] []
  refine v_aload_n C 0 d_N_canBeCorrected_0 rfl rfl ?_
  refine v_get C k_N h0 5 (by decide) tw_336 (fun _ h => h) rfl d_N_canBeCorrected_1 ?_
  refine v_if_eq C 15 d_N_canBeCorrected_4 (by decide) (fun c_4 => ?_) (fun c_4 => ?_)
  · refine v_aload_n C 0 d_N_canBeCorrected_15 rfl rfl ?_
    refine v_get C k_N h0 8 (by decide) tw_342 (fun _ h => h) rfl d_N_canBeCorrected_16 ?_
    refine v_if_ne C 33 d_N_canBeCorrected_19 (by decide) (fun c_19 => ?_) (fun c_19 => ?_)
    · refine v_iconst (x := 0) C d_N_canBeCorrected_33 (by decide) ?_
      exact v_zret C d_N_canBeCorrected_34 (by first | exact Nat.le_of_ble_eq_true rfl | (show _ ≤ _; omega)) (by first | exact Nat.le_of_ble_eq_true rfl | (show _ ≤ _; omega)) (by decide) (Or.inr ⟨rfl, rfl, fun z => c_19 z.2.1⟩)
    · refine v_aload_n C 0 d_N_canBeCorrected_22 rfl rfl ?_
      refine v_get C k_N h0 7 (by decide) tw_340 (fun _ h => h) rfl d_N_canBeCorrected_23 ?_
      refine v_if_ne C 33 d_N_canBeCorrected_26 (by decide) (fun c_26 => ?_) (fun c_26 => ?_)
      · refine v_iconst (x := 0) C d_N_canBeCorrected_33 (by decide) ?_
        exact v_zret C d_N_canBeCorrected_34 (by first | exact Nat.le_of_ble_eq_true rfl | (show _ ≤ _; omega)) (by first | exact Nat.le_of_ble_eq_true rfl | (show _ ≤ _; omega)) (by decide) (Or.inr ⟨rfl, rfl, fun z => c_26 z.2.2⟩)
      · refine v_iconst (x := 1) C d_N_canBeCorrected_29 (by decide) ?_
        refine v_goto C 34 d_N_canBeCorrected_30 (by decide) ?_
        exact v_zret C d_N_canBeCorrected_34 (by first | exact Nat.le_of_ble_eq_true rfl | (show _ ≤ _; omega)) (by first | exact Nat.le_of_ble_eq_true rfl | (show _ ≤ _; omega)) (by decide) (Or.inl ⟨rfl, rfl, Or.inl c_4, c_19, c_26⟩)
  · refine v_aload_n C 0 d_N_canBeCorrected_7 rfl rfl ?_
    refine v_get C k_N h0 5 (by decide) tw_336 (fun _ h => h) rfl d_N_canBeCorrected_8 ?_
    refine v_iconst (x := 1) C d_N_canBeCorrected_11 (by decide) ?_
    refine v_icmp_ne C 33 d_N_canBeCorrected_12 (by decide) (fun c_12 => ?_) (fun c_12 => ?_)
    · refine v_iconst (x := 0) C d_N_canBeCorrected_33 (by decide) ?_
      exact v_zret C d_N_canBeCorrected_34 (by first | exact Nat.le_of_ble_eq_true rfl | (show _ ≤ _; omega)) (by first | exact Nat.le_of_ble_eq_true rfl | (show _ ≤ _; omega)) (by decide) (Or.inr ⟨rfl, rfl, fun z => by rcases z.1 with q | q; exact c_4 q; exact c_12 q⟩)
    · refine v_aload_n C 0 d_N_canBeCorrected_15 rfl rfl ?_
      refine v_get C k_N h0 8 (by decide) tw_342 (fun _ h => h) rfl d_N_canBeCorrected_16 ?_
      refine v_if_ne C 33 d_N_canBeCorrected_19 (by decide) (fun c_19 => ?_) (fun c_19 => ?_)
      · refine v_iconst (x := 0) C d_N_canBeCorrected_33 (by decide) ?_
        exact v_zret C d_N_canBeCorrected_34 (by first | exact Nat.le_of_ble_eq_true rfl | (show _ ≤ _; omega)) (by first | exact Nat.le_of_ble_eq_true rfl | (show _ ≤ _; omega)) (by decide) (Or.inr ⟨rfl, rfl, fun z => c_19 z.2.1⟩)
      · refine v_aload_n C 0 d_N_canBeCorrected_22 rfl rfl ?_
        refine v_get C k_N h0 7 (by decide) tw_340 (fun _ h => h) rfl d_N_canBeCorrected_23 ?_
        refine v_if_ne C 33 d_N_canBeCorrected_26 (by decide) (fun c_26 => ?_) (fun c_26 => ?_)
        · refine v_iconst (x := 0) C d_N_canBeCorrected_33 (by decide) ?_
          exact v_zret C d_N_canBeCorrected_34 (by first | exact Nat.le_of_ble_eq_true rfl | (show _ ≤ _; omega)) (by first | exact Nat.le_of_ble_eq_true rfl | (show _ ≤ _; omega)) (by decide) (Or.inr ⟨rfl, rfl, fun z => c_26 z.2.2⟩)
        · refine v_iconst (x := 1) C d_N_canBeCorrected_29 (by decide) ?_
          refine v_goto C 34 d_N_canBeCorrected_30 (by decide) ?_
          exact v_zret C d_N_canBeCorrected_34 (by first | exact Nat.le_of_ble_eq_true rfl | (show _ ≤ _; omega)) (by first | exact Nat.le_of_ble_eq_true rfl | (show _ ≤ _; omega)) (by decide) (Or.inl ⟨rfl, rfl, Or.inr c_12, c_19, c_26⟩)
set_option maxHeartbeats 4000000 in
set_option maxRecDepth 100000 in
theorem c_N_text (l : Launch) (G : vv_G) (v : vv_V) (a : Nat) (num : Int32) (ow : Nat) (item kind : Int32) (time : Int64) (state : Int32) (prom : Int64) (isc cor ch msg : Int32) (sent : Int64) (knum lang zone qf qu : Int32) (lw : Int64) (mt0 : Int32) (oa : Nat) (h0 : v 2 a = some (vn num ow item kind time state prom isc cor ch msg sent)) (hw : v 0 ow = some (vk knum lang zone qf qu lw mt0 oa)) : Mv l y_N_text b_N_text 1 (some FieldType.int) 0 0 G v [.ref a] (fun r v' => r = some (.int (32 * lang + 2 * kind + (if isc = 0 then 0 else 1))) ∧ v' = v) 0 0 := by
  refine vv_metF (own := "CustomerNotices$Notice") (nm := "text") pf_N_text rfl rfl (Nat.le_of_ble_eq_true rfl) ?_
  intro p e s m below meth c C hin
  show vV _ _ _ _ _ _ _ _ _ _ _ _ _ v 0 0 0 [(0, .ref a)] []
  refine v_bipush (x := 32) C d_N_text_0 (by decide) ?_
  refine v_aload_n C 0 d_N_text_2 rfl rfl ?_
  refine v_get C k_N h0 1 (by decide) tw_328 (fun _ h => h) rfl d_N_text_3 ?_
  refine v_get C k_K hw 1 (by decide) tw_127 (fun _ h => h) rfl d_N_text_6 ?_
  refine v_imul C d_N_text_9 ?_
  refine v_iconst (x := 2) C d_N_text_10 (by decide) ?_
  refine v_aload_n C 0 d_N_text_11 rfl rfl ?_
  refine v_get C k_N h0 3 (by decide) tw_332 (fun _ h => h) rfl d_N_text_12 ?_
  refine v_imul C d_N_text_15 ?_
  refine v_iadd C d_N_text_16 ?_
  refine v_aload_n C 0 d_N_text_17 rfl rfl ?_
  refine v_get C k_N h0 7 (by decide) tw_340 (fun _ h => h) rfl d_N_text_18 ?_
  refine v_if_eq C 28 d_N_text_21 (by decide) (fun c_21 => ?_) (fun c_21 => ?_)
  · refine v_iconst (x := 0) C d_N_text_28 (by decide) ?_
    refine v_iadd C d_N_text_29 ?_
    exact v_iret C d_N_text_30 (by first | exact Nat.le_of_ble_eq_true rfl | (show _ ≤ _; omega)) (by first | exact Nat.le_of_ble_eq_true rfl | (show _ ≤ _; omega)) ⟨(by rw [if_pos c_21]), rfl⟩
  · refine v_iconst (x := 1) C d_N_text_24 (by decide) ?_
    refine v_goto C 29 d_N_text_25 (by decide) ?_
    refine v_iadd C d_N_text_29 ?_
    exact v_iret C d_N_text_30 (by first | exact Nat.le_of_ble_eq_true rfl | (show _ ≤ _; omega)) (by first | exact Nat.le_of_ble_eq_true rfl | (show _ ≤ _; omega)) ⟨(by rw [if_neg c_21]), rfl⟩
