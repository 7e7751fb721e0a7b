theorem vkp.fr {X : Nat → Nat → Prop} {v v1 v2 : vv_V} {q kq : Nat} (h1 : vkp X v v1) (hf : ∀ k, v k q = none) (h2 : vkp (fun k x => k = kq ∧ x = q) v1 v2) : vkp X v v2 := fun k a e hx h => h2 k a e (fun z => by rw [z.2, hf] at h; cases h) (h1 k a e hx h)
theorem vkp.none {v v1 : vv_V} (h : vkp (fun _ _ => False) v v1) {q : Nat} (hf : ∀ k, v1 k q = none) (k : Nat) : v k q = none := by
  cases hv : v k q with
  | none => rfl
  | some e =>
    have := h k q e id hv
    rw [hf k] at this
    cases this
set_option maxHeartbeats 4000000 in
set_option maxRecDepth 100000 in
theorem c_C_addItem (l : Launch) (G : vv_G) (v : vv_V) (o : Nat) (la : Nat → Nat) (cw : Nat) (S : zS) (ra ea ca oa na ia : Nat → Nat) (x it : Int32) (hRC : RC G v o la cw S ra ea ca oa na ia) (hB : zc S 2 ≤ 59) : Mv l y_C_addItem b_C_addItem 4 (some (FieldType.object "CustomerNotices$Item")) 7 171 G v [.ref o, .int x, .int it] (fun r v' => ∃ ra' ea' ia', r = some (.ref (ia' (zc S 2))) ∧ RC G v' o la cw (zadI S x it) ra' ea' ca oa na ia' ∧ (∀ k, k < zc S 2 → ia' k = ia k) ∧ vkp cX v v') 2 248 := by
  refine vv_metF (own := "CustomerNotices") (nm := "addItem") pf_C_addItem rfl rfl (Nat.le_of_ble_eq_true rfl) ?_
  intro p e s m below meth c C hin
  obtain ⟨hA, ⟨gw, hW, hWj⟩, hLs, hKs, hNs, hIs, hD1, hD2, hD3, hD4⟩ := id hRC
  obtain ⟨⟨mo2, hl2⟩, hlb2, hlc2, hld2⟩ := hLs 2 (by decide)
  have hz9 := zde_le (zc S 2) (ea 2)
  show vV _ _ _ _ _ _ _ _ _ _ _ _ _ v 0 0 0 [(0, .ref o), (1, .int x), (2, .int it)] []
  refine v_new (fs := [.int 0, .int 0, .int 0, .null]) C k_I tw_279 tw_295 tw_42 (by decide) (by first | exact Nat.le_of_ble_eq_true rfl | (dsimp only; omega)) (by first | exact Nat.le_of_ble_eq_true rfl | (dsimp only; omega)) d_C_addItem_0 (fun q_1 hfr_2 => ?_)
  refine v_cs (kc' := 1) (ks' := 4) rfl rfl ?_
  refine v_view (fun v1 ev1 => ?_)
  have he_3 : v1 3 o = some (.inr (3, [.ref (la 0), .ref (la 1), .ref (la 2), .ref (la 3), .ref (la 4), .ref cw, .long (zl S 0 0), .int (zi S 1 0)])) := by rw [ev1]; exact (vv_up_a _ _ _ _ (fun z => by subst z; have y := hfr_2 3; rw [hA] at y; cases y)).trans hA
  have he_4 : v1 5 (la 2) = some (.inr (5, [.ref (ra 2), .int (nI (zc S 2)), .int mo2])) := by rw [ev1]; exact (vv_up_a _ _ _ _ (fun z => by subst z; have y := hfr_2 5; rw [hl2] at y; cases y)).trans hl2
  have he_5 : v1 1 q_1 = some (.inr (1, [.int 0, .int 0, .int 0, .null])) := by rw [ev1]; exact vv_up_s _ _ _ _
  refine v_dup C d_C_addItem_3 rfl ?_
  refine v_iload_n C 1 d_C_addItem_4 rfl rfl ?_
  refine v_iload_n C 2 d_C_addItem_5 rfl rfl ?_
  refine v_callI (rest := [.ref q_1]) C (c_I_init l G v1 q_1 x it he_5) tw_298 tw_42 tw_296 tw_297 rfl mn_I_init ⟨Nat.le_of_ble_eq_true rfl, Nat.le_of_ble_eq_true rfl⟩ rfl rfl (Nat.le_of_ble_eq_true rfl) d_C_addItem_6 ⟨(by first | exact Nat.le_of_ble_eq_true rfl | (dsimp only; omega)), (by first | exact Nat.le_of_ble_eq_true rfl | (dsimp only; omega))⟩ (fun r_6 v_7 hp_8 => ?_)
  obtain ⟨rfl, hq1, hq3⟩ := hp_8
  have hfr9 := hfr_2
  have hkF : vkp (fun _ _ => False) v v_7 := (by rw [ev1]; exact vkp.rf.nu hfr_2 : vkp (fun _ _ => False) v v1).fr hfr_2 hq3
  have he_9 : v_7 3 o = some (.inr (3, [.ref (la 0), .ref (la 1), .ref (la 2), .ref (la 3), .ref (la 4), .ref cw, .long (zl S 0 0), .int (zi S 1 0)])) := hq3 _ _ _ (by intro z; exact absurd z.1 (by decide)) he_3
  have he_10 : v_7 5 (la 2) = some (.inr (5, [.ref (ra 2), .int (nI (zc S 2)), .int mo2])) := hq3 _ _ _ (by intro z; exact absurd z.1 (by decide)) he_4
  show vV _ _ _ _ _ _ _ _ _ _ _ _ _ v_7 1 4 9 [(0, .ref o), (1, .int x), (2, .int it)] [.ref q_1]
  refine v_astore_n (lv' := [(3, .ref q_1), (0, .ref o), (1, .int x), (2, .int it)]) C d_C_addItem_9 rfl (by decide) rfl ?_
  refine v_aload_n C 1 d_C_addItem_10 rfl rfl ?_
  refine v_get C k_C he_9 2 (by decide) tw_80 (fun _ h => h) rfl d_C_addItem_11 ?_
  refine v_aload_n C 0 d_C_addItem_14 rfl rfl ?_
  refine v_callV (rest := []) C (c_AL_add l G v_7 (la 2) (ra 2) (zc S 2) (ea 2) q_1 ia _ 1 _ _ _ (show LA G v_7 (la 2) (ra 2) (zc S 2) (ea 2) ia from (hLs 2 (by decide)).keep (fun k x y _ h => hkF k x y id h) (fun _ _ => rfl)) (by omega) (by decide) (by decide) (by decide) hq1 k_I.1 tw_695 (fun i hi => ⟨_, hkF _ _ _ id (hIs i hi)⟩)) tw_157 tw_33 tw_154 tw_155 tw_156 mn_AL_add he_10 k_AL.1 ⟨Nat.le_of_ble_eq_true rfl, Nat.le_of_ble_eq_true rfl⟩ rfl rfl (Nat.le_of_ble_eq_true rfl) d_C_addItem_15 ⟨(by first | exact Nat.le_of_ble_eq_true rfl | (dsimp only; omega)), (by first | exact Nat.le_of_ble_eq_true rfl | (dsimp only; omega))⟩ (fun r_11 v_12 hp_13 => ?_)
  refine v_cs (kc' := (1 + (zde (zc S 2) (ea 2)))) (ks' := (4 + (244 * zde (zc S 2) (ea 2)))) rfl rfl ?_
  obtain ⟨rfl, arr9, hLn, harr0, hk3⟩ := hp_13
  have harr : (arr9 = ra 2 ∧ 0 < ea 2) ∨ ∀ k, v k arr9 = none := harr0.imp id (fun z => hkF.none z)
  have hkn : vkp (fun k y => (k = 5 ∧ y = la 2) ∨ (k = 53 ∧ y = ra 2 ∧ 0 < ea 2)) v v_12 := (hkF.mono (fun _ _ z => z.elim)).tr hk3
  have hqn := hk3 _ _ _ (by intro z; omega) hq1
  show vV _ _ _ _ _ _ _ _ _ _ _ _ _ v_12 (1 + (zde (zc S 2) (ea 2))) (4 + (244 * zde (zc S 2) (ea 2))) 18 [(3, .ref q_1), (0, .ref o), (1, .int x), (2, .int it)] [.int 1]
  refine v_pop C d_C_addItem_18 rfl ?_
  refine v_aload_n C 0 d_C_addItem_19 rfl rfl ?_
  exact v_aret C (Or.inl ⟨_, rfl⟩) (Or.inr ⟨_, rfl⟩) d_C_addItem_20 (by first | exact Nat.le_of_ble_eq_true rfl | (show _ ≤ _; omega)) (by first | exact Nat.le_of_ble_eq_true rfl | (show _ ≤ _; omega)) ⟨_, _, va_up ia (zc S 2) q_1, (by rw [va_up_self]), hRC.addI hLn harr hqn hfr9 hkn, (fun k hk => va_up_ne _ _ (by omega)), hkn.mono cX_l⟩
set_option maxHeartbeats 4000000 in
set_option maxRecDepth 100000 in
theorem c_C_addNotice (l : Launch) (G : vv_G) (v : vv_V) (o : Nat) (la : Nat → Nat) (cw : Nat) (S : zS) (ra ea ca oa na ia : Nat → Nat) (ow : Nat) (x it kd : Int32) (t : Int64) (hRC : RC G v o la cw S ra ea ca oa na ia) (how : ow = ca (zn x - 1)) (hN : zc S 1 ≤ 199) (hB : zB S) (hB4 : zB4 S) (hB4f : zB4f S) : Mv l y_C_addNotice b_C_addNotice 7 (some (FieldType.object "CustomerNotices$Notice")) 7 171 G v [.ref o, .ref ow, .int it, .int kd, .long t] (fun r v' => ∃ ra' ea' na', r = some (.ref (na' (zc S 1))) ∧ RC G v' o la cw (zput S x it kd t (-1) 0) ra' ea' ca oa na' ia ∧ (∀ j, j < zc S 1 → na' j = na j) ∧ vkp cX v v') 2 256 := by
  refine vv_metF (own := "CustomerNotices") (nm := "addNotice") pf_C_addNotice rfl rfl (Nat.le_of_ble_eq_true rfl) ?_
  intro p e s m below meth c C hin
  obtain ⟨hA, ⟨gw, hW, hWj⟩, hLs, hKs, hNs, hIs, hD1, hD2, hD3, hD4⟩ := id hRC
  obtain ⟨⟨mo1, hl1⟩, hlb1, hlc1, hld1⟩ := hLs 1 (by decide)
  have hz9 := zde_le (zc S 1) (ea 1)
  show vV _ _ _ _ _ _ _ _ _ _ _ _ _ v 0 0 0 [(0, .ref o), (1, .ref ow), (2, .int it), (3, .int kd), (4, .long t)] []
  refine v_new (fs := [.int 0, .null, .int 0, .int 0, .long 0, .int 0, .long 0, .int 0, .int 0, .int 0, .int 0, .long 0]) C k_N tw_319 tw_320 tw_43 (by decide) (by first | exact Nat.le_of_ble_eq_true rfl | (dsimp only; omega)) (by first | exact Nat.le_of_ble_eq_true rfl | (dsimp only; omega)) d_C_addNotice_0 (fun q_1 hfr_2 => ?_)
  refine v_cs (kc' := 1) (ks' := 12) rfl rfl ?_
  refine v_view (fun v1 ev1 => ?_)
  have he_3 : v1 3 o = some (.inr (3, [.ref (la 0), .ref (la 1), .ref (la 2), .ref (la 3), .ref (la 4), .ref cw, .long (zl S 0 0), .int (zi S 1 0)])) := by rw [ev1]; exact (vv_up_a _ _ _ _ (fun z => by subst z; have y := hfr_2 3; rw [hA] at y; cases y)).trans hA
  have he_4 : v1 5 (la 1) = some (.inr (5, [.ref (ra 1), .int (nI (zc S 1)), .int mo1])) := by rw [ev1]; exact (vv_up_a _ _ _ _ (fun z => by subst z; have y := hfr_2 5; rw [hl1] at y; cases y)).trans hl1
  have he_5 : v1 2 q_1 = some (.inr (2, [.int 0, .null, .int 0, .int 0, .long 0, .int 0, .long 0, .int 0, .int 0, .int 0, .int 0, .long 0])) := by rw [ev1]; exact vv_up_s _ _ _ _
  refine v_dup C d_C_addNotice_3 rfl ?_
  refine v_aload_n C 0 d_C_addNotice_4 rfl rfl ?_
  refine v_get C k_C he_3 1 (by decide) tw_79 (fun _ h => h) rfl d_C_addNotice_5 ?_
  refine v_callV (rest := [.ref q_1, .ref q_1]) C (c_AL_size l G v1 (la 1) (ra 1) (zc S 1) _ he_4) tw_117 tw_33 tw_114 tw_115 tw_116 mn_AL_size he_4 k_AL.1 ⟨Nat.le_of_ble_eq_true rfl, Nat.le_of_ble_eq_true rfl⟩ rfl rfl (Nat.le_of_ble_eq_true rfl) d_C_addNotice_8 ⟨(by first | exact Nat.le_of_ble_eq_true rfl | (dsimp only; omega)), (by first | exact Nat.le_of_ble_eq_true rfl | (dsimp only; omega))⟩ (fun r_6 v_7 hp_8 => ?_)
  obtain ⟨rfl, hv9⟩ := hp_8
  obtain rfl := hv9.symm
  show vV _ _ _ _ _ _ _ _ _ _ _ _ _ v1 1 12 11 [(0, .ref o), (1, .ref ow), (2, .int it), (3, .int kd), (4, .long t)] [.int (nI (zc S 1)), .ref q_1, .ref q_1]
  refine v_iconst (x := 1) C d_C_addNotice_11 (by decide) ?_
  refine v_iadd C d_C_addNotice_12 ?_
  refine v_toi (y := nI ((zc S 1) + 1)) (nI_add (zc S 1) 1) ?_
  refine v_aload_n C 1 d_C_addNotice_13 rfl rfl ?_
  refine v_iload_n C 2 d_C_addNotice_14 rfl rfl ?_
  refine v_iload_n C 3 d_C_addNotice_15 rfl rfl ?_
  refine v_lload C 4 d_C_addNotice_16 rfl ?_
  refine v_callI (rest := [.ref q_1]) C (c_N_init l G v1 q_1 _ _ _ _ _ he_5) tw_323 tw_43 tw_321 tw_322 rfl mn_N_init ⟨Nat.le_of_ble_eq_true rfl, Nat.le_of_ble_eq_true rfl⟩ rfl rfl (Nat.le_of_ble_eq_true rfl) d_C_addNotice_18 ⟨(by first | exact Nat.le_of_ble_eq_true rfl | (dsimp only; omega)), (by first | exact Nat.le_of_ble_eq_true rfl | (dsimp only; omega))⟩ (fun r_9 v_10 hp_11 => ?_)
  obtain ⟨rfl, hq1, hq3⟩ := hp_11
  have hfr9 := hfr_2
  have hkF : vkp (fun _ _ => False) v v_10 := (by rw [ev1]; exact vkp.rf.nu hfr_2 : vkp (fun _ _ => False) v v1).fr hfr_2 hq3
  have he_12 : v_10 3 o = some (.inr (3, [.ref (la 0), .ref (la 1), .ref (la 2), .ref (la 3), .ref (la 4), .ref cw, .long (zl S 0 0), .int (zi S 1 0)])) := hq3 _ _ _ (by intro z; exact absurd z.1 (by decide)) he_3
  have he_13 : v_10 5 (la 1) = some (.inr (5, [.ref (ra 1), .int (nI (zc S 1)), .int mo1])) := hq3 _ _ _ (by intro z; exact absurd z.1 (by decide)) he_4
  show vV _ _ _ _ _ _ _ _ _ _ _ _ _ v_10 1 12 21 [(0, .ref o), (1, .ref ow), (2, .int it), (3, .int kd), (4, .long t)] [.ref q_1]
  refine v_astore (lv' := [(6, .ref q_1), (0, .ref o), (1, .ref ow), (2, .int it), (3, .int kd), (4, .long t)]) C d_C_addNotice_21 (by decide) rfl ?_
  refine v_aload_n C 1 d_C_addNotice_23 rfl rfl ?_
  refine v_get C k_C he_12 1 (by decide) tw_79 (fun _ h => h) rfl d_C_addNotice_24 ?_
  refine v_aload C 0 d_C_addNotice_27 rfl ?_
  refine v_callV (rest := []) C (c_AL_add l G v_10 (la 1) (ra 1) (zc S 1) (ea 1) q_1 na _ 2 _ _ _ (show LA G v_10 (la 1) (ra 1) (zc S 1) (ea 1) na from (hLs 1 (by decide)).keep (fun k x y _ h => hkF k x y id h) (fun _ _ => rfl)) (by omega) (by decide) (by decide) (by decide) hq1 k_N.1 tw_696 (fun i hi => by obtain ⟨_, _, _, h9, _⟩ := hNs i hi; exact ⟨_, hkF _ _ _ id h9⟩)) tw_157 tw_33 tw_154 tw_155 tw_156 mn_AL_add he_13 k_AL.1 ⟨Nat.le_of_ble_eq_true rfl, Nat.le_of_ble_eq_true rfl⟩ rfl rfl (Nat.le_of_ble_eq_true rfl) d_C_addNotice_29 ⟨(by first | exact Nat.le_of_ble_eq_true rfl | (dsimp only; omega)), (by first | exact Nat.le_of_ble_eq_true rfl | (dsimp only; omega))⟩ (fun r_14 v_15 hp_16 => ?_)
  refine v_cs (kc' := (1 + (zde (zc S 1) (ea 1)))) (ks' := (12 + (244 * zde (zc S 1) (ea 1)))) rfl rfl ?_
  obtain ⟨rfl, arr9, hLn, harr0, hk3⟩ := hp_16
  have harr : (arr9 = ra 1 ∧ 0 < ea 1) ∨ ∀ k, v k arr9 = none := harr0.imp id (fun z => hkF.none z)
  have hkn : vkp (fun k y => (k = 5 ∧ y = la 1) ∨ (k = 53 ∧ y = ra 1 ∧ 0 < ea 1)) v v_15 := (hkF.mono (fun _ _ z => z.elim)).tr hk3
  have hqn := hk3 _ _ _ (by intro z; omega) hq1
  show vV _ _ _ _ _ _ _ _ _ _ _ _ _ v_15 (1 + (zde (zc S 1) (ea 1))) (12 + (244 * zde (zc S 1) (ea 1))) 32 [(6, .ref q_1), (0, .ref o), (1, .ref ow), (2, .int it), (3, .int kd), (4, .long t)] [.int 1]
  refine v_pop C d_C_addNotice_32 rfl ?_
  refine v_aload C 0 d_C_addNotice_33 rfl ?_
  exact v_aret C (Or.inl ⟨_, rfl⟩) (Or.inr ⟨_, rfl⟩) d_C_addNotice_35 (by first | exact Nat.le_of_ble_eq_true rfl | (show _ ≤ _; omega)) (by first | exact Nat.le_of_ble_eq_true rfl | (show _ ≤ _; omega)) ⟨_, _, va_up na (zc S 1) q_1, (by rw [va_up_self]), hRC.addN hB hB4 hB4f hLn harr (by rw [hqn, how]) hkn, (fun k hk => va_up_ne _ _ (by omega)), hkn.mono cX_l⟩
set_option maxHeartbeats 4000000 in
set_option maxRecDepth 100000 in
theorem c_C_customer (l : Launch) (G : vv_G) (v : vv_V) (o : Nat) (la : Nat → Nat) (cw : Nat) (S : zS) (ra ea ca oa na ia : Nat → Nat) (a b : Int32) (hRC : RC G v o la cw S ra ea ca oa na ia) (hB : zc S 0 ≤ 40) (hB2 : zB2 S) (hB8 : zB8 S) : Mv l y_C_customer b_C_customer 4 (some FieldType.int) 7 171 G v [.ref o, .int a, .int b] (fun r v' => r = some (.int (oCust S a b).1) ∧ RCe G v o la cw S oa v' (oCust S a b).2) 3 284 := by
  refine vv_metF (own := "CustomerNotices") (nm := "customer") pf_C_customer rfl rfl (Nat.le_of_ble_eq_true rfl) ?_
  intro p e s m below meth c C hin
  obtain ⟨hA, ⟨gw, hW, hWj⟩, hLs, hKs, hNs, hIs, hD1, hD2, hD3, hD4⟩ := id hRC
  obtain ⟨⟨mo0, hl0⟩, hlb0, hlc0, hld0⟩ := hLs 0 (by decide)
  have hz9 := zde_le (zc S 0) (ea 0)
  show vV _ _ _ _ _ _ _ _ _ _ _ _ _ v 0 0 0 [(0, .ref o), (1, .int a), (2, .int b)] []
  refine v_iload_n C 1 d_C_customer_0 rfl rfl ?_
  refine v_i2l (y := (Int32.toInt64 a)) C d_C_customer_1 rfl ?_
  refine v_lconst (x := 0) C d_C_customer_2 (by decide) ?_
  refine v_ldc2 (x := 9) C d_C_customer_3 tw_108 ?_
  refine v_callS (rest := []) C (c_C_isWithin l G v (Int32.toInt64 a) 0 9) tw_111 tw_30 tw_109 tw_110 mn_C_isWithin ⟨Nat.le_of_ble_eq_true rfl, Nat.le_of_ble_eq_true rfl⟩ rfl rfl (Nat.le_of_ble_eq_true rfl) d_C_customer_6 ⟨(by first | exact Nat.le_of_ble_eq_true rfl | (dsimp only; omega)), (by first | exact Nat.le_of_ble_eq_true rfl | (dsimp only; omega))⟩ (fun r_1 v_2 hp_3 => ?_)
  rcases hp_3 with ⟨rfl, hv9, hb_6⟩ | ⟨rfl, hv9, hb_6⟩
  · obtain rfl := hv9.symm
    show vV _ _ _ _ _ _ _ _ _ _ _ _ _ v 0 0 9 [(0, .ref o), (1, .int a), (2, .int b)] [.int 1]
    refine v_if_eq C 26 d_C_customer_9 (by decide) (fun z => absurd z (by decide)) (fun _ => ?_)
    refine v_iload_n C 2 d_C_customer_12 rfl rfl ?_
    refine v_i2l (y := (Int32.toInt64 b)) C d_C_customer_13 rfl ?_
    refine v_ldc2 (x := -12) C d_C_customer_14 tw_112 ?_
    refine v_ldc2 (x := 14) C d_C_customer_17 tw_113 ?_
    refine v_callS (rest := []) C (c_C_isWithin l G v (Int32.toInt64 b) (-12) 14) tw_111 tw_30 tw_109 tw_110 mn_C_isWithin ⟨Nat.le_of_ble_eq_true rfl, Nat.le_of_ble_eq_true rfl⟩ rfl rfl (Nat.le_of_ble_eq_true rfl) d_C_customer_20 ⟨(by first | exact Nat.le_of_ble_eq_true rfl | (dsimp only; omega)), (by first | exact Nat.le_of_ble_eq_true rfl | (dsimp only; omega))⟩ (fun r_4 v_5 hp_6 => ?_)
    rcases hp_6 with ⟨rfl, hv9, hb_20⟩ | ⟨rfl, hv9, hb_20⟩
    · obtain rfl := hv9.symm
      show vV _ _ _ _ _ _ _ _ _ _ _ _ _ v 0 0 23 [(0, .ref o), (1, .int a), (2, .int b)] [.int 1]
      refine v_if_ne C 29 d_C_customer_23 (by decide) (fun _ => ?_) (fun z => absurd z (by decide))
      rw [i64_toInt] at hb_6 hb_20
      have hx0 : zIn a 0 9 ∧ zIn b (-12) 14 := ⟨hb_6, hb_20⟩
      refine v_aload_n C 0 d_C_customer_29 rfl rfl ?_
      refine v_get C k_C hA 0 (by decide) tw_78 (fun _ h => h) rfl d_C_customer_30 ?_
      refine v_callV (rest := []) C (c_LA_size l G v (la 0) (ra 0) (zc S 0) (ea 0) _ (hLs 0 (by decide))) tw_117 tw_33 tw_114 tw_115 tw_116 mn_AL_size hl0 k_AL.1 ⟨Nat.le_of_ble_eq_true rfl, Nat.le_of_ble_eq_true rfl⟩ rfl rfl (Nat.le_of_ble_eq_true rfl) d_C_customer_33 ⟨(by first | exact Nat.le_of_ble_eq_true rfl | (dsimp only; omega)), (by first | exact Nat.le_of_ble_eq_true rfl | (dsimp only; omega))⟩ (fun r_7 v_8 hp_9 => ?_)
      obtain ⟨rfl, hv9⟩ := hp_9
      obtain rfl := hv9.symm
      show vV _ _ _ _ _ _ _ _ _ _ _ _ _ v 0 0 36 [(0, .ref o), (1, .int a), (2, .int b)] [.int (nI (zc S 0))]
      refine v_bipush (x := 40) C d_C_customer_36 (by decide) ?_
      refine v_icmp_lt C 44 d_C_customer_38 (by decide) (fun c_38 => ?_) (fun c_38 => ?_)
      · have n_38 : (zc S 0) < 40 := (nI_ltI (a := (zc S 0)) (b := 40) (by omega) (by omega)).mp c_38
        refine v_aload_n C 0 d_C_customer_44 rfl rfl ?_
        refine v_get C k_C hA 0 (by decide) tw_78 (fun _ h => h) rfl d_C_customer_45 ?_
        refine v_callV (rest := []) C (c_LA_size l G v (la 0) (ra 0) (zc S 0) (ea 0) _ (hLs 0 (by decide))) tw_117 tw_33 tw_114 tw_115 tw_116 mn_AL_size hl0 k_AL.1 ⟨Nat.le_of_ble_eq_true rfl, Nat.le_of_ble_eq_true rfl⟩ rfl rfl (Nat.le_of_ble_eq_true rfl) d_C_customer_48 ⟨(by first | exact Nat.le_of_ble_eq_true rfl | (dsimp only; omega)), (by first | exact Nat.le_of_ble_eq_true rfl | (dsimp only; omega))⟩ (fun r_10 v_11 hp_12 => ?_)
        obtain ⟨rfl, hv9⟩ := hp_12
        obtain rfl := hv9.symm
        show vV _ _ _ _ _ _ _ _ _ _ _ _ _ v 0 0 51 [(0, .ref o), (1, .int a), (2, .int b)] [.int (nI (zc S 0))]
        refine v_iconst (x := 1) C d_C_customer_51 (by decide) ?_
        refine v_iadd C d_C_customer_52 ?_
        refine v_toi (y := nI ((zc S 0) + 1)) (nI_add (zc S 0) 1) ?_
        refine v_istore_n (lv' := [(3, .int (nI ((zc S 0) + 1))), (0, .ref o), (1, .int a), (2, .int b)]) C d_C_customer_53 rfl (by decide) rfl ?_
        refine v_aload_n C 1 d_C_customer_54 rfl rfl ?_
        refine v_get C k_C hA 0 (by decide) tw_78 (fun _ h => h) rfl d_C_customer_55 ?_
        refine v_new (fs := [.int 0, .int 0, .int 0, .int 0, .int 0, .long 0, .int 0, .null]) C k_K tw_118 tw_119 tw_35 (by decide) (by first | exact Nat.le_of_ble_eq_true rfl | (dsimp only; omega)) (by first | exact Nat.le_of_ble_eq_true rfl | (dsimp only; omega)) d_C_customer_58 (fun q_13 hfr_14 => ?_)
        refine v_cs (kc' := 1) (ks' := 8) rfl rfl ?_
        refine v_view (fun v1 ev1 => ?_)
        have he_15 : v1 3 o = some (.inr (3, [.ref (la 0), .ref (la 1), .ref (la 2), .ref (la 3), .ref (la 4), .ref cw, .long (zl S 0 0), .int (zi S 1 0)])) := by rw [ev1]; exact (vv_up_a _ _ _ _ (fun z => by subst z; have y := hfr_14 3; rw [hA] at y; cases y)).trans hA
        have he_16 : v1 5 (la 0) = some (.inr (5, [.ref (ra 0), .int (nI (zc S 0)), .int mo0])) := by rw [ev1]; exact (vv_up_a _ _ _ _ (fun z => by subst z; have y := hfr_14 5; rw [hl0] at y; cases y)).trans hl0
        have he_17 : v1 0 q_13 = some (.inr (0, [.int 0, .int 0, .int 0, .int 0, .int 0, .long 0, .int 0, .null])) := by rw [ev1]; exact vv_up_s _ _ _ _
        refine v_dup C d_C_customer_61 rfl ?_
        refine v_iload_n C 0 d_C_customer_62 rfl rfl ?_
        refine v_iload_n C 2 d_C_customer_63 rfl rfl ?_
        refine v_iload_n C 3 d_C_customer_64 rfl rfl ?_
        refine v_callI (rest := [.ref q_13, .ref (la 0)]) C (c_K_init l G v1 q_13 _ _ _ he_17) tw_122 tw_35 tw_120 tw_121 rfl mn_K_init ⟨Nat.le_of_ble_eq_true rfl, Nat.le_of_ble_eq_true rfl⟩ rfl rfl (Nat.le_of_ble_eq_true rfl) d_C_customer_65 ⟨(by first | exact Nat.le_of_ble_eq_true rfl | (dsimp only; omega)), (by first | exact Nat.le_of_ble_eq_true rfl | (dsimp only; omega))⟩ (fun r_18 v_19 hp_20 => ?_)
        refine v_cs (kc' := 2) (ks' := 40) rfl rfl ?_
        obtain ⟨q2, rfl, hfq2, hq1, hq2, hq3⟩ := hp_20
        have hfr9 := hfr_14
        have hkF : vkp (fun _ _ => False) v v_19 := (by rw [ev1]; exact vkp.rf.nu hfr_14 : vkp (fun _ _ => False) v v1).fr hfr_14 hq3
        have he_21 : v_19 3 o = some (.inr (3, [.ref (la 0), .ref (la 1), .ref (la 2), .ref (la 3), .ref (la 4), .ref cw, .long (zl S 0 0), .int (zi S 1 0)])) := hq3 _ _ _ (by intro z; exact absurd z.1 (by decide)) he_15
        have he_22 : v_19 5 (la 0) = some (.inr (5, [.ref (ra 0), .int (nI (zc S 0)), .int mo0])) := hq3 _ _ _ (by intro z; exact absurd z.1 (by decide)) he_16
        show vV _ _ _ _ _ _ _ _ _ _ _ _ _ v_19 2 40 68 [(3, .int (nI ((zc S 0) + 1))), (0, .ref o), (1, .int a), (2, .int b)] [.ref q_13, .ref (la 0)]
        refine v_callV (rest := []) C (c_AL_add l G v_19 (la 0) (ra 0) (zc S 0) (ea 0) q_13 ca _ 0 _ _ _ (show LA G v_19 (la 0) (ra 0) (zc S 0) (ea 0) ca from (hLs 0 (by decide)).keep (fun k x y _ h => hkF k x y id h) (fun _ _ => rfl)) (by omega) (by decide) (by decide) (by decide) hq1 k_K.1 tw_694 (fun i hi => by obtain ⟨⟨_, _, h9⟩, _⟩ := hKs i hi; exact ⟨_, hkF _ _ _ id h9⟩)) tw_157 tw_33 tw_154 tw_155 tw_156 mn_AL_add he_22 k_AL.1 ⟨Nat.le_of_ble_eq_true rfl, Nat.le_of_ble_eq_true rfl⟩ rfl rfl (Nat.le_of_ble_eq_true rfl) d_C_customer_68 ⟨(by first | exact Nat.le_of_ble_eq_true rfl | (dsimp only; omega)), (by first | exact Nat.le_of_ble_eq_true rfl | (dsimp only; omega))⟩ (fun r_23 v_24 hp_25 => ?_)
        refine v_cs (kc' := (2 + (zde (zc S 0) (ea 0)))) (ks' := (40 + (244 * zde (zc S 0) (ea 0)))) rfl rfl ?_
        obtain ⟨rfl, arr9, hLn, harr0, hk3⟩ := hp_25
        have harr : (arr9 = ra 0 ∧ 0 < ea 0) ∨ ∀ k, v k arr9 = none := harr0.imp id (fun z => hkF.none z)
        have hkn : vkp (fun k y => (k = 5 ∧ y = la 0) ∨ (k = 53 ∧ y = ra 0 ∧ 0 < ea 0)) v v_24 := (hkF.mono (fun _ _ z => z.elim)).tr hk3
        have hqn := hk3 _ _ _ (by intro z; omega) hq1
        show vV _ _ _ _ _ _ _ _ _ _ _ _ _ v_24 (2 + (zde (zc S 0) (ea 0))) (40 + (244 * zde (zc S 0) (ea 0))) 71 [(3, .int (nI ((zc S 0) + 1))), (0, .ref o), (1, .int a), (2, .int b)] [.int 1]
        have hfv2 : ∀ k, v k q2 = none := vkp.none (v1 := v1) (by rw [ev1]; exact vkp.rf.nu hfr_14) hfq2
        refine v_pop C d_C_customer_71 rfl ?_
        refine v_iload_n C 0 d_C_customer_72 rfl rfl ?_
        exact v_iret C d_C_customer_73 (by first | exact Nat.le_of_ble_eq_true rfl | (show _ ≤ _; omega)) (by first | exact Nat.le_of_ble_eq_true rfl | (show _ ≤ _; omega)) ⟨(by rw [oCust, if_pos hx0, if_neg (show ¬ zc S 0 = 40 by omega)]), (by rw [oCust, if_pos hx0, if_neg (show ¬ zc S 0 = 40 by omega)]; exact ⟨_, _, _, va_up oa (zc S 0) q2, _, _, hRC.addK hB hB2 hB8 hLn harr hqn (hk3 _ _ _ (by intro z; omega) hq2) (kfil_v 32) hfv2 hkn, hkn.mono (fun k x z => cX_Y k x (cX_l k x z)), (fun j hj => by have hj : j < zc S 0 + 1 := hj; by_cases c9 : j = zc S 0; { right; rw [c9, va_up_self]; exact hfv2 }; { left; exact ⟨by omega, va_up_ne _ _ c9⟩ })⟩)⟩
      · have n_38 : ¬ (zc S 0) < 40 := mt (nI_ltI (a := (zc S 0)) (b := 40) (by omega) (by omega)).mpr c_38
        refine v_bipush (x := -14) C d_C_customer_41 (by decide) ?_
        exact v_iret C d_C_customer_43 (by first | exact Nat.le_of_ble_eq_true rfl | (show _ ≤ _; omega)) (by first | exact Nat.le_of_ble_eq_true rfl | (show _ ≤ _; omega)) ⟨(by  rw [oCust, if_pos hx0, if_pos (show zc S 0 = 40 by omega)] <;> (try rfl)), (by  rw [oCust, if_pos hx0, if_pos (show zc S 0 = 40 by omega)]; exact RCe.rf hRC)⟩
    · obtain rfl := hv9.symm
      show vV _ _ _ _ _ _ _ _ _ _ _ _ _ v 0 0 23 [(0, .ref o), (1, .int a), (2, .int b)] [.int 0]
      refine v_if_ne C 29 d_C_customer_23 (by decide) (fun z => absurd (by decide) z) (fun _ => ?_)
      refine v_bipush (x := -12) C d_C_customer_26 (by decide) ?_
      exact v_iret C d_C_customer_28 (by first | exact Nat.le_of_ble_eq_true rfl | (show _ ≤ _; omega)) (by first | exact Nat.le_of_ble_eq_true rfl | (show _ ≤ _; omega)) ⟨(by rw [i64_toInt] at hb_20; rw [oCust, if_neg (fun z => hb_20 z.2)] <;> (try rfl)), (by rw [i64_toInt] at hb_20; rw [oCust, if_neg (fun z => hb_20 z.2)]; exact RCe.rf hRC)⟩
  · obtain rfl := hv9.symm
    show vV _ _ _ _ _ _ _ _ _ _ _ _ _ v 0 0 9 [(0, .ref o), (1, .int a), (2, .int b)] [.int 0]
    refine v_if_eq C 26 d_C_customer_9 (by decide) (fun _ => ?_) (fun z => absurd (by decide) z)
    refine v_bipush (x := -12) C d_C_customer_26 (by decide) ?_
    exact v_iret C d_C_customer_28 (by first | exact Nat.le_of_ble_eq_true rfl | (show _ ≤ _; omega)) (by first | exact Nat.le_of_ble_eq_true rfl | (show _ ≤ _; omega)) ⟨(by rw [i64_toInt] at hb_6; rw [oCust, if_neg (fun z => hb_6 z.1)] <;> (try rfl)), (by rw [i64_toInt] at hb_6; rw [oCust, if_neg (fun z => hb_6 z.1)]; exact RCe.rf hRC)⟩
def zre (S : zS) (x it : Int32) : zS := match zpf S x it (zc S 2) with
  | some j => zui S 21 j 0
  | none => S
set_option maxHeartbeats 4000000 in
set_option maxRecDepth 100000 in
theorem c_C_reopenItem (l : Launch) (G : vv_G) (v : vv_V) (o : Nat) (la : Nat → Nat) (cw : Nat) (S : zS) (ra ea ca oa na ia : Nat → Nat) (x it : Int32) (hRC : RC G v o la cw S ra ea ca oa na ia) (hB : zc S 2 ≤ 60) (hB6 : zB6 S) : Mv l y_C_reopenItem b_C_reopenItem 4 none 4 88 G v [.ref o, .int x, .int it] (fun r v' => r = none ∧ RC G v' o la cw (zre S x it) ra ea ca oa na ia ∧ vkp cX v v') 0 0 := by
  refine vv_metF (own := "CustomerNotices") (nm := "reopenItem") pf_C_reopenItem rfl rfl (Nat.le_of_ble_eq_true rfl) ?_
  intro p e s m below meth c C hin
  obtain ⟨hA, ⟨gw, hW, hWj⟩, hLs, hKs, hNs, hIs, hD1, hD2, hD3, hD4⟩ := id hRC
  show vV _ _ _ _ _ _ _ _ _ _ _ _ _ v 0 0 0 [(0, .ref o), (1, .int x), (2, .int it)] []
  refine v_aload_n C 0 d_C_reopenItem_0 rfl rfl ?_
  refine v_iload_n C 1 d_C_reopenItem_1 rfl rfl ?_
  refine v_iload_n C 2 d_C_reopenItem_2 rfl rfl ?_
  refine v_callV (rest := []) C (c_C_findItem l G v o la cw S ra ea ca oa na ia x it hRC (by omega) hB6) tw_278 tw_30 tw_275 tw_277 tw_6 mn_C_findItem hA k_C.1 ⟨Nat.le_of_ble_eq_true rfl, Nat.le_of_ble_eq_true rfl⟩ rfl rfl (Nat.le_of_ble_eq_true rfl) d_C_reopenItem_3 ⟨(by first | exact Nat.le_of_ble_eq_true rfl | (dsimp only; omega)), (by first | exact Nat.le_of_ble_eq_true rfl | (dsimp only; omega))⟩ (fun r_1 v_2 hp_3 => ?_)
  rcases hp_3 with ⟨rfl, hv9, hpf⟩ | ⟨ki, rfl, hv9, hpf⟩
  · obtain rfl := hv9.symm
    show vV _ _ _ _ _ _ _ _ _ _ _ _ _ v 0 0 6 [(0, .ref o), (1, .int x), (2, .int it)] [.null]
    refine v_astore_nN (lv' := [(3, .null), (0, .ref o), (1, .int x), (2, .int it)]) C d_C_reopenItem_6 rfl (by decide) rfl ?_
    refine v_aload_nN C 0 d_C_reopenItem_7 rfl rfl ?_
    refine v_ifnullN C 16 d_C_reopenItem_8 (by decide) ?_
    exact v_vret C d_C_reopenItem_16 (by first | exact Nat.le_of_ble_eq_true rfl | (show _ ≤ _; omega)) (by first | exact Nat.le_of_ble_eq_true rfl | (show _ ≤ _; omega)) ⟨rfl, (by unfold zre; rw [hpf]; exact hRC), vkp.rf⟩
  · obtain rfl := hv9.symm
    obtain ⟨hki, hk19, hk20⟩ := zpf_lt hpf
    show vV _ _ _ _ _ _ _ _ _ _ _ _ _ v 0 0 6 [(0, .ref o), (1, .int x), (2, .int it)] [.ref (ia ki)]
    have hi0 : v 1 (ia ki) = some (vi _ _ _ _) := hIs ki (by omega)
    refine v_astore_n (lv' := [(3, .ref (ia ki)), (0, .ref o), (1, .int x), (2, .int it)]) C d_C_reopenItem_6 rfl (by decide) rfl ?_
    refine v_aload_n C 0 d_C_reopenItem_7 rfl rfl ?_
    refine v_ifnull C d_C_reopenItem_8 ?_
    refine v_aload_n C 0 d_C_reopenItem_11 rfl rfl ?_
    refine v_iconst (x := 0) C d_C_reopenItem_12 (by decide) ?_
    refine v_put C k_I hi0 2 (by decide) tw_304 (fun _ h => h) rfl (by decide) (by decide) (Nat.le_of_ble_eq_true rfl) d_C_reopenItem_13 ?_
    refine v_view (fun v1 ev1 => ?_)
    have he_4 : v1 3 o = some (.inr (3, [.ref (la 0), .ref (la 1), .ref (la 2), .ref (la 3), .ref (la 4), .ref cw, .long (zl S 0 0), .int (zi S 1 0)])) := by rw [ev1]; exact (vv_up_k _ _ _ _ (by decide)).trans hA
    have he_5 : v1 1 (ia ki) = some (.inr (1, [.int (zi S 19 ki), .int (zi S 20 ki), .int 0, va_rf (zlp na (zi S 22 ki))])) := by rw [ev1]; exact vv_up_s _ _ _ _
    exact v_vret C d_C_reopenItem_16 (by first | exact Nat.le_of_ble_eq_true rfl | (show _ ≤ _; omega)) (by first | exact Nat.le_of_ble_eq_true rfl | (show _ ≤ _; omega)) ⟨rfl, (by unfold zre; rw [hpf]; exact hRC.itm hki (by rw [ev1]; exact vkp.rf.up ⟨rfl, rfl⟩) (by unfold RCi; rw [he_5, zi_ui, if_neg (by decide), zi_ui, if_neg (by decide), zi_ui, if_pos rfl, if_pos rfl, zi_ui, if_neg (by decide)]) (fun _ => rfl) (fun f i h1 _ => by rw [zi_ui, if_neg h1]) (fun k h => ⟨by rw [zi_ui, if_pos rfl, if_neg h], by rw [zi_ui, if_neg (by decide)]⟩) (fun _ _ => rfl)), (by rw [ev1]; exact vkp.rf.up (Or.inl rfl))⟩
