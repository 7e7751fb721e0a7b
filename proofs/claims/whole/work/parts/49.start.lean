set_option maxHeartbeats 4000000 in
set_option maxRecDepth 100000 in
theorem law_E {s : State} {b : Nat} (hts : ∀ w ∈ lw_tbl, w.before #[Value.ref b] s = true) (hgv : (Jvm.Cond.and given_1 narrow_1).before #[Value.ref b] s = true) : ∃ G : vv_G, G.2.1 = s.heap.size ∧ vv_E G s ∧ G.2.2.1 < s.heap.size := by
  have hw : ∀ w ∈ vv_wds, w.before #[Value.ref b] s = true := fun w h => hts w (List.mem_filter.mp h).1
  obtain ⟨c0, i0, q0⟩ := u_known (C := "CustomerNotices$Customer") (T := T_K) (N := 8) (n := 8) hw k_K.2.2.1 (hw _ tw_119)
  obtain ⟨c1, i1, q1⟩ := u_known (C := "CustomerNotices$Item") (T := T_I) (N := 4) (n := 4) hw k_I.2.2.1 (hw _ tw_295)
  obtain ⟨c2, i2, q2⟩ := u_known (C := "CustomerNotices$Notice") (T := T_N) (N := 12) (n := 12) hw k_N.2.2.1 (hw _ tw_320)
  obtain ⟨c3, i3, q3⟩ := u_known (C := "CustomerNotices") (T := T_C) (N := 8) (n := 8) hw k_C.2.2.1 (hw _ tw_45)
  obtain ⟨c4, i4, q4⟩ := u_known (C := "CustomerNoticesModel") (T := T_M) (N := 32) (n := 32) hw k_M.2.2.1 (hw _ tw_478)
  obtain ⟨c5, i5, q5⟩ := u_known (C := "java/util/ArrayList") (T := T_AL) (N := 3) (n := 3) hw k_AL.2.2.1 (hw _ tw_53)
  obtain ⟨a0, ka0, co0, r0, s0, t0⟩ := Cond.arrayClass_spec (hts (Cond.arrayClass .int) (List.mem_of_getElem? (i := 153) rfl))
  obtain ⟨a1, ka1, co1, r1, s1, t1⟩ := Cond.arrayClass_spec (hts (Cond.arrayClass .boolean) (List.mem_of_getElem? (i := 103) rfl))
  obtain ⟨a2, ka2, co2, r2, s2, t2⟩ := Cond.arrayClass_spec (hts (Cond.arrayClass .long) (List.mem_of_getElem? (i := 580) rfl))
  obtain ⟨comp, a3, k3, f4, -, f2, f3, f1⟩ := Cond.arrayOver_spec (hts (Cond.arrayOver (.object "java/lang/Object")) (List.mem_of_getElem? (i := 197) rfl))
  have hs := flat_of_before _ hgv
  have harr : (Cond.arrayOf (.static "java/util/ArrayList" "DEFAULTCAPACITY_EMPTY_ELEMENTDATA" "[Ljava/lang/Object;") (.object "java/lang/Object")).before #[Value.ref b] s = true := hs _ (by decide +kernel)
  have hlen : (Cond.eq (.length (.static "java/util/ArrayList" "DEFAULTCAPACITY_EMPTY_ELEMENTDATA" "[Ljava/lang/Object;")) (.int 0)).before #[Value.ref b] s = true := hs _ (by decide +kernel)
  have hmir : (Cond.isRef (.mirror "[Ljava/lang/Object;")).before #[Value.ref b] s = true := hs _ (by decide +kernel)
  have hA : ∀ a : Nat, a < s.heap.size → ¬ (fun q : Nat => s.heap.size ≤ q) a := fun a h => Nat.not_le.mpr h
  obtain ⟨eA, hev, hT⟩ := va_Tof (N := 0) (f := fun _ => Value.null) (A := fun q : Nat => s.heap.size ≤ q) (by decide) harr (va_eqt hlen) (fun j hj => absurd hj (Nat.not_lt_zero _)) hA
  have hZ := va_Zof (v := .ref eA) (A := fun q : Nat => s.heap.size ≤ q) (hts (Cond.laysStatic "java/util/ArrayList" "DEFAULTCAPACITY_EMPTY_ELEMENTDATA" "[Ljava/lang/Object;") (List.mem_of_getElem? (i := 65) rfl)) (hw _ tw_33) hev hA
  obtain ⟨mi, hmi⟩ := va_Mi.of hmir
  refine ⟨((fun k => if k = 0 then c0 else if k = 1 then c1 else if k = 2 then c2 else if k = 3 then c3 else if k = 4 then c4 else c5, fun k => if k = 0 then i0 else if k = 1 then i1 else if k = 2 then i2 else if k = 3 then i3 else if k = 4 then i4 else i5), s.heap.size, eA, mi, fun k => if k = 0 then a0 else if k = 1 then a1 else if k = 2 then a2 else a3), rfl, ⟨⟨?_, ?_⟩, fun w h => va_Nw.of (Bool.and_eq_true_iff.mp (List.mem_filter.mp h).2).2 (hw w h), ⟨hZ, hT⟩, ⟨hmi, va_AO.of (hts (Cond.arrayOver (.object "java/lang/Object")) (List.mem_of_getElem? (i := 197) rfl)), fun ty h => ?_⟩, Nat.le_refl _⟩, Nat.not_le.mp hT.out⟩
  · intro k q hq
    match k, hq with
    | 0, hq => cases hq; exact q0
    | 1, hq => cases hq; exact q1
    | 2, hq => cases hq; exact q2
    | 3, hq => cases hq; exact q3
    | 4, hq => cases hq; exact q4
    | 5, hq => cases hq; exact q5
    | k + 6, hq => simp [vwCl] at hq
  · intro k q hq
    match k, hq with
    | 0, hq => cases hq; exact ⟨fun n z => ⟨fun k h => (by cases h), ka0, s0, co0, t0⟩, r0⟩
    | 1, hq => cases hq; exact ⟨fun n z => ⟨fun k h => (by cases h), ka1, s1, co1, t1⟩, r1⟩
    | 2, hq => cases hq; exact ⟨fun n z => ⟨fun k h => (by cases h), ka2, s2, co2, t2⟩, r2⟩
    | 3, hq => cases hq; exact ⟨fun n z => ⟨fun k h => (by cases h), k3, f2, comp, f3⟩, k3, comp, f2, f3, f4, f1⟩
    | k + 4, hq => simp [vv_tys] at hq
  · rcases h with rfl | rfl | rfl
    · exact (hts (Cond.arrayClass .int) (List.mem_of_getElem? (i := 153) rfl))
    · exact (hts (Cond.arrayClass .boolean) (List.mem_of_getElem? (i := 103) rfl))
    · exact (hts (Cond.arrayClass .long) (List.mem_of_getElem? (i := 580) rfl))
set_option maxHeartbeats 4000000 in
set_option maxRecDepth 100000 in
theorem whole_start {p : Program} {e : Env} {s : State} {m : MethodId} {below : List Frame} {meth : Method} {c : Code} (l : Launch) {b L : Nat} {xs : Nat → Int32} (hL : L ≤ 3584) (C0 : lw_At p s m meth c b L xs) : W p l e room_1 s m #[Value.ref b] below meth c s.heap [] 0 0 (lw_Z below #[Value.ref b] s) (entryFrame m ([Value.ref b] : List Value).toArray 4) := by
  obtain ⟨hx, hb, hr, hml, hown, hts, hX, hbl, hlocks, hgv⟩ := id C0
  obtain ⟨G, hG, hE, heA⟩ := law_E hts hgv
  have C : vC p s m #[.ref b] meth c code 4 ret "CustomerNoticesLaw" G := ⟨hx, hb, hml, hown, hE, hr, hlocks⟩
  have hl := lv_entry ([.ref b]) (n := 4) (Nat.le_of_ble_eq_true rfl)
  rw [lg_entry_eq]
  generalize (lg_sl ([.ref b]) ++ List.replicate (4 - (lg_sl ([.ref b])).length) Slot.unset).toArray = ls at hl ⊢
  have hl : lv_has ls 4 [(0, .ref b)] := hl
  obtain ⟨v, ev0⟩ : ∃ v : vv_V, v = fun k a => if k = 99 then (if a = G.2.2.1 then some (vq G 0 (fun _ => none)) else none) else none := ⟨_, rfl⟩
  have hv : ∀ (k a : Nat) (e : va_E), v k a = some e → k = 99 ∧ a = G.2.2.1 := fun k a e h => by
    rw [ev0] at h
    dsimp only at h
    split at h
    · rename_i h1
      split at h
      · rename_i h2; exact ⟨h1, h2⟩
      · cases h
    · cases h
  have h99 : v 99 G.2.2.1 = some (.inl (G.2.2.2.2 3, 0, .inr (.inr (.inr (.inr (fun _ => none)))))) := by rw [ev0]; simp
  have hP : vv_P G v s.heap := ⟨fun k a e h => ⟨fun z => absurd (hv k a e h).1 z, fun z => absurd (hv k a e h).1 z, fun _ => by rw [(hv k a e h).2, hG]; exact heA⟩, fun k k' a e e' h h' => by rw [(hv k a e h).1, (hv k' a e' h').1]⟩
  suffices K : vV p l e room_1 s m #[.ref b] below meth c (lw_Z below #[.ref b] s) G 4 v 0 0 0 [(0, .ref b)] [] from K s.heap [] ls hP va_S.rf hl
  refine v_new (fs := [.null, .null, .null, .null, .null, .null, .long 0, .int 0]) C k_C tw_44 tw_45 tw_30 (by decide) (by show _ ≤ _; simp only [room_1]; omega) (by show _ ≤ _; simp only [room_1]; omega) d_law_0 (fun q_1 hfr_2 => ?_)
  refine v_cs (kc' := 1) (ks' := 8) rfl rfl ?_
  refine v_view (fun v1 ev1 => ?_)
  have he_3 : v1 99 G.2.2.1 = some (.inl (G.2.2.2.2 3, 0, .inr (.inr (.inr (.inr (fun _ => none)))))) := by rw [ev1]; exact (vv_up_a _ _ _ _ (fun z => by subst z; have y := hfr_2 99; rw [h99] at y; cases y)).trans h99
  have he_4 : v1 3 q_1 = some (.inr (3, [.null, .null, .null, .null, .null, .null, .long 0, .int 0])) := by rw [ev1]; exact vv_up_s _ _ _ _
  refine v_dup C d_law_3 rfl ?_
  refine v_callI (rest := [.ref q_1]) C (c_C_init l G v1 q_1 (fun _ => none) he_4 he_3) tw_48 tw_30 tw_46 tw_47 rfl mn_C_init ⟨Nat.le_of_ble_eq_true rfl, Nat.le_of_ble_eq_true rfl⟩ rfl rfl (Nat.le_of_ble_eq_true rfl) d_law_4 ⟨(by show _ ≤ _; simp only [room_1]; omega), (by show _ ≤ _; simp only [room_1]; omega)⟩ (fun r_5 v_6 hp_7 => ?_)
  refine v_cs (kc' := 7) (ks' := 27) rfl rfl ?_
  obtain ⟨rfl, la, cw, hRC, hkc⟩ := hp_7
  show vV _ _ _ _ _ _ _ _ _ _ _ _ _ v_6 7 27 7 [(0, .ref b)] [.ref q_1]
  refine v_astore_n (lv' := [(1, .ref q_1), (0, .ref b)]) C d_law_7 rfl (by decide) rfl ?_
  refine v_new (fs := [.long 0, .int 0, .null, .int 0, .null, .null, .null, .null, .null, .int 0, .null, .null, .null, .null, .null, .null, .null, .null, .int 0, .null, .null, .null, .null, .int 0, .null, .null, .null, .null, .int 0, .null, .null, .null]) C k_M tw_477 tw_478 tw_34 (by decide) (by show _ ≤ _; simp only [room_1]; omega) (by show _ ≤ _; simp only [room_1]; omega) d_law_8 (fun q_8 hfr_9 => ?_)
  refine v_cs (kc' := 8) (ks' := 59) rfl rfl ?_
  refine v_view (fun v2 ev2 => ?_)
  have he_10 : v2 4 q_8 = some (.inr (4, [.long 0, .int 0, .null, .int 0, .null, .null, .null, .null, .null, .int 0, .null, .null, .null, .null, .null, .null, .null, .null, .int 0, .null, .null, .null, .null, .int 0, .null, .null, .null, .null, .int 0, .null, .null, .null])) := by rw [ev2]; exact vv_up_s _ _ _ _
  refine v_dup C d_law_11 rfl ?_
  refine v_callI (rest := [.ref q_8]) C (c_M_init l G v2 q_8 he_10) tw_481 tw_34 tw_479 tw_480 rfl mn_M_init ⟨Nat.le_of_ble_eq_true rfl, Nat.le_of_ble_eq_true rfl⟩ rfl rfl (Nat.le_of_ble_eq_true rfl) d_law_12 ⟨(by show _ ≤ _; simp only [room_1]; omega), (by show _ ≤ _; simp only [room_1]; omega)⟩ (fun r_11 v_12 hp_13 => ?_)
  refine v_cs (kc' := 33) (ks' := 4469) rfl rfl ?_
  obtain ⟨rfl, ad, hM, hk2, had⟩ := hp_13
  have hF : vkp (fun _ _ => False) v_6 v_12 := fun k a e _ h => by
    have hne : a ≠ q_8 := fun z => by rw [z, hfr_9 k] at h; cases h
    exact hk2 k a e hne (by rw [ev2, vv_up_a _ _ _ _ hne]; exact h)
  have hcw : ∀ f, mA f = true → cw ≠ ad f := fun f hA z => by
    obtain ⟨-, ⟨gw, hW, -⟩, -⟩ := id hRC
    have y := had f hA 51
    rw [← z, ev2, vv_up_k _ _ _ _ (by decide), hW] at y
    cases y
  have hLI : LI G v_12 q_1 la cw q_8 ad z0 := ⟨_, _, _, fun _ => 0, _, _, hRC.keepF hF, hM, inv_z0, hcw, fun j hj => absurd hj (Nat.not_lt_zero _)⟩
  show vV _ _ _ _ _ _ _ _ _ _ _ _ _ v_12 33 4469 15 [(1, .ref q_1), (0, .ref b)] [.ref q_8]
  refine v_astore_n (lv' := [(2, .ref q_8), (1, .ref q_1), (0, .ref b)]) C d_law_15 rfl (by decide) rfl ?_
  refine v_iconst (x := 0) C d_law_16 (by decide) ?_
  refine v_istore_n (lv' := [(3, .int 0), (2, .ref q_8), (1, .ref q_1), (0, .ref b)]) C d_law_17 rfl (by decide) rfl ?_
  refine v_sub [0, 3, 2, 1] rfl ?_
  exact lp_law C ⟨hX, hbl, by rw [hG]; exact hbl⟩ hL hG (L + 8) 0 0 v_12 z0 _ _ rfl (by omega) (Nat.zero_le _) (by decide) (by decide) hLI
