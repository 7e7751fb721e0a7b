theorem zB.k {S S' : zS} (h : zB S) (h0 : zc S' 0 = zc S 0) (h1 : zc S' 1 = zc S 1) (h2 : zc S' 2 = zc S 2) (hi : ∀ j, zi S' 22 j = zi S 22 j) : zB S' := by
  obtain ⟨a, b, c, d⟩ := h
  refine ⟨by omega, by omega, by omega, fun j hj => ?_⟩
  rw [hi j, h1]
  exact d j (by omega)
theorem zB.adI {S : zS} {x it : Int32} (h : zB S) (h2 : zc S 2 ≤ 59) : zB (zadI S x it) := by
  obtain ⟨a, b, c, d⟩ := h
  refine ⟨a, b, (show zc S 2 + 1 ≤ 60 by omega), fun j hj => ?_⟩
  have hj : j < zc S 2 + 1 := hj
  by_cases e : j = zc S 2
  · subst e
    exact ⟨0, Nat.zero_le _, by unfold zadI; simp [zi_uc, zi_ui]; rfl⟩
  · rw [zadI_i (Or.inl e)]
    exact d j (by omega)
theorem zB4.k {S S' : zS} (h : zB4 S) (h1 : zc S' 1 = zc S 1) (h3 : zc S' 3 = zc S 3) (hi : ∀ j, zi S' 24 j = zi S 24 j) : zB4 S' := fun i hi3 => by
  rw [hi i, h1]; exact h i (by omega)
theorem zB4f.k {S S' : zS} (h : zB4f S) (h1 : zc S' 1 = zc S 1) (h3 : zc S' 4 = zc S 4) (hi : ∀ j, zi S' 29 j = zi S 29 j) : zB4f S' := fun i hi3 => by
  rw [hi i, h1]; exact h i (by omega)
theorem i_lt_nI {n : Nat} (h : n < 2 ^ 31) : 0 < n ↔ 0 < (nI n).toInt := by rw [nI_toInt h]; omega
set_option maxHeartbeats 4000000 in
set_option maxRecDepth 100000 in
theorem c_C_addCorrection (l : Launch) (G : vv_G) (v : vv_V) (o : Nat) (la : Nat → Nat) (cw : Nat) (S : zS) (ra ea ca oa na ia : Nat → Nat) (j0 : Nat) (t : Int64) (hRC : RC G v o la cw S ra ea ca oa na ia) (hj0 : j0 < zc S 1) (hN : zc S 1 ≤ 199) (hB : zB S) (hB4 : zB4 S) (hB4f : zB4f S) : Mv l y_C_addCorrection b_C_addCorrection 5 (some FieldType.int) 8 197 G v [.ref o, .ref (na j0), .long t] (fun r v' => r = some (.int (nI (zc S 1 + 1))) ∧ ∃ ra' ea' na', RC G v' o la cw (zput S (zi S 10 (j0 + 1)) (zi S 11 (j0 + 1)) (zi S 12 (j0 + 1)) t (-1) 1) ra' ea' ca oa na' ia ∧ vkp cX v v') 2 256 := by
  refine vv_metF (own := "CustomerNotices") (nm := "addCorrection") pf_C_addCorrection rfl rfl (Nat.le_of_ble_eq_true rfl) ?_
  intro p e s m below meth c C hin
  obtain ⟨hA, ⟨gw, hW, hWj⟩, hLs, hKs, hNs, hIs, hD1, hD2, hD3, hD4⟩ := id hRC
  obtain ⟨n1, hn1⟩ : ∃ z, z = zc S 1 := ⟨_, rfl⟩
  obtain ⟨n2, hn2⟩ : ∃ z, z = zc S 2 := ⟨_, rfl⟩
  obtain ⟨hb0, hb1, hb2, hb22⟩ := id hB
  obtain ⟨ch0, msg0, sent0, hn00, hns0⟩ := hNs j0 hj0
  show vV _ _ _ _ _ _ _ _ _ _ _ _ _ v 0 0 0 [(0, .ref o), (1, .ref (na j0)), (2, .long t)] []
  refine v_aload_n C 0 d_C_addCorrection_0 rfl rfl ?_
  refine v_aload_n C 1 d_C_addCorrection_1 rfl rfl ?_
  refine v_get C k_N hn00 1 (by decide) tw_329 (fun _ h => h) rfl d_C_addCorrection_2 ?_
  refine v_aload_n C 1 d_C_addCorrection_5 rfl rfl ?_
  refine v_get C k_N hn00 2 (by decide) tw_331 (fun _ h => h) rfl d_C_addCorrection_6 ?_
  refine v_aload_n C 1 d_C_addCorrection_9 rfl rfl ?_
  refine v_get C k_N hn00 3 (by decide) tw_333 (fun _ h => h) rfl d_C_addCorrection_10 ?_
  refine v_lload_n C 2 d_C_addCorrection_13 rfl rfl ?_
  refine v_callV (rest := []) C (c_C_addNotice l G v o la cw S ra ea ca oa na ia (ca (zn (zi S 10 (j0 + 1)) - 1)) (zi S 10 (j0 + 1)) (zi S 11 (j0 + 1)) (zi S 12 (j0 + 1)) t hRC rfl (by omega) hB hB4 hB4f) tw_318 tw_30 tw_315 tw_317 tw_10 mn_C_addNotice hA k_C.1 ⟨Nat.le_of_ble_eq_true rfl, Nat.le_of_ble_eq_true rfl⟩ rfl rfl (Nat.le_of_ble_eq_true rfl) d_C_addCorrection_14 ⟨(by first | exact Nat.le_of_ble_eq_true rfl | (dsimp only; omega)), (by first | exact Nat.le_of_ble_eq_true rfl | (dsimp only; omega))⟩ (fun r_1 v_2 hp_3 => ?_)
  refine v_cs (kc' := 2) (ks' := 256) rfl rfl ?_
  obtain ⟨ra1, ea1, na1, rfl, hRC1, hna1, hkX1⟩ := hp_3
  obtain ⟨S1, eS1⟩ : ∃ z, z = zput S (zi S 10 (j0 + 1)) (zi S 11 (j0 + 1)) (zi S 12 (j0 + 1)) t (-1) 0 := ⟨_, rfl⟩
  rw [← eS1] at hRC1
  have hc1 : zc S1 1 = n1 + 1 ∧ zc S1 0 = zc S 0 ∧ zc S1 2 = zc S 2 ∧ zc S1 3 = zc S 3 := by rw [eS1, hn1]; exact ⟨rfl, rfl, rfl, rfl⟩
  refine v_tov (y := .ref (na1 n1)) (by rw [hn1]) ?_
  obtain ⟨hA1, ⟨gw1, hW1, hWj1⟩, hLs1, hKs1, hNs1, hIs1, hD11, hD21, hD31, hD41⟩ := id hRC1
  obtain ⟨ch, msg, sent, hn0, hns⟩ := hNs1 n1 (by omega)
  show vV _ _ _ _ _ _ _ _ _ _ _ _ _ v_2 2 256 17 [(0, .ref o), (1, .ref (na j0)), (2, .long t)] [.ref (na1 n1)]
  refine v_astore (lv' := [(4, .ref (na1 n1)), (0, .ref o), (1, .ref (na j0)), (2, .long t)]) C d_C_addCorrection_17 (by decide) rfl ?_
  refine v_aload C 0 d_C_addCorrection_19 rfl ?_
  refine v_iconst (x := 1) C d_C_addCorrection_21 (by decide) ?_
  refine v_put C k_N hn0 7 (by decide) tw_341 (fun _ h => h) rfl (by decide) (by decide) (Nat.le_of_ble_eq_true rfl) d_C_addCorrection_22 ?_
  refine v_view (fun v1 ev1 => ?_)
  have he_4 : v1 3 o = some (.inr (3, [.ref (la 0), .ref (la 1), .ref (la 2), .ref (la 3), .ref (la 4), .ref cw, .long (zl S1 0 0), .int (zi S1 1 0)])) := by rw [ev1]; exact (vv_up_k _ _ _ _ (by decide)).trans hA1
  have he_5 : v1 2 (na1 n1) = some (.inr (2, [.int (nI (n1 + 1)), .ref (ca (zn (zi S1 10 (n1 + 1)) - 1)), .int (zi S1 11 (n1 + 1)), .int (zi S1 12 (n1 + 1)), .long (zl S1 13 (n1 + 1)), .int (zi S1 15 (n1 + 1)), .long (zl S1 14 (n1 + 1)), .int 1, .int (zi S1 17 (n1 + 1)), .int ch, .int msg, .long sent])) := by rw [ev1]; exact vv_up_s _ _ _ _
  refine v_aload C 0 d_C_addCorrection_25 rfl ?_
  refine v_get C k_N he_5 0 (by decide) tw_327 (fun _ h => h) rfl d_C_addCorrection_27 ?_
  exact v_iret C d_C_addCorrection_30 (by first | exact Nat.le_of_ble_eq_true rfl | (show _ ≤ _; omega)) (by first | exact Nat.le_of_ble_eq_true rfl | (show _ ≤ _; omega)) ⟨(by rw [hn1]), _, _, na1, hRC1.noti (S' := zput S (zi S 10 (j0 + 1)) (zi S 11 (j0 + 1)) (zi S 12 (j0 + 1)) t (-1) 1) (j0 := n1) (by omega) (by omega) (by rw [ev1]; exact vkp.rf.up ⟨rfl, rfl⟩) ⟨ch, msg, sent, (by rw [he_5, eS1]; rw [show zi (zput S (zi S 10 (j0 + 1)) (zi S 11 (j0 + 1)) (zi S 12 (j0 + 1)) t (-1) 1) 16 (n1 + 1) = 1 by rw [hn1]; exact zput_16]; rfl), (fun i h1 h2 => by rw [eS1] at hns; exact hns i h1 h2)⟩ (fun i => by rw [eS1]; rfl) (fun f i _ h _ => by rw [eS1]; simp only [zput, zi_ui, zi_ul, zi_uc, if_neg h]) (fun f i h => by rw [eS1, zput_i (Or.inl (by omega)), zput_i (Or.inl (by omega))]) (fun f i _ => by rw [eS1]; rfl) (fun i _ => by rw [eS1]; rfl), (by rw [ev1]; exact hkX1.up (Or.inr (Or.inl rfl)))⟩
set_option maxHeartbeats 4000000 in
set_option maxRecDepth 100000 in
theorem c_C_event (l : Launch) (G : vv_G) (v : vv_V) (o : Nat) (la : Nat → Nat) (cw : Nat) (S : zS) (ra ea ca oa na ia : Nat → Nat) (x it k : Int32) (t : Int64) (hRC : RC G v o la cw S ra ea ca oa na ia) (hB : zB S) (hB4 : zB4 S) (hB4f : zB4f S) (hB6 : zB6 S) (hB7 : zB7 S) : Mv l y_C_event b_C_event 11 (some FieldType.int) 8 197 G v [.ref o, .int x, .int it, .int k, .long t] (fun r v' => r = some (.int (oEvent S x it k t).1) ∧ RCe G v o la cw S oa v' (oEvent S x it k t).2) 4 504 := by
  refine vv_metF (own := "CustomerNotices") (nm := "event") pf_C_event rfl rfl (Nat.le_of_ble_eq_true rfl) ?_
  intro p e s m below meth c C hin
  obtain ⟨hA, ⟨gw, hW, hWj⟩, hLs, hKs, hNs, hIs, hD1, hD2, hD3, hD4⟩ := id hRC
  obtain ⟨n1, hn1⟩ : ∃ z, z = zc S 1 := ⟨_, rfl⟩
  obtain ⟨n2, hn2⟩ : ∃ z, z = zc S 2 := ⟨_, rfl⟩
  obtain ⟨hb0, hb1, hb2, hb22⟩ := id hB
  show vV _ _ _ _ _ _ _ _ _ _ _ _ _ v 0 0 0 [(0, .ref o), (1, .int x), (2, .int it), (3, .int k), (4, .long t)] []
  refine v_aload_n C 0 d_C_event_0 rfl rfl ?_
  refine v_iload_n C 1 d_C_event_1 rfl rfl ?_
  refine v_callV (rest := []) C (c_C_findCustomer l G v o la cw S ra ea ca oa na ia x hRC (by omega)) tw_214 tw_30 tw_211 tw_213 tw_3 mn_C_findCustomer hA k_C.1 ⟨Nat.le_of_ble_eq_true rfl, Nat.le_of_ble_eq_true rfl⟩ rfl rfl (Nat.le_of_ble_eq_true rfl) d_C_event_2 ⟨(by first | exact Nat.le_of_ble_eq_true rfl | (dsimp only; omega)), (by first | exact Nat.le_of_ble_eq_true rfl | (dsimp only; omega))⟩ (fun r_1 v_2 hp_3 => ?_)
  rcases hp_3 with ⟨rfl, hv9, hno⟩ | ⟨j, rfl, hv9, hj, hxj⟩
  · obtain rfl := hv9.symm
    show vV _ _ _ _ _ _ _ _ _ _ _ _ _ v 0 0 5 [(0, .ref o), (1, .int x), (2, .int it), (3, .int k), (4, .long t)] [.null]
    refine v_astoreN (lv' := [(6, .null), (0, .ref o), (1, .int x), (2, .int it), (3, .int k), (4, .long t)]) C d_C_event_5 (by decide) rfl ?_
    refine v_aloadN C 0 d_C_event_7 rfl ?_
    refine v_ifnonnullN C d_C_event_9 ?_
    refine v_bipush (x := -11) C d_C_event_12 (by decide) ?_
    exact v_iret C d_C_event_14 (by first | exact Nat.le_of_ble_eq_true rfl | (show _ ≤ _; omega)) (by first | exact Nat.le_of_ble_eq_true rfl | (show _ ≤ _; omega)) ⟨(by  rw [oEvent, if_neg hno] <;> (try rfl)), (by  rw [oEvent, if_neg hno]; exact RCe.rf hRC)⟩
  · obtain rfl := hv9.symm
    subst hxj
    show vV _ _ _ _ _ _ _ _ _ _ _ _ _ v 0 0 5 [(0, .ref o), (1, .int (nI (j + 1))), (2, .int it), (3, .int k), (4, .long t)] [.ref (ca j)]
    obtain ⟨⟨lw, mt0, hk0⟩, g, hg0, hgv⟩ := hKs j (by omega)
    have hx0 : zIn (nI (j + 1)) 1 (zc S 0) := zIn_of (a := 1) (by omega) (by omega) (by omega)
    have hxn : zn (nI (j + 1)) = j + 1 := zn_nI (by omega)
    refine v_astore (lv' := [(6, .ref (ca j)), (0, .ref o), (1, .int (nI (j + 1))), (2, .int it), (3, .int k), (4, .long t)]) C d_C_event_5 (by decide) rfl ?_
    refine v_aload C 0 d_C_event_7 rfl ?_
    refine v_ifnonnull C 15 d_C_event_9 (by decide) ?_
    refine v_iload_n C 3 d_C_event_15 rfl rfl ?_
    refine v_callS (rest := []) C (c_C_isItemNumber l G v it) tw_268 tw_30 tw_266 tw_267 mn_C_isItemNumber ⟨Nat.le_of_ble_eq_true rfl, Nat.le_of_ble_eq_true rfl⟩ rfl rfl (Nat.le_of_ble_eq_true rfl) d_C_event_16 ⟨(by first | exact Nat.le_of_ble_eq_true rfl | (dsimp only; omega)), (by first | exact Nat.le_of_ble_eq_true rfl | (dsimp only; omega))⟩ (fun r_4 v_5 hp_6 => ?_)
    rcases hp_6 with ⟨rfl, hv9, hb_16⟩ | ⟨rfl, hv9, hb_16⟩
    · obtain rfl := hv9.symm
      show vV _ _ _ _ _ _ _ _ _ _ _ _ _ v 0 0 19 [(6, .ref (ca j)), (0, .ref o), (1, .int (nI (j + 1))), (2, .int it), (3, .int k), (4, .long t)] [.int 1]
      refine v_if_eq C 38 d_C_event_19 (by decide) (fun z => absurd z (by decide)) (fun _ => ?_)
      refine v_iload_n C 4 d_C_event_22 rfl rfl ?_
      refine v_callS (rest := []) C (c_C_isKind l G v k) tw_231 tw_30 tw_229 tw_230 mn_C_isKind ⟨Nat.le_of_ble_eq_true rfl, Nat.le_of_ble_eq_true rfl⟩ rfl rfl (Nat.le_of_ble_eq_true rfl) d_C_event_23 ⟨(by first | exact Nat.le_of_ble_eq_true rfl | (dsimp only; omega)), (by first | exact Nat.le_of_ble_eq_true rfl | (dsimp only; omega))⟩ (fun r_7 v_8 hp_9 => ?_)
      rcases hp_9 with ⟨rfl, hv9, hb_23⟩ | ⟨rfl, hv9, hb_23⟩
      · obtain rfl := hv9.symm
        show vV _ _ _ _ _ _ _ _ _ _ _ _ _ v 0 0 26 [(6, .ref (ca j)), (0, .ref o), (1, .int (nI (j + 1))), (2, .int it), (3, .int k), (4, .long t)] [.int 1]
        refine v_if_eq C 38 d_C_event_26 (by decide) (fun z => absurd z (by decide)) (fun _ => ?_)
        refine v_aload_n C 1 d_C_event_29 rfl rfl ?_
        refine v_lload C 5 d_C_event_30 rfl ?_
        refine v_callV (rest := []) C (c_C_isTimeFromNow l G v o la cw S ra ea ca oa na ia t hRC) tw_273 tw_30 tw_270 tw_272 tw_5 mn_C_isTimeFromNow hA k_C.1 ⟨Nat.le_of_ble_eq_true rfl, Nat.le_of_ble_eq_true rfl⟩ rfl rfl (Nat.le_of_ble_eq_true rfl) d_C_event_32 ⟨(by first | exact Nat.le_of_ble_eq_true rfl | (dsimp only; omega)), (by first | exact Nat.le_of_ble_eq_true rfl | (dsimp only; omega))⟩ (fun r_10 v_11 hp_12 => ?_)
        rcases hp_12 with ⟨rfl, hv9, hb_32⟩ | ⟨rfl, hv9, hb_32⟩
        · obtain rfl := hv9.symm
          show vV _ _ _ _ _ _ _ _ _ _ _ _ _ v 0 0 35 [(6, .ref (ca j)), (0, .ref o), (1, .int (nI (j + 1))), (2, .int it), (3, .int k), (4, .long t)] [.int 1]
          refine v_if_ne C 41 d_C_event_35 (by decide) (fun _ => ?_) (fun z => absurd z (by decide))
          have hz : zIn it 1 9999 ∧ zIn k 0 7 ∧ zTm S t := ⟨hb_16, hb_23, hb_32⟩
          obtain ⟨kd, rfl, hkd1, hkd2, hkd3⟩ := zIn_nI (a := 0) (b := 7) hz.2.1
          have hkw := kwn_le g (kd * 4) 4
          have hkz := kwn_zwn (S := S) (g := g) (b := kd * 4) (B := 32 * (j + 1) + 4 * kd) hB7 4 (fun i hi => by rw [hgv (kd * 4 + i) (by omega)]; congr 2; omega)
          refine v_aload_n C 1 d_C_event_41 rfl rfl ?_
          refine v_iload_n C 2 d_C_event_42 rfl rfl ?_
          refine v_iload_n C 3 d_C_event_43 rfl rfl ?_
          refine v_callV (rest := []) C (c_C_findItem l G v o la cw S ra ea ca oa na ia (nI (j + 1)) it hRC (by omega) hB6) tw_278 tw_30 tw_275 tw_277 tw_6 mn_C_findItem hA k_C.1 ⟨Nat.le_of_ble_eq_true rfl, Nat.le_of_ble_eq_true rfl⟩ rfl rfl (Nat.le_of_ble_eq_true rfl) d_C_event_44 ⟨(by first | exact Nat.le_of_ble_eq_true rfl | (dsimp only; omega)), (by first | exact Nat.le_of_ble_eq_true rfl | (dsimp only; omega))⟩ (fun r_13 v_14 hp_15 => ?_)
          rcases hp_15 with ⟨rfl, hv9, hpf⟩ | ⟨ki, rfl, hv9, hpf⟩
          · obtain rfl := hv9.symm
            show vV _ _ _ _ _ _ _ _ _ _ _ _ _ v 0 0 47 [(6, .ref (ca j)), (0, .ref o), (1, .int (nI (j + 1))), (2, .int it), (3, .int (nI kd)), (4, .long t)] [.null]
            refine v_astoreN (lv' := [(7, .null), (6, .ref (ca j)), (0, .ref o), (1, .int (nI (j + 1))), (2, .int it), (3, .int (nI kd)), (4, .long t)]) C d_C_event_47 (by decide) rfl ?_
            refine v_aloadN C 0 d_C_event_49 rfl ?_
            refine v_ifnullN C 64 d_C_event_51 (by decide) ?_
            have hze : zended S (nI (j + 1)) it = 0 := by unfold zended; rw [hpf]
            have hop : oEvent S (nI (j + 1)) it (nI kd) t = (if (0 < kwn g (kd * 4) 4 ∧ zc S 1 = 200) ∨ (zE (nI kd) ∧ zpf S (nI (j + 1)) it (zc S 2) = none ∧ zc S 2 = 60) then (-14, S) else (if 0 < kwn g (kd * 4) 4 then (nI (zc S 1 + 1), zput (zendS S (nI (j + 1)) it (nI kd)) (nI (j + 1)) it (nI kd) t (-1) 0) else (0, zendS S (nI (j + 1)) it (nI kd)))) := by rw [oEvent, if_pos hx0, if_pos hz, if_pos hze, hxn, zn_nI hkd3, hkz]
            refine v_aload C 1 d_C_event_64 rfl ?_
            refine v_iload_n C 5 d_C_event_66 rfl rfl ?_
            refine v_callV (rest := []) C (c_K_countWishes l G v (ca j) (nI (j + 1)) (zi S 4 (j + 1)) (zi S 5 (j + 1)) (zi S 6 (j + 1)) (zi S 7 (j + 1)) lw mt0 (oa j) g kd hk0 hg0 (by omega)) tw_246 tw_35 tw_243 tw_244 tw_245 mn_K_countWishes hk0 k_K.1 ⟨Nat.le_of_ble_eq_true rfl, Nat.le_of_ble_eq_true rfl⟩ rfl rfl (Nat.le_of_ble_eq_true rfl) d_C_event_67 ⟨(by first | exact Nat.le_of_ble_eq_true rfl | (dsimp only; omega)), (by first | exact Nat.le_of_ble_eq_true rfl | (dsimp only; omega))⟩ (fun r_16 v_17 hp_18 => ?_)
            obtain ⟨rfl, hv9⟩ := hp_18
            obtain rfl := hv9.symm
            show vV _ _ _ _ _ _ _ _ _ _ _ _ _ v 0 0 70 [(7, .null), (6, .ref (ca j)), (0, .ref o), (1, .int (nI (j + 1))), (2, .int it), (3, .int (nI kd)), (4, .long t)] [.int (nI (kwn g (kd * 4) 4))]
            refine v_if_le C 77 d_C_event_70 (by decide) (fun c_70 => ?_) (fun c_70 => ?_)
            · have n_70 : (kwn g (kd * 4) 4) ≤ 0 := (nI_leI (a := (kwn g (kd * 4) 4)) (b := 0) (by omega) (by omega)).mp c_70
              refine v_iconst (x := 0) C d_C_event_77 (by decide) ?_
              refine v_istore (lv' := [(8, .int 0), (7, .null), (6, .ref (ca j)), (0, .ref o), (1, .int (nI (j + 1))), (2, .int it), (3, .int (nI kd)), (4, .long t)]) C d_C_event_78 (by decide) rfl ?_
              refine v_iload_n C 6 d_C_event_80 rfl rfl ?_
              refine v_callS (rest := []) C (c_C_isEnd l G v (nI kd)) tw_282 tw_30 tw_280 tw_281 mn_C_isEnd ⟨Nat.le_of_ble_eq_true rfl, Nat.le_of_ble_eq_true rfl⟩ rfl rfl (Nat.le_of_ble_eq_true rfl) d_C_event_81 ⟨(by first | exact Nat.le_of_ble_eq_true rfl | (dsimp only; omega)), (by first | exact Nat.le_of_ble_eq_true rfl | (dsimp only; omega))⟩ (fun r_19 v_20 hp_21 => ?_)
              rcases hp_21 with ⟨rfl, hv9, hb_81⟩ | ⟨rfl, hv9, hb_81⟩
              · obtain rfl := hv9.symm
                show vV _ _ _ _ _ _ _ _ _ _ _ _ _ v 0 0 84 [(8, .int 0), (7, .null), (6, .ref (ca j)), (0, .ref o), (1, .int (nI (j + 1))), (2, .int it), (3, .int (nI kd)), (4, .long t)] [.int 1]
                refine v_if_eq C 96 d_C_event_84 (by decide) (fun z => absurd z (by decide)) (fun _ => ?_)
                refine v_aloadN C 1 d_C_event_87 rfl ?_
                refine v_ifnonnullN C d_C_event_89 ?_
                refine v_iconst (x := 1) C d_C_event_92 (by decide) ?_
                refine v_goto C 97 d_C_event_93 (by decide) ?_
                refine v_istore (lv' := [(9, .int 1), (8, .int 0), (7, .null), (6, .ref (ca j)), (0, .ref o), (1, .int (nI (j + 1))), (2, .int it), (3, .int (nI kd)), (4, .long t)]) C d_C_event_97 (by decide) rfl ?_
                refine v_iload C 1 d_C_event_99 rfl ?_
                refine v_if_eq C 111 d_C_event_101 (by decide) (fun _ => ?_) (fun z => absurd (by decide) z)
                refine v_iload C 0 d_C_event_111 rfl ?_
                refine v_if_eq C 126 d_C_event_113 (by decide) (fun z => absurd z (by decide)) (fun _ => ?_)
                refine v_aload_n C 4 d_C_event_116 rfl rfl ?_
                refine v_callV (rest := []) C (c_C_itemsAreFull l G v o la cw S ra ea ca oa na ia hRC (by omega)) tw_290 tw_30 tw_287 tw_289 tw_8 mn_C_itemsAreFull hA k_C.1 ⟨Nat.le_of_ble_eq_true rfl, Nat.le_of_ble_eq_true rfl⟩ rfl rfl (Nat.le_of_ble_eq_true rfl) d_C_event_117 ⟨(by first | exact Nat.le_of_ble_eq_true rfl | (dsimp only; omega)), (by first | exact Nat.le_of_ble_eq_true rfl | (dsimp only; omega))⟩ (fun r_22 v_23 hp_24 => ?_)
                rcases hp_24 with ⟨rfl, hv9, hb_117⟩ | ⟨rfl, hv9, hb_117⟩
                · obtain rfl := hv9.symm
                  show vV _ _ _ _ _ _ _ _ _ _ _ _ _ v 0 0 120 [(9, .int 1), (8, .int 0), (7, .null), (6, .ref (ca j)), (0, .ref o), (1, .int (nI (j + 1))), (2, .int it), (3, .int (nI kd)), (4, .long t)] [.int 1]
                  refine v_if_eq C 126 d_C_event_120 (by decide) (fun z => absurd z (by decide)) (fun _ => ?_)
                  refine v_bipush (x := -14) C d_C_event_123 (by decide) ?_
                  exact v_iret C d_C_event_125 (by first | exact Nat.le_of_ble_eq_true rfl | (show _ ≤ _; omega)) (by first | exact Nat.le_of_ble_eq_true rfl | (show _ ≤ _; omega)) ⟨(by rw [hop, if_pos (Or.inr ⟨hb_81, hpf, by omega⟩)]), (by rw [hop, if_pos (Or.inr ⟨hb_81, hpf, by omega⟩)]; exact RCe.rf hRC)⟩
                · obtain rfl := hv9.symm
                  show vV _ _ _ _ _ _ _ _ _ _ _ _ _ v 0 0 120 [(9, .int 1), (8, .int 0), (7, .null), (6, .ref (ca j)), (0, .ref o), (1, .int (nI (j + 1))), (2, .int it), (3, .int (nI kd)), (4, .long t)] [.int 0]
                  refine v_if_eq C 126 d_C_event_120 (by decide) (fun _ => ?_) (fun z => absurd (by decide) z)
                  refine v_iload_n C 7 d_C_event_126 rfl rfl ?_
                  refine v_callS (rest := []) C (c_C_isEnd l G v (nI kd)) tw_282 tw_30 tw_280 tw_281 mn_C_isEnd ⟨Nat.le_of_ble_eq_true rfl, Nat.le_of_ble_eq_true rfl⟩ rfl rfl (Nat.le_of_ble_eq_true rfl) d_C_event_127 ⟨(by first | exact Nat.le_of_ble_eq_true rfl | (dsimp only; omega)), (by first | exact Nat.le_of_ble_eq_true rfl | (dsimp only; omega))⟩ (fun r_25 v_26 hp_27 => ?_)
                  rcases hp_27 with ⟨rfl, hv9, hy9⟩ | ⟨rfl, hv9, hy9⟩
                  rotate_left
                  · exact absurd hb_81 hy9
                  obtain rfl := hv9.symm
                  show vV _ _ _ _ _ _ _ _ _ _ _ _ _ v 0 0 130 [(9, .int 1), (8, .int 0), (7, .null), (6, .ref (ca j)), (0, .ref o), (1, .int (nI (j + 1))), (2, .int it), (3, .int (nI kd)), (4, .long t)] [.int 1]
                  refine v_if_eq C 157 d_C_event_130 (by decide) (fun z => absurd z (by decide)) (fun _ => ?_)
                  refine v_aloadN C 2 d_C_event_133 rfl ?_
                  refine v_ifnonnullN C d_C_event_135 ?_
                  refine v_aload_n C 4 d_C_event_138 rfl rfl ?_
                  refine v_iload_n C 5 d_C_event_139 rfl rfl ?_
                  refine v_iload_n C 6 d_C_event_140 rfl rfl ?_
                  refine v_callV (rest := []) C (c_C_addItem l G v o la cw S ra ea ca oa na ia (nI (j + 1)) it hRC (by omega)) tw_294 tw_30 tw_291 tw_293 tw_9 mn_C_addItem hA k_C.1 ⟨Nat.le_of_ble_eq_true rfl, Nat.le_of_ble_eq_true rfl⟩ rfl rfl (Nat.le_of_ble_eq_true rfl) d_C_event_141 ⟨(by first | exact Nat.le_of_ble_eq_true rfl | (dsimp only; omega)), (by first | exact Nat.le_of_ble_eq_true rfl | (dsimp only; omega))⟩ (fun r_28 v_29 hp_30 => ?_)
                  refine v_cs (kc' := 2) (ks' := 248) rfl rfl ?_
                  obtain ⟨ra3, ea3, ia3, rfl, hRC3, hia3, hkX3⟩ := hp_30
                  obtain ⟨S3, eS3⟩ : ∃ z, z = zadI S (nI (j + 1)) it := ⟨_, rfl⟩
                  rw [← eS3] at hRC3
                  have hc3 : zc S3 2 = zc S 2 + 1 ∧ zc S3 0 = zc S 0 ∧ zc S3 1 = zc S 1 := by rw [eS3]; exact ⟨rfl, rfl, rfl⟩
                  refine v_tov (y := .ref (ia3 n2)) (by rw [hn2]) ?_
                  obtain ⟨hA3, ⟨gw3, hW3, hWj3⟩, hLs3, hKs3, hNs3, hIs3, hD13, hD23, hD33, hD43⟩ := id hRC3
                  have hi0 : v_29 1 (ia3 n2) = some (vi _ _ _ _) := hIs3 n2 (by omega)
                  show vV _ _ _ _ _ _ _ _ _ _ _ _ _ v_29 2 248 144 [(9, .int 1), (8, .int 0), (7, .null), (6, .ref (ca j)), (0, .ref o), (1, .int (nI (j + 1))), (2, .int it), (3, .int (nI kd)), (4, .long t)] [.ref (ia3 n2)]
                  refine v_goto C 149 d_C_event_144 (by decide) ?_
                  refine v_astore (lv' := [(10, .ref (ia3 n2)), (9, .int 1), (8, .int 0), (7, .null), (6, .ref (ca j)), (0, .ref o), (1, .int (nI (j + 1))), (2, .int it), (3, .int (nI kd)), (4, .long t)]) C d_C_event_149 (by decide) rfl ?_
                  refine v_aload C 0 d_C_event_151 rfl ?_
                  refine v_iconst (x := 1) C d_C_event_153 (by decide) ?_
                  refine v_put C k_I hi0 2 (by decide) tw_304 (fun _ h => h) rfl (by decide) (by decide) (Nat.le_of_ble_eq_true rfl) d_C_event_154 ?_
                  refine v_view (fun v1 ev1 => ?_)
                  have he_31 : v1 3 o = some (.inr (3, [.ref (la 0), .ref (la 1), .ref (la 2), .ref (la 3), .ref (la 4), .ref cw, .long (zl S3 0 0), .int (zi S3 1 0)])) := by rw [ev1]; exact (vv_up_k _ _ _ _ (by decide)).trans hA3
                  have he_32 : v1 1 (ia3 n2) = some (.inr (1, [.int (zi S3 19 n2), .int (zi S3 20 n2), .int 1, va_rf (zlp na (zi S3 22 n2))])) := by rw [ev1]; exact vv_up_s _ _ _ _
                  obtain ⟨S4, eS4⟩ : ∃ z, z = zui S3 21 n2 1 := ⟨_, rfl⟩
                  have hRC4 := hRC3.itm (k0 := n2) (S' := zui S3 21 n2 1) (v' := v1) (by omega) (by rw [ev1]; exact vkp.rf.up ⟨rfl, rfl⟩) (by unfold RCi; rw [he_32, zi_ui, if_neg (by decide), zi_ui, if_neg (by decide), zi_ui, if_pos rfl, if_pos rfl, zi_ui, if_neg (by decide)]) (fun _ => rfl) (fun f i h1 _ => by rw [zi_ui, if_neg h1]) (fun k h => ⟨by rw [zi_ui, if_pos rfl, if_neg h], by rw [zi_ui, if_neg (by decide)]⟩) (fun _ _ => rfl)
                  rw [← eS4] at hRC4
                  have hkX4 : vkp cX v v1 := by rw [ev1]; exact (hkX3).up (Or.inl rfl)
                  have hc14 : zc S4 1 = zc S 1 := by rw [eS4, eS3]; rfl
                  have hc04 : zc S4 0 = zc S 0 := by rw [eS4, eS3]; rfl
                  have hBz : zB S4 := by rw [eS4]; exact zB.k (S := S3) (by rw [eS3]; exact hB.adI (by omega)) rfl rfl rfl (fun j => by rw [zi_ui, if_neg (by decide)])
                  have hB4z : zB4 S4 := hB4.k hc14 (by rw [eS4, eS3]; rfl) (fun j => by rw [eS4, zi_ui, if_neg (by decide), eS3, zadI_i (Or.inr (by decide))])
                  have hB4fz : zB4f S4 := hB4f.k hc14 (by rw [eS4, eS3]; rfl) (fun j => by rw [eS4, zi_ui, if_neg (by decide), eS3, zadI_i (Or.inr (by decide))])
                  obtain ⟨hA4, ⟨gw4, hW4, hWj4⟩, hLs4, hKs4, hNs4, hIs4, hD14, hD24, hD34, hD44⟩ := id hRC4
                  refine v_iload C 2 d_C_event_157 rfl ?_
                  refine v_if_eq C 178 d_C_event_159 (by decide) (fun _ => ?_) (fun z => absurd (by decide) z)
                  refine v_iconst (x := 0) C d_C_event_178 (by decide) ?_
                  exact v_iret C d_C_event_179 (by first | exact Nat.le_of_ble_eq_true rfl | (show _ ≤ _; omega)) (by first | exact Nat.le_of_ble_eq_true rfl | (show _ ≤ _; omega)) ⟨(by rw [hop, if_neg (show ¬ ((0 < kwn g (kd * 4) 4 ∧ zc S 1 = 200) ∨ (zE (nI kd) ∧ zpf S (nI (j + 1)) it (zc S 2) = none ∧ zc S 2 = 60)) by rintro (⟨z1, z2⟩ | ⟨z1, z2, z3⟩) <;> first | omega | exact absurd z1 hb_81 | (rw [hpf] at z2; cases z2)), if_neg (show ¬ 0 < kwn g (kd * 4) 4 by omega)]), (by rw [hop, if_neg (show ¬ ((0 < kwn g (kd * 4) 4 ∧ zc S 1 = 200) ∨ (zE (nI kd) ∧ zpf S (nI (j + 1)) it (zc S 2) = none ∧ zc S 2 = 60)) by rintro (⟨z1, z2⟩ | ⟨z1, z2, z3⟩) <;> first | omega | exact absurd z1 hb_81 | (rw [hpf] at z2; cases z2)), if_neg (show ¬ 0 < kwn g (kd * 4) 4 by omega)]; dsimp only; rw [zendS, if_pos hb_81, zkeep_n hpf, zkix_n hpf, ← hn2, ← eS3, ← eS4]; exact RCe.mk hRC4 (hkX4.mono cX_Y) hc04)⟩
              · obtain rfl := hv9.symm
                show vV _ _ _ _ _ _ _ _ _ _ _ _ _ v 0 0 84 [(8, .int 0), (7, .null), (6, .ref (ca j)), (0, .ref o), (1, .int (nI (j + 1))), (2, .int it), (3, .int (nI kd)), (4, .long t)] [.int 0]
                refine v_if_eq C 96 d_C_event_84 (by decide) (fun _ => ?_) (fun z => absurd (by decide) z)
                refine v_iconst (x := 0) C d_C_event_96 (by decide) ?_
                refine v_istore (lv' := [(9, .int 0), (8, .int 0), (7, .null), (6, .ref (ca j)), (0, .ref o), (1, .int (nI (j + 1))), (2, .int it), (3, .int (nI kd)), (4, .long t)]) C d_C_event_97 (by decide) rfl ?_
                refine v_iload C 1 d_C_event_99 rfl ?_
                refine v_if_eq C 111 d_C_event_101 (by decide) (fun _ => ?_) (fun z => absurd (by decide) z)
                refine v_iload C 0 d_C_event_111 rfl ?_
                refine v_if_eq C 126 d_C_event_113 (by decide) (fun _ => ?_) (fun z => absurd (by decide) z)
                refine v_iload_n C 7 d_C_event_126 rfl rfl ?_
                refine v_callS (rest := []) C (c_C_isEnd l G v (nI kd)) tw_282 tw_30 tw_280 tw_281 mn_C_isEnd ⟨Nat.le_of_ble_eq_true rfl, Nat.le_of_ble_eq_true rfl⟩ rfl rfl (Nat.le_of_ble_eq_true rfl) d_C_event_127 ⟨(by first | exact Nat.le_of_ble_eq_true rfl | (dsimp only; omega)), (by first | exact Nat.le_of_ble_eq_true rfl | (dsimp only; omega))⟩ (fun r_33 v_34 hp_35 => ?_)
                rcases hp_35 with ⟨rfl, hv9, hy9⟩ | ⟨rfl, hv9, hy9⟩
                · exact absurd hy9 hb_81
                obtain rfl := hv9.symm
                show vV _ _ _ _ _ _ _ _ _ _ _ _ _ v 0 0 130 [(9, .int 0), (8, .int 0), (7, .null), (6, .ref (ca j)), (0, .ref o), (1, .int (nI (j + 1))), (2, .int it), (3, .int (nI kd)), (4, .long t)] [.int 0]
                refine v_if_eq C 157 d_C_event_130 (by decide) (fun _ => ?_) (fun z => absurd (by decide) z)
                refine v_iload C 1 d_C_event_157 rfl ?_
                refine v_if_eq C 178 d_C_event_159 (by decide) (fun _ => ?_) (fun z => absurd (by decide) z)
                refine v_iconst (x := 0) C d_C_event_178 (by decide) ?_
                exact v_iret C d_C_event_179 (by first | exact Nat.le_of_ble_eq_true rfl | (show _ ≤ _; omega)) (by first | exact Nat.le_of_ble_eq_true rfl | (show _ ≤ _; omega)) ⟨(by rw [hop, if_neg (show ¬ ((0 < kwn g (kd * 4) 4 ∧ zc S 1 = 200) ∨ (zE (nI kd) ∧ zpf S (nI (j + 1)) it (zc S 2) = none ∧ zc S 2 = 60)) by rintro (⟨z1, z2⟩ | ⟨z1, z2, z3⟩) <;> first | omega | exact absurd z1 hb_81 | (rw [hpf] at z2; cases z2)), if_neg (show ¬ 0 < kwn g (kd * 4) 4 by omega)]), (by rw [hop, if_neg (show ¬ ((0 < kwn g (kd * 4) 4 ∧ zc S 1 = 200) ∨ (zE (nI kd) ∧ zpf S (nI (j + 1)) it (zc S 2) = none ∧ zc S 2 = 60)) by rintro (⟨z1, z2⟩ | ⟨z1, z2, z3⟩) <;> first | omega | exact absurd z1 hb_81 | (rw [hpf] at z2; cases z2)), if_neg (show ¬ 0 < kwn g (kd * 4) 4 by omega)]; dsimp only; rw [zendS, if_neg hb_81]; exact RCe.rf hRC)⟩
            · have n_70 : ¬ (kwn g (kd * 4) 4) ≤ 0 := mt (nI_leI (a := (kwn g (kd * 4) 4)) (b := 0) (by omega) (by omega)).mpr c_70
              refine v_iconst (x := 1) C d_C_event_73 (by decide) ?_
              refine v_goto C 78 d_C_event_74 (by decide) ?_
              refine v_istore (lv' := [(8, .int 1), (7, .null), (6, .ref (ca j)), (0, .ref o), (1, .int (nI (j + 1))), (2, .int it), (3, .int (nI kd)), (4, .long t)]) C d_C_event_78 (by decide) rfl ?_
              refine v_iload_n C 6 d_C_event_80 rfl rfl ?_
              refine v_callS (rest := []) C (c_C_isEnd l G v (nI kd)) tw_282 tw_30 tw_280 tw_281 mn_C_isEnd ⟨Nat.le_of_ble_eq_true rfl, Nat.le_of_ble_eq_true rfl⟩ rfl rfl (Nat.le_of_ble_eq_true rfl) d_C_event_81 ⟨(by first | exact Nat.le_of_ble_eq_true rfl | (dsimp only; omega)), (by first | exact Nat.le_of_ble_eq_true rfl | (dsimp only; omega))⟩ (fun r_36 v_37 hp_38 => ?_)
              rcases hp_38 with ⟨rfl, hv9, hb_81⟩ | ⟨rfl, hv9, hb_81⟩
              · obtain rfl := hv9.symm
                show vV _ _ _ _ _ _ _ _ _ _ _ _ _ v 0 0 84 [(8, .int 1), (7, .null), (6, .ref (ca j)), (0, .ref o), (1, .int (nI (j + 1))), (2, .int it), (3, .int (nI kd)), (4, .long t)] [.int 1]
                refine v_if_eq C 96 d_C_event_84 (by decide) (fun z => absurd z (by decide)) (fun _ => ?_)
                refine v_aloadN C 1 d_C_event_87 rfl ?_
                refine v_ifnonnullN C d_C_event_89 ?_
                refine v_iconst (x := 1) C d_C_event_92 (by decide) ?_
                refine v_goto C 97 d_C_event_93 (by decide) ?_
                refine v_istore (lv' := [(9, .int 1), (8, .int 1), (7, .null), (6, .ref (ca j)), (0, .ref o), (1, .int (nI (j + 1))), (2, .int it), (3, .int (nI kd)), (4, .long t)]) C d_C_event_97 (by decide) rfl ?_
                refine v_iload C 1 d_C_event_99 rfl ?_
                refine v_if_eq C 111 d_C_event_101 (by decide) (fun z => absurd z (by decide)) (fun _ => ?_)
                refine v_aload_n C 4 d_C_event_104 rfl rfl ?_
                refine v_callV (rest := []) C (c_C_noticesAreFull l G v o la cw S ra ea ca oa na ia hRC (by omega)) tw_286 tw_30 tw_283 tw_285 tw_7 mn_C_noticesAreFull hA k_C.1 ⟨Nat.le_of_ble_eq_true rfl, Nat.le_of_ble_eq_true rfl⟩ rfl rfl (Nat.le_of_ble_eq_true rfl) d_C_event_105 ⟨(by first | exact Nat.le_of_ble_eq_true rfl | (dsimp only; omega)), (by first | exact Nat.le_of_ble_eq_true rfl | (dsimp only; omega))⟩ (fun r_39 v_40 hp_41 => ?_)
                rcases hp_41 with ⟨rfl, hv9, hb_105⟩ | ⟨rfl, hv9, hb_105⟩
                · obtain rfl := hv9.symm
                  show vV _ _ _ _ _ _ _ _ _ _ _ _ _ v 0 0 108 [(9, .int 1), (8, .int 1), (7, .null), (6, .ref (ca j)), (0, .ref o), (1, .int (nI (j + 1))), (2, .int it), (3, .int (nI kd)), (4, .long t)] [.int 1]
                  refine v_if_ne C 123 d_C_event_108 (by decide) (fun _ => ?_) (fun z => absurd z (by decide))
                  refine v_bipush (x := -14) C d_C_event_123 (by decide) ?_
                  exact v_iret C d_C_event_125 (by first | exact Nat.le_of_ble_eq_true rfl | (show _ ≤ _; omega)) (by first | exact Nat.le_of_ble_eq_true rfl | (show _ ≤ _; omega)) ⟨(by rw [hop, if_pos (Or.inl ⟨by omega, by omega⟩)]), (by rw [hop, if_pos (Or.inl ⟨by omega, by omega⟩)]; exact RCe.rf hRC)⟩
                · obtain rfl := hv9.symm
                  show vV _ _ _ _ _ _ _ _ _ _ _ _ _ v 0 0 108 [(9, .int 1), (8, .int 1), (7, .null), (6, .ref (ca j)), (0, .ref o), (1, .int (nI (j + 1))), (2, .int it), (3, .int (nI kd)), (4, .long t)] [.int 0]
                  refine v_if_ne C 123 d_C_event_108 (by decide) (fun z => absurd (by decide) z) (fun _ => ?_)
                  refine v_iload C 0 d_C_event_111 rfl ?_
                  refine v_if_eq C 126 d_C_event_113 (by decide) (fun z => absurd z (by decide)) (fun _ => ?_)
                  refine v_aload_n C 4 d_C_event_116 rfl rfl ?_
                  refine v_callV (rest := []) C (c_C_itemsAreFull l G v o la cw S ra ea ca oa na ia hRC (by omega)) tw_290 tw_30 tw_287 tw_289 tw_8 mn_C_itemsAreFull hA k_C.1 ⟨Nat.le_of_ble_eq_true rfl, Nat.le_of_ble_eq_true rfl⟩ rfl rfl (Nat.le_of_ble_eq_true rfl) d_C_event_117 ⟨(by first | exact Nat.le_of_ble_eq_true rfl | (dsimp only; omega)), (by first | exact Nat.le_of_ble_eq_true rfl | (dsimp only; omega))⟩ (fun r_42 v_43 hp_44 => ?_)
                  rcases hp_44 with ⟨rfl, hv9, hb_117⟩ | ⟨rfl, hv9, hb_117⟩
                  · obtain rfl := hv9.symm
                    show vV _ _ _ _ _ _ _ _ _ _ _ _ _ v 0 0 120 [(9, .int 1), (8, .int 1), (7, .null), (6, .ref (ca j)), (0, .ref o), (1, .int (nI (j + 1))), (2, .int it), (3, .int (nI kd)), (4, .long t)] [.int 1]
                    refine v_if_eq C 126 d_C_event_120 (by decide) (fun z => absurd z (by decide)) (fun _ => ?_)
                    refine v_bipush (x := -14) C d_C_event_123 (by decide) ?_
                    exact v_iret C d_C_event_125 (by first | exact Nat.le_of_ble_eq_true rfl | (show _ ≤ _; omega)) (by first | exact Nat.le_of_ble_eq_true rfl | (show _ ≤ _; omega)) ⟨(by rw [hop, if_pos (Or.inr ⟨hb_81, hpf, by omega⟩)]), (by rw [hop, if_pos (Or.inr ⟨hb_81, hpf, by omega⟩)]; exact RCe.rf hRC)⟩
                  · obtain rfl := hv9.symm
                    show vV _ _ _ _ _ _ _ _ _ _ _ _ _ v 0 0 120 [(9, .int 1), (8, .int 1), (7, .null), (6, .ref (ca j)), (0, .ref o), (1, .int (nI (j + 1))), (2, .int it), (3, .int (nI kd)), (4, .long t)] [.int 0]
                    refine v_if_eq C 126 d_C_event_120 (by decide) (fun _ => ?_) (fun z => absurd (by decide) z)
                    refine v_iload_n C 7 d_C_event_126 rfl rfl ?_
                    refine v_callS (rest := []) C (c_C_isEnd l G v (nI kd)) tw_282 tw_30 tw_280 tw_281 mn_C_isEnd ⟨Nat.le_of_ble_eq_true rfl, Nat.le_of_ble_eq_true rfl⟩ rfl rfl (Nat.le_of_ble_eq_true rfl) d_C_event_127 ⟨(by first | exact Nat.le_of_ble_eq_true rfl | (dsimp only; omega)), (by first | exact Nat.le_of_ble_eq_true rfl | (dsimp only; omega))⟩ (fun r_45 v_46 hp_47 => ?_)
                    rcases hp_47 with ⟨rfl, hv9, hy9⟩ | ⟨rfl, hv9, hy9⟩
                    rotate_left
                    · exact absurd hb_81 hy9
                    obtain rfl := hv9.symm
                    show vV _ _ _ _ _ _ _ _ _ _ _ _ _ v 0 0 130 [(9, .int 1), (8, .int 1), (7, .null), (6, .ref (ca j)), (0, .ref o), (1, .int (nI (j + 1))), (2, .int it), (3, .int (nI kd)), (4, .long t)] [.int 1]
                    refine v_if_eq C 157 d_C_event_130 (by decide) (fun z => absurd z (by decide)) (fun _ => ?_)
                    refine v_aloadN C 2 d_C_event_133 rfl ?_
                    refine v_ifnonnullN C d_C_event_135 ?_
                    refine v_aload_n C 4 d_C_event_138 rfl rfl ?_
                    refine v_iload_n C 5 d_C_event_139 rfl rfl ?_
                    refine v_iload_n C 6 d_C_event_140 rfl rfl ?_
                    refine v_callV (rest := []) C (c_C_addItem l G v o la cw S ra ea ca oa na ia (nI (j + 1)) it hRC (by omega)) tw_294 tw_30 tw_291 tw_293 tw_9 mn_C_addItem hA k_C.1 ⟨Nat.le_of_ble_eq_true rfl, Nat.le_of_ble_eq_true rfl⟩ rfl rfl (Nat.le_of_ble_eq_true rfl) d_C_event_141 ⟨(by first | exact Nat.le_of_ble_eq_true rfl | (dsimp only; omega)), (by first | exact Nat.le_of_ble_eq_true rfl | (dsimp only; omega))⟩ (fun r_48 v_49 hp_50 => ?_)
                    refine v_cs (kc' := 2) (ks' := 248) rfl rfl ?_
                    obtain ⟨ra3, ea3, ia3, rfl, hRC3, hia3, hkX3⟩ := hp_50
                    obtain ⟨S3, eS3⟩ : ∃ z, z = zadI S (nI (j + 1)) it := ⟨_, rfl⟩
                    rw [← eS3] at hRC3
                    have hc3 : zc S3 2 = zc S 2 + 1 ∧ zc S3 0 = zc S 0 ∧ zc S3 1 = zc S 1 := by rw [eS3]; exact ⟨rfl, rfl, rfl⟩
                    refine v_tov (y := .ref (ia3 n2)) (by rw [hn2]) ?_
                    obtain ⟨hA3, ⟨gw3, hW3, hWj3⟩, hLs3, hKs3, hNs3, hIs3, hD13, hD23, hD33, hD43⟩ := id hRC3
                    have hi0 : v_49 1 (ia3 n2) = some (vi _ _ _ _) := hIs3 n2 (by omega)
                    show vV _ _ _ _ _ _ _ _ _ _ _ _ _ v_49 2 248 144 [(9, .int 1), (8, .int 1), (7, .null), (6, .ref (ca j)), (0, .ref o), (1, .int (nI (j + 1))), (2, .int it), (3, .int (nI kd)), (4, .long t)] [.ref (ia3 n2)]
                    refine v_goto C 149 d_C_event_144 (by decide) ?_
                    refine v_astore (lv' := [(10, .ref (ia3 n2)), (9, .int 1), (8, .int 1), (7, .null), (6, .ref (ca j)), (0, .ref o), (1, .int (nI (j + 1))), (2, .int it), (3, .int (nI kd)), (4, .long t)]) C d_C_event_149 (by decide) rfl ?_
                    refine v_aload C 0 d_C_event_151 rfl ?_
                    refine v_iconst (x := 1) C d_C_event_153 (by decide) ?_
                    refine v_put C k_I hi0 2 (by decide) tw_304 (fun _ h => h) rfl (by decide) (by decide) (Nat.le_of_ble_eq_true rfl) d_C_event_154 ?_
                    refine v_view (fun v2 ev2 => ?_)
                    have he_51 : v2 3 o = some (.inr (3, [.ref (la 0), .ref (la 1), .ref (la 2), .ref (la 3), .ref (la 4), .ref cw, .long (zl S3 0 0), .int (zi S3 1 0)])) := by rw [ev2]; exact (vv_up_k _ _ _ _ (by decide)).trans hA3
                    have he_52 : v2 1 (ia3 n2) = some (.inr (1, [.int (zi S3 19 n2), .int (zi S3 20 n2), .int 1, va_rf (zlp na (zi S3 22 n2))])) := by rw [ev2]; exact vv_up_s _ _ _ _
                    obtain ⟨S4, eS4⟩ : ∃ z, z = zui S3 21 n2 1 := ⟨_, rfl⟩
                    have hRC4 := hRC3.itm (k0 := n2) (S' := zui S3 21 n2 1) (v' := v2) (by omega) (by rw [ev2]; exact vkp.rf.up ⟨rfl, rfl⟩) (by unfold RCi; rw [he_52, zi_ui, if_neg (by decide), zi_ui, if_neg (by decide), zi_ui, if_pos rfl, if_pos rfl, zi_ui, if_neg (by decide)]) (fun _ => rfl) (fun f i h1 _ => by rw [zi_ui, if_neg h1]) (fun k h => ⟨by rw [zi_ui, if_pos rfl, if_neg h], by rw [zi_ui, if_neg (by decide)]⟩) (fun _ _ => rfl)
                    rw [← eS4] at hRC4
                    have hkX4 : vkp cX v v2 := by rw [ev2]; exact (hkX3).up (Or.inl rfl)
                    have hc14 : zc S4 1 = zc S 1 := by rw [eS4, eS3]; rfl
                    have hc04 : zc S4 0 = zc S 0 := by rw [eS4, eS3]; rfl
                    have hBz : zB S4 := by rw [eS4]; exact zB.k (S := S3) (by rw [eS3]; exact hB.adI (by omega)) rfl rfl rfl (fun j => by rw [zi_ui, if_neg (by decide)])
                    have hB4z : zB4 S4 := hB4.k hc14 (by rw [eS4, eS3]; rfl) (fun j => by rw [eS4, zi_ui, if_neg (by decide), eS3, zadI_i (Or.inr (by decide))])
                    have hB4fz : zB4f S4 := hB4f.k hc14 (by rw [eS4, eS3]; rfl) (fun j => by rw [eS4, zi_ui, if_neg (by decide), eS3, zadI_i (Or.inr (by decide))])
                    obtain ⟨hA4, ⟨gw4, hW4, hWj4⟩, hLs4, hKs4, hNs4, hIs4, hD14, hD24, hD34, hD44⟩ := id hRC4
                    refine v_iload C 2 d_C_event_157 rfl ?_
                    refine v_if_eq C 178 d_C_event_159 (by decide) (fun z => absurd z (by decide)) (fun _ => ?_)
                    refine v_aload_n C 5 d_C_event_162 rfl rfl ?_
                    refine v_aload C 4 d_C_event_163 rfl ?_
                    refine v_iload_n C 7 d_C_event_165 rfl rfl ?_
                    refine v_iload_n C 8 d_C_event_166 rfl rfl ?_
                    refine v_lload C 9 d_C_event_167 rfl ?_
                    refine v_callV (rest := []) C (c_C_addNotice l G v2 o la cw S4 ra3 ea3 ca oa na ia3 (ca j) (nI (j + 1)) it (nI kd) t hRC4 (by rw [zn_nI (by omega)]; rfl) (by omega) hBz hB4z hB4fz) tw_318 tw_30 tw_315 tw_317 tw_10 mn_C_addNotice hA4 k_C.1 ⟨Nat.le_of_ble_eq_true rfl, Nat.le_of_ble_eq_true rfl⟩ rfl rfl (Nat.le_of_ble_eq_true rfl) d_C_event_169 ⟨(by first | exact Nat.le_of_ble_eq_true rfl | (dsimp only; omega)), (by first | exact Nat.le_of_ble_eq_true rfl | (dsimp only; omega))⟩ (fun r_53 v_54 hp_55 => ?_)
                    refine v_cs (kc' := 4) (ks' := 504) rfl rfl ?_
                    obtain ⟨ra5, ea5, na5, rfl, hRC5, hna5, hkX5⟩ := hp_55
                    obtain ⟨S5, eS5⟩ : ∃ z, z = zput S4 (nI (j + 1)) it (nI kd) t (-1) 0 := ⟨_, rfl⟩
                    rw [← eS5] at hRC5
                    have hc5 : zc S5 1 = n1 + 1 ∧ zc S5 0 = zc S4 0 ∧ zc S5 2 = zc S4 2 ∧ zc S5 3 = zc S4 3 := by rw [eS5, hn1]; exact ⟨by show zc S4 1 + 1 = _; rw [hc14], rfl, rfl, rfl⟩
                    refine v_tov (y := .ref (na5 n1)) (by rw [hn1, hc14]) ?_
                    obtain ⟨hA5, ⟨gw5, hW5, hWj5⟩, hLs5, hKs5, hNs5, hIs5, hD15, hD25, hD35, hD45⟩ := id hRC5
                    obtain ⟨ch, msg, sent, hn0, hns⟩ := hNs5 n1 (by omega)
                    show vV _ _ _ _ _ _ _ _ _ _ _ _ _ v_54 4 504 172 [(10, .ref (ia3 n2)), (9, .int 1), (8, .int 1), (7, .null), (6, .ref (ca j)), (0, .ref o), (1, .int (nI (j + 1))), (2, .int it), (3, .int (nI kd)), (4, .long t)] [.ref (na5 n1)]
                    refine v_get C k_N hn0 0 (by decide) tw_327 (fun _ h => h) rfl d_C_event_172 ?_
                    refine v_goto C 179 d_C_event_175 (by decide) ?_
                    exact v_iret C d_C_event_179 (by first | exact Nat.le_of_ble_eq_true rfl | (show _ ≤ _; omega)) (by first | exact Nat.le_of_ble_eq_true rfl | (show _ ≤ _; omega)) ⟨(by rw [hop, if_neg (show ¬ ((0 < kwn g (kd * 4) 4 ∧ zc S 1 = 200) ∨ (zE (nI kd) ∧ zpf S (nI (j + 1)) it (zc S 2) = none ∧ zc S 2 = 60)) by rintro (⟨z1, z2⟩ | ⟨z1, z2, z3⟩) <;> first | omega | exact absurd z1 hb_81 | (rw [hpf] at z2; cases z2)), if_pos (show 0 < kwn g (kd * 4) 4 by omega)]; rw [hn1]), (by rw [hop, if_neg (show ¬ ((0 < kwn g (kd * 4) 4 ∧ zc S 1 = 200) ∨ (zE (nI kd) ∧ zpf S (nI (j + 1)) it (zc S 2) = none ∧ zc S 2 = 60)) by rintro (⟨z1, z2⟩ | ⟨z1, z2, z3⟩) <;> first | omega | exact absurd z1 hb_81 | (rw [hpf] at z2; cases z2)), if_pos (show 0 < kwn g (kd * 4) 4 by omega)]; dsimp only; rw [zendS, if_pos hb_81, zkeep_n hpf, zkix_n hpf, ← hn2, ← eS3, ← eS4]; rw [← eS5]; exact RCe.mk hRC5 ((hkX4.tr hkX5).mono cX_Y) (by omega))⟩
              · obtain rfl := hv9.symm
                show vV _ _ _ _ _ _ _ _ _ _ _ _ _ v 0 0 84 [(8, .int 1), (7, .null), (6, .ref (ca j)), (0, .ref o), (1, .int (nI (j + 1))), (2, .int it), (3, .int (nI kd)), (4, .long t)] [.int 0]
                refine v_if_eq C 96 d_C_event_84 (by decide) (fun _ => ?_) (fun z => absurd (by decide) z)
                refine v_iconst (x := 0) C d_C_event_96 (by decide) ?_
                refine v_istore (lv' := [(9, .int 0), (8, .int 1), (7, .null), (6, .ref (ca j)), (0, .ref o), (1, .int (nI (j + 1))), (2, .int it), (3, .int (nI kd)), (4, .long t)]) C d_C_event_97 (by decide) rfl ?_
                refine v_iload C 1 d_C_event_99 rfl ?_
                refine v_if_eq C 111 d_C_event_101 (by decide) (fun z => absurd z (by decide)) (fun _ => ?_)
                refine v_aload_n C 4 d_C_event_104 rfl rfl ?_
                refine v_callV (rest := []) C (c_C_noticesAreFull l G v o la cw S ra ea ca oa na ia hRC (by omega)) tw_286 tw_30 tw_283 tw_285 tw_7 mn_C_noticesAreFull hA k_C.1 ⟨Nat.le_of_ble_eq_true rfl, Nat.le_of_ble_eq_true rfl⟩ rfl rfl (Nat.le_of_ble_eq_true rfl) d_C_event_105 ⟨(by first | exact Nat.le_of_ble_eq_true rfl | (dsimp only; omega)), (by first | exact Nat.le_of_ble_eq_true rfl | (dsimp only; omega))⟩ (fun r_56 v_57 hp_58 => ?_)
                rcases hp_58 with ⟨rfl, hv9, hb_105⟩ | ⟨rfl, hv9, hb_105⟩
                · obtain rfl := hv9.symm
                  show vV _ _ _ _ _ _ _ _ _ _ _ _ _ v 0 0 108 [(9, .int 0), (8, .int 1), (7, .null), (6, .ref (ca j)), (0, .ref o), (1, .int (nI (j + 1))), (2, .int it), (3, .int (nI kd)), (4, .long t)] [.int 1]
                  refine v_if_ne C 123 d_C_event_108 (by decide) (fun _ => ?_) (fun z => absurd z (by decide))
                  refine v_bipush (x := -14) C d_C_event_123 (by decide) ?_
                  exact v_iret C d_C_event_125 (by first | exact Nat.le_of_ble_eq_true rfl | (show _ ≤ _; omega)) (by first | exact Nat.le_of_ble_eq_true rfl | (show _ ≤ _; omega)) ⟨(by rw [hop, if_pos (Or.inl ⟨by omega, by omega⟩)]), (by rw [hop, if_pos (Or.inl ⟨by omega, by omega⟩)]; exact RCe.rf hRC)⟩
                · obtain rfl := hv9.symm
                  show vV _ _ _ _ _ _ _ _ _ _ _ _ _ v 0 0 108 [(9, .int 0), (8, .int 1), (7, .null), (6, .ref (ca j)), (0, .ref o), (1, .int (nI (j + 1))), (2, .int it), (3, .int (nI kd)), (4, .long t)] [.int 0]
                  refine v_if_ne C 123 d_C_event_108 (by decide) (fun z => absurd (by decide) z) (fun _ => ?_)
                  refine v_iload C 0 d_C_event_111 rfl ?_
                  refine v_if_eq C 126 d_C_event_113 (by decide) (fun _ => ?_) (fun z => absurd (by decide) z)
                  refine v_iload_n C 7 d_C_event_126 rfl rfl ?_
                  refine v_callS (rest := []) C (c_C_isEnd l G v (nI kd)) tw_282 tw_30 tw_280 tw_281 mn_C_isEnd ⟨Nat.le_of_ble_eq_true rfl, Nat.le_of_ble_eq_true rfl⟩ rfl rfl (Nat.le_of_ble_eq_true rfl) d_C_event_127 ⟨(by first | exact Nat.le_of_ble_eq_true rfl | (dsimp only; omega)), (by first | exact Nat.le_of_ble_eq_true rfl | (dsimp only; omega))⟩ (fun r_59 v_60 hp_61 => ?_)
                  rcases hp_61 with ⟨rfl, hv9, hy9⟩ | ⟨rfl, hv9, hy9⟩
                  · exact absurd hy9 hb_81
                  obtain rfl := hv9.symm
                  show vV _ _ _ _ _ _ _ _ _ _ _ _ _ v 0 0 130 [(9, .int 0), (8, .int 1), (7, .null), (6, .ref (ca j)), (0, .ref o), (1, .int (nI (j + 1))), (2, .int it), (3, .int (nI kd)), (4, .long t)] [.int 0]
                  refine v_if_eq C 157 d_C_event_130 (by decide) (fun _ => ?_) (fun z => absurd (by decide) z)
                  refine v_iload C 1 d_C_event_157 rfl ?_
                  refine v_if_eq C 178 d_C_event_159 (by decide) (fun z => absurd z (by decide)) (fun _ => ?_)
                  refine v_aload_n C 4 d_C_event_162 rfl rfl ?_
                  refine v_aload C 3 d_C_event_163 rfl ?_
                  refine v_iload_n C 6 d_C_event_165 rfl rfl ?_
                  refine v_iload_n C 7 d_C_event_166 rfl rfl ?_
                  refine v_lload C 8 d_C_event_167 rfl ?_
                  refine v_callV (rest := []) C (c_C_addNotice l G v o la cw S ra ea ca oa na ia (ca j) (nI (j + 1)) it (nI kd) t hRC (by rw [zn_nI (by omega)]; rfl) (by omega) hB hB4 hB4f) tw_318 tw_30 tw_315 tw_317 tw_10 mn_C_addNotice hA k_C.1 ⟨Nat.le_of_ble_eq_true rfl, Nat.le_of_ble_eq_true rfl⟩ rfl rfl (Nat.le_of_ble_eq_true rfl) d_C_event_169 ⟨(by first | exact Nat.le_of_ble_eq_true rfl | (dsimp only; omega)), (by first | exact Nat.le_of_ble_eq_true rfl | (dsimp only; omega))⟩ (fun r_62 v_63 hp_64 => ?_)
                  refine v_cs (kc' := 2) (ks' := 256) rfl rfl ?_
                  obtain ⟨ra5, ea5, na5, rfl, hRC5, hna5, hkX5⟩ := hp_64
                  obtain ⟨S5, eS5⟩ : ∃ z, z = zput S (nI (j + 1)) it (nI kd) t (-1) 0 := ⟨_, rfl⟩
                  rw [← eS5] at hRC5
                  have hc5 : zc S5 1 = n1 + 1 ∧ zc S5 0 = zc S 0 ∧ zc S5 2 = zc S 2 ∧ zc S5 3 = zc S 3 := by rw [eS5, hn1]; exact ⟨rfl, rfl, rfl, rfl⟩
                  refine v_tov (y := .ref (na5 n1)) (by rw [hn1]) ?_
                  obtain ⟨hA5, ⟨gw5, hW5, hWj5⟩, hLs5, hKs5, hNs5, hIs5, hD15, hD25, hD35, hD45⟩ := id hRC5
                  obtain ⟨ch, msg, sent, hn0, hns⟩ := hNs5 n1 (by omega)
                  show vV _ _ _ _ _ _ _ _ _ _ _ _ _ v_63 2 256 172 [(9, .int 0), (8, .int 1), (7, .null), (6, .ref (ca j)), (0, .ref o), (1, .int (nI (j + 1))), (2, .int it), (3, .int (nI kd)), (4, .long t)] [.ref (na5 n1)]
                  refine v_get C k_N hn0 0 (by decide) tw_327 (fun _ h => h) rfl d_C_event_172 ?_
                  refine v_goto C 179 d_C_event_175 (by decide) ?_
                  exact v_iret C d_C_event_179 (by first | exact Nat.le_of_ble_eq_true rfl | (show _ ≤ _; omega)) (by first | exact Nat.le_of_ble_eq_true rfl | (show _ ≤ _; omega)) ⟨(by rw [hop, if_neg (show ¬ ((0 < kwn g (kd * 4) 4 ∧ zc S 1 = 200) ∨ (zE (nI kd) ∧ zpf S (nI (j + 1)) it (zc S 2) = none ∧ zc S 2 = 60)) by rintro (⟨z1, z2⟩ | ⟨z1, z2, z3⟩) <;> first | omega | exact absurd z1 hb_81 | (rw [hpf] at z2; cases z2)), if_pos (show 0 < kwn g (kd * 4) 4 by omega)]; rw [hn1]), (by rw [hop, if_neg (show ¬ ((0 < kwn g (kd * 4) 4 ∧ zc S 1 = 200) ∨ (zE (nI kd) ∧ zpf S (nI (j + 1)) it (zc S 2) = none ∧ zc S 2 = 60)) by rintro (⟨z1, z2⟩ | ⟨z1, z2, z3⟩) <;> first | omega | exact absurd z1 hb_81 | (rw [hpf] at z2; cases z2)), if_pos (show 0 < kwn g (kd * 4) 4 by omega)]; dsimp only; rw [zendS, if_neg hb_81]; rw [← eS5]; exact RCe.mk hRC5 ((hkX5).mono cX_Y) (by omega))⟩
          · obtain rfl := hv9.symm
            obtain ⟨hki, hk19, hk20⟩ := zpf_lt hpf
            show vV _ _ _ _ _ _ _ _ _ _ _ _ _ v 0 0 47 [(6, .ref (ca j)), (0, .ref o), (1, .int (nI (j + 1))), (2, .int it), (3, .int (nI kd)), (4, .long t)] [.ref (ia ki)]
            have hi0 : v 1 (ia ki) = some (vi _ _ _ _) := hIs ki (by omega)
            refine v_astore (lv' := [(7, .ref (ia ki)), (6, .ref (ca j)), (0, .ref o), (1, .int (nI (j + 1))), (2, .int it), (3, .int (nI kd)), (4, .long t)]) C d_C_event_47 (by decide) rfl ?_
            refine v_aload C 0 d_C_event_49 rfl ?_
            refine v_ifnull C d_C_event_51 ?_
            refine v_aload C 0 d_C_event_54 rfl ?_
            refine v_get C k_I hi0 2 (by decide) tw_304 (fun _ h => h) rfl d_C_event_56 ?_
            refine v_if_eq C 64 d_C_event_59 (by decide) (fun c_59 => ?_) (fun c_59 => ?_)
            · have hze : zended S (nI (j + 1)) it = 0 := by unfold zended; rw [hpf]; exact c_59
              have hop : oEvent S (nI (j + 1)) it (nI kd) t = (if (0 < kwn g (kd * 4) 4 ∧ zc S 1 = 200) ∨ (zE (nI kd) ∧ zpf S (nI (j + 1)) it (zc S 2) = none ∧ zc S 2 = 60) then (-14, S) else (if 0 < kwn g (kd * 4) 4 then (nI (zc S 1 + 1), zput (zendS S (nI (j + 1)) it (nI kd)) (nI (j + 1)) it (nI kd) t (-1) 0) else (0, zendS S (nI (j + 1)) it (nI kd)))) := by rw [oEvent, if_pos hx0, if_pos hz, if_pos hze, hxn, zn_nI hkd3, hkz]
              refine v_aload C 1 d_C_event_64 rfl ?_
              refine v_iload_n C 5 d_C_event_66 rfl rfl ?_
              refine v_callV (rest := []) C (c_K_countWishes l G v (ca j) (nI (j + 1)) (zi S 4 (j + 1)) (zi S 5 (j + 1)) (zi S 6 (j + 1)) (zi S 7 (j + 1)) lw mt0 (oa j) g kd hk0 hg0 (by omega)) tw_246 tw_35 tw_243 tw_244 tw_245 mn_K_countWishes hk0 k_K.1 ⟨Nat.le_of_ble_eq_true rfl, Nat.le_of_ble_eq_true rfl⟩ rfl rfl (Nat.le_of_ble_eq_true rfl) d_C_event_67 ⟨(by first | exact Nat.le_of_ble_eq_true rfl | (dsimp only; omega)), (by first | exact Nat.le_of_ble_eq_true rfl | (dsimp only; omega))⟩ (fun r_65 v_66 hp_67 => ?_)
              obtain ⟨rfl, hv9⟩ := hp_67
              obtain rfl := hv9.symm
              show vV _ _ _ _ _ _ _ _ _ _ _ _ _ v 0 0 70 [(7, .ref (ia ki)), (6, .ref (ca j)), (0, .ref o), (1, .int (nI (j + 1))), (2, .int it), (3, .int (nI kd)), (4, .long t)] [.int (nI (kwn g (kd * 4) 4))]
              refine v_if_le C 77 d_C_event_70 (by decide) (fun c_70 => ?_) (fun c_70 => ?_)
              · have n_70 : (kwn g (kd * 4) 4) ≤ 0 := (nI_leI (a := (kwn g (kd * 4) 4)) (b := 0) (by omega) (by omega)).mp c_70
                refine v_iconst (x := 0) C d_C_event_77 (by decide) ?_
                refine v_istore (lv' := [(8, .int 0), (7, .ref (ia ki)), (6, .ref (ca j)), (0, .ref o), (1, .int (nI (j + 1))), (2, .int it), (3, .int (nI kd)), (4, .long t)]) C d_C_event_78 (by decide) rfl ?_
                refine v_iload_n C 6 d_C_event_80 rfl rfl ?_
                refine v_callS (rest := []) C (c_C_isEnd l G v (nI kd)) tw_282 tw_30 tw_280 tw_281 mn_C_isEnd ⟨Nat.le_of_ble_eq_true rfl, Nat.le_of_ble_eq_true rfl⟩ rfl rfl (Nat.le_of_ble_eq_true rfl) d_C_event_81 ⟨(by first | exact Nat.le_of_ble_eq_true rfl | (dsimp only; omega)), (by first | exact Nat.le_of_ble_eq_true rfl | (dsimp only; omega))⟩ (fun r_68 v_69 hp_70 => ?_)
                rcases hp_70 with ⟨rfl, hv9, hb_81⟩ | ⟨rfl, hv9, hb_81⟩
                · obtain rfl := hv9.symm
                  show vV _ _ _ _ _ _ _ _ _ _ _ _ _ v 0 0 84 [(8, .int 0), (7, .ref (ia ki)), (6, .ref (ca j)), (0, .ref o), (1, .int (nI (j + 1))), (2, .int it), (3, .int (nI kd)), (4, .long t)] [.int 1]
                  refine v_if_eq C 96 d_C_event_84 (by decide) (fun z => absurd z (by decide)) (fun _ => ?_)
                  refine v_aload C 1 d_C_event_87 rfl ?_
                  refine v_ifnonnull C 96 d_C_event_89 (by decide) ?_
                  refine v_iconst (x := 0) C d_C_event_96 (by decide) ?_
                  refine v_istore (lv' := [(9, .int 0), (8, .int 0), (7, .ref (ia ki)), (6, .ref (ca j)), (0, .ref o), (1, .int (nI (j + 1))), (2, .int it), (3, .int (nI kd)), (4, .long t)]) C d_C_event_97 (by decide) rfl ?_
                  refine v_iload C 1 d_C_event_99 rfl ?_
                  refine v_if_eq C 111 d_C_event_101 (by decide) (fun _ => ?_) (fun z => absurd (by decide) z)
                  refine v_iload C 0 d_C_event_111 rfl ?_
                  refine v_if_eq C 126 d_C_event_113 (by decide) (fun _ => ?_) (fun z => absurd (by decide) z)
                  refine v_iload_n C 7 d_C_event_126 rfl rfl ?_
                  refine v_callS (rest := []) C (c_C_isEnd l G v (nI kd)) tw_282 tw_30 tw_280 tw_281 mn_C_isEnd ⟨Nat.le_of_ble_eq_true rfl, Nat.le_of_ble_eq_true rfl⟩ rfl rfl (Nat.le_of_ble_eq_true rfl) d_C_event_127 ⟨(by first | exact Nat.le_of_ble_eq_true rfl | (dsimp only; omega)), (by first | exact Nat.le_of_ble_eq_true rfl | (dsimp only; omega))⟩ (fun r_71 v_72 hp_73 => ?_)
                  rcases hp_73 with ⟨rfl, hv9, hy9⟩ | ⟨rfl, hv9, hy9⟩
                  rotate_left
                  · exact absurd hb_81 hy9
                  obtain rfl := hv9.symm
                  show vV _ _ _ _ _ _ _ _ _ _ _ _ _ v 0 0 130 [(9, .int 0), (8, .int 0), (7, .ref (ia ki)), (6, .ref (ca j)), (0, .ref o), (1, .int (nI (j + 1))), (2, .int it), (3, .int (nI kd)), (4, .long t)] [.int 1]
                  refine v_if_eq C 157 d_C_event_130 (by decide) (fun z => absurd z (by decide)) (fun _ => ?_)
                  refine v_aload C 2 d_C_event_133 rfl ?_
                  refine v_ifnonnull C 147 d_C_event_135 (by decide) ?_
                  refine v_aload C 2 d_C_event_147 rfl ?_
                  refine v_astore (lv' := [(10, .ref (ia ki)), (9, .int 0), (8, .int 0), (7, .ref (ia ki)), (6, .ref (ca j)), (0, .ref o), (1, .int (nI (j + 1))), (2, .int it), (3, .int (nI kd)), (4, .long t)]) C d_C_event_149 (by decide) rfl ?_
                  refine v_aload C 0 d_C_event_151 rfl ?_
                  refine v_iconst (x := 1) C d_C_event_153 (by decide) ?_
                  refine v_put C k_I hi0 2 (by decide) tw_304 (fun _ h => h) rfl (by decide) (by decide) (Nat.le_of_ble_eq_true rfl) d_C_event_154 ?_
                  refine v_view (fun v3 ev3 => ?_)
                  have he_74 : v3 3 o = some (.inr (3, [.ref (la 0), .ref (la 1), .ref (la 2), .ref (la 3), .ref (la 4), .ref cw, .long (zl S 0 0), .int (zi S 1 0)])) := by rw [ev3]; exact (vv_up_k _ _ _ _ (by decide)).trans hA
                  have he_75 : v3 0 (ca j) = some (.inr (0, [.int (nI (j + 1)), .int (zi S 4 (j + 1)), .int (zi S 5 (j + 1)), .int (zi S 6 (j + 1)), .int (zi S 7 (j + 1)), .long lw, .int mt0, .ref (oa j)])) := by rw [ev3]; exact (vv_up_k _ _ _ _ (by decide)).trans hk0
                  have he_76 : v3 50 (oa j) = some (.inl (G.2.2.2.2 0, 32, .inl g)) := by rw [ev3]; exact (vv_up_k _ _ _ _ (by decide)).trans hg0
                  have he_77 : v3 1 (ia ki) = some (.inr (1, [.int (zi S 19 ki), .int (zi S 20 ki), .int 1, va_rf (zlp na (zi S 22 ki))])) := by rw [ev3]; exact vv_up_s _ _ _ _
                  obtain ⟨S4, eS4⟩ : ∃ z, z = zui S 21 ki 1 := ⟨_, rfl⟩
                  have hRC4 := hRC.itm (k0 := ki) (S' := zui S 21 ki 1) (v' := v3) (by omega) (by rw [ev3]; exact vkp.rf.up ⟨rfl, rfl⟩) (by unfold RCi; rw [he_77, zi_ui, if_neg (by decide), zi_ui, if_neg (by decide), zi_ui, if_pos rfl, if_pos rfl, zi_ui, if_neg (by decide)]) (fun _ => rfl) (fun f i h1 _ => by rw [zi_ui, if_neg h1]) (fun k h => ⟨by rw [zi_ui, if_pos rfl, if_neg h], by rw [zi_ui, if_neg (by decide)]⟩) (fun _ _ => rfl)
                  rw [← eS4] at hRC4
                  have hkX4 : vkp cX v v3 := by rw [ev3]; exact (vkp.rf).up (Or.inl rfl)
                  have hc14 : zc S4 1 = zc S 1 := by rw [eS4]; rfl
                  have hc04 : zc S4 0 = zc S 0 := by rw [eS4]; rfl
                  have hBz : zB S4 := hB.k hc04 hc14 (by rw [eS4]; rfl) (fun j => by rw [eS4, zi_ui, if_neg (by decide)])
                  have hB4z : zB4 S4 := hB4.k hc14 (by rw [eS4]; rfl) (fun j => by rw [eS4, zi_ui, if_neg (by decide)])
                  have hB4fz : zB4f S4 := hB4f.k hc14 (by rw [eS4]; rfl) (fun j => by rw [eS4, zi_ui, if_neg (by decide)])
                  obtain ⟨hA4, ⟨gw4, hW4, hWj4⟩, hLs4, hKs4, hNs4, hIs4, hD14, hD24, hD34, hD44⟩ := id hRC4
                  refine v_iload C 2 d_C_event_157 rfl ?_
                  refine v_if_eq C 178 d_C_event_159 (by decide) (fun _ => ?_) (fun z => absurd (by decide) z)
                  refine v_iconst (x := 0) C d_C_event_178 (by decide) ?_
                  exact v_iret C d_C_event_179 (by first | exact Nat.le_of_ble_eq_true rfl | (show _ ≤ _; omega)) (by first | exact Nat.le_of_ble_eq_true rfl | (show _ ≤ _; omega)) ⟨(by rw [hop, if_neg (show ¬ ((0 < kwn g (kd * 4) 4 ∧ zc S 1 = 200) ∨ (zE (nI kd) ∧ zpf S (nI (j + 1)) it (zc S 2) = none ∧ zc S 2 = 60)) by rintro (⟨z1, z2⟩ | ⟨z1, z2, z3⟩) <;> first | omega | exact absurd z1 hb_81 | (rw [hpf] at z2; cases z2)), if_neg (show ¬ 0 < kwn g (kd * 4) 4 by omega)]), (by rw [hop, if_neg (show ¬ ((0 < kwn g (kd * 4) 4 ∧ zc S 1 = 200) ∨ (zE (nI kd) ∧ zpf S (nI (j + 1)) it (zc S 2) = none ∧ zc S 2 = 60)) by rintro (⟨z1, z2⟩ | ⟨z1, z2, z3⟩) <;> first | omega | exact absurd z1 hb_81 | (rw [hpf] at z2; cases z2)), if_neg (show ¬ 0 < kwn g (kd * 4) 4 by omega)]; dsimp only; rw [zendS, if_pos hb_81, zkeep_s hpf, zkix_s hpf, ← eS4]; exact RCe.mk hRC4 (hkX4.mono cX_Y) hc04)⟩
                · obtain rfl := hv9.symm
                  show vV _ _ _ _ _ _ _ _ _ _ _ _ _ v 0 0 84 [(8, .int 0), (7, .ref (ia ki)), (6, .ref (ca j)), (0, .ref o), (1, .int (nI (j + 1))), (2, .int it), (3, .int (nI kd)), (4, .long t)] [.int 0]
                  refine v_if_eq C 96 d_C_event_84 (by decide) (fun _ => ?_) (fun z => absurd (by decide) z)
                  refine v_iconst (x := 0) C d_C_event_96 (by decide) ?_
                  refine v_istore (lv' := [(9, .int 0), (8, .int 0), (7, .ref (ia ki)), (6, .ref (ca j)), (0, .ref o), (1, .int (nI (j + 1))), (2, .int it), (3, .int (nI kd)), (4, .long t)]) C d_C_event_97 (by decide) rfl ?_
                  refine v_iload C 1 d_C_event_99 rfl ?_
                  refine v_if_eq C 111 d_C_event_101 (by decide) (fun _ => ?_) (fun z => absurd (by decide) z)
                  refine v_iload C 0 d_C_event_111 rfl ?_
                  refine v_if_eq C 126 d_C_event_113 (by decide) (fun _ => ?_) (fun z => absurd (by decide) z)
                  refine v_iload_n C 7 d_C_event_126 rfl rfl ?_
                  refine v_callS (rest := []) C (c_C_isEnd l G v (nI kd)) tw_282 tw_30 tw_280 tw_281 mn_C_isEnd ⟨Nat.le_of_ble_eq_true rfl, Nat.le_of_ble_eq_true rfl⟩ rfl rfl (Nat.le_of_ble_eq_true rfl) d_C_event_127 ⟨(by first | exact Nat.le_of_ble_eq_true rfl | (dsimp only; omega)), (by first | exact Nat.le_of_ble_eq_true rfl | (dsimp only; omega))⟩ (fun r_78 v_79 hp_80 => ?_)
                  rcases hp_80 with ⟨rfl, hv9, hy9⟩ | ⟨rfl, hv9, hy9⟩
                  · exact absurd hy9 hb_81
                  obtain rfl := hv9.symm
                  show vV _ _ _ _ _ _ _ _ _ _ _ _ _ v 0 0 130 [(9, .int 0), (8, .int 0), (7, .ref (ia ki)), (6, .ref (ca j)), (0, .ref o), (1, .int (nI (j + 1))), (2, .int it), (3, .int (nI kd)), (4, .long t)] [.int 0]
                  refine v_if_eq C 157 d_C_event_130 (by decide) (fun _ => ?_) (fun z => absurd (by decide) z)
                  refine v_iload C 1 d_C_event_157 rfl ?_
                  refine v_if_eq C 178 d_C_event_159 (by decide) (fun _ => ?_) (fun z => absurd (by decide) z)
                  refine v_iconst (x := 0) C d_C_event_178 (by decide) ?_
                  exact v_iret C d_C_event_179 (by first | exact Nat.le_of_ble_eq_true rfl | (show _ ≤ _; omega)) (by first | exact Nat.le_of_ble_eq_true rfl | (show _ ≤ _; omega)) ⟨(by rw [hop, if_neg (show ¬ ((0 < kwn g (kd * 4) 4 ∧ zc S 1 = 200) ∨ (zE (nI kd) ∧ zpf S (nI (j + 1)) it (zc S 2) = none ∧ zc S 2 = 60)) by rintro (⟨z1, z2⟩ | ⟨z1, z2, z3⟩) <;> first | omega | exact absurd z1 hb_81 | (rw [hpf] at z2; cases z2)), if_neg (show ¬ 0 < kwn g (kd * 4) 4 by omega)]), (by rw [hop, if_neg (show ¬ ((0 < kwn g (kd * 4) 4 ∧ zc S 1 = 200) ∨ (zE (nI kd) ∧ zpf S (nI (j + 1)) it (zc S 2) = none ∧ zc S 2 = 60)) by rintro (⟨z1, z2⟩ | ⟨z1, z2, z3⟩) <;> first | omega | exact absurd z1 hb_81 | (rw [hpf] at z2; cases z2)), if_neg (show ¬ 0 < kwn g (kd * 4) 4 by omega)]; dsimp only; rw [zendS, if_neg hb_81]; exact RCe.rf hRC)⟩
              · have n_70 : ¬ (kwn g (kd * 4) 4) ≤ 0 := mt (nI_leI (a := (kwn g (kd * 4) 4)) (b := 0) (by omega) (by omega)).mpr c_70
                refine v_iconst (x := 1) C d_C_event_73 (by decide) ?_
                refine v_goto C 78 d_C_event_74 (by decide) ?_
                refine v_istore (lv' := [(8, .int 1), (7, .ref (ia ki)), (6, .ref (ca j)), (0, .ref o), (1, .int (nI (j + 1))), (2, .int it), (3, .int (nI kd)), (4, .long t)]) C d_C_event_78 (by decide) rfl ?_
                refine v_iload_n C 6 d_C_event_80 rfl rfl ?_
                refine v_callS (rest := []) C (c_C_isEnd l G v (nI kd)) tw_282 tw_30 tw_280 tw_281 mn_C_isEnd ⟨Nat.le_of_ble_eq_true rfl, Nat.le_of_ble_eq_true rfl⟩ rfl rfl (Nat.le_of_ble_eq_true rfl) d_C_event_81 ⟨(by first | exact Nat.le_of_ble_eq_true rfl | (dsimp only; omega)), (by first | exact Nat.le_of_ble_eq_true rfl | (dsimp only; omega))⟩ (fun r_81 v_82 hp_83 => ?_)
                rcases hp_83 with ⟨rfl, hv9, hb_81⟩ | ⟨rfl, hv9, hb_81⟩
                · obtain rfl := hv9.symm
                  show vV _ _ _ _ _ _ _ _ _ _ _ _ _ v 0 0 84 [(8, .int 1), (7, .ref (ia ki)), (6, .ref (ca j)), (0, .ref o), (1, .int (nI (j + 1))), (2, .int it), (3, .int (nI kd)), (4, .long t)] [.int 1]
                  refine v_if_eq C 96 d_C_event_84 (by decide) (fun z => absurd z (by decide)) (fun _ => ?_)
                  refine v_aload C 1 d_C_event_87 rfl ?_
                  refine v_ifnonnull C 96 d_C_event_89 (by decide) ?_
                  refine v_iconst (x := 0) C d_C_event_96 (by decide) ?_
                  refine v_istore (lv' := [(9, .int 0), (8, .int 1), (7, .ref (ia ki)), (6, .ref (ca j)), (0, .ref o), (1, .int (nI (j + 1))), (2, .int it), (3, .int (nI kd)), (4, .long t)]) C d_C_event_97 (by decide) rfl ?_
                  refine v_iload C 1 d_C_event_99 rfl ?_
                  refine v_if_eq C 111 d_C_event_101 (by decide) (fun z => absurd z (by decide)) (fun _ => ?_)
                  refine v_aload_n C 4 d_C_event_104 rfl rfl ?_
                  refine v_callV (rest := []) C (c_C_noticesAreFull l G v o la cw S ra ea ca oa na ia hRC (by omega)) tw_286 tw_30 tw_283 tw_285 tw_7 mn_C_noticesAreFull hA k_C.1 ⟨Nat.le_of_ble_eq_true rfl, Nat.le_of_ble_eq_true rfl⟩ rfl rfl (Nat.le_of_ble_eq_true rfl) d_C_event_105 ⟨(by first | exact Nat.le_of_ble_eq_true rfl | (dsimp only; omega)), (by first | exact Nat.le_of_ble_eq_true rfl | (dsimp only; omega))⟩ (fun r_84 v_85 hp_86 => ?_)
                  rcases hp_86 with ⟨rfl, hv9, hb_105⟩ | ⟨rfl, hv9, hb_105⟩
                  · obtain rfl := hv9.symm
                    show vV _ _ _ _ _ _ _ _ _ _ _ _ _ v 0 0 108 [(9, .int 0), (8, .int 1), (7, .ref (ia ki)), (6, .ref (ca j)), (0, .ref o), (1, .int (nI (j + 1))), (2, .int it), (3, .int (nI kd)), (4, .long t)] [.int 1]
                    refine v_if_ne C 123 d_C_event_108 (by decide) (fun _ => ?_) (fun z => absurd z (by decide))
                    refine v_bipush (x := -14) C d_C_event_123 (by decide) ?_
                    exact v_iret C d_C_event_125 (by first | exact Nat.le_of_ble_eq_true rfl | (show _ ≤ _; omega)) (by first | exact Nat.le_of_ble_eq_true rfl | (show _ ≤ _; omega)) ⟨(by rw [hop, if_pos (Or.inl ⟨by omega, by omega⟩)]), (by rw [hop, if_pos (Or.inl ⟨by omega, by omega⟩)]; exact RCe.rf hRC)⟩
                  · obtain rfl := hv9.symm
                    show vV _ _ _ _ _ _ _ _ _ _ _ _ _ v 0 0 108 [(9, .int 0), (8, .int 1), (7, .ref (ia ki)), (6, .ref (ca j)), (0, .ref o), (1, .int (nI (j + 1))), (2, .int it), (3, .int (nI kd)), (4, .long t)] [.int 0]
                    refine v_if_ne C 123 d_C_event_108 (by decide) (fun z => absurd (by decide) z) (fun _ => ?_)
                    refine v_iload C 0 d_C_event_111 rfl ?_
                    refine v_if_eq C 126 d_C_event_113 (by decide) (fun _ => ?_) (fun z => absurd (by decide) z)
                    refine v_iload_n C 7 d_C_event_126 rfl rfl ?_
                    refine v_callS (rest := []) C (c_C_isEnd l G v (nI kd)) tw_282 tw_30 tw_280 tw_281 mn_C_isEnd ⟨Nat.le_of_ble_eq_true rfl, Nat.le_of_ble_eq_true rfl⟩ rfl rfl (Nat.le_of_ble_eq_true rfl) d_C_event_127 ⟨(by first | exact Nat.le_of_ble_eq_true rfl | (dsimp only; omega)), (by first | exact Nat.le_of_ble_eq_true rfl | (dsimp only; omega))⟩ (fun r_87 v_88 hp_89 => ?_)
                    rcases hp_89 with ⟨rfl, hv9, hy9⟩ | ⟨rfl, hv9, hy9⟩
                    rotate_left
                    · exact absurd hb_81 hy9
                    obtain rfl := hv9.symm
                    show vV _ _ _ _ _ _ _ _ _ _ _ _ _ v 0 0 130 [(9, .int 0), (8, .int 1), (7, .ref (ia ki)), (6, .ref (ca j)), (0, .ref o), (1, .int (nI (j + 1))), (2, .int it), (3, .int (nI kd)), (4, .long t)] [.int 1]
                    refine v_if_eq C 157 d_C_event_130 (by decide) (fun z => absurd z (by decide)) (fun _ => ?_)
                    refine v_aload C 2 d_C_event_133 rfl ?_
                    refine v_ifnonnull C 147 d_C_event_135 (by decide) ?_
                    refine v_aload C 2 d_C_event_147 rfl ?_
                    refine v_astore (lv' := [(10, .ref (ia ki)), (9, .int 0), (8, .int 1), (7, .ref (ia ki)), (6, .ref (ca j)), (0, .ref o), (1, .int (nI (j + 1))), (2, .int it), (3, .int (nI kd)), (4, .long t)]) C d_C_event_149 (by decide) rfl ?_
                    refine v_aload C 0 d_C_event_151 rfl ?_
                    refine v_iconst (x := 1) C d_C_event_153 (by decide) ?_
                    refine v_put C k_I hi0 2 (by decide) tw_304 (fun _ h => h) rfl (by decide) (by decide) (Nat.le_of_ble_eq_true rfl) d_C_event_154 ?_
                    refine v_view (fun v4 ev4 => ?_)
                    have he_90 : v4 3 o = some (.inr (3, [.ref (la 0), .ref (la 1), .ref (la 2), .ref (la 3), .ref (la 4), .ref cw, .long (zl S 0 0), .int (zi S 1 0)])) := by rw [ev4]; exact (vv_up_k _ _ _ _ (by decide)).trans hA
                    have he_91 : v4 0 (ca j) = some (.inr (0, [.int (nI (j + 1)), .int (zi S 4 (j + 1)), .int (zi S 5 (j + 1)), .int (zi S 6 (j + 1)), .int (zi S 7 (j + 1)), .long lw, .int mt0, .ref (oa j)])) := by rw [ev4]; exact (vv_up_k _ _ _ _ (by decide)).trans hk0
                    have he_92 : v4 50 (oa j) = some (.inl (G.2.2.2.2 0, 32, .inl g)) := by rw [ev4]; exact (vv_up_k _ _ _ _ (by decide)).trans hg0
                    have he_93 : v4 1 (ia ki) = some (.inr (1, [.int (zi S 19 ki), .int (zi S 20 ki), .int 1, va_rf (zlp na (zi S 22 ki))])) := by rw [ev4]; exact vv_up_s _ _ _ _
                    obtain ⟨S4, eS4⟩ : ∃ z, z = zui S 21 ki 1 := ⟨_, rfl⟩
                    have hRC4 := hRC.itm (k0 := ki) (S' := zui S 21 ki 1) (v' := v4) (by omega) (by rw [ev4]; exact vkp.rf.up ⟨rfl, rfl⟩) (by unfold RCi; rw [he_93, zi_ui, if_neg (by decide), zi_ui, if_neg (by decide), zi_ui, if_pos rfl, if_pos rfl, zi_ui, if_neg (by decide)]) (fun _ => rfl) (fun f i h1 _ => by rw [zi_ui, if_neg h1]) (fun k h => ⟨by rw [zi_ui, if_pos rfl, if_neg h], by rw [zi_ui, if_neg (by decide)]⟩) (fun _ _ => rfl)
                    rw [← eS4] at hRC4
                    have hkX4 : vkp cX v v4 := by rw [ev4]; exact (vkp.rf).up (Or.inl rfl)
                    have hc14 : zc S4 1 = zc S 1 := by rw [eS4]; rfl
                    have hc04 : zc S4 0 = zc S 0 := by rw [eS4]; rfl
                    have hBz : zB S4 := hB.k hc04 hc14 (by rw [eS4]; rfl) (fun j => by rw [eS4, zi_ui, if_neg (by decide)])
                    have hB4z : zB4 S4 := hB4.k hc14 (by rw [eS4]; rfl) (fun j => by rw [eS4, zi_ui, if_neg (by decide)])
                    have hB4fz : zB4f S4 := hB4f.k hc14 (by rw [eS4]; rfl) (fun j => by rw [eS4, zi_ui, if_neg (by decide)])
                    obtain ⟨hA4, ⟨gw4, hW4, hWj4⟩, hLs4, hKs4, hNs4, hIs4, hD14, hD24, hD34, hD44⟩ := id hRC4
                    refine v_iload C 2 d_C_event_157 rfl ?_
                    refine v_if_eq C 178 d_C_event_159 (by decide) (fun z => absurd z (by decide)) (fun _ => ?_)
                    refine v_aload_n C 5 d_C_event_162 rfl rfl ?_
                    refine v_aload C 4 d_C_event_163 rfl ?_
                    refine v_iload_n C 7 d_C_event_165 rfl rfl ?_
                    refine v_iload_n C 8 d_C_event_166 rfl rfl ?_
                    refine v_lload C 9 d_C_event_167 rfl ?_
                    refine v_callV (rest := []) C (c_C_addNotice l G v4 o la cw S4 ra ea ca oa na ia (ca j) (nI (j + 1)) it (nI kd) t hRC4 (by rw [zn_nI (by omega)]; rfl) (by omega) hBz hB4z hB4fz) tw_318 tw_30 tw_315 tw_317 tw_10 mn_C_addNotice hA4 k_C.1 ⟨Nat.le_of_ble_eq_true rfl, Nat.le_of_ble_eq_true rfl⟩ rfl rfl (Nat.le_of_ble_eq_true rfl) d_C_event_169 ⟨(by first | exact Nat.le_of_ble_eq_true rfl | (dsimp only; omega)), (by first | exact Nat.le_of_ble_eq_true rfl | (dsimp only; omega))⟩ (fun r_94 v_95 hp_96 => ?_)
                    refine v_cs (kc' := 2) (ks' := 256) rfl rfl ?_
                    obtain ⟨ra5, ea5, na5, rfl, hRC5, hna5, hkX5⟩ := hp_96
                    obtain ⟨S5, eS5⟩ : ∃ z, z = zput S4 (nI (j + 1)) it (nI kd) t (-1) 0 := ⟨_, rfl⟩
                    rw [← eS5] at hRC5
                    have hc5 : zc S5 1 = n1 + 1 ∧ zc S5 0 = zc S4 0 ∧ zc S5 2 = zc S4 2 ∧ zc S5 3 = zc S4 3 := by rw [eS5, hn1]; exact ⟨by show zc S4 1 + 1 = _; rw [hc14], rfl, rfl, rfl⟩
                    refine v_tov (y := .ref (na5 n1)) (by rw [hn1, hc14]) ?_
                    obtain ⟨hA5, ⟨gw5, hW5, hWj5⟩, hLs5, hKs5, hNs5, hIs5, hD15, hD25, hD35, hD45⟩ := id hRC5
                    obtain ⟨ch, msg, sent, hn0, hns⟩ := hNs5 n1 (by omega)
                    show vV _ _ _ _ _ _ _ _ _ _ _ _ _ v_95 2 256 172 [(10, .ref (ia ki)), (9, .int 0), (8, .int 1), (7, .ref (ia ki)), (6, .ref (ca j)), (0, .ref o), (1, .int (nI (j + 1))), (2, .int it), (3, .int (nI kd)), (4, .long t)] [.ref (na5 n1)]
                    refine v_get C k_N hn0 0 (by decide) tw_327 (fun _ h => h) rfl d_C_event_172 ?_
                    refine v_goto C 179 d_C_event_175 (by decide) ?_
                    exact v_iret C d_C_event_179 (by first | exact Nat.le_of_ble_eq_true rfl | (show _ ≤ _; omega)) (by first | exact Nat.le_of_ble_eq_true rfl | (show _ ≤ _; omega)) ⟨(by rw [hop, if_neg (show ¬ ((0 < kwn g (kd * 4) 4 ∧ zc S 1 = 200) ∨ (zE (nI kd) ∧ zpf S (nI (j + 1)) it (zc S 2) = none ∧ zc S 2 = 60)) by rintro (⟨z1, z2⟩ | ⟨z1, z2, z3⟩) <;> first | omega | exact absurd z1 hb_81 | (rw [hpf] at z2; cases z2)), if_pos (show 0 < kwn g (kd * 4) 4 by omega)]; rw [hn1]), (by rw [hop, if_neg (show ¬ ((0 < kwn g (kd * 4) 4 ∧ zc S 1 = 200) ∨ (zE (nI kd) ∧ zpf S (nI (j + 1)) it (zc S 2) = none ∧ zc S 2 = 60)) by rintro (⟨z1, z2⟩ | ⟨z1, z2, z3⟩) <;> first | omega | exact absurd z1 hb_81 | (rw [hpf] at z2; cases z2)), if_pos (show 0 < kwn g (kd * 4) 4 by omega)]; dsimp only; rw [zendS, if_pos hb_81, zkeep_s hpf, zkix_s hpf, ← eS4]; rw [← eS5]; exact RCe.mk hRC5 ((hkX4.tr hkX5).mono cX_Y) (by omega))⟩
                · obtain rfl := hv9.symm
                  show vV _ _ _ _ _ _ _ _ _ _ _ _ _ v 0 0 84 [(8, .int 1), (7, .ref (ia ki)), (6, .ref (ca j)), (0, .ref o), (1, .int (nI (j + 1))), (2, .int it), (3, .int (nI kd)), (4, .long t)] [.int 0]
                  refine v_if_eq C 96 d_C_event_84 (by decide) (fun _ => ?_) (fun z => absurd (by decide) z)
                  refine v_iconst (x := 0) C d_C_event_96 (by decide) ?_
                  refine v_istore (lv' := [(9, .int 0), (8, .int 1), (7, .ref (ia ki)), (6, .ref (ca j)), (0, .ref o), (1, .int (nI (j + 1))), (2, .int it), (3, .int (nI kd)), (4, .long t)]) C d_C_event_97 (by decide) rfl ?_
                  refine v_iload C 1 d_C_event_99 rfl ?_
                  refine v_if_eq C 111 d_C_event_101 (by decide) (fun z => absurd z (by decide)) (fun _ => ?_)
                  refine v_aload_n C 4 d_C_event_104 rfl rfl ?_
                  refine v_callV (rest := []) C (c_C_noticesAreFull l G v o la cw S ra ea ca oa na ia hRC (by omega)) tw_286 tw_30 tw_283 tw_285 tw_7 mn_C_noticesAreFull hA k_C.1 ⟨Nat.le_of_ble_eq_true rfl, Nat.le_of_ble_eq_true rfl⟩ rfl rfl (Nat.le_of_ble_eq_true rfl) d_C_event_105 ⟨(by first | exact Nat.le_of_ble_eq_true rfl | (dsimp only; omega)), (by first | exact Nat.le_of_ble_eq_true rfl | (dsimp only; omega))⟩ (fun r_97 v_98 hp_99 => ?_)
                  rcases hp_99 with ⟨rfl, hv9, hb_105⟩ | ⟨rfl, hv9, hb_105⟩
                  · obtain rfl := hv9.symm
                    show vV _ _ _ _ _ _ _ _ _ _ _ _ _ v 0 0 108 [(9, .int 0), (8, .int 1), (7, .ref (ia ki)), (6, .ref (ca j)), (0, .ref o), (1, .int (nI (j + 1))), (2, .int it), (3, .int (nI kd)), (4, .long t)] [.int 1]
                    refine v_if_ne C 123 d_C_event_108 (by decide) (fun _ => ?_) (fun z => absurd z (by decide))
                    refine v_bipush (x := -14) C d_C_event_123 (by decide) ?_
                    exact v_iret C d_C_event_125 (by first | exact Nat.le_of_ble_eq_true rfl | (show _ ≤ _; omega)) (by first | exact Nat.le_of_ble_eq_true rfl | (show _ ≤ _; omega)) ⟨(by rw [hop, if_pos (Or.inl ⟨by omega, by omega⟩)]), (by rw [hop, if_pos (Or.inl ⟨by omega, by omega⟩)]; exact RCe.rf hRC)⟩
                  · obtain rfl := hv9.symm
                    show vV _ _ _ _ _ _ _ _ _ _ _ _ _ v 0 0 108 [(9, .int 0), (8, .int 1), (7, .ref (ia ki)), (6, .ref (ca j)), (0, .ref o), (1, .int (nI (j + 1))), (2, .int it), (3, .int (nI kd)), (4, .long t)] [.int 0]
                    refine v_if_ne C 123 d_C_event_108 (by decide) (fun z => absurd (by decide) z) (fun _ => ?_)
                    refine v_iload C 0 d_C_event_111 rfl ?_
                    refine v_if_eq C 126 d_C_event_113 (by decide) (fun _ => ?_) (fun z => absurd (by decide) z)
                    refine v_iload_n C 7 d_C_event_126 rfl rfl ?_
                    refine v_callS (rest := []) C (c_C_isEnd l G v (nI kd)) tw_282 tw_30 tw_280 tw_281 mn_C_isEnd ⟨Nat.le_of_ble_eq_true rfl, Nat.le_of_ble_eq_true rfl⟩ rfl rfl (Nat.le_of_ble_eq_true rfl) d_C_event_127 ⟨(by first | exact Nat.le_of_ble_eq_true rfl | (dsimp only; omega)), (by first | exact Nat.le_of_ble_eq_true rfl | (dsimp only; omega))⟩ (fun r_100 v_101 hp_102 => ?_)
                    rcases hp_102 with ⟨rfl, hv9, hy9⟩ | ⟨rfl, hv9, hy9⟩
                    · exact absurd hy9 hb_81
                    obtain rfl := hv9.symm
                    show vV _ _ _ _ _ _ _ _ _ _ _ _ _ v 0 0 130 [(9, .int 0), (8, .int 1), (7, .ref (ia ki)), (6, .ref (ca j)), (0, .ref o), (1, .int (nI (j + 1))), (2, .int it), (3, .int (nI kd)), (4, .long t)] [.int 0]
                    refine v_if_eq C 157 d_C_event_130 (by decide) (fun _ => ?_) (fun z => absurd (by decide) z)
                    refine v_iload C 1 d_C_event_157 rfl ?_
                    refine v_if_eq C 178 d_C_event_159 (by decide) (fun z => absurd z (by decide)) (fun _ => ?_)
                    refine v_aload_n C 4 d_C_event_162 rfl rfl ?_
                    refine v_aload C 3 d_C_event_163 rfl ?_
                    refine v_iload_n C 6 d_C_event_165 rfl rfl ?_
                    refine v_iload_n C 7 d_C_event_166 rfl rfl ?_
                    refine v_lload C 8 d_C_event_167 rfl ?_
                    refine v_callV (rest := []) C (c_C_addNotice l G v o la cw S ra ea ca oa na ia (ca j) (nI (j + 1)) it (nI kd) t hRC (by rw [zn_nI (by omega)]; rfl) (by omega) hB hB4 hB4f) tw_318 tw_30 tw_315 tw_317 tw_10 mn_C_addNotice hA k_C.1 ⟨Nat.le_of_ble_eq_true rfl, Nat.le_of_ble_eq_true rfl⟩ rfl rfl (Nat.le_of_ble_eq_true rfl) d_C_event_169 ⟨(by first | exact Nat.le_of_ble_eq_true rfl | (dsimp only; omega)), (by first | exact Nat.le_of_ble_eq_true rfl | (dsimp only; omega))⟩ (fun r_103 v_104 hp_105 => ?_)
                    refine v_cs (kc' := 2) (ks' := 256) rfl rfl ?_
                    obtain ⟨ra5, ea5, na5, rfl, hRC5, hna5, hkX5⟩ := hp_105
                    obtain ⟨S5, eS5⟩ : ∃ z, z = zput S (nI (j + 1)) it (nI kd) t (-1) 0 := ⟨_, rfl⟩
                    rw [← eS5] at hRC5
                    have hc5 : zc S5 1 = n1 + 1 ∧ zc S5 0 = zc S 0 ∧ zc S5 2 = zc S 2 ∧ zc S5 3 = zc S 3 := by rw [eS5, hn1]; exact ⟨rfl, rfl, rfl, rfl⟩
                    refine v_tov (y := .ref (na5 n1)) (by rw [hn1]) ?_
                    obtain ⟨hA5, ⟨gw5, hW5, hWj5⟩, hLs5, hKs5, hNs5, hIs5, hD15, hD25, hD35, hD45⟩ := id hRC5
                    obtain ⟨ch, msg, sent, hn0, hns⟩ := hNs5 n1 (by omega)
                    show vV _ _ _ _ _ _ _ _ _ _ _ _ _ v_104 2 256 172 [(9, .int 0), (8, .int 1), (7, .ref (ia ki)), (6, .ref (ca j)), (0, .ref o), (1, .int (nI (j + 1))), (2, .int it), (3, .int (nI kd)), (4, .long t)] [.ref (na5 n1)]
                    refine v_get C k_N hn0 0 (by decide) tw_327 (fun _ h => h) rfl d_C_event_172 ?_
                    refine v_goto C 179 d_C_event_175 (by decide) ?_
                    exact v_iret C d_C_event_179 (by first | exact Nat.le_of_ble_eq_true rfl | (show _ ≤ _; omega)) (by first | exact Nat.le_of_ble_eq_true rfl | (show _ ≤ _; omega)) ⟨(by rw [hop, if_neg (show ¬ ((0 < kwn g (kd * 4) 4 ∧ zc S 1 = 200) ∨ (zE (nI kd) ∧ zpf S (nI (j + 1)) it (zc S 2) = none ∧ zc S 2 = 60)) by rintro (⟨z1, z2⟩ | ⟨z1, z2, z3⟩) <;> first | omega | exact absurd z1 hb_81 | (rw [hpf] at z2; cases z2)), if_pos (show 0 < kwn g (kd * 4) 4 by omega)]; rw [hn1]), (by rw [hop, if_neg (show ¬ ((0 < kwn g (kd * 4) 4 ∧ zc S 1 = 200) ∨ (zE (nI kd) ∧ zpf S (nI (j + 1)) it (zc S 2) = none ∧ zc S 2 = 60)) by rintro (⟨z1, z2⟩ | ⟨z1, z2, z3⟩) <;> first | omega | exact absurd z1 hb_81 | (rw [hpf] at z2; cases z2)), if_pos (show 0 < kwn g (kd * 4) 4 by omega)]; dsimp only; rw [zendS, if_neg hb_81]; rw [← eS5]; exact RCe.mk hRC5 ((hkX5).mono cX_Y) (by omega))⟩
            · refine v_iconst (x := 0) C d_C_event_62 (by decide) ?_
              exact v_iret C d_C_event_63 (by first | exact Nat.le_of_ble_eq_true rfl | (show _ ≤ _; omega)) (by first | exact Nat.le_of_ble_eq_true rfl | (show _ ≤ _; omega)) ⟨(by rw [oEvent, if_pos hx0, if_pos hz, if_neg (show ¬ zended S (nI (j + 1)) it = 0 by unfold zended; rw [hpf]; exact c_59)]), (by rw [oEvent, if_pos hx0, if_pos hz, if_neg (show ¬ zended S (nI (j + 1)) it = 0 by unfold zended; rw [hpf]; exact c_59)]; exact RCe.rf hRC)⟩
        · obtain rfl := hv9.symm
          show vV _ _ _ _ _ _ _ _ _ _ _ _ _ v 0 0 35 [(6, .ref (ca j)), (0, .ref o), (1, .int (nI (j + 1))), (2, .int it), (3, .int k), (4, .long t)] [.int 0]
          refine v_if_ne C 41 d_C_event_35 (by decide) (fun z => absurd (by decide) z) (fun _ => ?_)
          refine v_bipush (x := -12) C d_C_event_38 (by decide) ?_
          exact v_iret C d_C_event_40 (by first | exact Nat.le_of_ble_eq_true rfl | (show _ ≤ _; omega)) (by first | exact Nat.le_of_ble_eq_true rfl | (show _ ≤ _; omega)) ⟨(by  rw [oEvent, if_pos hx0, if_neg (fun z => hb_32 z.2.2)] <;> (try rfl)), (by  rw [oEvent, if_pos hx0, if_neg (fun z => hb_32 z.2.2)]; exact RCe.rf hRC)⟩
      · obtain rfl := hv9.symm
        show vV _ _ _ _ _ _ _ _ _ _ _ _ _ v 0 0 26 [(6, .ref (ca j)), (0, .ref o), (1, .int (nI (j + 1))), (2, .int it), (3, .int k), (4, .long t)] [.int 0]
        refine v_if_eq C 38 d_C_event_26 (by decide) (fun _ => ?_) (fun z => absurd (by decide) z)
        refine v_bipush (x := -12) C d_C_event_38 (by decide) ?_
        exact v_iret C d_C_event_40 (by first | exact Nat.le_of_ble_eq_true rfl | (show _ ≤ _; omega)) (by first | exact Nat.le_of_ble_eq_true rfl | (show _ ≤ _; omega)) ⟨(by  rw [oEvent, if_pos hx0, if_neg (fun z => hb_23 z.2.1)] <;> (try rfl)), (by  rw [oEvent, if_pos hx0, if_neg (fun z => hb_23 z.2.1)]; exact RCe.rf hRC)⟩
    · obtain rfl := hv9.symm
      show vV _ _ _ _ _ _ _ _ _ _ _ _ _ v 0 0 19 [(6, .ref (ca j)), (0, .ref o), (1, .int (nI (j + 1))), (2, .int it), (3, .int k), (4, .long t)] [.int 0]
      refine v_if_eq C 38 d_C_event_19 (by decide) (fun _ => ?_) (fun z => absurd (by decide) z)
      refine v_bipush (x := -12) C d_C_event_38 (by decide) ?_
      exact v_iret C d_C_event_40 (by first | exact Nat.le_of_ble_eq_true rfl | (show _ ≤ _; omega)) (by first | exact Nat.le_of_ble_eq_true rfl | (show _ ≤ _; omega)) ⟨(by  rw [oEvent, if_pos hx0, if_neg (fun z => hb_16 z.1)] <;> (try rfl)), (by  rw [oEvent, if_pos hx0, if_neg (fun z => hb_16 z.1)]; exact RCe.rf hRC)⟩
