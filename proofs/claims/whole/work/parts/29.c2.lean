theorem zB7.w {S : zS} (h : zB7 S) {i n : Nat} (hn : n ≤ 9) : zB7 (zui S 8 i (nI n + 1)) := by
  refine ⟨fun j => ?_, fun j => ?_⟩
  · rw [zi_ui, if_pos rfl]
    split
    · exact Or.inr ⟨n, hn, nI_1 n⟩
    · exact h.1 j
  · rw [zi_ui, if_neg (by decide)]; exact h.2 j
theorem cY_50 {S : zS} {cw : Nat} {oa : Nat → Nat} {j : Nat} (hj : j < zc S 0) (k x : Nat) (h : k = 50 ∧ x = oa j) : cYY S cw oa k x := Or.inr (Or.inr (Or.inr (Or.inr (Or.inr (Or.inr (Or.inr ⟨h.1, j, hj, h.2⟩))))))
theorem cY_0 {S : zS} {cw : Nat} {oa : Nat → Nat} {a : Nat} (k x : Nat) (h : k = 0 ∧ x = a) : cYY S cw oa k x := Or.inl h.1
theorem cY_o {S : zS} {cw : Nat} {oa : Nat → Nat} {o : Nat} (k x : Nat) (h : (k = 3 ∧ x = o) ∨ (k = 51 ∧ x = cw)) : cYY S cw oa k x := h.elim (fun q => Or.inr (Or.inr (Or.inr (Or.inl q.1)))) (fun q => Or.inr (Or.inr (Or.inr (Or.inr (Or.inr (Or.inr (Or.inl q)))))))
theorem RCe.mk {G : vv_G} {v v' : vv_V} {o : Nat} {la : Nat → Nat} {cw : Nat} {S S' : zS} {ra ea ca oa na ia : Nat → Nat} (h : RC G v' o la cw S' ra ea ca oa na ia) (hk : vkp (cYY S cw oa) v v') (hc : zc S' 0 = zc S 0) : RCe G v o la cw S oa v' S' := ⟨ra, ea, ca, oa, na, ia, h, hk, fun j hj => Or.inl ⟨by rw [← hc]; exact hj, rfl⟩⟩
set_option maxHeartbeats 4000000 in
set_option maxRecDepth 100000 in
theorem c_C_wish (l : Launch) (G : vv_G) (v : vv_V) (o : Nat) (la : Nat → Nat) (cw : Nat) (S : zS) (ra ea ca oa na ia : Nat → Nat) (x k ch od : Int32) (hRC : RC G v o la cw S ra ea ca oa na ia) (hB : zc S 0 ≤ 40) (hB7 : zB7 S) : Mv l y_C_wish b_C_wish 6 (some FieldType.int) 4 90 G v [.ref o, .int x, .int k, .int ch, .int od] (fun r v' => r = some (.int (oWish S x k ch od).1) ∧ RCe G v o la cw S oa v' (oWish S x k ch od).2) 0 0 := by
  refine vv_metF (own := "CustomerNotices") (nm := "wish") pf_C_wish rfl rfl (Nat.le_of_ble_eq_true rfl) ?_
  intro p e s m below meth c C hin
  obtain ⟨hA, ⟨gw, hW, hWj⟩, hLs, hKs, hNs, hIs, hD1, hD2, hD3, hD4⟩ := id hRC
  show vV _ _ _ _ _ _ _ _ _ _ _ _ _ v 0 0 0 [(0, .ref o), (1, .int x), (2, .int k), (3, .int ch), (4, .int od)] []
  refine v_aload_n C 0 d_C_wish_0 rfl rfl ?_
  refine v_iload_n C 1 d_C_wish_1 rfl rfl ?_
  refine v_callV (rest := []) C (c_C_findCustomer l G v o la cw S ra ea ca oa na ia x hRC (by omega)) tw_214 tw_30 tw_211 tw_213 tw_3 mn_C_findCustomer hA k_C.1 ⟨Nat.le_of_ble_eq_true rfl, Nat.le_of_ble_eq_true rfl⟩ rfl rfl (Nat.le_of_ble_eq_true rfl) d_C_wish_2 ⟨(by first | exact Nat.le_of_ble_eq_true rfl | (dsimp only; omega)), (by first | exact Nat.le_of_ble_eq_true rfl | (dsimp only; omega))⟩ (fun r_1 v_2 hp_3 => ?_)
  rcases hp_3 with ⟨rfl, hv9, hno⟩ | ⟨j, rfl, hv9, hj, hxj⟩
  · obtain rfl := hv9.symm
    show vV _ _ _ _ _ _ _ _ _ _ _ _ _ v 0 0 5 [(0, .ref o), (1, .int x), (2, .int k), (3, .int ch), (4, .int od)] [.null]
    refine v_astoreN (lv' := [(5, .null), (0, .ref o), (1, .int x), (2, .int k), (3, .int ch), (4, .int od)]) C d_C_wish_5 (by decide) rfl ?_
    refine v_aloadN C 0 d_C_wish_7 rfl ?_
    refine v_ifnonnullN C d_C_wish_9 ?_
    refine v_bipush (x := -11) C d_C_wish_12 (by decide) ?_
    exact v_iret C d_C_wish_14 (by first | exact Nat.le_of_ble_eq_true rfl | (show _ ≤ _; omega)) (by first | exact Nat.le_of_ble_eq_true rfl | (show _ ≤ _; omega)) ⟨(by  rw [oWish, if_neg hno] <;> (try rfl)), (by  rw [oWish, if_neg hno]; exact RCe.rf hRC)⟩
  · obtain rfl := hv9.symm
    subst hxj
    show vV _ _ _ _ _ _ _ _ _ _ _ _ _ v 0 0 5 [(0, .ref o), (1, .int (nI (j + 1))), (2, .int k), (3, .int ch), (4, .int od)] [.ref (ca j)]
    obtain ⟨⟨lw, mt0, hk0⟩, g, hg0, hgv⟩ := hKs j (by omega)
    have hx0 : zIn (nI (j + 1)) 1 (zc S 0) := zIn_of (a := 1) (by omega) (by omega) (by omega)
    have hxn : zn (nI (j + 1)) = j + 1 := zn_nI (by omega)
    refine v_astore (lv' := [(5, .ref (ca j)), (0, .ref o), (1, .int (nI (j + 1))), (2, .int k), (3, .int ch), (4, .int od)]) C d_C_wish_5 (by decide) rfl ?_
    refine v_aload C 0 d_C_wish_7 rfl ?_
    refine v_ifnonnull C 15 d_C_wish_9 (by decide) ?_
    refine v_iload_n C 3 d_C_wish_15 rfl rfl ?_
    refine v_callS (rest := []) C (c_C_isKind l G v k) tw_231 tw_30 tw_229 tw_230 mn_C_isKind ⟨Nat.le_of_ble_eq_true rfl, Nat.le_of_ble_eq_true rfl⟩ rfl rfl (Nat.le_of_ble_eq_true rfl) d_C_wish_16 ⟨(by first | exact Nat.le_of_ble_eq_true rfl | (dsimp only; omega)), (by first | exact Nat.le_of_ble_eq_true rfl | (dsimp only; omega))⟩ (fun r_4 v_5 hp_6 => ?_)
    rcases hp_6 with ⟨rfl, hv9, hb_16⟩ | ⟨rfl, hv9, hb_16⟩
    · obtain rfl := hv9.symm
      show vV _ _ _ _ _ _ _ _ _ _ _ _ _ v 0 0 19 [(5, .ref (ca j)), (0, .ref o), (1, .int (nI (j + 1))), (2, .int k), (3, .int ch), (4, .int od)] [.int 1]
      refine v_if_eq C 42 d_C_wish_19 (by decide) (fun z => absurd z (by decide)) (fun _ => ?_)
      refine v_iload_n C 4 d_C_wish_22 rfl rfl ?_
      refine v_callS (rest := []) C (c_C_isChannel l G v ch) tw_235 tw_30 tw_233 tw_234 mn_C_isChannel ⟨Nat.le_of_ble_eq_true rfl, Nat.le_of_ble_eq_true rfl⟩ rfl rfl (Nat.le_of_ble_eq_true rfl) d_C_wish_23 ⟨(by first | exact Nat.le_of_ble_eq_true rfl | (dsimp only; omega)), (by first | exact Nat.le_of_ble_eq_true rfl | (dsimp only; omega))⟩ (fun r_7 v_8 hp_9 => ?_)
      rcases hp_9 with ⟨rfl, hv9, hb_23⟩ | ⟨rfl, hv9, hb_23⟩
      · obtain rfl := hv9.symm
        show vV _ _ _ _ _ _ _ _ _ _ _ _ _ v 0 0 26 [(5, .ref (ca j)), (0, .ref o), (1, .int (nI (j + 1))), (2, .int k), (3, .int ch), (4, .int od)] [.int 1]
        refine v_if_eq C 42 d_C_wish_26 (by decide) (fun z => absurd z (by decide)) (fun _ => ?_)
        refine v_iload C 5 d_C_wish_29 rfl ?_
        refine v_i2l (y := (Int32.toInt64 od)) C d_C_wish_31 rfl ?_
        refine v_lconst (x := 0) C d_C_wish_32 (by decide) ?_
        refine v_ldc2 (x := 9) C d_C_wish_33 tw_108 ?_
        refine v_callS (rest := []) C (c_C_isWithin l G v (Int32.toInt64 od) 0 9) tw_111 tw_30 tw_109 tw_110 mn_C_isWithin ⟨Nat.le_of_ble_eq_true rfl, Nat.le_of_ble_eq_true rfl⟩ rfl rfl (Nat.le_of_ble_eq_true rfl) d_C_wish_36 ⟨(by first | exact Nat.le_of_ble_eq_true rfl | (dsimp only; omega)), (by first | exact Nat.le_of_ble_eq_true rfl | (dsimp only; omega))⟩ (fun r_10 v_11 hp_12 => ?_)
        rcases hp_12 with ⟨rfl, hv9, hb_36⟩ | ⟨rfl, hv9, hb_36⟩
        · obtain rfl := hv9.symm
          show vV _ _ _ _ _ _ _ _ _ _ _ _ _ v 0 0 39 [(5, .ref (ca j)), (0, .ref o), (1, .int (nI (j + 1))), (2, .int k), (3, .int ch), (4, .int od)] [.int 1]
          refine v_if_ne C 45 d_C_wish_39 (by decide) (fun _ => ?_) (fun z => absurd z (by decide))
          rw [i64_toInt] at hb_36
          have hz : zIn k 0 7 ∧ zIn ch 0 3 ∧ zIn od 0 9 := ⟨hb_16, hb_23, hb_36⟩
          obtain ⟨kd, rfl, hkd1, hkd2, hkd3⟩ := zIn_nI (a := 0) (b := 7) hz.1
          obtain ⟨cn, rfl, hcn1, hcn2, hcn3⟩ := zIn_nI (a := 0) (b := 3) hz.2.1
          obtain ⟨od1, rfl, hod11, hod12, hod13⟩ := zIn_nI (a := 0) (b := 9) hz.2.2
          refine v_aload C 0 d_C_wish_45 rfl ?_
          refine v_iload_n C 3 d_C_wish_47 rfl rfl ?_
          refine v_iload_n C 4 d_C_wish_48 rfl rfl ?_
          refine v_iload C 5 d_C_wish_49 rfl ?_
          refine v_callV (rest := []) C (c_K_setOrder l G v (ca j) (nI (j + 1)) (zi S 4 (j + 1)) (zi S 5 (j + 1)) (zi S 6 (j + 1)) (zi S 7 (j + 1)) lw mt0 (oa j) g kd cn (nI od1) hk0 hg0 (by omega) (by omega)) tw_240 tw_35 tw_237 tw_238 tw_239 mn_K_setOrder hk0 k_K.1 ⟨Nat.le_of_ble_eq_true rfl, Nat.le_of_ble_eq_true rfl⟩ rfl rfl (Nat.le_of_ble_eq_true rfl) d_C_wish_51 ⟨(by first | exact Nat.le_of_ble_eq_true rfl | (dsimp only; omega)), (by first | exact Nat.le_of_ble_eq_true rfl | (dsimp only; omega))⟩ (fun r_13 v_14 hp_15 => ?_)
          obtain ⟨rfl, hv9⟩ := hp_15
          have he_16 : v_14 0 (ca j) = some (.inr (0, [.int (nI (j + 1)), .int (zi S 4 (j + 1)), .int (zi S 5 (j + 1)), .int (zi S 6 (j + 1)), .int (zi S 7 (j + 1)), .long lw, .int mt0, .ref (oa j)])) := by rw [hv9]; exact (vv_up_k _ _ _ _ (by decide)).trans hk0
          have he_17 : v_14 50 (oa j) = some (.inl (G.2.2.2.2 0, 32, .inl (upd g (kd * 4 + cn) (nI od1)))) := by rw [hv9]; exact vv_up_s _ _ _ _
          have hkv : vkp (fun k x => k = 50 ∧ x = oa j) v v_14 := by rw [hv9]; exact vkp.rf.up ⟨rfl, rfl⟩
          show vV _ _ _ _ _ _ _ _ _ _ _ _ _ v_14 0 0 54 [(5, .ref (ca j)), (0, .ref o), (1, .int (nI (j + 1))), (2, .int (nI kd)), (3, .int (nI cn)), (4, .int (nI od1))] []
          refine v_aload C 0 d_C_wish_54 rfl ?_
          refine v_iload_n C 3 d_C_wish_56 rfl rfl ?_
          refine v_callV (rest := []) C (c_K_countWishes l G v_14 (ca j) (nI (j + 1)) (zi S 4 (j + 1)) (zi S 5 (j + 1)) (zi S 6 (j + 1)) (zi S 7 (j + 1)) lw mt0 (oa j) (upd g (kd * 4 + cn) (nI od1)) kd he_16 he_17 (by omega)) tw_246 tw_35 tw_243 tw_244 tw_245 mn_K_countWishes he_16 k_K.1 ⟨Nat.le_of_ble_eq_true rfl, Nat.le_of_ble_eq_true rfl⟩ rfl rfl (Nat.le_of_ble_eq_true rfl) d_C_wish_57 ⟨(by first | exact Nat.le_of_ble_eq_true rfl | (dsimp only; omega)), (by first | exact Nat.le_of_ble_eq_true rfl | (dsimp only; omega))⟩ (fun r_18 v_19 hp_20 => ?_)
          obtain ⟨rfl, hv9⟩ := hp_20
          obtain rfl := hv9.symm
          show vV _ _ _ _ _ _ _ _ _ _ _ _ _ v_14 0 0 60 [(5, .ref (ca j)), (0, .ref o), (1, .int (nI (j + 1))), (2, .int (nI kd)), (3, .int (nI cn)), (4, .int (nI od1))] [.int (nI (kwn (upd g (kd * 4 + cn) (nI od1)) (kd * 4) 4))]
          have hop : oWish S (nI (j + 1)) (nI kd) (nI cn) (nI od1) = (nI (zwn (zui S 8 (32 * (j + 1) + 4 * kd + cn) (nI od1 + 1)) (32 * (j + 1) + 4 * kd) 4), (zui S 8 (32 * (j + 1) + 4 * kd + cn) (nI od1 + 1))) := by rw [oWish, if_pos hx0, if_pos hz, hxn, zn_nI hkd3, zn_nI hcn3]
          have hgn : ∀ i, i < 32 → upd g (kd * 4 + cn) (nI od1) i = zi (zui S 8 (32 * (j + 1) + 4 * kd + cn) (nI od1 + 1)) 8 (32 * (j + 1) + i) - 1 := by
            intro i hi
            rw [zi_ui, if_pos rfl]
            by_cases c9 : i = kd * 4 + cn
            · subst c9; rw [if_pos (by omega), i_addsub]; simp [upd]
            · rw [if_neg (by omega), ← hgv i hi]; simp [upd, c9]
          have hkz := kwn_zwn (S := (zui S 8 (32 * (j + 1) + 4 * kd + cn) (nI od1 + 1))) (g := upd g (kd * 4 + cn) (nI od1)) (b := kd * 4) (B := 32 * (j + 1) + 4 * kd) (hB7.w (by omega)) 4 (fun i hi => by rw [hgn (kd * 4 + i) (by omega)]; congr 2; omega)
          have hRn := hRC.ords (S' := (zui S 8 (32 * (j + 1) + 4 * kd + cn) (nI od1 + 1))) hj hkv he_17 hgn (fun j9 i9 h1 h2 => by rw [zi_ui, if_pos rfl, if_neg (by omega)]) (fun _ => rfl) (fun f i h => by rw [zi_ui, if_neg h]) (fun _ _ => rfl)
          exact v_iret C d_C_wish_60 (by first | exact Nat.le_of_ble_eq_true rfl | (show _ ≤ _; omega)) (by first | exact Nat.le_of_ble_eq_true rfl | (show _ ≤ _; omega)) ⟨(by rw [hop, hkz]), (by rw [hop]; exact RCe.mk hRn (hkv.mono (cY_50 hj)) rfl)⟩
        · obtain rfl := hv9.symm
          show vV _ _ _ _ _ _ _ _ _ _ _ _ _ v 0 0 39 [(5, .ref (ca j)), (0, .ref o), (1, .int (nI (j + 1))), (2, .int k), (3, .int ch), (4, .int od)] [.int 0]
          refine v_if_ne C 45 d_C_wish_39 (by decide) (fun z => absurd (by decide) z) (fun _ => ?_)
          refine v_bipush (x := -12) C d_C_wish_42 (by decide) ?_
          exact v_iret C d_C_wish_44 (by first | exact Nat.le_of_ble_eq_true rfl | (show _ ≤ _; omega)) (by first | exact Nat.le_of_ble_eq_true rfl | (show _ ≤ _; omega)) ⟨(by rw [i64_toInt] at hb_36; rw [oWish, if_pos hx0, if_neg (fun z => hb_36 z.2.2)] <;> (try rfl)), (by rw [i64_toInt] at hb_36; rw [oWish, if_pos hx0, if_neg (fun z => hb_36 z.2.2)]; exact RCe.rf hRC)⟩
      · obtain rfl := hv9.symm
        show vV _ _ _ _ _ _ _ _ _ _ _ _ _ v 0 0 26 [(5, .ref (ca j)), (0, .ref o), (1, .int (nI (j + 1))), (2, .int k), (3, .int ch), (4, .int od)] [.int 0]
        refine v_if_eq C 42 d_C_wish_26 (by decide) (fun _ => ?_) (fun z => absurd (by decide) z)
        refine v_bipush (x := -12) C d_C_wish_42 (by decide) ?_
        exact v_iret C d_C_wish_44 (by first | exact Nat.le_of_ble_eq_true rfl | (show _ ≤ _; omega)) (by first | exact Nat.le_of_ble_eq_true rfl | (show _ ≤ _; omega)) ⟨(by  rw [oWish, if_pos hx0, if_neg (fun z => hb_23 z.2.1)] <;> (try rfl)), (by  rw [oWish, if_pos hx0, if_neg (fun z => hb_23 z.2.1)]; exact RCe.rf hRC)⟩
    · obtain rfl := hv9.symm
      show vV _ _ _ _ _ _ _ _ _ _ _ _ _ v 0 0 19 [(5, .ref (ca j)), (0, .ref o), (1, .int (nI (j + 1))), (2, .int k), (3, .int ch), (4, .int od)] [.int 0]
      refine v_if_eq C 42 d_C_wish_19 (by decide) (fun _ => ?_) (fun z => absurd (by decide) z)
      refine v_bipush (x := -12) C d_C_wish_42 (by decide) ?_
      exact v_iret C d_C_wish_44 (by first | exact Nat.le_of_ble_eq_true rfl | (show _ ≤ _; omega)) (by first | exact Nat.le_of_ble_eq_true rfl | (show _ ≤ _; omega)) ⟨(by  rw [oWish, if_pos hx0, if_neg (fun z => hb_16 z.1)] <;> (try rfl)), (by  rw [oWish, if_pos hx0, if_neg (fun z => hb_16 z.1)]; exact RCe.rf hRC)⟩
set_option maxHeartbeats 4000000 in
set_option maxRecDepth 100000 in
theorem c_C_quiet (l : Launch) (G : vv_G) (v : vv_V) (o : Nat) (la : Nat → Nat) (cw : Nat) (S : zS) (ra ea ca oa na ia : Nat → Nat) (x a b : Int32) (hRC : RC G v o la cw S ra ea ca oa na ia) (hB : zc S 0 ≤ 40) : Mv l y_C_quiet b_C_quiet 5 (some FieldType.int) 4 85 G v [.ref o, .int x, .int a, .int b] (fun r v' => r = some (.int (oQuiet S x a b).1) ∧ RCe G v o la cw S oa v' (oQuiet S x a b).2) 0 0 := by
  refine vv_metF (own := "CustomerNotices") (nm := "quiet") pf_C_quiet rfl rfl (Nat.le_of_ble_eq_true rfl) ?_
  intro p e s m below meth c C hin
  obtain ⟨hA, ⟨gw, hW, hWj⟩, hLs, hKs, hNs, hIs, hD1, hD2, hD3, hD4⟩ := id hRC
  show vV _ _ _ _ _ _ _ _ _ _ _ _ _ v 0 0 0 [(0, .ref o), (1, .int x), (2, .int a), (3, .int b)] []
  refine v_aload_n C 0 d_C_quiet_0 rfl rfl ?_
  refine v_iload_n C 1 d_C_quiet_1 rfl rfl ?_
  refine v_callV (rest := []) C (c_C_findCustomer l G v o la cw S ra ea ca oa na ia x hRC (by omega)) tw_214 tw_30 tw_211 tw_213 tw_3 mn_C_findCustomer hA k_C.1 ⟨Nat.le_of_ble_eq_true rfl, Nat.le_of_ble_eq_true rfl⟩ rfl rfl (Nat.le_of_ble_eq_true rfl) d_C_quiet_2 ⟨(by first | exact Nat.le_of_ble_eq_true rfl | (dsimp only; omega)), (by first | exact Nat.le_of_ble_eq_true rfl | (dsimp only; omega))⟩ (fun r_1 v_2 hp_3 => ?_)
  rcases hp_3 with ⟨rfl, hv9, hno⟩ | ⟨j, rfl, hv9, hj, hxj⟩
  · obtain rfl := hv9.symm
    show vV _ _ _ _ _ _ _ _ _ _ _ _ _ v 0 0 5 [(0, .ref o), (1, .int x), (2, .int a), (3, .int b)] [.null]
    refine v_astoreN (lv' := [(4, .null), (0, .ref o), (1, .int x), (2, .int a), (3, .int b)]) C d_C_quiet_5 (by decide) rfl ?_
    refine v_aloadN C 0 d_C_quiet_7 rfl ?_
    refine v_ifnonnullN C d_C_quiet_9 ?_
    refine v_bipush (x := -11) C d_C_quiet_12 (by decide) ?_
    exact v_iret C d_C_quiet_14 (by first | exact Nat.le_of_ble_eq_true rfl | (show _ ≤ _; omega)) (by first | exact Nat.le_of_ble_eq_true rfl | (show _ ≤ _; omega)) ⟨(by  rw [oQuiet, if_neg hno] <;> (try rfl)), (by  rw [oQuiet, if_neg hno]; exact RCe.rf hRC)⟩
  · obtain rfl := hv9.symm
    subst hxj
    show vV _ _ _ _ _ _ _ _ _ _ _ _ _ v 0 0 5 [(0, .ref o), (1, .int (nI (j + 1))), (2, .int a), (3, .int b)] [.ref (ca j)]
    obtain ⟨⟨lw, mt0, hk0⟩, g, hg0, hgv⟩ := hKs j (by omega)
    have hx0 : zIn (nI (j + 1)) 1 (zc S 0) := zIn_of (a := 1) (by omega) (by omega) (by omega)
    have hxn : zn (nI (j + 1)) = j + 1 := zn_nI (by omega)
    refine v_astore (lv' := [(4, .ref (ca j)), (0, .ref o), (1, .int (nI (j + 1))), (2, .int a), (3, .int b)]) C d_C_quiet_5 (by decide) rfl ?_
    refine v_aload C 0 d_C_quiet_7 rfl ?_
    refine v_ifnonnull C 15 d_C_quiet_9 (by decide) ?_
    refine v_iload_n C 3 d_C_quiet_15 rfl rfl ?_
    refine v_callS (rest := []) C (c_C_isMinuteOfDay l G v a) tw_257 tw_30 tw_255 tw_256 mn_C_isMinuteOfDay ⟨Nat.le_of_ble_eq_true rfl, Nat.le_of_ble_eq_true rfl⟩ rfl rfl (Nat.le_of_ble_eq_true rfl) d_C_quiet_16 ⟨(by first | exact Nat.le_of_ble_eq_true rfl | (dsimp only; omega)), (by first | exact Nat.le_of_ble_eq_true rfl | (dsimp only; omega))⟩ (fun r_4 v_5 hp_6 => ?_)
    rcases hp_6 with ⟨rfl, hv9, hb_16⟩ | ⟨rfl, hv9, hb_16⟩
    · obtain rfl := hv9.symm
      show vV _ _ _ _ _ _ _ _ _ _ _ _ _ v 0 0 19 [(4, .ref (ca j)), (0, .ref o), (1, .int (nI (j + 1))), (2, .int a), (3, .int b)] [.int 1]
      refine v_if_eq C 29 d_C_quiet_19 (by decide) (fun z => absurd z (by decide)) (fun _ => ?_)
      refine v_iload_n C 4 d_C_quiet_22 rfl rfl ?_
      refine v_callS (rest := []) C (c_C_isMinuteOfDay l G v b) tw_257 tw_30 tw_255 tw_256 mn_C_isMinuteOfDay ⟨Nat.le_of_ble_eq_true rfl, Nat.le_of_ble_eq_true rfl⟩ rfl rfl (Nat.le_of_ble_eq_true rfl) d_C_quiet_23 ⟨(by first | exact Nat.le_of_ble_eq_true rfl | (dsimp only; omega)), (by first | exact Nat.le_of_ble_eq_true rfl | (dsimp only; omega))⟩ (fun r_7 v_8 hp_9 => ?_)
      rcases hp_9 with ⟨rfl, hv9, hb_23⟩ | ⟨rfl, hv9, hb_23⟩
      · obtain rfl := hv9.symm
        show vV _ _ _ _ _ _ _ _ _ _ _ _ _ v 0 0 26 [(4, .ref (ca j)), (0, .ref o), (1, .int (nI (j + 1))), (2, .int a), (3, .int b)] [.int 1]
        refine v_if_ne C 32 d_C_quiet_26 (by decide) (fun _ => ?_) (fun z => absurd z (by decide))
        refine v_aload C 0 d_C_quiet_32 rfl ?_
        refine v_iload_n C 3 d_C_quiet_34 rfl rfl ?_
        refine v_put C k_K hk0 3 (by decide) tw_129 (fun _ h => h) rfl rfl rfl (Nat.le_of_ble_eq_true rfl) d_C_quiet_35 ?_
        refine v_view (fun v1 ev1 => ?_)
        have he_10 : v1 3 o = some (.inr (3, [.ref (la 0), .ref (la 1), .ref (la 2), .ref (la 3), .ref (la 4), .ref cw, .long (zl S 0 0), .int (zi S 1 0)])) := by rw [ev1]; exact (vv_up_k _ _ _ _ (by decide)).trans hA
        have he_11 : v1 0 (ca j) = some (.inr (0, [.int (nI (j + 1)), .int (zi S 4 (j + 1)), .int (zi S 5 (j + 1)), .int a, .int (zi S 7 (j + 1)), .long lw, .int mt0, .ref (oa j)])) := by rw [ev1]; exact vv_up_s _ _ _ _
        have he_12 : v1 50 (oa j) = some (.inl (G.2.2.2.2 0, 32, .inl g)) := by rw [ev1]; exact (vv_up_k _ _ _ _ (by decide)).trans hg0
        refine v_aload C 0 d_C_quiet_38 rfl ?_
        refine v_iload_n C 4 d_C_quiet_40 rfl rfl ?_
        refine v_put C k_K he_11 4 (by decide) tw_131 (fun _ h => h) rfl rfl rfl (Nat.le_of_ble_eq_true rfl) d_C_quiet_41 ?_
        refine v_view (fun v2 ev2 => ?_)
        have he_13 : v2 3 o = some (.inr (3, [.ref (la 0), .ref (la 1), .ref (la 2), .ref (la 3), .ref (la 4), .ref cw, .long (zl S 0 0), .int (zi S 1 0)])) := by rw [ev2]; exact (vv_up_k _ _ _ _ (by decide)).trans he_10
        have he_14 : v2 0 (ca j) = some (.inr (0, [.int (nI (j + 1)), .int (zi S 4 (j + 1)), .int (zi S 5 (j + 1)), .int a, .int b, .long lw, .int mt0, .ref (oa j)])) := by rw [ev2]; exact vv_up_s _ _ _ _
        have he_15 : v2 50 (oa j) = some (.inl (G.2.2.2.2 0, 32, .inl g)) := by rw [ev2]; exact (vv_up_k _ _ _ _ (by decide)).trans he_12
        refine v_iload_n C 4 d_C_quiet_44 rfl rfl ?_
        refine v_iload_n C 3 d_C_quiet_45 rfl rfl ?_
        refine v_isub C d_C_quiet_46 ?_
        refine v_sipush (x := 1440) C d_C_quiet_47 (by decide) ?_
        refine v_callS (rest := []) C (c_Ma_floorMod l G v2 (b - a)) tw_261 tw_37 tw_259 tw_260 mn_Ma_floorMod ⟨Nat.le_of_ble_eq_true rfl, Nat.le_of_ble_eq_true rfl⟩ rfl rfl (Nat.le_of_ble_eq_true rfl) d_C_quiet_50 ⟨(by first | exact Nat.le_of_ble_eq_true rfl | (dsimp only; omega)), (by first | exact Nat.le_of_ble_eq_true rfl | (dsimp only; omega))⟩ (fun r_16 v_17 hp_18 => ?_)
        obtain ⟨z, rfl, hz9, hv9⟩ := hp_18
        obtain rfl := hv9.symm
        show vV _ _ _ _ _ _ _ _ _ _ _ _ _ v2 0 0 53 [(4, .ref (ca j)), (0, .ref o), (1, .int (nI (j + 1))), (2, .int a), (3, .int b)] [.int z]
        have hz : zIn a 0 1439 ∧ zIn b 0 1439 := ⟨hb_16, hb_23⟩
        have hop : oQuiet S (nI (j + 1)) a b = (b - a + 1440 - (b - a + 1440) / 1440 * 1440, (zui (zui S 6 (j + 1) a) 7 (j + 1) b)) := by rw [oQuiet, if_pos hx0, if_pos hz, hxn]
        have hkv : vkp (fun k x => k = 0 ∧ x = ca j) v v2 := by rw [ev2, ev1]; exact (vkp.rf.up ⟨rfl, rfl⟩).up ⟨rfl, rfl⟩
        have hRn := hRC.cust (S' := (zui (zui S 6 (j + 1) a) 7 (j + 1) b)) hB hj hkv ⟨lw, mt0, (by rw [he_14]; simp [zi_ui])⟩ (fun _ => rfl) (fun f i h1 h2 => by rw [zi_ui, if_neg h2, zi_ui, if_neg h1]) (fun j9 h1 => ⟨by simp [zi_ui, h1], by simp [zi_ui, h1]⟩) (fun _ _ => rfl)
        have hzz : z = b - a + 1440 - (b - a + 1440) / 1440 * 1440 := by
          apply Int32.toInt_inj.mp
          obtain ⟨⟨u1, u2⟩, u3, u4⟩ := hz
          have e1 : (b - a).toInt = b.toInt - a.toInt := by rw [Int32.toInt_sub, Int.bmod_eq_of_le (by omega) (by omega)]
          have e2 : (b - a + 1440).toInt = b.toInt - a.toInt + 1440 := by rw [Int32.toInt_add, e1]; show (b.toInt - a.toInt + 1440).bmod _ = _; rw [Int.bmod_eq_of_le (by omega) (by omega)]
          have e3 := fi_b (x := b - a + 1440) (Or.inl (by omega))
          rw [hz9, e3, e1, e2]
          omega
        exact v_iret C d_C_quiet_53 (by first | exact Nat.le_of_ble_eq_true rfl | (show _ ≤ _; omega)) (by first | exact Nat.le_of_ble_eq_true rfl | (show _ ≤ _; omega)) ⟨(by rw [hop, hzz]), (by rw [hop]; exact RCe.mk hRn (hkv.mono cY_0) rfl)⟩
      · obtain rfl := hv9.symm
        show vV _ _ _ _ _ _ _ _ _ _ _ _ _ v 0 0 26 [(4, .ref (ca j)), (0, .ref o), (1, .int (nI (j + 1))), (2, .int a), (3, .int b)] [.int 0]
        refine v_if_ne C 32 d_C_quiet_26 (by decide) (fun z => absurd (by decide) z) (fun _ => ?_)
        refine v_bipush (x := -12) C d_C_quiet_29 (by decide) ?_
        exact v_iret C d_C_quiet_31 (by first | exact Nat.le_of_ble_eq_true rfl | (show _ ≤ _; omega)) (by first | exact Nat.le_of_ble_eq_true rfl | (show _ ≤ _; omega)) ⟨(by  rw [oQuiet, if_pos hx0, if_neg (fun z => hb_23 z.2)] <;> (try rfl)), (by  rw [oQuiet, if_pos hx0, if_neg (fun z => hb_23 z.2)]; exact RCe.rf hRC)⟩
    · obtain rfl := hv9.symm
      show vV _ _ _ _ _ _ _ _ _ _ _ _ _ v 0 0 19 [(4, .ref (ca j)), (0, .ref o), (1, .int (nI (j + 1))), (2, .int a), (3, .int b)] [.int 0]
      refine v_if_eq C 29 d_C_quiet_19 (by decide) (fun _ => ?_) (fun z => absurd (by decide) z)
      refine v_bipush (x := -12) C d_C_quiet_29 (by decide) ?_
      exact v_iret C d_C_quiet_31 (by first | exact Nat.le_of_ble_eq_true rfl | (show _ ≤ _; omega)) (by first | exact Nat.le_of_ble_eq_true rfl | (show _ ≤ _; omega)) ⟨(by  rw [oQuiet, if_pos hx0, if_neg (fun z => hb_16 z.1)] <;> (try rfl)), (by  rw [oQuiet, if_pos hx0, if_neg (fun z => hb_16 z.1)]; exact RCe.rf hRC)⟩
set_option maxHeartbeats 4000000 in
set_option maxRecDepth 100000 in
theorem c_C_join (l : Launch) (G : vv_G) (v : vv_V) (o : Nat) (la : Nat → Nat) (cw : Nat) (S : zS) (ra ea ca oa na ia : Nat → Nat) (a : Int32) (hRC : RC G v o la cw S ra ea ca oa na ia)  : Mv l y_C_join b_C_join 3 (some FieldType.int) 1 25 G v [.ref o, .int a] (fun r v' => r = some (.int (oJoin S a).1) ∧ RCe G v o la cw S oa v' (oJoin S a).2) 0 0 := by
  refine vv_metF (own := "CustomerNotices") (nm := "join") pf_C_join rfl rfl (Nat.le_of_ble_eq_true rfl) ?_
  intro p e s m below meth c C hin
  obtain ⟨hA, ⟨gw, hW, hWj⟩, hLs, hKs, hNs, hIs, hD1, hD2, hD3, hD4⟩ := id hRC
  show vV _ _ _ _ _ _ _ _ _ _ _ _ _ v 0 0 0 [(0, .ref o), (1, .int a)] []
  refine v_iload_n C 1 d_C_join_0 rfl rfl ?_
  refine v_i2l (y := (Int32.toInt64 a)) C d_C_join_1 rfl ?_
  refine v_lconst (x := 0) C d_C_join_2 (by decide) ?_
  refine v_ldc2 (x := 1440) C d_C_join_3 tw_476 ?_
  refine v_callS (rest := []) C (c_C_isWithin l G v (Int32.toInt64 a) 0 1440) tw_111 tw_30 tw_109 tw_110 mn_C_isWithin ⟨Nat.le_of_ble_eq_true rfl, Nat.le_of_ble_eq_true rfl⟩ rfl rfl (Nat.le_of_ble_eq_true rfl) d_C_join_6 ⟨(by first | exact Nat.le_of_ble_eq_true rfl | (dsimp only; omega)), (by first | exact Nat.le_of_ble_eq_true rfl | (dsimp only; omega))⟩ (fun r_1 v_2 hp_3 => ?_)
  rcases hp_3 with ⟨rfl, hv9, hb_6⟩ | ⟨rfl, hv9, hb_6⟩
  · obtain rfl := hv9.symm
    show vV _ _ _ _ _ _ _ _ _ _ _ _ _ v 0 0 9 [(0, .ref o), (1, .int a)] [.int 1]
    refine v_if_ne C 15 d_C_join_9 (by decide) (fun _ => ?_) (fun z => absurd z (by decide))
    refine v_aload_n C 0 d_C_join_15 rfl rfl ?_
    refine v_get C k_C hA 7 (by decide) tw_85 (fun _ h => h) rfl d_C_join_16 ?_
    refine v_istore_n (lv' := [(2, .int (zi S 1 0)), (0, .ref o), (1, .int a)]) C d_C_join_19 rfl (by decide) rfl ?_
    refine v_aload_n C 1 d_C_join_20 rfl rfl ?_
    refine v_iload_n C 2 d_C_join_21 rfl rfl ?_
    refine v_put C k_C hA 7 (by decide) tw_85 (fun _ h => h) rfl rfl rfl (Nat.le_of_ble_eq_true rfl) d_C_join_22 ?_
    refine v_view (fun v1 ev1 => ?_)
    have he_4 : v1 3 o = some (.inr (3, [.ref (la 0), .ref (la 1), .ref (la 2), .ref (la 3), .ref (la 4), .ref cw, .long (zl S 0 0), .int a])) := by rw [ev1]; exact vv_up_s _ _ _ _
    have hRn := hRC.own (S' := zui S 1 0 a) (v' := v1) (by rw [ev1]; exact vkp.rf.up (Or.inl ⟨rfl, rfl⟩)) he_4 ⟨gw, (by rw [ev1]; exact (vv_up_k _ _ _ _ (by decide)).trans hW), hWj⟩ (fun _ => rfl) (fun f i h1 h2 => by rw [zi_ui, if_neg h1]) (fun _ _ _ => rfl)
    refine v_iload_n C 0 d_C_join_25 rfl rfl ?_
    exact v_iret C d_C_join_26 (by first | exact Nat.le_of_ble_eq_true rfl | (show _ ≤ _; omega)) (by first | exact Nat.le_of_ble_eq_true rfl | (show _ ≤ _; omega)) ⟨(by rw [i64_toInt] at hb_6; rw [oJoin, if_pos (show zIn a 0 1440 from hb_6)]), (by rw [i64_toInt] at hb_6; rw [oJoin, if_pos (show zIn a 0 1440 from hb_6)]; exact RCe.mk hRn ((by rw [ev1]; exact vkp.rf.up (Or.inl ⟨rfl, rfl⟩) : vkp (fun k x => (k = 3 ∧ x = o) ∨ (k = 51 ∧ x = cw)) v v1).mono cY_o) rfl)⟩
  · obtain rfl := hv9.symm
    show vV _ _ _ _ _ _ _ _ _ _ _ _ _ v 0 0 9 [(0, .ref o), (1, .int a)] [.int 0]
    refine v_if_ne C 15 d_C_join_9 (by decide) (fun z => absurd (by decide) z) (fun _ => ?_)
    refine v_bipush (x := -12) C d_C_join_12 (by decide) ?_
    exact v_iret C d_C_join_14 (by first | exact Nat.le_of_ble_eq_true rfl | (show _ ≤ _; omega)) (by first | exact Nat.le_of_ble_eq_true rfl | (show _ ≤ _; omega)) ⟨(by rw [i64_toInt] at hb_6; rw [oJoin, if_neg (show ¬ zIn a 0 1440 from hb_6)] <;> (try rfl)), (by rw [i64_toInt] at hb_6; rw [oJoin, if_neg (show ¬ zIn a 0 1440 from hb_6)]; exact RCe.rf hRC)⟩
set_option maxHeartbeats 4000000 in
set_option maxRecDepth 100000 in
theorem c_C_works (l : Launch) (G : vv_G) (v : vv_V) (o : Nat) (la : Nat → Nat) (cw : Nat) (S : zS) (ra ea ca oa na ia : Nat → Nat) (ch on : Int32) (hRC : RC G v o la cw S ra ea ca oa na ia) (hB7 : zB7 S) (hon : on = 0 ∨ on = 1) : Mv l y_C_works b_C_works 4 (some FieldType.boolean) 2 45 G v [.ref o, .int ch, .int on] (fun r v' => r = some (.int (oWorks S ch on).1) ∧ RCe G v o la cw S oa v' (oWorks S ch on).2) 0 0 := by
  refine vv_metF (own := "CustomerNotices") (nm := "works") pf_C_works rfl rfl (Nat.le_of_ble_eq_true rfl) ?_
  intro p e s m below meth c C hin
  obtain ⟨hA, ⟨gw, hW, hWj⟩, hLs, hKs, hNs, hIs, hD1, hD2, hD3, hD4⟩ := id hRC
  show vV _ _ _ _ _ _ _ _ _ _ _ _ _ v 0 0 0 [(0, .ref o), (1, .int ch), (2, .int on)] []
  refine v_iload_n C 1 d_C_works_0 rfl rfl ?_
  refine v_callS (rest := []) C (c_C_isChannel l G v ch) tw_235 tw_30 tw_233 tw_234 mn_C_isChannel ⟨Nat.le_of_ble_eq_true rfl, Nat.le_of_ble_eq_true rfl⟩ rfl rfl (Nat.le_of_ble_eq_true rfl) d_C_works_1 ⟨(by first | exact Nat.le_of_ble_eq_true rfl | (dsimp only; omega)), (by first | exact Nat.le_of_ble_eq_true rfl | (dsimp only; omega))⟩ (fun r_1 v_2 hp_3 => ?_)
  rcases hp_3 with ⟨rfl, hv9, hb_1⟩ | ⟨rfl, hv9, hb_1⟩
  · obtain rfl := hv9.symm
    show vV _ _ _ _ _ _ _ _ _ _ _ _ _ v 0 0 4 [(0, .ref o), (1, .int ch), (2, .int on)] [.int 1]
    refine v_if_ne C 9 d_C_works_4 (by decide) (fun _ => ?_) (fun z => absurd z (by decide))
    have hx0 : zIn ch 0 3 := hb_1
    obtain ⟨cn, rfl, hcn1, hcn2, hcn3⟩ := zIn_nI (a := 0) (b := 3) hx0
    refine v_aload_n C 0 d_C_works_9 rfl rfl ?_
    refine v_get C k_C hA 5 (by decide) tw_83 (fun _ h => h) rfl d_C_works_10 ?_
    refine v_iload_n C 1 d_C_works_13 rfl rfl ?_
    refine v_zaldN C hW (by omega) (by omega) d_C_works_14 ?_
    refine v_toi (y := 1 - zi S 2 cn) (hWj cn (by omega)) ?_
    have hbb : (1 - zi S 2 cn : Int32) = 0 ∨ (1 - zi S 2 cn : Int32) = 1 := by rcases hB7.2 cn with q | q <;> rw [q] <;> decide
    refine v_istore_n (lv' := [(3, .int (1 - zi S 2 cn)), (0, .ref o), (1, .int (nI cn)), (2, .int on)]) C d_C_works_15 rfl (by decide) rfl ?_
    refine v_aload_n C 1 d_C_works_16 rfl rfl ?_
    refine v_get C k_C hA 5 (by decide) tw_83 (fun _ h => h) rfl d_C_works_17 ?_
    refine v_iload_n C 2 d_C_works_20 rfl rfl ?_
    refine v_iload_n C 3 d_C_works_21 rfl rfl ?_
    refine v_zastN C hW (by omega) (by omega) d_C_works_22 ?_
    refine v_view (fun v1 ev1 => ?_)
    have he_4 : v1 3 o = some (.inr (3, [.ref (la 0), .ref (la 1), .ref (la 2), .ref (la 3), .ref (la 4), .ref cw, .long (zl S 0 0), .int (zi S 1 0)])) := by rw [ev1]; exact (vv_up_k _ _ _ _ (by decide)).trans hA
    have he_5 : v1 51 cw = some (.inl (G.2.2.2.2 1, 4, .inl (upd gw cn (vp_nar .boolean on)))) := by rw [ev1]; exact vv_up_s _ _ _ _
    have hkv : vkp (fun k x => (k = 3 ∧ x = o) ∨ (k = 51 ∧ x = cw)) v v1 := by rw [ev1]; exact vkp.rf.up (Or.inr ⟨rfl, rfl⟩)
    have hRn := hRC.own (S' := zui S 2 cn (1 - on)) hkv (by rw [ev1]; exact (vv_up_k _ _ _ _ (by decide)).trans hA) ⟨_, he_5, (fun j hj => by rw [vnar_b hon, zi_ui, if_pos rfl]; by_cases c9 : j = cn; { subst c9; rw [if_pos rfl, i_1sub hon]; simp [upd] }; { rw [if_neg c9, ← hWj j hj]; simp [upd, c9] })⟩ (fun _ => rfl) (fun f i h1 h2 => by rw [zi_ui, if_neg h2]) (fun _ _ _ => rfl)
    refine v_iload_n C 0 d_C_works_23 rfl rfl ?_
    exact v_zret C d_C_works_24 (by first | exact Nat.le_of_ble_eq_true rfl | (show _ ≤ _; omega)) (by first | exact Nat.le_of_ble_eq_true rfl | (show _ ≤ _; omega)) (nar_b hbb) ⟨(by rw [oWorks, if_pos hx0, zn_nI hcn3]), (by rw [oWorks, if_pos hx0, zn_nI hcn3]; exact RCe.mk hRn (hkv.mono cY_o) rfl)⟩
  · obtain rfl := hv9.symm
    show vV _ _ _ _ _ _ _ _ _ _ _ _ _ v 0 0 4 [(0, .ref o), (1, .int ch), (2, .int on)] [.int 0]
    refine v_if_ne C 9 d_C_works_4 (by decide) (fun z => absurd (by decide) z) (fun _ => ?_)
    refine v_iconst (x := 0) C d_C_works_7 (by decide) ?_
    exact v_zret C d_C_works_8 (by first | exact Nat.le_of_ble_eq_true rfl | (show _ ≤ _; omega)) (by first | exact Nat.le_of_ble_eq_true rfl | (show _ ≤ _; omega)) (by decide) ⟨(by  rw [oWorks, if_neg (show ¬ zIn ch 0 3 from hb_1)] <;> (try rfl)), (by  rw [oWorks, if_neg (show ¬ zIn ch 0 3 from hb_1)]; exact RCe.rf hRC)⟩
