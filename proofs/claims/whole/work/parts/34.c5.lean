theorem zlp_n {na : Nat → Nat} {n : Nat} (h : n ≤ 1000) : zlp na (nI (n + 1)) = some (na n) := by
  unfold zlp
  have h0 : ¬ nI (n + 1) = 0 := fun z => by
    have := (nI_eq (a := n + 1) (b := 0) (by omega) (by omega)).mp z
    omega
  rw [if_neg h0, zn_nI (by omega)]
  rfl
def oAdP (S : zS) (x it : Int32) (w : Int64) : Int32 × zS := if zc S 1 = 200 ∨ (zpf S x it (zc S 2) = none ∧ zc S 2 = 60) then (-14, S)
     else (nI (zc S 1 + 1), zui (zkeep (zput S x it 3 (zl S 0 0) w 0) x it) 22 (zkix S x it) (nI (zc S 1 + 1)))
theorem zput_i {S : zS} {x it kd : Int32} {t w : Int64} {cr : Int32} {f i : Nat} (h : i ≠ zc S 1 + 1 ∨ (f ≠ 10 ∧ f ≠ 11 ∧ f ≠ 12 ∧ f ≠ 15 ∧ f ≠ 16 ∧ f ≠ 17)) : zi (zput S x it kd t w cr) f i = zi S f i := by
  unfold zput
  simp only [zi_ui, zi_ul, zi_uc]
  rcases h with h | ⟨h1, h2, h3, h4, h5, h6⟩
  · simp only [if_neg h, ite_self]
  · rw [if_neg h6, if_neg h5, if_neg h4, if_neg h3, if_neg h2, if_neg h1]
theorem zput_l {S : zS} {x it kd : Int32} {t w : Int64} {cr : Int32} {f i : Nat} (h : i ≠ zc S 1 + 1 ∨ (f ≠ 13 ∧ f ≠ 14)) : zl (zput S x it kd t w cr) f i = zl S f i := by
  unfold zput
  simp only [zl_ui, zl_ul, zl_uc]
  rcases h with h | ⟨h1, h2⟩
  · simp only [if_neg h, ite_self]
  · rw [if_neg h2, if_neg h1]
theorem zput_14 {S : zS} {x it kd : Int32} {t w : Int64} {cr : Int32} : zl (zput S x it kd t w cr) 14 (zc S 1 + 1) = w := by
  unfold zput
  simp [zl_ui, zl_ul, zl_uc]
theorem zput_16 {S : zS} {x it kd : Int32} {t w : Int64} {cr : Int32} : zi (zput S x it kd t w cr) 16 (zc S 1 + 1) = cr := by
  unfold zput
  simp [zi_ui, zi_ul, zi_uc]
set_option maxHeartbeats 4000000 in
set_option maxRecDepth 100000 in
theorem c_C_addPromise0 (l : Launch) (G : vv_G) (v : vv_V) (o : Nat) (la : Nat → Nat) (cw : Nat) (S : zS) (ra ea ca oa na ia : Nat → Nat) (j : Nat) (it : Int32) (wn : Int64) (hRC : RC G v o la cw S ra ea ca oa na ia) (hj : j < zc S 0) (hB : zB S) (hB4 : zB4 S) (hB4f : zB4f S) (hpf : zpf S (nI (j + 1)) it (zc S 2) = none) : Mv l y_C_addPromise b_C_addPromise 8 (some FieldType.int) 8 197 G v [.ref o, .ref (ca j), .int it, .null, .long wn] (fun r v' => r = some (.int (oAdP S (nI (j + 1)) it wn).1) ∧ ∃ ra' ea' na' ia', RC G v' o la cw (oAdP S (nI (j + 1)) it wn).2 ra' ea' ca oa na' ia' ∧ vkp cX v v') 4 504 := by
  refine vv_metF (own := "CustomerNotices") (nm := "addPromise") pf_C_addPromise rfl rfl (Nat.le_of_ble_eq_true rfl) ?_
  intro p e s m below meth c C hin
  obtain ⟨hA, ⟨gw, hW, hWj⟩, hLs, hKs, hNs, hIs, hD1, hD2, hD3, hD4⟩ := id hRC
  obtain ⟨n1, hn1⟩ : ∃ z, z = zc S 1 := ⟨_, rfl⟩
  obtain ⟨n2, hn2⟩ : ∃ z, z = zc S 2 := ⟨_, rfl⟩
  obtain ⟨hb0, hb1, hb2, hb22⟩ := id hB
  show vV _ _ _ _ _ _ _ _ _ _ _ _ _ v 0 0 0 [(0, .ref o), (1, .ref (ca j)), (2, .int it), (3, .null), (4, .long wn)] []
  refine v_aload_n C 0 d_C_addPromise_0 rfl rfl ?_
  refine v_callV (rest := []) C (c_C_noticesAreFull l G v o la cw S ra ea ca oa na ia hRC (by omega)) tw_286 tw_30 tw_283 tw_285 tw_7 mn_C_noticesAreFull hA k_C.1 ⟨Nat.le_of_ble_eq_true rfl, Nat.le_of_ble_eq_true rfl⟩ rfl rfl (Nat.le_of_ble_eq_true rfl) d_C_addPromise_1 ⟨(by first | exact Nat.le_of_ble_eq_true rfl | (dsimp only; omega)), (by first | exact Nat.le_of_ble_eq_true rfl | (dsimp only; omega))⟩ (fun r_1 v_2 hp_3 => ?_)
  rcases hp_3 with ⟨rfl, hv9, hb_1⟩ | ⟨rfl, hv9, hb_1⟩
  · obtain rfl := hv9.symm
    show vV _ _ _ _ _ _ _ _ _ _ _ _ _ v 0 0 4 [(0, .ref o), (1, .ref (ca j)), (2, .int it), (3, .null), (4, .long wn)] [.int 1]
    refine v_if_ne C 18 d_C_addPromise_4 (by decide) (fun _ => ?_) (fun z => absurd z (by decide))
    refine v_bipush (x := -14) C d_C_addPromise_18 (by decide) ?_
    exact v_iret C d_C_addPromise_20 (by first | exact Nat.le_of_ble_eq_true rfl | (show _ ≤ _; omega)) (by first | exact Nat.le_of_ble_eq_true rfl | (show _ ≤ _; omega)) ⟨(by rw [oAdP, if_pos (Or.inl (by omega))]), (by rw [oAdP, if_pos (Or.inl (by omega))]; exact ⟨ra, ea, na, ia, hRC, vkp.rf⟩)⟩
  · obtain rfl := hv9.symm
    show vV _ _ _ _ _ _ _ _ _ _ _ _ _ v 0 0 4 [(0, .ref o), (1, .ref (ca j)), (2, .int it), (3, .null), (4, .long wn)] [.int 0]
    refine v_if_ne C 18 d_C_addPromise_4 (by decide) (fun z => absurd (by decide) z) (fun _ => ?_)
    refine v_aload_nN C 3 d_C_addPromise_7 rfl rfl ?_
    refine v_ifnonnullN C d_C_addPromise_8 ?_
    refine v_aload_n C 0 d_C_addPromise_11 rfl rfl ?_
    refine v_callV (rest := []) C (c_C_itemsAreFull l G v o la cw S ra ea ca oa na ia hRC (by omega)) tw_290 tw_30 tw_287 tw_289 tw_8 mn_C_itemsAreFull hA k_C.1 ⟨Nat.le_of_ble_eq_true rfl, Nat.le_of_ble_eq_true rfl⟩ rfl rfl (Nat.le_of_ble_eq_true rfl) d_C_addPromise_12 ⟨(by first | exact Nat.le_of_ble_eq_true rfl | (dsimp only; omega)), (by first | exact Nat.le_of_ble_eq_true rfl | (dsimp only; omega))⟩ (fun r_4 v_5 hp_6 => ?_)
    rcases hp_6 with ⟨rfl, hv9, hb_12⟩ | ⟨rfl, hv9, hb_12⟩
    · obtain rfl := hv9.symm
      show vV _ _ _ _ _ _ _ _ _ _ _ _ _ v 0 0 15 [(0, .ref o), (1, .ref (ca j)), (2, .int it), (3, .null), (4, .long wn)] [.int 1]
      refine v_if_eq C 21 d_C_addPromise_15 (by decide) (fun z => absurd z (by decide)) (fun _ => ?_)
      refine v_bipush (x := -14) C d_C_addPromise_18 (by decide) ?_
      exact v_iret C d_C_addPromise_20 (by first | exact Nat.le_of_ble_eq_true rfl | (show _ ≤ _; omega)) (by first | exact Nat.le_of_ble_eq_true rfl | (show _ ≤ _; omega)) ⟨(by rw [oAdP, if_pos (Or.inr ⟨hpf, by omega⟩)]), (by rw [oAdP, if_pos (Or.inr ⟨hpf, by omega⟩)]; exact ⟨ra, ea, na, ia, hRC, vkp.rf⟩)⟩
    · obtain rfl := hv9.symm
      show vV _ _ _ _ _ _ _ _ _ _ _ _ _ v 0 0 15 [(0, .ref o), (1, .ref (ca j)), (2, .int it), (3, .null), (4, .long wn)] [.int 0]
      refine v_if_eq C 21 d_C_addPromise_15 (by decide) (fun _ => ?_) (fun z => absurd (by decide) z)
      refine v_aload_n C 0 d_C_addPromise_21 rfl rfl ?_
      refine v_aload_n C 1 d_C_addPromise_22 rfl rfl ?_
      refine v_iload_n C 2 d_C_addPromise_23 rfl rfl ?_
      refine v_iconst (x := 3) C d_C_addPromise_24 (by decide) ?_
      refine v_aload_n C 0 d_C_addPromise_25 rfl rfl ?_
      refine v_get C k_C hA 6 (by decide) tw_84 (fun _ h => h) rfl d_C_addPromise_26 ?_
      refine v_callV (rest := []) C (c_C_addNotice l G v o la cw S ra ea ca oa na ia (ca j) (nI (j + 1)) it 3 (zl S 0 0) hRC (by rw [zn_nI (by omega)]; rfl) (by omega) hB hB4 hB4f) tw_318 tw_30 tw_315 tw_317 tw_10 mn_C_addNotice hA k_C.1 ⟨Nat.le_of_ble_eq_true rfl, Nat.le_of_ble_eq_true rfl⟩ rfl rfl (Nat.le_of_ble_eq_true rfl) d_C_addPromise_29 ⟨(by first | exact Nat.le_of_ble_eq_true rfl | (dsimp only; omega)), (by first | exact Nat.le_of_ble_eq_true rfl | (dsimp only; omega))⟩ (fun r_7 v_8 hp_9 => ?_)
      refine v_cs (kc' := 2) (ks' := 256) rfl rfl ?_
      obtain ⟨ra1, ea1, na1, rfl, hRC1, hna1, hkX1⟩ := hp_9
      obtain ⟨S1, eS1⟩ : ∃ z, z = zput S (nI (j + 1)) it 3 (zl S 0 0) (-1) 0 := ⟨_, rfl⟩
      rw [← eS1] at hRC1
      have hc1 : zc S1 1 = n1 + 1 ∧ zc S1 0 = zc S 0 ∧ zc S1 2 = zc S 2 ∧ zc S1 3 = zc S 3 := by rw [eS1, hn1]; exact ⟨rfl, rfl, rfl, rfl⟩
      refine v_tov (y := .ref (na1 n1)) (by rw [hn1]) ?_
      obtain ⟨hA1, ⟨gw1, hW1, hWj1⟩, hLs1, hKs1, hNs1, hIs1, hD11, hD21, hD31, hD41⟩ := id hRC1
      obtain ⟨ch, msg, sent, hn0, hns⟩ := hNs1 n1 (by omega)
      show vV _ _ _ _ _ _ _ _ _ _ _ _ _ v_8 2 256 32 [(0, .ref o), (1, .ref (ca j)), (2, .int it), (3, .null), (4, .long wn)] [.ref (na1 n1)]
      refine v_astore (lv' := [(6, .ref (na1 n1)), (0, .ref o), (1, .ref (ca j)), (2, .int it), (3, .null), (4, .long wn)]) C d_C_addPromise_32 (by decide) rfl ?_
      refine v_aload C 0 d_C_addPromise_34 rfl ?_
      refine v_lload C 5 d_C_addPromise_36 rfl ?_
      refine v_put C k_N hn0 6 (by decide) tw_339 (fun _ h => h) rfl rfl rfl (Nat.le_of_ble_eq_true rfl) d_C_addPromise_38 ?_
      refine v_view (fun v1 ev1 => ?_)
      have he_10 : v1 3 o = some (.inr (3, [.ref (la 0), .ref (la 1), .ref (la 2), .ref (la 3), .ref (la 4), .ref cw, .long (zl S1 0 0), .int (zi S1 1 0)])) := by rw [ev1]; exact (vv_up_k _ _ _ _ (by decide)).trans hA1
      have he_11 : v1 2 (na1 n1) = some (.inr (2, [.int (nI (n1 + 1)), .ref (ca (zn (zi S1 10 (n1 + 1)) - 1)), .int (zi S1 11 (n1 + 1)), .int (zi S1 12 (n1 + 1)), .long (zl S1 13 (n1 + 1)), .int (zi S1 15 (n1 + 1)), .long wn, .int (zi S1 16 (n1 + 1)), .int (zi S1 17 (n1 + 1)), .int ch, .int msg, .long sent])) := by rw [ev1]; exact vv_up_s _ _ _ _
      obtain ⟨S2, eS2⟩ : ∃ z, z = zput S (nI (j + 1)) it 3 (zl S 0 0) wn 0 := ⟨_, rfl⟩
      have hRC2 : RC G v1 o la cw S2 ra1 ea1 ca oa na1 ia := by
        refine hRC1.noti (j0 := n1) (by omega) (by omega) (by rw [ev1]; exact vkp.rf.up ⟨rfl, rfl⟩) ⟨ch, msg, sent, ?_, ?_⟩ (fun i => by rw [eS1, eS2]; rfl) (fun f i _ _ _ => by rw [eS1, eS2]; rfl) (fun f i _ => by rw [eS1, eS2]; rfl) (fun f i h => by rw [eS1, eS2]; simp only [zput, zl_ui, zl_ul, zl_uc, if_neg h]) (fun i h => by rw [eS1, eS2, zput_l (Or.inl (by omega)), zput_l (Or.inl (by omega))])
        · rw [he_11, eS1, eS2]; rw [show zl (zput S (nI (j + 1)) it 3 (zl S 0 0) wn 0) 14 (n1 + 1) = wn by rw [hn1]; exact zput_14]; rfl
        · intro i h1 h2; rw [eS2] at h1 h2 ⊢; rw [eS1] at hns; exact hns i h1 h2
      have hc2 : zc S2 1 = n1 + 1 ∧ zc S2 0 = zc S 0 ∧ zc S2 2 = zc S 2 := by rw [eS2, hn1]; exact ⟨rfl, rfl, rfl⟩
      have hkX2 : vkp cX v v1 := by rw [ev1]; exact hkX1.up (Or.inr (Or.inl rfl))
      obtain ⟨hA2, ⟨gw2, hW2, hWj2⟩, hLs2, hKs2, hNs2, hIs2, hD12, hD22, hD32, hD42⟩ := id hRC2
      obtain ⟨⟨lw, mt0, hk0⟩, g, hg0, hgv⟩ := hKs2 j (by omega)
      have hpf2 : zpf S2 (nI (j + 1)) it (zc S2 2) = zpf S (nI (j + 1)) it (zc S 2) := by rw [hc2.2.2, eS2, zpf_put]
      refine v_aload_nN C 4 d_C_addPromise_41 rfl rfl ?_
      refine v_ifnonnullN C d_C_addPromise_42 ?_
      refine v_aload_n C 1 d_C_addPromise_45 rfl rfl ?_
      refine v_aload_n C 2 d_C_addPromise_46 rfl rfl ?_
      refine v_get C k_K hk0 0 (by decide) tw_125 (fun _ h => h) rfl d_C_addPromise_47 ?_
      refine v_iload_n C 3 d_C_addPromise_50 rfl rfl ?_
      refine v_callV (rest := []) C (c_C_addItem l G v1 o la cw S2 ra1 ea1 ca oa na1 ia (nI (j + 1)) it hRC2 (by omega)) tw_294 tw_30 tw_291 tw_293 tw_9 mn_C_addItem hA2 k_C.1 ⟨Nat.le_of_ble_eq_true rfl, Nat.le_of_ble_eq_true rfl⟩ rfl rfl (Nat.le_of_ble_eq_true rfl) d_C_addPromise_51 ⟨(by first | exact Nat.le_of_ble_eq_true rfl | (dsimp only; omega)), (by first | exact Nat.le_of_ble_eq_true rfl | (dsimp only; omega))⟩ (fun r_12 v_13 hp_14 => ?_)
      refine v_cs (kc' := 4) (ks' := 504) rfl rfl ?_
      obtain ⟨ra3, ea3, ia3, rfl, hRC3, hia3, hkX3⟩ := hp_14
      obtain ⟨S3, eS3⟩ : ∃ z, z = zadI S2 (nI (j + 1)) it := ⟨_, rfl⟩
      rw [← eS3] at hRC3
      have hc3 : zc S3 2 = zc S2 2 + 1 ∧ zc S3 0 = zc S2 0 ∧ zc S3 1 = zc S2 1 := by rw [eS3]; exact ⟨rfl, rfl, rfl⟩
      refine v_tov (y := .ref (ia3 n2)) (by rw [hn2, hc2.2.2]) ?_
      obtain ⟨hA3, ⟨gw3, hW3, hWj3⟩, hLs3, hKs3, hNs3, hIs3, hD13, hD23, hD33, hD43⟩ := id hRC3
      have hi0 : v_13 1 (ia3 n2) = some (vi _ _ _ _) := hIs3 n2 (by omega)
      show vV _ _ _ _ _ _ _ _ _ _ _ _ _ v_13 4 504 54 [(6, .ref (na1 n1)), (0, .ref o), (1, .ref (ca j)), (2, .int it), (3, .null), (4, .long wn)] [.ref (ia3 n2)]
      refine v_goto C 58 d_C_addPromise_54 (by decide) ?_
      obtain ⟨ch, msg, sent, hn0, hns⟩ := hNs3 n1 (by omega)
      refine v_astore (lv' := [(7, .ref (ia3 n2)), (6, .ref (na1 n1)), (0, .ref o), (1, .ref (ca j)), (2, .int it), (3, .null), (4, .long wn)]) C d_C_addPromise_58 (by decide) rfl ?_
      refine v_aload C 0 d_C_addPromise_60 rfl ?_
      refine v_aload C 1 d_C_addPromise_62 rfl ?_
      refine v_put C k_I hi0 3 (by decide) tw_305 (fun _ h => h) rfl rfl rfl (Nat.le_of_ble_eq_true rfl) d_C_addPromise_64 ?_
      refine v_view (fun v2 ev2 => ?_)
      have he_15 : v2 3 o = some (.inr (3, [.ref (la 0), .ref (la 1), .ref (la 2), .ref (la 3), .ref (la 4), .ref cw, .long (zl S3 0 0), .int (zi S3 1 0)])) := by rw [ev2]; exact (vv_up_k _ _ _ _ (by decide)).trans hA3
      have he_16 : v2 1 (ia3 n2) = some (.inr (1, [.int (zi S3 19 n2), .int (zi S3 20 n2), .int (zi S3 21 n2), .ref (na1 n1)])) := by rw [ev2]; exact vv_up_s _ _ _ _
      have he_17 : v2 2 (na1 n1) = some (.inr (2, [.int (nI (n1 + 1)), .ref (ca (zn (zi S3 10 (n1 + 1)) - 1)), .int (zi S3 11 (n1 + 1)), .int (zi S3 12 (n1 + 1)), .long (zl S3 13 (n1 + 1)), .int (zi S3 15 (n1 + 1)), .long (zl S3 14 (n1 + 1)), .int (zi S3 16 (n1 + 1)), .int (zi S3 17 (n1 + 1)), .int ch, .int msg, .long sent])) := by rw [ev2]; exact (vv_up_k _ _ _ _ (by decide)).trans hn0
      refine v_aload C 1 d_C_addPromise_67 rfl ?_
      refine v_get C k_N he_17 0 (by decide) tw_327 (fun _ h => h) rfl d_C_addPromise_69 ?_
      exact v_iret C d_C_addPromise_72 (by first | exact Nat.le_of_ble_eq_true rfl | (show _ ≤ _; omega)) (by first | exact Nat.le_of_ble_eq_true rfl | (show _ ≤ _; omega)) ⟨(by rw [oAdP, if_neg (show ¬ (zc S 1 = 200 ∨ (zpf S (nI (j + 1)) it (zc S 2) = none ∧ zc S 2 = 60)) from (by rintro (z | z); omega; omega)), zkix_n hpf, ← hn2, ← hn1, ← eS2, zkeep_n (show zpf S2 (nI (j + 1)) it (zc S2 2) = none by rw [hpf2, hpf]), ← eS3]), (by rw [oAdP, if_neg (show ¬ (zc S 1 = 200 ∨ (zpf S (nI (j + 1)) it (zc S 2) = none ∧ zc S 2 = 60)) from (by rintro (z | z); omega; omega)), zkix_n hpf, ← hn2, ← hn1, ← eS2, zkeep_n (show zpf S2 (nI (j + 1)) it (zc S2 2) = none by rw [hpf2, hpf]), ← eS3]; exact ⟨_, _, _, _, hRC3.itm (k0 := n2) (S' := zui S3 22 n2 (nI (n1 + 1))) (by omega) (by rw [ev2]; exact vkp.rf.up ⟨rfl, rfl⟩) (by unfold RCi; rw [he_16, zi_ui, if_neg (by decide), zi_ui, if_neg (by decide), zi_ui, if_neg (by decide), zi_ui, if_pos rfl, if_pos rfl, zlp_n (by omega)]; rfl) (fun _ => rfl) (fun f i _ h1 => by rw [zi_ui, if_neg h1]) (fun k h => ⟨by rw [zi_ui, if_neg (by decide)], by rw [zi_ui, if_pos rfl, if_neg h]⟩) (fun _ _ => rfl), (by rw [ev2]; exact (hkX2.tr hkX3).up (Or.inl rfl))⟩)⟩
set_option maxHeartbeats 4000000 in
set_option maxRecDepth 100000 in
theorem c_C_addPromise1 (l : Launch) (G : vv_G) (v : vv_V) (o : Nat) (la : Nat → Nat) (cw : Nat) (S : zS) (ra ea ca oa na ia : Nat → Nat) (j : Nat) (it : Int32) (ki : Nat) (wn : Int64) (hRC : RC G v o la cw S ra ea ca oa na ia) (hj : j < zc S 0) (hB : zB S) (hB4 : zB4 S) (hB4f : zB4f S) (hki : ki < zc S 2) (hpf : zpf S (nI (j + 1)) it (zc S 2) = some ki) : Mv l y_C_addPromise b_C_addPromise 8 (some FieldType.int) 8 197 G v [.ref o, .ref (ca j), .int it, .ref (ia ki), .long wn] (fun r v' => r = some (.int (oAdP S (nI (j + 1)) it wn).1) ∧ ∃ ra' ea' na' ia', RC G v' o la cw (oAdP S (nI (j + 1)) it wn).2 ra' ea' ca oa na' ia' ∧ vkp cX v v') 4 504 := by
  refine vv_metF (own := "CustomerNotices") (nm := "addPromise") pf_C_addPromise rfl rfl (Nat.le_of_ble_eq_true rfl) ?_
  intro p e s m below meth c C hin
  obtain ⟨hA, ⟨gw, hW, hWj⟩, hLs, hKs, hNs, hIs, hD1, hD2, hD3, hD4⟩ := id hRC
  obtain ⟨n1, hn1⟩ : ∃ z, z = zc S 1 := ⟨_, rfl⟩
  obtain ⟨n2, hn2⟩ : ∃ z, z = zc S 2 := ⟨_, rfl⟩
  obtain ⟨hb0, hb1, hb2, hb22⟩ := id hB
  show vV _ _ _ _ _ _ _ _ _ _ _ _ _ v 0 0 0 [(0, .ref o), (1, .ref (ca j)), (2, .int it), (3, .ref (ia ki)), (4, .long wn)] []
  refine v_aload_n C 0 d_C_addPromise_0 rfl rfl ?_
  refine v_callV (rest := []) C (c_C_noticesAreFull l G v o la cw S ra ea ca oa na ia hRC (by omega)) tw_286 tw_30 tw_283 tw_285 tw_7 mn_C_noticesAreFull hA k_C.1 ⟨Nat.le_of_ble_eq_true rfl, Nat.le_of_ble_eq_true rfl⟩ rfl rfl (Nat.le_of_ble_eq_true rfl) d_C_addPromise_1 ⟨(by first | exact Nat.le_of_ble_eq_true rfl | (dsimp only; omega)), (by first | exact Nat.le_of_ble_eq_true rfl | (dsimp only; omega))⟩ (fun r_1 v_2 hp_3 => ?_)
  rcases hp_3 with ⟨rfl, hv9, hb_1⟩ | ⟨rfl, hv9, hb_1⟩
  · obtain rfl := hv9.symm
    show vV _ _ _ _ _ _ _ _ _ _ _ _ _ v 0 0 4 [(0, .ref o), (1, .ref (ca j)), (2, .int it), (3, .ref (ia ki)), (4, .long wn)] [.int 1]
    refine v_if_ne C 18 d_C_addPromise_4 (by decide) (fun _ => ?_) (fun z => absurd z (by decide))
    refine v_bipush (x := -14) C d_C_addPromise_18 (by decide) ?_
    exact v_iret C d_C_addPromise_20 (by first | exact Nat.le_of_ble_eq_true rfl | (show _ ≤ _; omega)) (by first | exact Nat.le_of_ble_eq_true rfl | (show _ ≤ _; omega)) ⟨(by rw [oAdP, if_pos (Or.inl (by omega))]), (by rw [oAdP, if_pos (Or.inl (by omega))]; exact ⟨ra, ea, na, ia, hRC, vkp.rf⟩)⟩
  · obtain rfl := hv9.symm
    show vV _ _ _ _ _ _ _ _ _ _ _ _ _ v 0 0 4 [(0, .ref o), (1, .ref (ca j)), (2, .int it), (3, .ref (ia ki)), (4, .long wn)] [.int 0]
    refine v_if_ne C 18 d_C_addPromise_4 (by decide) (fun z => absurd (by decide) z) (fun _ => ?_)
    refine v_aload_n C 3 d_C_addPromise_7 rfl rfl ?_
    refine v_ifnonnull C 21 d_C_addPromise_8 (by decide) ?_
    refine v_aload_n C 0 d_C_addPromise_21 rfl rfl ?_
    refine v_aload_n C 1 d_C_addPromise_22 rfl rfl ?_
    refine v_iload_n C 2 d_C_addPromise_23 rfl rfl ?_
    refine v_iconst (x := 3) C d_C_addPromise_24 (by decide) ?_
    refine v_aload_n C 0 d_C_addPromise_25 rfl rfl ?_
    refine v_get C k_C hA 6 (by decide) tw_84 (fun _ h => h) rfl d_C_addPromise_26 ?_
    refine v_callV (rest := []) C (c_C_addNotice l G v o la cw S ra ea ca oa na ia (ca j) (nI (j + 1)) it 3 (zl S 0 0) hRC (by rw [zn_nI (by omega)]; rfl) (by omega) hB hB4 hB4f) tw_318 tw_30 tw_315 tw_317 tw_10 mn_C_addNotice hA k_C.1 ⟨Nat.le_of_ble_eq_true rfl, Nat.le_of_ble_eq_true rfl⟩ rfl rfl (Nat.le_of_ble_eq_true rfl) d_C_addPromise_29 ⟨(by first | exact Nat.le_of_ble_eq_true rfl | (dsimp only; omega)), (by first | exact Nat.le_of_ble_eq_true rfl | (dsimp only; omega))⟩ (fun r_4 v_5 hp_6 => ?_)
    refine v_cs (kc' := 2) (ks' := 256) rfl rfl ?_
    obtain ⟨ra1, ea1, na1, rfl, hRC1, hna1, hkX1⟩ := hp_6
    obtain ⟨S1, eS1⟩ : ∃ z, z = zput S (nI (j + 1)) it 3 (zl S 0 0) (-1) 0 := ⟨_, rfl⟩
    rw [← eS1] at hRC1
    have hc1 : zc S1 1 = n1 + 1 ∧ zc S1 0 = zc S 0 ∧ zc S1 2 = zc S 2 ∧ zc S1 3 = zc S 3 := by rw [eS1, hn1]; exact ⟨rfl, rfl, rfl, rfl⟩
    refine v_tov (y := .ref (na1 n1)) (by rw [hn1]) ?_
    obtain ⟨hA1, ⟨gw1, hW1, hWj1⟩, hLs1, hKs1, hNs1, hIs1, hD11, hD21, hD31, hD41⟩ := id hRC1
    obtain ⟨ch, msg, sent, hn0, hns⟩ := hNs1 n1 (by omega)
    show vV _ _ _ _ _ _ _ _ _ _ _ _ _ v_5 2 256 32 [(0, .ref o), (1, .ref (ca j)), (2, .int it), (3, .ref (ia ki)), (4, .long wn)] [.ref (na1 n1)]
    refine v_astore (lv' := [(6, .ref (na1 n1)), (0, .ref o), (1, .ref (ca j)), (2, .int it), (3, .ref (ia ki)), (4, .long wn)]) C d_C_addPromise_32 (by decide) rfl ?_
    refine v_aload C 0 d_C_addPromise_34 rfl ?_
    refine v_lload C 5 d_C_addPromise_36 rfl ?_
    refine v_put C k_N hn0 6 (by decide) tw_339 (fun _ h => h) rfl rfl rfl (Nat.le_of_ble_eq_true rfl) d_C_addPromise_38 ?_
    refine v_view (fun v1 ev1 => ?_)
    have he_7 : v1 3 o = some (.inr (3, [.ref (la 0), .ref (la 1), .ref (la 2), .ref (la 3), .ref (la 4), .ref cw, .long (zl S1 0 0), .int (zi S1 1 0)])) := by rw [ev1]; exact (vv_up_k _ _ _ _ (by decide)).trans hA1
    have he_8 : v1 2 (na1 n1) = some (.inr (2, [.int (nI (n1 + 1)), .ref (ca (zn (zi S1 10 (n1 + 1)) - 1)), .int (zi S1 11 (n1 + 1)), .int (zi S1 12 (n1 + 1)), .long (zl S1 13 (n1 + 1)), .int (zi S1 15 (n1 + 1)), .long wn, .int (zi S1 16 (n1 + 1)), .int (zi S1 17 (n1 + 1)), .int ch, .int msg, .long sent])) := by rw [ev1]; exact vv_up_s _ _ _ _
    obtain ⟨S2, eS2⟩ : ∃ z, z = zput S (nI (j + 1)) it 3 (zl S 0 0) wn 0 := ⟨_, rfl⟩
    have hRC2 : RC G v1 o la cw S2 ra1 ea1 ca oa na1 ia := by
      refine hRC1.noti (j0 := n1) (by omega) (by omega) (by rw [ev1]; exact vkp.rf.up ⟨rfl, rfl⟩) ⟨ch, msg, sent, ?_, ?_⟩ (fun i => by rw [eS1, eS2]; rfl) (fun f i _ _ _ => by rw [eS1, eS2]; rfl) (fun f i _ => by rw [eS1, eS2]; rfl) (fun f i h => by rw [eS1, eS2]; simp only [zput, zl_ui, zl_ul, zl_uc, if_neg h]) (fun i h => by rw [eS1, eS2, zput_l (Or.inl (by omega)), zput_l (Or.inl (by omega))])
      · rw [he_8, eS1, eS2]; rw [show zl (zput S (nI (j + 1)) it 3 (zl S 0 0) wn 0) 14 (n1 + 1) = wn by rw [hn1]; exact zput_14]; rfl
      · intro i h1 h2; rw [eS2] at h1 h2 ⊢; rw [eS1] at hns; exact hns i h1 h2
    have hc2 : zc S2 1 = n1 + 1 ∧ zc S2 0 = zc S 0 ∧ zc S2 2 = zc S 2 := by rw [eS2, hn1]; exact ⟨rfl, rfl, rfl⟩
    have hkX2 : vkp cX v v1 := by rw [ev1]; exact hkX1.up (Or.inr (Or.inl rfl))
    obtain ⟨hA2, ⟨gw2, hW2, hWj2⟩, hLs2, hKs2, hNs2, hIs2, hD12, hD22, hD32, hD42⟩ := id hRC2
    obtain ⟨⟨lw, mt0, hk0⟩, g, hg0, hgv⟩ := hKs2 j (by omega)
    have hi0 : v1 1 (ia ki) = some (vi _ _ _ _) := hIs2 ki (by omega)
    obtain ⟨ch, msg, sent, hn0, hns⟩ := hNs2 n1 (by omega)
    have hpf2 : zpf S2 (nI (j + 1)) it (zc S2 2) = zpf S (nI (j + 1)) it (zc S 2) := by rw [hc2.2.2, eS2, zpf_put]
    refine v_aload_n C 4 d_C_addPromise_41 rfl rfl ?_
    refine v_ifnonnull C 57 d_C_addPromise_42 (by decide) ?_
    refine v_aload_n C 4 d_C_addPromise_57 rfl rfl ?_
    refine v_astore (lv' := [(7, .ref (ia ki)), (6, .ref (na1 n1)), (0, .ref o), (1, .ref (ca j)), (2, .int it), (3, .ref (ia ki)), (4, .long wn)]) C d_C_addPromise_58 (by decide) rfl ?_
    refine v_aload C 0 d_C_addPromise_60 rfl ?_
    refine v_aload C 1 d_C_addPromise_62 rfl ?_
    refine v_put C k_I hi0 3 (by decide) tw_305 (fun _ h => h) rfl rfl rfl (Nat.le_of_ble_eq_true rfl) d_C_addPromise_64 ?_
    refine v_view (fun v2 ev2 => ?_)
    have he_9 : v2 3 o = some (.inr (3, [.ref (la 0), .ref (la 1), .ref (la 2), .ref (la 3), .ref (la 4), .ref cw, .long (zl S2 0 0), .int (zi S2 1 0)])) := by rw [ev2]; exact (vv_up_k _ _ _ _ (by decide)).trans hA2
    have he_10 : v2 0 (ca j) = some (.inr (0, [.int (nI (j + 1)), .int (zi S2 4 (j + 1)), .int (zi S2 5 (j + 1)), .int (zi S2 6 (j + 1)), .int (zi S2 7 (j + 1)), .long lw, .int mt0, .ref (oa j)])) := by rw [ev2]; exact (vv_up_k _ _ _ _ (by decide)).trans hk0
    have he_11 : v2 50 (oa j) = some (.inl (G.2.2.2.2 0, 32, .inl g)) := by rw [ev2]; exact (vv_up_k _ _ _ _ (by decide)).trans hg0
    have he_12 : v2 1 (ia ki) = some (.inr (1, [.int (zi S2 19 ki), .int (zi S2 20 ki), .int (zi S2 21 ki), .ref (na1 n1)])) := by rw [ev2]; exact vv_up_s _ _ _ _
    have he_13 : v2 2 (na1 n1) = some (.inr (2, [.int (nI (n1 + 1)), .ref (ca (zn (zi S2 10 (n1 + 1)) - 1)), .int (zi S2 11 (n1 + 1)), .int (zi S2 12 (n1 + 1)), .long (zl S2 13 (n1 + 1)), .int (zi S2 15 (n1 + 1)), .long (zl S2 14 (n1 + 1)), .int (zi S2 16 (n1 + 1)), .int (zi S2 17 (n1 + 1)), .int ch, .int msg, .long sent])) := by rw [ev2]; exact (vv_up_k _ _ _ _ (by decide)).trans hn0
    refine v_aload C 1 d_C_addPromise_67 rfl ?_
    refine v_get C k_N he_13 0 (by decide) tw_327 (fun _ h => h) rfl d_C_addPromise_69 ?_
    exact v_iret C d_C_addPromise_72 (by first | exact Nat.le_of_ble_eq_true rfl | (show _ ≤ _; omega)) (by first | exact Nat.le_of_ble_eq_true rfl | (show _ ≤ _; omega)) ⟨(by rw [oAdP, if_neg (show ¬ (zc S 1 = 200 ∨ (zpf S (nI (j + 1)) it (zc S 2) = none ∧ zc S 2 = 60)) from (by rintro (z | z); omega; rw [hpf] at z; exact absurd z.1 (fun y => by cases y))), zkix_s hpf, ← hn1, ← eS2, zkeep_s (show zpf S2 (nI (j + 1)) it (zc S2 2) = some ki by rw [hpf2, hpf])]), (by rw [oAdP, if_neg (show ¬ (zc S 1 = 200 ∨ (zpf S (nI (j + 1)) it (zc S 2) = none ∧ zc S 2 = 60)) from (by rintro (z | z); omega; rw [hpf] at z; exact absurd z.1 (fun y => by cases y))), zkix_s hpf, ← hn1, ← eS2, zkeep_s (show zpf S2 (nI (j + 1)) it (zc S2 2) = some ki by rw [hpf2, hpf])]; exact ⟨_, _, _, _, hRC2.itm (k0 := ki) (S' := zui S2 22 ki (nI (n1 + 1))) (by omega) (by rw [ev2]; exact vkp.rf.up ⟨rfl, rfl⟩) (by unfold RCi; rw [he_12, zi_ui, if_neg (by decide), zi_ui, if_neg (by decide), zi_ui, if_neg (by decide), zi_ui, if_pos rfl, if_pos rfl, zlp_n (by omega)]; rfl) (fun _ => rfl) (fun f i _ h1 => by rw [zi_ui, if_neg h1]) (fun k h => ⟨by rw [zi_ui, if_neg (by decide)], by rw [zi_ui, if_pos rfl, if_neg h]⟩) (fun _ _ => rfl), (by rw [ev2]; exact (hkX2).up (Or.inl rfl))⟩)⟩
