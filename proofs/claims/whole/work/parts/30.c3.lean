def zB4f (S : zS) : Prop := ∀ i, i < zc S 4 → ∃ n : Nat, zi S 29 i = nI n ∧ 1 ≤ n ∧ n ≤ zc S 1
def zB6 (S : zS) : Prop := ∀ i j, i < zc S 2 → j < zc S 2 → zi S 19 i = zi S 19 j → zi S 20 i = zi S 20 j → i = j
theorem zpf_no {S : zS} {x it : Int32} {n : Nat} (h : ∀ j, j < n → ¬ (zi S 19 j = x ∧ zi S 20 j = it)) : zpf S x it n = none := by
  induction n with
  | zero => rfl
  | succ n ih =>
    unfold zpf
    rw [if_neg (h n (Nat.lt_succ_self _))]
    exact ih (fun j hj => h j (by omega))
theorem zpf_yes {S : zS} {x it : Int32} {k : Nat} (h6 : zB6 S) (hk : k < zc S 2) (h1 : zi S 19 k = x) (h2 : zi S 20 k = it) : ∀ n, n ≤ zc S 2 → k < n → zpf S x it n = some k := by
  intro n
  induction n with
  | zero => intro _ h; omega
  | succ n ih =>
    intro hn hkn
    unfold zpf
    by_cases c : zi S 19 n = x ∧ zi S 20 n = it
    · rw [if_pos c, h6 n k (by omega) hk (by rw [c.1, h1]) (by rw [c.2, h2])]
    · rw [if_neg c]
      rcases Nat.lt_or_ge k n with q | q
      · exact ih (by omega) q
      · have : k = n := by omega
        subst this
        exact absurd ⟨h1, h2⟩ c
def ndet (num cnum item kind ch msg tx : Int32) (sent prom : Int64) (w : Int32) : Int32 := if w = 0 then num else if w = 1 then cnum else if w = 2 then item else if w = 3 then kind else if w = 4 then ch else if w = 5 then tx else if w = 6 then msg else if w = 7 then sent.toInt32 else prom.toInt32
set_option maxHeartbeats 4000000 in
set_option maxRecDepth 100000 in
theorem c_C_failed (l : Launch) (G : vv_G) (v : vv_V) (o : Nat) (la : Nat → Nat) (cw : Nat) (S : zS) (ra ea ca oa na ia : Nat → Nat) (i : Int32) (hRC : RC G v o la cw S ra ea ca oa na ia) (hB : zc S 4 ≤ 200 ∧ zc S 1 ≤ 200) (hB4 : zB4f S) : Mv l y_C_failed b_C_failed 2 (some FieldType.int) 3 64 G v [.ref o, .int i] (fun r v' => r = some (.int (oFail S i).1) ∧ RCe G v o la cw S oa v' (oFail S i).2) 0 0 := by
  refine vv_metF (own := "CustomerNotices") (nm := "failed") pf_C_failed rfl rfl (Nat.le_of_ble_eq_true rfl) ?_
  intro p e s m below meth c C hin
  obtain ⟨hA, ⟨gw, hW, hWj⟩, hLs, hKs, hNs, hIs, hD1, hD2, hD3, hD4⟩ := id hRC
  obtain ⟨⟨mo4, hl4⟩, hlb4, hlc4, hld4⟩ := hLs 4 (by decide)
  show vV _ _ _ _ _ _ _ _ _ _ _ _ _ v 0 0 0 [(0, .ref o), (1, .int i)] []
  refine v_iload_n C 1 d_C_failed_0 rfl rfl ?_
  refine v_if_lt C 15 d_C_failed_1 (by decide) (fun c_1 => ?_) (fun c_1 => ?_)
  · refine v_iconst (x := -1) C d_C_failed_15 (by decide) ?_
    exact v_iret C d_C_failed_16 (by first | exact Nat.le_of_ble_eq_true rfl | (show _ ≤ _; omega)) (by first | exact Nat.le_of_ble_eq_true rfl | (show _ ≤ _; omega)) ⟨(by  rw [oFail, if_neg (show ¬ zIn i 0 ((zc S 4 : Int) - 1) from fun z => absurd z.1 (Int.not_le.mpr (i_lt0.mp c_1)))] <;> (try rfl)), (by  rw [oFail, if_neg (show ¬ zIn i 0 ((zc S 4 : Int) - 1) from fun z => absurd z.1 (Int.not_le.mpr (i_lt0.mp c_1)))]; exact RCe.rf hRC)⟩
  · refine v_iload_n C 1 d_C_failed_4 rfl rfl ?_
    refine v_aload_n C 0 d_C_failed_5 rfl rfl ?_
    refine v_get C k_C hA 4 (by decide) tw_82 (fun _ h => h) rfl d_C_failed_6 ?_
    refine v_callV (rest := [.int i]) C (c_LA_size l G v (la 4) (ra 4) (zc S 4) (ea 4) _ (hLs 4 (by decide))) tw_117 tw_33 tw_114 tw_115 tw_116 mn_AL_size hl4 k_AL.1 ⟨Nat.le_of_ble_eq_true rfl, Nat.le_of_ble_eq_true rfl⟩ rfl rfl (Nat.le_of_ble_eq_true rfl) d_C_failed_9 ⟨(by first | exact Nat.le_of_ble_eq_true rfl | (dsimp only; omega)), (by first | exact Nat.le_of_ble_eq_true rfl | (dsimp only; omega))⟩ (fun r_1 v_2 hp_3 => ?_)
    obtain ⟨rfl, hv9⟩ := hp_3
    obtain rfl := hv9.symm
    show vV _ _ _ _ _ _ _ _ _ _ _ _ _ v 0 0 12 [(0, .ref o), (1, .int i)] [.int (nI (zc S 4)), .int i]
    refine v_icmp_lt C 17 d_C_failed_12 (by decide) (fun c_12 => ?_) (fun c_12 => ?_)
    · obtain ⟨ni, hxn, hn1, hn2, hn3⟩ := zIn_nI (x := i) (a := 0) (b := zc S 4 - 1) ⟨(by have z := mt i_lt0.mpr c_1; exact Int.not_lt.mp z), (by have z := Int32.lt_iff_toInt_lt.mp c_12; rw [nI_toInt (by omega)] at z; have z2 := Int.not_lt.mp (mt i_lt0.mpr c_1); omega)⟩
      have hn4 : ni < zc S 4 := by have z := Int32.lt_iff_toInt_lt.mp c_12; rw [hxn, nI_toInt (by omega), nI_toInt (by omega)] at z; omega
      have hx9 : zIn i 0 ((zc S 4 : Int) - 1) := by rw [hxn]; unfold zIn; rw [nI_toInt (by omega)]; omega
      subst hxn
      refine v_aload_n C 0 d_C_failed_17 rfl rfl ?_
      refine v_get C k_C hA 4 (by decide) tw_82 (fun _ h => h) rfl d_C_failed_18 ?_
      refine v_iload_n C 1 d_C_failed_21 rfl rfl ?_
      refine v_callV (rest := []) C (c_LA_get l G v (la 4) (ra 4) (zc S 4) (ea 4) ni _ (hLs 4 (by decide)) (by omega)) tw_218 tw_33 tw_215 tw_216 tw_217 mn_AL_get hl4 k_AL.1 ⟨Nat.le_of_ble_eq_true rfl, Nat.le_of_ble_eq_true rfl⟩ rfl rfl (Nat.le_of_ble_eq_true rfl) d_C_failed_22 ⟨(by first | exact Nat.le_of_ble_eq_true rfl | (dsimp only; omega)), (by first | exact Nat.le_of_ble_eq_true rfl | (dsimp only; omega))⟩ (fun r_4 v_5 hp_6 => ?_)
      obtain ⟨rfl, hv9⟩ := hp_6
      obtain rfl := hv9.symm
      show vV _ _ _ _ _ _ _ _ _ _ _ _ _ v 0 0 25 [(0, .ref o), (1, .int (nI ni))] [.ref (na (zn (zi S 29 ni) - 1))]
      obtain ⟨n8, e8, hm1, hm2⟩ := hB4 ni (by omega)
      obtain ⟨m9, rfl⟩ : ∃ m9, n8 = m9 + 1 := ⟨n8 - 1, by omega⟩
      have ez : zn (zi S 29 ni) - 1 = m9 := by rw [e8, zn_nI (by omega), Nat.add_sub_cancel]
      refine v_tov (y := .ref (na m9)) (by rw [ez]) ?_
      obtain ⟨ch, msg, sent, hn0, hns⟩ := hNs m9 (by omega)
      refine v_cast C tw_319 tw_688 hn0 k_N.1 d_C_failed_25 ?_
      refine v_get C k_N hn0 0 (by decide) tw_327 (fun _ h => h) rfl d_C_failed_28 ?_
      exact v_iret C d_C_failed_31 (by first | exact Nat.le_of_ble_eq_true rfl | (show _ ≤ _; omega)) (by first | exact Nat.le_of_ble_eq_true rfl | (show _ ≤ _; omega)) ⟨(by rw [oFail, if_pos hx9, zn_nI hn3, e8]), RCe.rf hRC⟩
    · refine v_iconst (x := -1) C d_C_failed_15 (by decide) ?_
      exact v_iret C d_C_failed_16 (by first | exact Nat.le_of_ble_eq_true rfl | (show _ ≤ _; omega)) (by first | exact Nat.le_of_ble_eq_true rfl | (show _ ≤ _; omega)) ⟨(by  rw [oFail, if_neg (show ¬ zIn i 0 ((zc S 4 : Int) - 1) from fun z => c_12 (Int32.lt_iff_toInt_lt.mpr (by rw [nI_toInt (by omega)]; have := z.2; omega)))] <;> (try rfl)), (by  rw [oFail, if_neg (show ¬ zIn i 0 ((zc S 4 : Int) - 1) from fun z => c_12 (Int32.lt_iff_toInt_lt.mpr (by rw [nI_toInt (by omega)]; have := z.2; omega)))]; exact RCe.rf hRC)⟩
set_option maxHeartbeats 4000000 in
set_option maxRecDepth 100000 in
theorem c_C_detail (l : Launch) (G : vv_G) (v : vv_V) (a : Nat) (num : Int32) (ow : Nat) (item kind : Int32) (time : Int64) (state : Int32) (prom : Int64) (isc cor ch msg : Int32) (sent : Int64) (knum lang zone qf qu : Int32) (lw : Int64) (mt0 : Int32) (oa wn : Nat) (h0 : v 2 a = some (vn num ow item kind time state prom isc cor ch msg sent)) (hw : v 0 ow = some (vk knum lang zone qf qu lw mt0 oa)) (hwn : wn ≤ 8) : Mv l y_C_detail b_C_detail 2 (some FieldType.int) 1 20 G v [.ref a, .int (nI wn)] (fun r v' => r = some (.int (ndet num knum item kind ch msg (32 * lang + 2 * kind + (if isc = 0 then 0 else 1)) sent prom (nI wn))) ∧ v' = v) 0 0 := by
  refine vv_metF (own := "CustomerNotices") (nm := "detail") pf_C_detail rfl rfl (Nat.le_of_ble_eq_true rfl) ?_
  intro p e s m below meth c C hin
  show vV _ _ _ _ _ _ _ _ _ _ _ _ _ v 0 0 0 [(0, .ref a), (1, .int (nI wn))] []
  refine v_iload_n C 1 d_C_detail_0 rfl rfl ?_
  rcases (show wn = 0 ∨ wn = 1 ∨ wn = 2 ∨ wn = 3 ∨ wn = 4 ∨ wn = 5 ∨ wn = 6 ∨ wn = 7 ∨ wn = 8 by omega) with rfl | rfl | rfl | rfl | rfl | rfl | rfl | rfl | rfl
  · refine v_tableIn C 48 d_C_detail_1 (by decide) (by decide) (off := 47) (by decide) (by decide) ?_
    refine v_aload_n C 0 d_C_detail_48 rfl rfl ?_
    refine v_get C k_N h0 0 (by decide) tw_327 (fun _ h => h) rfl d_C_detail_49 ?_
    exact v_iret C d_C_detail_52 (by first | exact Nat.le_of_ble_eq_true rfl | (show _ ≤ _; omega)) (by first | exact Nat.le_of_ble_eq_true rfl | (show _ ≤ _; omega)) ⟨(by rw [ndet, if_pos (show nI 0 = 0 by decide)] <;> (try rfl)), rfl⟩
  · refine v_tableIn C 53 d_C_detail_1 (by decide) (by decide) (off := 52) (by decide) (by decide) ?_
    refine v_aload_n C 0 d_C_detail_53 rfl rfl ?_
    refine v_get C k_N h0 1 (by decide) tw_329 (fun _ h => h) rfl d_C_detail_54 ?_
    refine v_get C k_K hw 0 (by decide) tw_125 (fun _ h => h) rfl d_C_detail_57 ?_
    exact v_iret C d_C_detail_60 (by first | exact Nat.le_of_ble_eq_true rfl | (show _ ≤ _; omega)) (by first | exact Nat.le_of_ble_eq_true rfl | (show _ ≤ _; omega)) ⟨(by rw [ndet, if_neg (show ¬ nI 1 = 0 by decide), if_pos (show nI 1 = 1 by decide)] <;> (try rfl)), rfl⟩
  · refine v_tableIn C 61 d_C_detail_1 (by decide) (by decide) (off := 60) (by decide) (by decide) ?_
    refine v_aload_n C 0 d_C_detail_61 rfl rfl ?_
    refine v_get C k_N h0 2 (by decide) tw_331 (fun _ h => h) rfl d_C_detail_62 ?_
    exact v_iret C d_C_detail_65 (by first | exact Nat.le_of_ble_eq_true rfl | (show _ ≤ _; omega)) (by first | exact Nat.le_of_ble_eq_true rfl | (show _ ≤ _; omega)) ⟨(by rw [ndet, if_neg (show ¬ nI 2 = 0 by decide), if_neg (show ¬ nI 2 = 1 by decide), if_pos (show nI 2 = 2 by decide)] <;> (try rfl)), rfl⟩
  · refine v_tableIn C 66 d_C_detail_1 (by decide) (by decide) (off := 65) (by decide) (by decide) ?_
    refine v_aload_n C 0 d_C_detail_66 rfl rfl ?_
    refine v_get C k_N h0 3 (by decide) tw_333 (fun _ h => h) rfl d_C_detail_67 ?_
    exact v_iret C d_C_detail_70 (by first | exact Nat.le_of_ble_eq_true rfl | (show _ ≤ _; omega)) (by first | exact Nat.le_of_ble_eq_true rfl | (show _ ≤ _; omega)) ⟨(by rw [ndet, if_neg (show ¬ nI 3 = 0 by decide), if_neg (show ¬ nI 3 = 1 by decide), if_neg (show ¬ nI 3 = 2 by decide), if_pos (show nI 3 = 3 by decide)] <;> (try rfl)), rfl⟩
  · refine v_tableIn C 71 d_C_detail_1 (by decide) (by decide) (off := 70) (by decide) (by decide) ?_
    refine v_aload_n C 0 d_C_detail_71 rfl rfl ?_
    refine v_get C k_N h0 9 (by decide) tw_344 (fun _ h => h) rfl d_C_detail_72 ?_
    exact v_iret C d_C_detail_75 (by first | exact Nat.le_of_ble_eq_true rfl | (show _ ≤ _; omega)) (by first | exact Nat.le_of_ble_eq_true rfl | (show _ ≤ _; omega)) ⟨(by rw [ndet, if_neg (show ¬ nI 4 = 0 by decide), if_neg (show ¬ nI 4 = 1 by decide), if_neg (show ¬ nI 4 = 2 by decide), if_neg (show ¬ nI 4 = 3 by decide), if_pos (show nI 4 = 4 by decide)] <;> (try rfl)), rfl⟩
  · refine v_tableIn C 76 d_C_detail_1 (by decide) (by decide) (off := 75) (by decide) (by decide) ?_
    refine v_aload_n C 0 d_C_detail_76 rfl rfl ?_
    refine v_callV (rest := []) C (c_N_text l G v a num ow item kind time state prom isc cor ch msg sent knum lang zone qf qu lw mt0 oa h0 hw) tw_434 tw_43 tw_431 tw_432 tw_433 mn_N_text h0 k_N.1 ⟨Nat.le_of_ble_eq_true rfl, Nat.le_of_ble_eq_true rfl⟩ rfl rfl (Nat.le_of_ble_eq_true rfl) d_C_detail_77 ⟨(by first | exact Nat.le_of_ble_eq_true rfl | (dsimp only; omega)), (by first | exact Nat.le_of_ble_eq_true rfl | (dsimp only; omega))⟩ (fun r_1 v_2 hp_3 => ?_)
    obtain ⟨rfl, hv9⟩ := hp_3
    obtain rfl := hv9.symm
    show vV _ _ _ _ _ _ _ _ _ _ _ _ _ v 0 0 80 [(0, .ref a), (1, .int (nI 5))] [.int (32 * lang + 2 * kind + (if isc = 0 then 0 else 1))]
    exact v_iret C d_C_detail_80 (by first | exact Nat.le_of_ble_eq_true rfl | (show _ ≤ _; omega)) (by first | exact Nat.le_of_ble_eq_true rfl | (show _ ≤ _; omega)) ⟨(by rw [ndet, if_neg (show ¬ nI 5 = 0 by decide), if_neg (show ¬ nI 5 = 1 by decide), if_neg (show ¬ nI 5 = 2 by decide), if_neg (show ¬ nI 5 = 3 by decide), if_neg (show ¬ nI 5 = 4 by decide), if_pos (show nI 5 = 5 by decide)] <;> (try rfl)), rfl⟩
  · refine v_tableIn C 81 d_C_detail_1 (by decide) (by decide) (off := 80) (by decide) (by decide) ?_
    refine v_aload_n C 0 d_C_detail_81 rfl rfl ?_
    refine v_get C k_N h0 10 (by decide) tw_345 (fun _ h => h) rfl d_C_detail_82 ?_
    exact v_iret C d_C_detail_85 (by first | exact Nat.le_of_ble_eq_true rfl | (show _ ≤ _; omega)) (by first | exact Nat.le_of_ble_eq_true rfl | (show _ ≤ _; omega)) ⟨(by rw [ndet, if_neg (show ¬ nI 6 = 0 by decide), if_neg (show ¬ nI 6 = 1 by decide), if_neg (show ¬ nI 6 = 2 by decide), if_neg (show ¬ nI 6 = 3 by decide), if_neg (show ¬ nI 6 = 4 by decide), if_neg (show ¬ nI 6 = 5 by decide), if_pos (show nI 6 = 6 by decide)] <;> (try rfl)), rfl⟩
  · refine v_tableIn C 86 d_C_detail_1 (by decide) (by decide) (off := 85) (by decide) (by decide) ?_
    refine v_aload_n C 0 d_C_detail_86 rfl rfl ?_
    refine v_get C k_N h0 11 (by decide) tw_346 (fun _ h => h) rfl d_C_detail_87 ?_
    refine v_l2i (y := (Int64.toInt32 sent)) C d_C_detail_90 rfl ?_
    exact v_iret C d_C_detail_91 (by first | exact Nat.le_of_ble_eq_true rfl | (show _ ≤ _; omega)) (by first | exact Nat.le_of_ble_eq_true rfl | (show _ ≤ _; omega)) ⟨(by rw [ndet, if_neg (show ¬ nI 7 = 0 by decide), if_neg (show ¬ nI 7 = 1 by decide), if_neg (show ¬ nI 7 = 2 by decide), if_neg (show ¬ nI 7 = 3 by decide), if_neg (show ¬ nI 7 = 4 by decide), if_neg (show ¬ nI 7 = 5 by decide), if_neg (show ¬ nI 7 = 6 by decide), if_pos (show nI 7 = 7 by decide)] <;> (try rfl)), rfl⟩
  · refine v_tableOut C 92 d_C_detail_1 (by decide) (by decide) ?_
    refine v_aload_n C 0 d_C_detail_92 rfl rfl ?_
    refine v_get C k_N h0 6 (by decide) tw_339 (fun _ h => h) rfl d_C_detail_93 ?_
    refine v_l2i (y := (Int64.toInt32 prom)) C d_C_detail_96 rfl ?_
    exact v_iret C d_C_detail_97 (by first | exact Nat.le_of_ble_eq_true rfl | (show _ ≤ _; omega)) (by first | exact Nat.le_of_ble_eq_true rfl | (show _ ≤ _; omega)) ⟨(by rw [ndet, if_neg (show ¬ nI 8 = 0 by decide), if_neg (show ¬ nI 8 = 1 by decide), if_neg (show ¬ nI 8 = 2 by decide), if_neg (show ¬ nI 8 = 3 by decide), if_neg (show ¬ nI 8 = 4 by decide), if_neg (show ¬ nI 8 = 5 by decide), if_neg (show ¬ nI 8 = 6 by decide), if_neg (show ¬ nI 8 = 7 by decide)] <;> (try rfl)), rfl⟩
set_option maxHeartbeats 4000000 in
set_option maxRecDepth 100000 in
theorem c_C_sent (l : Launch) (G : vv_G) (v : vv_V) (o : Nat) (la : Nat → Nat) (cw : Nat) (S : zS) (ra ea ca oa na ia : Nat → Nat) (i wh : Int32) (hRC : RC G v o la cw S ra ea ca oa na ia) (hB : zc S 0 ≤ 40 ∧ zc S 3 ≤ 200 ∧ zc S 1 ≤ 200) (hB2 : zB2 S) (hB4 : zB4 S) : Mv l y_C_sent b_C_sent 3 (some FieldType.int) 3 64 G v [.ref o, .int i, .int wh] (fun r v' => r = some (.int (oSent S i wh).1) ∧ RCe G v o la cw S oa v' (oSent S i wh).2) 0 0 := by
  refine vv_metF (own := "CustomerNotices") (nm := "sent") pf_C_sent rfl rfl (Nat.le_of_ble_eq_true rfl) ?_
  intro p e s m below meth c C hin
  obtain ⟨hA, ⟨gw, hW, hWj⟩, hLs, hKs, hNs, hIs, hD1, hD2, hD3, hD4⟩ := id hRC
  obtain ⟨⟨mo3, hl3⟩, hlb3, hlc3, hld3⟩ := hLs 3 (by decide)
  show vV _ _ _ _ _ _ _ _ _ _ _ _ _ v 0 0 0 [(0, .ref o), (1, .int i), (2, .int wh)] []
  refine v_iload_n C 2 d_C_sent_0 rfl rfl ?_
  refine v_i2l (y := (Int32.toInt64 wh)) C d_C_sent_1 rfl ?_
  refine v_lconst (x := 0) C d_C_sent_2 (by decide) ?_
  refine v_ldc2 (x := 8) C d_C_sent_3 tw_427 ?_
  refine v_callS (rest := []) C (c_C_isWithin l G v (Int32.toInt64 wh) 0 8) tw_111 tw_30 tw_109 tw_110 mn_C_isWithin ⟨Nat.le_of_ble_eq_true rfl, Nat.le_of_ble_eq_true rfl⟩ rfl rfl (Nat.le_of_ble_eq_true rfl) d_C_sent_6 ⟨(by first | exact Nat.le_of_ble_eq_true rfl | (dsimp only; omega)), (by first | exact Nat.le_of_ble_eq_true rfl | (dsimp only; omega))⟩ (fun r_1 v_2 hp_3 => ?_)
  rcases hp_3 with ⟨rfl, hv9, hb_6⟩ | ⟨rfl, hv9, hb_6⟩
  · obtain rfl := hv9.symm
    show vV _ _ _ _ _ _ _ _ _ _ _ _ _ v 0 0 9 [(0, .ref o), (1, .int i), (2, .int wh)] [.int 1]
    refine v_if_ne C 15 d_C_sent_9 (by decide) (fun _ => ?_) (fun z => absurd z (by decide))
    rw [i64_toInt] at hb_6
    have hw0 : zIn wh 0 8 := hb_6
    refine v_iload_n C 1 d_C_sent_15 rfl rfl ?_
    refine v_if_lt C 30 d_C_sent_16 (by decide) (fun c_16 => ?_) (fun c_16 => ?_)
    · refine v_iconst (x := -1) C d_C_sent_30 (by decide) ?_
      exact v_iret C d_C_sent_31 (by first | exact Nat.le_of_ble_eq_true rfl | (show _ ≤ _; omega)) (by first | exact Nat.le_of_ble_eq_true rfl | (show _ ≤ _; omega)) ⟨(by rw [oSent, if_pos hw0, if_neg (show ¬ zIn i 0 ((zc S 3 : Int) - 1) from fun z => absurd z.1 (Int.not_le.mpr (i_lt0.mp c_16)))]), RCe.rf hRC⟩
    · refine v_iload_n C 1 d_C_sent_19 rfl rfl ?_
      refine v_aload_n C 0 d_C_sent_20 rfl rfl ?_
      refine v_get C k_C hA 3 (by decide) tw_81 (fun _ h => h) rfl d_C_sent_21 ?_
      refine v_callV (rest := [.int i]) C (c_LA_size l G v (la 3) (ra 3) (zc S 3) (ea 3) _ (hLs 3 (by decide))) tw_117 tw_33 tw_114 tw_115 tw_116 mn_AL_size hl3 k_AL.1 ⟨Nat.le_of_ble_eq_true rfl, Nat.le_of_ble_eq_true rfl⟩ rfl rfl (Nat.le_of_ble_eq_true rfl) d_C_sent_24 ⟨(by first | exact Nat.le_of_ble_eq_true rfl | (dsimp only; omega)), (by first | exact Nat.le_of_ble_eq_true rfl | (dsimp only; omega))⟩ (fun r_4 v_5 hp_6 => ?_)
      obtain ⟨rfl, hv9⟩ := hp_6
      obtain rfl := hv9.symm
      show vV _ _ _ _ _ _ _ _ _ _ _ _ _ v 0 0 27 [(0, .ref o), (1, .int i), (2, .int wh)] [.int (nI (zc S 3)), .int i]
      refine v_icmp_lt C 32 d_C_sent_27 (by decide) (fun c_27 => ?_) (fun c_27 => ?_)
      · obtain ⟨ni, hxn, hn1, hn2, hn3⟩ := zIn_nI (x := i) (a := 0) (b := zc S 3 - 1) ⟨(by have z := mt i_lt0.mpr c_16; exact Int.not_lt.mp z), (by have z := Int32.lt_iff_toInt_lt.mp c_27; rw [nI_toInt (by omega)] at z; have z2 := Int.not_lt.mp (mt i_lt0.mpr c_16); omega)⟩
        have hn4 : ni < zc S 3 := by have z := Int32.lt_iff_toInt_lt.mp c_27; rw [hxn, nI_toInt (by omega), nI_toInt (by omega)] at z; omega
        have hx9 : zIn i 0 ((zc S 3 : Int) - 1) := by rw [hxn]; unfold zIn; rw [nI_toInt (by omega)]; omega
        subst hxn
        refine v_aload_n C 0 d_C_sent_32 rfl rfl ?_
        refine v_get C k_C hA 3 (by decide) tw_81 (fun _ h => h) rfl d_C_sent_33 ?_
        refine v_iload_n C 1 d_C_sent_36 rfl rfl ?_
        refine v_callV (rest := []) C (c_LA_get l G v (la 3) (ra 3) (zc S 3) (ea 3) ni _ (hLs 3 (by decide)) (by omega)) tw_218 tw_33 tw_215 tw_216 tw_217 mn_AL_get hl3 k_AL.1 ⟨Nat.le_of_ble_eq_true rfl, Nat.le_of_ble_eq_true rfl⟩ rfl rfl (Nat.le_of_ble_eq_true rfl) d_C_sent_37 ⟨(by first | exact Nat.le_of_ble_eq_true rfl | (dsimp only; omega)), (by first | exact Nat.le_of_ble_eq_true rfl | (dsimp only; omega))⟩ (fun r_7 v_8 hp_9 => ?_)
        obtain ⟨rfl, hv9⟩ := hp_9
        obtain rfl := hv9.symm
        show vV _ _ _ _ _ _ _ _ _ _ _ _ _ v 0 0 40 [(0, .ref o), (1, .int (nI ni)), (2, .int wh)] [.ref (na (zn (zi S 24 ni) - 1))]
        obtain ⟨n8, e8, hm1, hm2⟩ := hB4 ni (by omega)
        obtain ⟨m9, rfl⟩ : ∃ m9, n8 = m9 + 1 := ⟨n8 - 1, by omega⟩
        have ez : zn (zi S 24 ni) - 1 = m9 := by rw [e8, zn_nI (by omega), Nat.add_sub_cancel]
        refine v_tov (y := .ref (na m9)) (by rw [ez]) ?_
        obtain ⟨ch, msg, sent, hn0, hns⟩ := hNs m9 (by omega)
        refine v_cast C tw_319 tw_688 hn0 k_N.1 d_C_sent_40 ?_
        obtain ⟨wn, rfl, hwn1, hwn2, hwn3⟩ := zIn_nI (a := 0) (b := 8) hw0
        obtain ⟨cn, kd, e10, hc1, hc2, e12, hk7⟩ := hB2 (m9 + 1) (by omega) (by omega)
        have e13 : zn (zi S 10 (m9 + 1)) - 1 = cn - 1 := by rw [e10, zn_nI (by omega)]
        obtain ⟨⟨lw, mt0, hk0⟩, g, hg0, hgv⟩ := hKs (cn - 1) (by omega)
        obtain ⟨q1, q2, q3⟩ := hns ni (by omega) e8
        refine v_iload_n C 2 d_C_sent_43 rfl rfl ?_
        refine v_callS (rest := []) C (c_C_detail l G v (na m9) _ (ca (zn (zi S 10 (m9 + 1)) - 1)) _ _ _ _ _ _ _ _ _ _ _ _ _ _ _ lw mt0 _ wn hn0 (by rw [e13]; exact hk0) (by omega)) tw_430 tw_30 tw_428 tw_429 mn_C_detail ⟨Nat.le_of_ble_eq_true rfl, Nat.le_of_ble_eq_true rfl⟩ rfl rfl (Nat.le_of_ble_eq_true rfl) d_C_sent_44 ⟨(by first | exact Nat.le_of_ble_eq_true rfl | (dsimp only; omega)), (by first | exact Nat.le_of_ble_eq_true rfl | (dsimp only; omega))⟩ (fun r_10 v_11 hp_12 => ?_)
        obtain ⟨rfl, hv9⟩ := hp_12
        obtain rfl := hv9.symm
        show vV _ _ _ _ _ _ _ _ _ _ _ _ _ v 0 0 47 [(0, .ref o), (1, .int (nI ni)), (2, .int (nI wn))] [.int (ndet (nI (m9 + 1)) (nI (cn - 1 + 1)) (zi S 11 (m9 + 1)) (zi S 12 (m9 + 1)) ch msg (32 * (zi S 4 (cn - 1 + 1)) + 2 * (zi S 12 (m9 + 1)) + (if (zi S 16 (m9 + 1)) = 0 then 0 else 1)) sent (zl S 14 (m9 + 1)) (nI wn))]
        exact v_iret C d_C_sent_47 (by first | exact Nat.le_of_ble_eq_true rfl | (show _ ≤ _; omega)) (by first | exact Nat.le_of_ble_eq_true rfl | (show _ ≤ _; omega)) ⟨(by rw [oSent, if_pos hw0, if_pos hx9, zn_nI hn3, zdet, e8, zn_nI (show m9 + 1 < 2 ^ 31 by omega), e10, zn_nI (show cn < 2 ^ 31 by omega), ← q1, ← q2, ← q3, Nat.sub_add_cancel hc1]; rfl), RCe.rf hRC⟩
      · refine v_iconst (x := -1) C d_C_sent_30 (by decide) ?_
        exact v_iret C d_C_sent_31 (by first | exact Nat.le_of_ble_eq_true rfl | (show _ ≤ _; omega)) (by first | exact Nat.le_of_ble_eq_true rfl | (show _ ≤ _; omega)) ⟨(by rw [oSent, if_pos hw0, if_neg (show ¬ zIn i 0 ((zc S 3 : Int) - 1) from fun z => c_27 (Int32.lt_iff_toInt_lt.mpr (by rw [nI_toInt (by omega)]; have := z.2; omega)))]), RCe.rf hRC⟩
  · obtain rfl := hv9.symm
    show vV _ _ _ _ _ _ _ _ _ _ _ _ _ v 0 0 9 [(0, .ref o), (1, .int i), (2, .int wh)] [.int 0]
    refine v_if_ne C 15 d_C_sent_9 (by decide) (fun z => absurd (by decide) z) (fun _ => ?_)
    refine v_bipush (x := -12) C d_C_sent_12 (by decide) ?_
    exact v_iret C d_C_sent_14 (by first | exact Nat.le_of_ble_eq_true rfl | (show _ ≤ _; omega)) (by first | exact Nat.le_of_ble_eq_true rfl | (show _ ≤ _; omega)) ⟨(by rw [i64_toInt] at hb_6; rw [oSent, if_neg (show ¬ zIn wh 0 8 from hb_6)]), RCe.rf hRC⟩
set_option maxHeartbeats 4000000 in
set_option maxRecDepth 100000 in
theorem lp_C_findItem {p : Program} {l : Launch} {e : Env} {R : Room} {s : State} {m : MethodId} {args : Array Value} {below : List Frame} {meth : Method} {c : Code} {Q : State → Prop} {G : vv_G} {v : vv_V} {kc ks : Nat} {o : Nat} {la : Nat → Nat} {cw : Nat} {S : zS} {ra ea ca oa na ia : Nat → Nat} {x it : Int32} (C : vC p s m args meth c b_C_findItem 5 (some (FieldType.object "CustomerNotices$Item")) "CustomerNotices" G) (hRC : RC G v o la cw S ra ea ca oa na ia) (hB : zc S 2 ≤ 60) (hB6 : zB6 S) (hRm : 3 ≤ R.frames ∧ 64 ≤ R.locals) (hRc : kc ≤ R.cells ∧ ks ≤ R.slots) (kx : zpf S x it (zc S 2) = none → vV p l e R s m args below meth c Q G 5 v kc ks 53 [(3, .int (nI (zc S 2))), (0, .ref o), (1, .int x), (2, .int it)] []) (ky : ∀ k, zpf S x it (zc S 2) = some k → vV p l e R s m args below meth c Q G 5 v kc ks 44 [(4, .ref (ia k)), (3, .int (nI k)), (0, .ref o), (1, .int x), (2, .int it)] []) : ∀ (n : Nat) (j : Nat), j ≤ zc S 2 → zc S 2 + 1 ≤ j + n → (∀ i, i < j → ¬ (zi S 19 i = x ∧ zi S 20 i = it)) → vV p l e R s m args below meth c Q G 5 v kc ks 2 [(3, .int (nI j)), (0, .ref o), (1, .int x), (2, .int it)] [] := by
  obtain ⟨hA, ⟨gw, hW, hWj⟩, hLs, hKs, hNs, hIs, hD1, hD2, hD3, hD4⟩ := id hRC
  obtain ⟨⟨mo2, hl2⟩, hlb2, hlc2, hld2⟩ := hLs 2 (by decide)
  intro n
  induction n with
  | zero => intro j hj1 hj2 hno; exfalso; omega
  | succ n ih =>
    intro j hj1 hj2 hno
    refine v_iload_n C 0 d_C_findItem_2 rfl rfl ?_
    refine v_aload_n C 1 d_C_findItem_3 rfl rfl ?_
    refine v_get C k_C hA 2 (by decide) tw_80 (fun _ h => h) rfl d_C_findItem_4 ?_
    refine v_callV (rest := [.int (nI j)]) C (c_LA_size l G v (la 2) (ra 2) (zc S 2) (ea 2) _ (hLs 2 (by decide))) tw_117 tw_33 tw_114 tw_115 tw_116 mn_AL_size hl2 k_AL.1 ⟨Nat.le_trans (Nat.le_of_ble_eq_true rfl) hRm.1, Nat.le_trans (Nat.le_of_ble_eq_true rfl) hRm.2⟩ rfl rfl (Nat.le_of_ble_eq_true rfl) d_C_findItem_7 ⟨hRc.1, hRc.2⟩ (fun r_1 v_2 hp_3 => ?_)
    obtain ⟨rfl, hv9⟩ := hp_3
    obtain rfl := hv9.symm
    show vV _ _ _ _ _ _ _ _ _ _ _ _ _ v kc ks 10 [(3, .int (nI j)), (0, .ref o), (1, .int x), (2, .int it)] [.int (nI (zc S 2)), .int (nI j)]
    refine v_icmp_ge C 53 d_C_findItem_10 (by decide) (fun c_10 => ?_) (fun c_10 => ?_)
    · have n_10 : (zc S 2) ≤ j := (nI_leI (a := (zc S 2)) (b := j) (by omega) (by omega)).mp c_10
      have hj4 : j = zc S 2 := by omega
      subst hj4
      exact kx (zpf_no hno)
    · have n_10 : ¬ (zc S 2) ≤ j := mt (nI_leI (a := (zc S 2)) (b := j) (by omega) (by omega)).mpr c_10
      refine v_aload_n C 1 d_C_findItem_13 rfl rfl ?_
      refine v_get C k_C hA 2 (by decide) tw_80 (fun _ h => h) rfl d_C_findItem_14 ?_
      refine v_iload_n C 0 d_C_findItem_17 rfl rfl ?_
      refine v_callV (rest := []) C (c_LA_get l G v (la 2) (ra 2) (zc S 2) (ea 2) j _ (hLs 2 (by decide)) (by omega)) tw_218 tw_33 tw_215 tw_216 tw_217 mn_AL_get hl2 k_AL.1 ⟨Nat.le_trans (Nat.le_of_ble_eq_true rfl) hRm.1, Nat.le_trans (Nat.le_of_ble_eq_true rfl) hRm.2⟩ rfl rfl (Nat.le_of_ble_eq_true rfl) d_C_findItem_18 ⟨hRc.1, hRc.2⟩ (fun r_4 v_5 hp_6 => ?_)
      obtain ⟨rfl, hv9⟩ := hp_6
      obtain rfl := hv9.symm
      show vV _ _ _ _ _ _ _ _ _ _ _ _ _ v kc ks 21 [(3, .int (nI j)), (0, .ref o), (1, .int x), (2, .int it)] [.ref (ia j)]
      have hi0 : v 1 (ia j) = some (vi _ _ _ _) := hIs j (by omega)
      refine v_cast C tw_279 tw_687 hi0 k_I.1 d_C_findItem_21 ?_
      refine v_astore (lv' := [(4, .ref (ia j)), (3, .int (nI j)), (0, .ref o), (1, .int x), (2, .int it)]) C d_C_findItem_24 (by decide) rfl ?_
      refine v_aload C 0 d_C_findItem_26 rfl ?_
      refine v_get C k_I hi0 0 (by decide) tw_301 (fun _ h => h) rfl d_C_findItem_28 ?_
      refine v_iload_n C 3 d_C_findItem_31 rfl rfl ?_
      refine v_icmp_ne C 47 d_C_findItem_32 (by decide) (fun c_32 => ?_) (fun c_32 => ?_)
      · refine v_iinc (y := (nI (j + 1))) (lv' := [(3, .int (nI (j + 1))), (4, .ref (ia j)), (0, .ref o), (1, .int x), (2, .int it)]) C 1 d_C_findItem_47 rfl (nI_1 _) (by decide) rfl ?_
        refine v_goto C 2 d_C_findItem_50 (by decide) ?_
        refine v_sub [0, 2, 3, 4] rfl ?_
        exact ih (j + 1) (by omega) (by omega) (fun i hi => by rcases Nat.lt_or_ge i j with q | q; exact hno i q; have e9 : i = j := (by omega); subst e9; exact fun z => c_32 z.1)
      · refine v_aload C 0 d_C_findItem_35 rfl ?_
        refine v_get C k_I hi0 1 (by decide) tw_303 (fun _ h => h) rfl d_C_findItem_37 ?_
        refine v_iload_n C 4 d_C_findItem_40 rfl rfl ?_
        refine v_icmp_ne C 47 d_C_findItem_41 (by decide) (fun c_41 => ?_) (fun c_41 => ?_)
        · refine v_iinc (y := (nI (j + 1))) (lv' := [(3, .int (nI (j + 1))), (4, .ref (ia j)), (0, .ref o), (1, .int x), (2, .int it)]) C 1 d_C_findItem_47 rfl (nI_1 _) (by decide) rfl ?_
          refine v_goto C 2 d_C_findItem_50 (by decide) ?_
          refine v_sub [0, 2, 3, 4] rfl ?_
          exact ih (j + 1) (by omega) (by omega) (fun i hi => by rcases Nat.lt_or_ge i j with q | q; exact hno i q; have e9 : i = j := (by omega); subst e9; exact fun z => c_41 z.2)
        · exact ky j (zpf_yes hB6 (by omega) c_32 c_41 _ (Nat.le_refl _) (by omega))
set_option maxHeartbeats 4000000 in
set_option maxRecDepth 100000 in
theorem c_C_findItem (l : Launch) (G : vv_G) (v : vv_V) (o : Nat) (la : Nat → Nat) (cw : Nat) (S : zS) (ra ea ca oa na ia : Nat → Nat) (x it : Int32) (hRC : RC G v o la cw S ra ea ca oa na ia) (hB : zc S 2 ≤ 60) (hB6 : zB6 S) : Mv l y_C_findItem b_C_findItem 5 (some (FieldType.object "CustomerNotices$Item")) 3 64 G v [.ref o, .int x, .int it] (fun r v' => (r = some .null ∧ v' = v ∧ zpf S x it (zc S 2) = none) ∨ (∃ k : Nat, r = some (.ref (ia k)) ∧ v' = v ∧ zpf S x it (zc S 2) = some k)) 0 0 := by
  refine vv_metF (own := "CustomerNotices") (nm := "findItem") pf_C_findItem rfl rfl (Nat.le_of_ble_eq_true rfl) ?_
  intro p e s m below meth c C hin
  obtain ⟨hA, ⟨gw, hW, hWj⟩, hLs, hKs, hNs, hIs, hD1, hD2, hD3, hD4⟩ := id hRC
  obtain ⟨⟨mo2, hl2⟩, hlb2, hlc2, hld2⟩ := hLs 2 (by decide)
  show vV _ _ _ _ _ _ _ _ _ _ _ _ _ v 0 0 0 [(0, .ref o), (1, .int x), (2, .int it)] []
  refine v_iconst (x := 0) C d_C_findItem_0 (by decide) ?_
  refine v_istore_n (lv' := [(3, .int 0), (0, .ref o), (1, .int x), (2, .int it)]) C d_C_findItem_1 rfl (by decide) rfl ?_
  refine v_sub [0, 1, 2, 3] rfl ?_
  refine lp_C_findItem C hRC hB hB6 ⟨Nat.le_of_ble_eq_true rfl, Nat.le_of_ble_eq_true rfl⟩ ⟨Nat.le_refl _, Nat.le_refl _⟩ (fun hz => ?_) (fun k hz => ?_) (zc S 2 + 1) 0 (by omega) (by omega) (fun i hi => absurd hi (Nat.not_lt_zero _))
  · show vV _ _ _ _ _ _ _ _ _ _ _ _ _ v 0 0 53 [(3, .int (nI (zc S 2))), (0, .ref o), (1, .int x), (2, .int it)] []
    refine v_null C d_C_findItem_53 ?_
    exact v_aret C (Or.inl ⟨_, rfl⟩) (Or.inl rfl) d_C_findItem_54 (by first | exact Nat.le_of_ble_eq_true rfl | (show _ ≤ _; omega)) (by first | exact Nat.le_of_ble_eq_true rfl | (show _ ≤ _; omega)) (Or.inl ⟨rfl, rfl, hz⟩)
  · show vV _ _ _ _ _ _ _ _ _ _ _ _ _ v 0 0 44 [(4, .ref (ia k)), (3, .int (nI k)), (0, .ref o), (1, .int x), (2, .int it)] []
    refine v_aload C 0 d_C_findItem_44 rfl ?_
    exact v_aret C (Or.inl ⟨_, rfl⟩) (Or.inr ⟨_, rfl⟩) d_C_findItem_46 (by first | exact Nat.le_of_ble_eq_true rfl | (show _ ≤ _; omega)) (by first | exact Nat.le_of_ble_eq_true rfl | (show _ ≤ _; omega)) (Or.inr ⟨k, rfl, rfl, hz⟩)
