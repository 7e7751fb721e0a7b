theorem zpf_put (S : zS) (x it k : Int32) (t w : Int64) (cr a b : Int32) (n : Nat) : zpf (zput S x it k t w cr) a b n = zpf S a b n := by
  induction n with
  | zero => rfl
  | succ n ih =>
    unfold zpf
    rw [ih]
    rfl
theorem zkix_put (S : zS) (x it k : Int32) (t w : Int64) (cr a b : Int32) : zkix (zput S x it k t w cr) a b = zkix S a b := by
  unfold zkix
  show (match zpf (zput S x it k t w cr) a b (zc S 2) with | some k => k | none => zc S 2) = _
  rw [zpf_put]
  rfl
set_option maxHeartbeats 4000000 in
set_option maxRecDepth 100000 in
theorem c_M_promise (l : Launch) (G : vv_G) (v : vv_V) (o : Nat) (ad : Nat → Nat) (S : zS) (x it : Int32) (w b : Int64) (hR : RM G v o ad S) (hB0 : zB S) : Mv l y_M_promise b_M_promise 11 (some FieldType.int) 2 47 G v [.ref o, .int x, .int it, .long w, .long b] (fun r v' => r = some (.int (oProm S x it w b).1) ∧ RM G v' o ad (oProm S x it w b).2 ∧ vkeep (mX o ad) v v') 0 0 := by
  refine vv_metF (own := "CustomerNoticesModel") (nm := "promise") pf_M_promise rfl rfl (Nat.le_of_ble_eq_true rfl) ?_
  intro p e s m below meth c C hin
  have hk : vkeep (mX o ad) v v := vkeep.rf
  obtain ⟨hB, hB1, hB2, hB3⟩ := hB0
  show vV _ _ _ _ _ _ _ _ _ _ _ _ _ v 0 0 0 [(0, .ref o), (1, .int x), (2, .int it), (3, .long w), (5, .long b)] []
  refine v_aload_n C 0 d_M_promise_0 rfl rfl ?_
  refine v_iload_n C 1 d_M_promise_1 rfl rfl ?_
  refine v_callV (rest := []) C (c_M_isCustomer l G v o ad S x hR (by omega)) tw_598 tw_34 tw_595 tw_597 tw_19 mn_M_isCustomer hR.1 k_M.1 ⟨Nat.le_of_ble_eq_true rfl, Nat.le_of_ble_eq_true rfl⟩ rfl rfl (Nat.le_of_ble_eq_true rfl) d_M_promise_2 ⟨(by first | exact Nat.le_of_ble_eq_true rfl | (show _ ≤ _; omega)), (by first | exact Nat.le_of_ble_eq_true rfl | (show _ ≤ _; omega))⟩ (fun r_1 v_2 hp_3 => ?_)
  rcases hp_3 with ⟨rfl, hv9, hb_2⟩ | ⟨rfl, hv9, hb_2⟩
  · obtain rfl := hv9.symm
    show vV _ _ _ _ _ _ _ _ _ _ _ _ _ v 0 0 5 [(0, .ref o), (1, .int x), (2, .int it), (3, .long w), (5, .long b)] [.int 1]
    refine v_if_ne C 11 d_M_promise_5 (by decide) (fun _ => ?_) (fun z => absurd z (by decide))
    refine v_iload_n C 2 d_M_promise_11 rfl rfl ?_
    refine v_i2l (y := (Int32.toInt64 it)) C d_M_promise_12 rfl ?_
    refine v_lconst (x := 1) C d_M_promise_13 (by decide) ?_
    refine v_ldc2 (x := 9999) C d_M_promise_14 tw_614 ?_
    refine v_callS (rest := []) C (c_M_isIn l G v (Int32.toInt64 it) 1 9999) tw_588 tw_34 tw_586 tw_587 mn_M_isIn ⟨Nat.le_of_ble_eq_true rfl, Nat.le_of_ble_eq_true rfl⟩ rfl rfl (Nat.le_of_ble_eq_true rfl) d_M_promise_17 ⟨(by first | exact Nat.le_of_ble_eq_true rfl | (show _ ≤ _; omega)), (by first | exact Nat.le_of_ble_eq_true rfl | (show _ ≤ _; omega))⟩ (fun r_4 v_5 hp_6 => ?_)
    rcases hp_6 with ⟨rfl, hv9, hb_17⟩ | ⟨rfl, hv9, hb_17⟩
    · obtain rfl := hv9.symm
      show vV _ _ _ _ _ _ _ _ _ _ _ _ _ v 0 0 20 [(0, .ref o), (1, .int x), (2, .int it), (3, .long w), (5, .long b)] [.int 1]
      refine v_if_eq C 46 d_M_promise_20 (by decide) (fun z => absurd z (by decide)) (fun _ => ?_)
      refine v_lload_n C 3 d_M_promise_23 rfl rfl ?_
      refine v_lconst (x := 0) C d_M_promise_24 (by decide) ?_
      refine v_ldc2 (x := 1000000000) C d_M_promise_25 tw_619 ?_
      refine v_callS (rest := []) C (c_M_isIn l G v w 0 1000000000) tw_588 tw_34 tw_586 tw_587 mn_M_isIn ⟨Nat.le_of_ble_eq_true rfl, Nat.le_of_ble_eq_true rfl⟩ rfl rfl (Nat.le_of_ble_eq_true rfl) d_M_promise_28 ⟨(by first | exact Nat.le_of_ble_eq_true rfl | (show _ ≤ _; omega)), (by first | exact Nat.le_of_ble_eq_true rfl | (show _ ≤ _; omega))⟩ (fun r_7 v_8 hp_9 => ?_)
      rcases hp_9 with ⟨rfl, hv9, hb_28⟩ | ⟨rfl, hv9, hb_28⟩
      · obtain rfl := hv9.symm
        show vV _ _ _ _ _ _ _ _ _ _ _ _ _ v 0 0 31 [(0, .ref o), (1, .int x), (2, .int it), (3, .long w), (5, .long b)] [.int 1]
        refine v_if_eq C 46 d_M_promise_31 (by decide) (fun z => absurd z (by decide)) (fun _ => ?_)
        refine v_lload C 4 d_M_promise_34 rfl ?_
        refine v_lconst (x := 0) C d_M_promise_36 (by decide) ?_
        refine v_ldc2 (x := 1000000) C d_M_promise_37 tw_637 ?_
        refine v_callS (rest := []) C (c_M_isIn l G v b 0 1000000) tw_588 tw_34 tw_586 tw_587 mn_M_isIn ⟨Nat.le_of_ble_eq_true rfl, Nat.le_of_ble_eq_true rfl⟩ rfl rfl (Nat.le_of_ble_eq_true rfl) d_M_promise_40 ⟨(by first | exact Nat.le_of_ble_eq_true rfl | (show _ ≤ _; omega)), (by first | exact Nat.le_of_ble_eq_true rfl | (show _ ≤ _; omega))⟩ (fun r_10 v_11 hp_12 => ?_)
        rcases hp_12 with ⟨rfl, hv9, hb_40⟩ | ⟨rfl, hv9, hb_40⟩
        · obtain rfl := hv9.symm
          show vV _ _ _ _ _ _ _ _ _ _ _ _ _ v 0 0 43 [(0, .ref o), (1, .int x), (2, .int it), (3, .long w), (5, .long b)] [.int 1]
          refine v_if_ne C 49 d_M_promise_43 (by decide) (fun _ => ?_) (fun z => absurd z (by decide))
          rw [i64_toInt] at hb_17
          have hz : zIn it 1 9999 ∧ (0 ≤ w.toInt ∧ w.toInt ≤ 1000000000) ∧ (0 ≤ b.toInt ∧ b.toInt ≤ 1000000) := ⟨hb_17, hb_28, hb_40⟩
          have hx0 := hb_2
          obtain ⟨cu, rfl, hcu1, hcu2, hcu3⟩ := zIn_nI (a := 1) (b := zc S 0) hx0
          refine v_aload_n C 0 d_M_promise_49 rfl rfl ?_
          refine v_iload_n C 1 d_M_promise_50 rfl rfl ?_
          refine v_iload_n C 2 d_M_promise_51 rfl rfl ?_
          refine v_callV (rest := []) C (c_M_pairOf l G v o ad S (nI cu) it hR (by omega)) tw_623 tw_34 tw_620 tw_622 tw_22 mn_M_pairOf hR.1 k_M.1 ⟨Nat.le_of_ble_eq_true rfl, Nat.le_of_ble_eq_true rfl⟩ rfl rfl (Nat.le_of_ble_eq_true rfl) d_M_promise_52 ⟨(by first | exact Nat.le_of_ble_eq_true rfl | (show _ ≤ _; omega)), (by first | exact Nat.le_of_ble_eq_true rfl | (show _ ≤ _; omega))⟩ (fun r_13 v_14 hp_15 => ?_)
          obtain ⟨rfl, hv9⟩ := hp_15
          obtain rfl := hv9.symm
          rcases hpr : zpf S (nI cu) it (zc S 2) with _ | pk
          · show vV _ _ _ _ _ _ _ _ _ _ _ _ _ v 0 0 55 [(0, .ref o), (1, .int (nI cu)), (2, .int it), (3, .long w), (5, .long b)] [.int (-1)]
            refine v_istore (lv' := [(7, .int (-1)), (0, .ref o), (1, .int (nI cu)), (2, .int it), (3, .long w), (5, .long b)]) C d_M_promise_55 (by decide) rfl ?_
            refine v_iload C 0 d_M_promise_57 rfl ?_
            refine v_if_lt C 72 d_M_promise_59 (by decide) (fun _ => ?_) (fun z => absurd (by decide) z)
            refine v_aload_n C 1 d_M_promise_72 rfl rfl ?_
            refine v_iload_n C 2 d_M_promise_73 rfl rfl ?_
            refine v_iconst (x := 3) C d_M_promise_74 (by decide) ?_
            have hwl_75 := zwn_le S (32 * cu + 4 * 3) 4
            refine v_callV (rest := []) C (c_M_wished l G v o ad S cu 3 hR (by omega) (by omega)) tw_604 tw_34 tw_601 tw_603 tw_20 mn_M_wished hR.1 k_M.1 ⟨Nat.le_of_ble_eq_true rfl, Nat.le_of_ble_eq_true rfl⟩ rfl rfl (Nat.le_of_ble_eq_true rfl) d_M_promise_75 ⟨(by first | exact Nat.le_of_ble_eq_true rfl | (show _ ≤ _; omega)), (by first | exact Nat.le_of_ble_eq_true rfl | (show _ ≤ _; omega))⟩ (fun r_16 v_17 hp_18 => ?_)
            obtain ⟨rfl, hv9⟩ := hp_18
            obtain rfl := hv9.symm
            show vV _ _ _ _ _ _ _ _ _ _ _ _ _ v 0 0 78 [(7, .int (-1)), (0, .ref o), (1, .int (nI cu)), (2, .int it), (3, .long w), (5, .long b)] [.int (nI (zwn S (32 * cu + 4 * 3) 4))]
            refine v_if_ne C 83 d_M_promise_78 (by decide) (fun c_78 => ?_) (fun c_78 => ?_)
            · have n_78 : ¬ (zwn S (32 * cu + 4 * 3) 4) = 0 := mt (nI_eq (a := (zwn S (32 * cu + 4 * 3) 4)) (b := 0) (by omega) (by omega)).mpr c_78
              refine v_iload C 0 d_M_promise_83 rfl ?_
              refine v_if_ge C 92 d_M_promise_85 (by decide) (fun z => absurd z (by decide)) (fun _ => ?_)
              refine v_iconst (x := 0) C d_M_promise_88 (by decide) ?_
              refine v_goto C 99 d_M_promise_89 (by decide) ?_
              have hla : zlast S (nI cu) it = 0 := by unfold zlast; rw [hpr]
              refine v_istore (lv' := [(8, .int 0), (7, .int (-1)), (0, .ref o), (1, .int (nI cu)), (2, .int it), (3, .long w), (5, .long b)]) C d_M_promise_99 (by decide) rfl ?_
              refine v_iload C 0 d_M_promise_101 rfl ?_
              refine v_if_le C 153 d_M_promise_103 (by decide) (fun _ => ?_) (fun z => absurd (by decide) z)
              refine v_aload_n C 2 d_M_promise_153 rfl rfl ?_
              refine v_get C k_M hR.1 9 (by decide) tw_492 (fun _ h => h) rfl d_M_promise_154 ?_
              refine v_sipush (x := 200) C d_M_promise_157 (by decide) ?_
              refine v_icmp_eq C 177 d_M_promise_160 (by decide) (fun c_160 => ?_) (fun c_160 => ?_)
              · have n_160 : (zc S 1) = 200 := (nI_eq (a := (zc S 1)) (b := 200) (by omega) (by omega)).mp c_160
                refine v_bipush (x := -14) C d_M_promise_177 (by decide) ?_
                exact v_iret C d_M_promise_179 (by first | exact Nat.le_of_ble_eq_true rfl | (show _ ≤ _; omega)) (by first | exact Nat.le_of_ble_eq_true rfl | (show _ ≤ _; omega)) ⟨(by  rw [oProm, zn_nI hcu3, if_pos hx0, if_pos hz, if_pos ⟨(by rw [zended, hpr]), n_78⟩, hla, if_neg (fun z => absurd z.1 (by decide)), if_neg (fun z => absurd z.1 (by decide)), if_pos (Or.inl n_160)] <;> (try rfl)), (by  rw [oProm, zn_nI hcu3, if_pos hx0, if_pos hz, if_pos ⟨(by rw [zended, hpr]), n_78⟩, hla, if_neg (fun z => absurd z.1 (by decide)), if_neg (fun z => absurd z.1 (by decide)), if_pos (Or.inl n_160)]; exact hR), hk⟩
              · have n_160 : ¬ (zc S 1) = 200 := mt (nI_eq (a := (zc S 1)) (b := 200) (by omega) (by omega)).mpr c_160
                refine v_iload C 1 d_M_promise_163 rfl ?_
                refine v_if_ge C 180 d_M_promise_165 (by decide) (fun z => absurd z (by decide)) (fun _ => ?_)
                refine v_aload_n C 2 d_M_promise_168 rfl rfl ?_
                refine v_get C k_M hR.1 18 (by decide) tw_501 (fun _ h => h) rfl d_M_promise_169 ?_
                refine v_bipush (x := 60) C d_M_promise_172 (by decide) ?_
                refine v_icmp_ne C 180 d_M_promise_174 (by decide) (fun c_174 => ?_) (fun c_174 => ?_)
                · have n_174 : ¬ (zc S 2) = 60 := mt (nI_eq (a := (zc S 2)) (b := 60) (by omega) (by omega)).mpr c_174
                  refine v_aload_n C 2 d_M_promise_180 rfl rfl ?_
                  refine v_iload_n C 3 d_M_promise_181 rfl rfl ?_
                  refine v_iload_n C 4 d_M_promise_182 rfl rfl ?_
                  refine v_iconst (x := 3) C d_M_promise_183 (by decide) ?_
                  refine v_aload_n C 2 d_M_promise_184 rfl rfl ?_
                  refine v_get C k_M hR.1 0 (by decide) tw_483 (fun _ h => h) rfl d_M_promise_185 ?_
                  refine v_lload_n C 5 d_M_promise_188 rfl rfl ?_
                  refine v_iconst (x := 0) C d_M_promise_189 (by decide) ?_
                  refine v_callV (rest := []) C (c_M_put l G v o ad S (nI cu) it 3 (zl S 0 0) w 0 hR (by omega) (by first | exact Or.inl rfl | exact Or.inr rfl)) tw_632 tw_34 tw_629 tw_631 tw_24 mn_M_put hR.1 k_M.1 ⟨Nat.le_of_ble_eq_true rfl, Nat.le_of_ble_eq_true rfl⟩ rfl rfl (Nat.le_of_ble_eq_true rfl) d_M_promise_190 ⟨(by first | exact Nat.le_of_ble_eq_true rfl | (show _ ≤ _; omega)), (by first | exact Nat.le_of_ble_eq_true rfl | (show _ ≤ _; omega))⟩ (fun r_19 v_20 hp_21 => ?_)
                  obtain ⟨rfl, hRc_hp_21, hkc_hp_21⟩ := hp_21
                  obtain ⟨S_22, eS_22⟩ : ∃ z, z = zput S (nI cu) it 3 (zl S 0 0) w 0 := ⟨_, rfl⟩
                  have hR_22 : RM G v_20 o ad S_22 := by rw [eS_22]; exact hRc_hp_21
                  have hk_22 : vkeep (mX o ad) v v_20 := hk.tr hkc_hp_21
                  show vV _ _ _ _ _ _ _ _ _ _ _ _ _ v_20 0 0 193 [(8, .int 0), (7, .int (-1)), (0, .ref o), (1, .int (nI cu)), (2, .int it), (3, .long w), (5, .long b)] [.int (nI (zc S 1 + 1))]
                  refine v_istore (lv' := [(9, .int (nI (zc S 1 + 1))), (8, .int 0), (7, .int (-1)), (0, .ref o), (1, .int (nI cu)), (2, .int it), (3, .long w), (5, .long b)]) C d_M_promise_193 (by decide) rfl ?_
                  refine v_aload_n C 3 d_M_promise_195 rfl rfl ?_
                  refine v_get C k_M hR_22.1 22 (by decide) tw_505 (fun _ h => h) rfl d_M_promise_196 ?_
                  refine v_aload_n C 3 d_M_promise_199 rfl rfl ?_
                  refine v_iload_n C 4 d_M_promise_200 rfl rfl ?_
                  refine v_iload_n C 5 d_M_promise_201 rfl rfl ?_
                  refine v_callV (rest := [.ref (ad 22)]) C (c_M_keep l G v_20 o ad S_22 (nI cu) it hR_22 (by rw [eS_22]; show zc S 2 ≤ 60; omega) (by intro z; rw [eS_22, zpf_put] at z; have z : zpf S (nI cu) it (zc S 2) = none := z; rw [eS_22]; show zc S 2 < 60; first | (rw [hpr] at z; exact absurd z (Option.some_ne_none _)) | omega)) tw_627 tw_34 tw_624 tw_626 tw_23 mn_M_keep hR_22.1 k_M.1 ⟨Nat.le_of_ble_eq_true rfl, Nat.le_of_ble_eq_true rfl⟩ rfl rfl (Nat.le_of_ble_eq_true rfl) d_M_promise_202 ⟨(by first | exact Nat.le_of_ble_eq_true rfl | (show _ ≤ _; omega)), (by first | exact Nat.le_of_ble_eq_true rfl | (show _ ≤ _; omega))⟩ (fun r_23 v_24 hp_25 => ?_)
                  obtain ⟨rfl, hRc_hp_25, hkc_hp_25⟩ := hp_25
                  obtain ⟨S_26, eS_26⟩ : ∃ z, z = zkeep S_22 (nI cu) it := ⟨_, rfl⟩
                  have hR_26 : RM G v_24 o ad S_26 := by rw [eS_26]; exact hRc_hp_25
                  have hk_26 : vkeep (mX o ad) v v_24 := hk_22.tr hkc_hp_25
                  show vV _ _ _ _ _ _ _ _ _ _ _ _ _ v_24 0 0 205 [(9, .int (nI (zc S 1 + 1))), (8, .int 0), (7, .int (-1)), (0, .ref o), (1, .int (nI cu)), (2, .int it), (3, .long w), (5, .long b)] [.int (nI (zkix S_22 (nI cu) it)), .ref (ad 22)]
                  refine v_iload C 0 d_M_promise_205 rfl ?_
                  have hkx : zkix S (nI cu) it < 60 := by first | (rw [zkix_n hpr]; omega) | (rw [zkix_s hpr]; omega)
                  refine v_toi2 (y := nI (zkix S (nI cu) it)) (by rw [eS_22, zkix_put]) ?_
                  refine v_iastN C (hR_26.oi (f := 22) (by decide)) hkx (by decide) d_M_promise_207 ?_
                  refine v_view (fun v1 ev1 => ?_)
                  obtain ⟨S_27, eS_27⟩ : ∃ z, z = zui S_26 22 (zkix S (nI cu) it) (nI (zc S 1 + 1)) := ⟨_, rfl⟩
                  have hR_27 : RM G v1 o ad S_27 := by rw [eS_27]; exact (by rw [ev1]; exact hR_26.puti 22 (by decide) (zkix S (nI cu) it) (nI (zc S 1 + 1)))
                  have hk_27 : vkeep (mX o ad) v v1 := by rw [ev1]; exact hk_26.up (mX_f (by decide))
                  refine v_iload C 0 d_M_promise_208 rfl ?_
                  exact v_iret C d_M_promise_210 (by first | exact Nat.le_of_ble_eq_true rfl | (show _ ≤ _; omega)) (by first | exact Nat.le_of_ble_eq_true rfl | (show _ ≤ _; omega)) ⟨(by  rw [oProm, zn_nI hcu3, if_pos hx0, if_pos hz, if_pos ⟨(by rw [zended, hpr]), n_78⟩, hla, if_neg (fun z => absurd z.1 (by decide)), if_neg (fun z => absurd z.1 (by decide)), if_neg (by intro z; rcases z with z | ⟨z1, z2⟩; exact n_160 z; first | exact n_174 z2 | (rw [hpr] at z1; exact absurd z1 (Option.some_ne_none _)))] <;> (try rfl)), (by  rw [oProm, zn_nI hcu3, if_pos hx0, if_pos hz, if_pos ⟨(by rw [zended, hpr]), n_78⟩, hla, if_neg (fun z => absurd z.1 (by decide)), if_neg (fun z => absurd z.1 (by decide)), if_neg (by intro z; rcases z with z | ⟨z1, z2⟩; exact n_160 z; first | exact n_174 z2 | (rw [hpr] at z1; exact absurd z1 (Option.some_ne_none _)))]; subst eS_22 eS_26 eS_27; exact hR_27), hk_27⟩
                · have n_174 : (zc S 2) = 60 := (nI_eq (a := (zc S 2)) (b := 60) (by omega) (by omega)).mp c_174
                  refine v_bipush (x := -14) C d_M_promise_177 (by decide) ?_
                  exact v_iret C d_M_promise_179 (by first | exact Nat.le_of_ble_eq_true rfl | (show _ ≤ _; omega)) (by first | exact Nat.le_of_ble_eq_true rfl | (show _ ≤ _; omega)) ⟨(by  rw [oProm, zn_nI hcu3, if_pos hx0, if_pos hz, if_pos ⟨(by rw [zended, hpr]), n_78⟩, hla, if_neg (fun z => absurd z.1 (by decide)), if_neg (fun z => absurd z.1 (by decide)), if_pos (Or.inr ⟨hpr, n_174⟩)] <;> (try rfl)), (by  rw [oProm, zn_nI hcu3, if_pos hx0, if_pos hz, if_pos ⟨(by rw [zended, hpr]), n_78⟩, hla, if_neg (fun z => absurd z.1 (by decide)), if_neg (fun z => absurd z.1 (by decide)), if_pos (Or.inr ⟨hpr, n_174⟩)]; exact hR), hk⟩
            · have n_78 : (zwn S (32 * cu + 4 * 3) 4) = 0 := (nI_eq (a := (zwn S (32 * cu + 4 * 3) 4)) (b := 0) (by omega) (by omega)).mp c_78
              refine v_iconst (x := 0) C d_M_promise_81 (by decide) ?_
              exact v_iret C d_M_promise_82 (by first | exact Nat.le_of_ble_eq_true rfl | (show _ ≤ _; omega)) (by first | exact Nat.le_of_ble_eq_true rfl | (show _ ≤ _; omega)) ⟨(by  rw [oProm, zn_nI hcu3, if_pos hx0, if_pos hz, if_neg (fun z => z.2 n_78)] <;> (try rfl)), (by  rw [oProm, zn_nI hcu3, if_pos hx0, if_pos hz, if_neg (fun z => z.2 n_78)]; exact hR), hk⟩
          · have hpl := zpf_lt hpr
            show vV _ _ _ _ _ _ _ _ _ _ _ _ _ v 0 0 55 [(0, .ref o), (1, .int (nI cu)), (2, .int it), (3, .long w), (5, .long b)] [.int (nI pk)]
            refine v_istore (lv' := [(7, .int (nI pk)), (0, .ref o), (1, .int (nI cu)), (2, .int it), (3, .long w), (5, .long b)]) C d_M_promise_55 (by decide) rfl ?_
            refine v_iload C 0 d_M_promise_57 rfl ?_
            refine v_if_lt C 72 d_M_promise_59 (by decide) (fun z => absurd z (nI_pos (by omega))) (fun _ => ?_)
            refine v_aload_n C 1 d_M_promise_62 rfl rfl ?_
            refine v_get C k_M hR.1 21 (by decide) tw_504 (fun _ h => h) rfl d_M_promise_63 ?_
            refine v_iload C 0 d_M_promise_66 rfl ?_
            refine v_zaldN C (hR.oz (f := 21) (by decide)) (by show _ < 60; omega) (by decide) d_M_promise_68 ?_
            refine v_if_ne C 81 d_M_promise_69 (by decide) (fun c_69 => ?_) (fun c_69 => ?_)
            · refine v_iconst (x := 0) C d_M_promise_81 (by decide) ?_
              exact v_iret C d_M_promise_82 (by first | exact Nat.le_of_ble_eq_true rfl | (show _ ≤ _; omega)) (by first | exact Nat.le_of_ble_eq_true rfl | (show _ ≤ _; omega)) ⟨(by  rw [oProm, zn_nI hcu3, if_pos hx0, if_pos hz, if_neg (fun z => c_69 (by have z1 := z.1; rw [zended, hpr] at z1; exact z1))] <;> (try rfl)), (by  rw [oProm, zn_nI hcu3, if_pos hx0, if_pos hz, if_neg (fun z => c_69 (by have z1 := z.1; rw [zended, hpr] at z1; exact z1))]; exact hR), hk⟩
            · refine v_aload_n C 1 d_M_promise_72 rfl rfl ?_
              refine v_iload_n C 2 d_M_promise_73 rfl rfl ?_
              refine v_iconst (x := 3) C d_M_promise_74 (by decide) ?_
              have hwl_75 := zwn_le S (32 * cu + 4 * 3) 4
              refine v_callV (rest := []) C (c_M_wished l G v o ad S cu 3 hR (by omega) (by omega)) tw_604 tw_34 tw_601 tw_603 tw_20 mn_M_wished hR.1 k_M.1 ⟨Nat.le_of_ble_eq_true rfl, Nat.le_of_ble_eq_true rfl⟩ rfl rfl (Nat.le_of_ble_eq_true rfl) d_M_promise_75 ⟨(by first | exact Nat.le_of_ble_eq_true rfl | (show _ ≤ _; omega)), (by first | exact Nat.le_of_ble_eq_true rfl | (show _ ≤ _; omega))⟩ (fun r_28 v_29 hp_30 => ?_)
              obtain ⟨rfl, hv9⟩ := hp_30
              obtain rfl := hv9.symm
              show vV _ _ _ _ _ _ _ _ _ _ _ _ _ v 0 0 78 [(7, .int (nI pk)), (0, .ref o), (1, .int (nI cu)), (2, .int it), (3, .long w), (5, .long b)] [.int (nI (zwn S (32 * cu + 4 * 3) 4))]
              refine v_if_ne C 83 d_M_promise_78 (by decide) (fun c_78 => ?_) (fun c_78 => ?_)
              · have n_78 : ¬ (zwn S (32 * cu + 4 * 3) 4) = 0 := mt (nI_eq (a := (zwn S (32 * cu + 4 * 3) 4)) (b := 0) (by omega) (by omega)).mpr c_78
                refine v_iload C 0 d_M_promise_83 rfl ?_
                refine v_if_ge C 92 d_M_promise_85 (by decide) (fun _ => ?_) (fun z => absurd (nI_pos' (by omega)) z)
                refine v_aload_n C 1 d_M_promise_92 rfl rfl ?_
                refine v_get C k_M hR.1 22 (by decide) tw_505 (fun _ h => h) rfl d_M_promise_93 ?_
                refine v_iload C 0 d_M_promise_96 rfl ?_
                refine v_ialdN C (hR.oi (f := 22) (by decide)) (by show _ < 60; omega) (by decide) d_M_promise_98 ?_
                obtain ⟨ln, hln, eln⟩ := hB3 pk hpl.1
                refine v_toi (y := nI ln) eln ?_
                have hla : zlast S (nI cu) it = nI ln := by unfold zlast; rw [hpr]; exact eln
                refine v_istore (lv' := [(8, .int (nI ln)), (7, .int (nI pk)), (0, .ref o), (1, .int (nI cu)), (2, .int it), (3, .long w), (5, .long b)]) C d_M_promise_99 (by decide) rfl ?_
                refine v_iload C 0 d_M_promise_101 rfl ?_
                refine v_if_le C 153 d_M_promise_103 (by decide) (fun c_103 => ?_) (fun c_103 => ?_)
                · have n_103 : ln ≤ 0 := (nI_leI (a := ln) (b := 0) (by omega) (by omega)).mp c_103
                  refine v_aload_n C 2 d_M_promise_153 rfl rfl ?_
                  refine v_get C k_M hR.1 9 (by decide) tw_492 (fun _ h => h) rfl d_M_promise_154 ?_
                  refine v_sipush (x := 200) C d_M_promise_157 (by decide) ?_
                  refine v_icmp_eq C 177 d_M_promise_160 (by decide) (fun c_160 => ?_) (fun c_160 => ?_)
                  · have n_160 : (zc S 1) = 200 := (nI_eq (a := (zc S 1)) (b := 200) (by omega) (by omega)).mp c_160
                    refine v_bipush (x := -14) C d_M_promise_177 (by decide) ?_
                    exact v_iret C d_M_promise_179 (by first | exact Nat.le_of_ble_eq_true rfl | (show _ ≤ _; omega)) (by first | exact Nat.le_of_ble_eq_true rfl | (show _ ≤ _; omega)) ⟨(by  rw [oProm, zn_nI hcu3, if_pos hx0, if_pos hz, if_pos ⟨(by rw [zended, hpr]; exact c_69), n_78⟩, hla, if_neg (fun z => by have z1 := z.1; rw [nI_toInt (by omega)] at z1; omega), if_neg (fun z => by have z1 := z.1; rw [nI_toInt (by omega)] at z1; omega), if_pos (Or.inl n_160)] <;> (try rfl)), (by  rw [oProm, zn_nI hcu3, if_pos hx0, if_pos hz, if_pos ⟨(by rw [zended, hpr]; exact c_69), n_78⟩, hla, if_neg (fun z => by have z1 := z.1; rw [nI_toInt (by omega)] at z1; omega), if_neg (fun z => by have z1 := z.1; rw [nI_toInt (by omega)] at z1; omega), if_pos (Or.inl n_160)]; exact hR), hk⟩
                  · have n_160 : ¬ (zc S 1) = 200 := mt (nI_eq (a := (zc S 1)) (b := 200) (by omega) (by omega)).mpr c_160
                    refine v_iload C 1 d_M_promise_163 rfl ?_
                    refine v_if_ge C 180 d_M_promise_165 (by decide) (fun _ => ?_) (fun z => absurd (nI_pos' (by omega)) z)
                    refine v_aload_n C 2 d_M_promise_180 rfl rfl ?_
                    refine v_iload_n C 3 d_M_promise_181 rfl rfl ?_
                    refine v_iload_n C 4 d_M_promise_182 rfl rfl ?_
                    refine v_iconst (x := 3) C d_M_promise_183 (by decide) ?_
                    refine v_aload_n C 2 d_M_promise_184 rfl rfl ?_
                    refine v_get C k_M hR.1 0 (by decide) tw_483 (fun _ h => h) rfl d_M_promise_185 ?_
                    refine v_lload_n C 5 d_M_promise_188 rfl rfl ?_
                    refine v_iconst (x := 0) C d_M_promise_189 (by decide) ?_
                    refine v_callV (rest := []) C (c_M_put l G v o ad S (nI cu) it 3 (zl S 0 0) w 0 hR (by omega) (by first | exact Or.inl rfl | exact Or.inr rfl)) tw_632 tw_34 tw_629 tw_631 tw_24 mn_M_put hR.1 k_M.1 ⟨Nat.le_of_ble_eq_true rfl, Nat.le_of_ble_eq_true rfl⟩ rfl rfl (Nat.le_of_ble_eq_true rfl) d_M_promise_190 ⟨(by first | exact Nat.le_of_ble_eq_true rfl | (show _ ≤ _; omega)), (by first | exact Nat.le_of_ble_eq_true rfl | (show _ ≤ _; omega))⟩ (fun r_31 v_32 hp_33 => ?_)
                    obtain ⟨rfl, hRc_hp_33, hkc_hp_33⟩ := hp_33
                    obtain ⟨S_34, eS_34⟩ : ∃ z, z = zput S (nI cu) it 3 (zl S 0 0) w 0 := ⟨_, rfl⟩
                    have hR_34 : RM G v_32 o ad S_34 := by rw [eS_34]; exact hRc_hp_33
                    have hk_34 : vkeep (mX o ad) v v_32 := hk.tr hkc_hp_33
                    show vV _ _ _ _ _ _ _ _ _ _ _ _ _ v_32 0 0 193 [(8, .int (nI ln)), (7, .int (nI pk)), (0, .ref o), (1, .int (nI cu)), (2, .int it), (3, .long w), (5, .long b)] [.int (nI (zc S 1 + 1))]
                    refine v_istore (lv' := [(9, .int (nI (zc S 1 + 1))), (8, .int (nI ln)), (7, .int (nI pk)), (0, .ref o), (1, .int (nI cu)), (2, .int it), (3, .long w), (5, .long b)]) C d_M_promise_193 (by decide) rfl ?_
                    refine v_aload_n C 3 d_M_promise_195 rfl rfl ?_
                    refine v_get C k_M hR_34.1 22 (by decide) tw_505 (fun _ h => h) rfl d_M_promise_196 ?_
                    refine v_aload_n C 3 d_M_promise_199 rfl rfl ?_
                    refine v_iload_n C 4 d_M_promise_200 rfl rfl ?_
                    refine v_iload_n C 5 d_M_promise_201 rfl rfl ?_
                    refine v_callV (rest := [.ref (ad 22)]) C (c_M_keep l G v_32 o ad S_34 (nI cu) it hR_34 (by rw [eS_34]; show zc S 2 ≤ 60; omega) (by intro z; rw [eS_34, zpf_put] at z; have z : zpf S (nI cu) it (zc S 2) = none := z; rw [eS_34]; show zc S 2 < 60; first | (rw [hpr] at z; exact absurd z (Option.some_ne_none _)) | omega)) tw_627 tw_34 tw_624 tw_626 tw_23 mn_M_keep hR_34.1 k_M.1 ⟨Nat.le_of_ble_eq_true rfl, Nat.le_of_ble_eq_true rfl⟩ rfl rfl (Nat.le_of_ble_eq_true rfl) d_M_promise_202 ⟨(by first | exact Nat.le_of_ble_eq_true rfl | (show _ ≤ _; omega)), (by first | exact Nat.le_of_ble_eq_true rfl | (show _ ≤ _; omega))⟩ (fun r_35 v_36 hp_37 => ?_)
                    obtain ⟨rfl, hRc_hp_37, hkc_hp_37⟩ := hp_37
                    obtain ⟨S_38, eS_38⟩ : ∃ z, z = zkeep S_34 (nI cu) it := ⟨_, rfl⟩
                    have hR_38 : RM G v_36 o ad S_38 := by rw [eS_38]; exact hRc_hp_37
                    have hk_38 : vkeep (mX o ad) v v_36 := hk_34.tr hkc_hp_37
                    show vV _ _ _ _ _ _ _ _ _ _ _ _ _ v_36 0 0 205 [(9, .int (nI (zc S 1 + 1))), (8, .int (nI ln)), (7, .int (nI pk)), (0, .ref o), (1, .int (nI cu)), (2, .int it), (3, .long w), (5, .long b)] [.int (nI (zkix S_34 (nI cu) it)), .ref (ad 22)]
                    refine v_iload C 0 d_M_promise_205 rfl ?_
                    have hkx : zkix S (nI cu) it < 60 := by first | (rw [zkix_n hpr]; omega) | (rw [zkix_s hpr]; omega)
                    refine v_toi2 (y := nI (zkix S (nI cu) it)) (by rw [eS_34, zkix_put]) ?_
                    refine v_iastN C (hR_38.oi (f := 22) (by decide)) hkx (by decide) d_M_promise_207 ?_
                    refine v_view (fun v2 ev2 => ?_)
                    obtain ⟨S_39, eS_39⟩ : ∃ z, z = zui S_38 22 (zkix S (nI cu) it) (nI (zc S 1 + 1)) := ⟨_, rfl⟩
                    have hR_39 : RM G v2 o ad S_39 := by rw [eS_39]; exact (by rw [ev2]; exact hR_38.puti 22 (by decide) (zkix S (nI cu) it) (nI (zc S 1 + 1)))
                    have hk_39 : vkeep (mX o ad) v v2 := by rw [ev2]; exact hk_38.up (mX_f (by decide))
                    refine v_iload C 0 d_M_promise_208 rfl ?_
                    exact v_iret C d_M_promise_210 (by first | exact Nat.le_of_ble_eq_true rfl | (show _ ≤ _; omega)) (by first | exact Nat.le_of_ble_eq_true rfl | (show _ ≤ _; omega)) ⟨(by  rw [oProm, zn_nI hcu3, if_pos hx0, if_pos hz, if_pos ⟨(by rw [zended, hpr]; exact c_69), n_78⟩, hla, if_neg (fun z => by have z1 := z.1; rw [nI_toInt (by omega)] at z1; omega), if_neg (fun z => by have z1 := z.1; rw [nI_toInt (by omega)] at z1; omega), if_neg (by intro z; rcases z with z | ⟨z1, z2⟩; exact n_160 z; first | exact n_174 z2 | (rw [hpr] at z1; exact absurd z1 (Option.some_ne_none _)))] <;> (try rfl)), (by  rw [oProm, zn_nI hcu3, if_pos hx0, if_pos hz, if_pos ⟨(by rw [zended, hpr]; exact c_69), n_78⟩, hla, if_neg (fun z => by have z1 := z.1; rw [nI_toInt (by omega)] at z1; omega), if_neg (fun z => by have z1 := z.1; rw [nI_toInt (by omega)] at z1; omega), if_neg (by intro z; rcases z with z | ⟨z1, z2⟩; exact n_160 z; first | exact n_174 z2 | (rw [hpr] at z1; exact absurd z1 (Option.some_ne_none _)))]; subst eS_34 eS_38 eS_39; exact hR_39), hk_39⟩
                · have n_103 : ¬ ln ≤ 0 := mt (nI_leI (a := ln) (b := 0) (by omega) (by omega)).mpr c_103
                  have hpos : 0 < (nI ln).toInt := by rw [nI_toInt (by omega)]; omega
                  refine v_lload_n C 5 d_M_promise_106 rfl rfl ?_
                  refine v_aload_n C 2 d_M_promise_107 rfl rfl ?_
                  refine v_get C k_M hR.1 14 (by decide) tw_497 (fun _ h => h) rfl d_M_promise_108 ?_
                  refine v_iload C 0 d_M_promise_111 rfl ?_
                  refine v_laldN C (hR.ol (f := 14) (by decide)) (by show _ < 201; omega) (by decide) d_M_promise_113 ?_
                  refine v_lsub C d_M_promise_114 ?_
                  refine v_lstore (lv' := [(9, .long (w - (zl S 14 ln))), (8, .int (nI ln)), (7, .int (nI pk)), (0, .ref o), (1, .int (nI cu)), (2, .int it), (3, .long w), (5, .long b)]) C d_M_promise_115 (by decide) rfl ?_
                  refine v_lload C 0 d_M_promise_117 rfl ?_
                  refine v_lload C 7 d_M_promise_119 rfl ?_
                  refine v_lneg C d_M_promise_121 ?_
                  refine v_lload C 7 d_M_promise_122 rfl ?_
                  refine v_callS (rest := []) C (c_M_isIn l G v (w - (zl S 14 ln)) (-b) b) tw_588 tw_34 tw_586 tw_587 mn_M_isIn ⟨Nat.le_of_ble_eq_true rfl, Nat.le_of_ble_eq_true rfl⟩ rfl rfl (Nat.le_of_ble_eq_true rfl) d_M_promise_124 ⟨(by first | exact Nat.le_of_ble_eq_true rfl | (show _ ≤ _; omega)), (by first | exact Nat.le_of_ble_eq_true rfl | (show _ ≤ _; omega))⟩ (fun r_40 v_41 hp_42 => ?_)
                  rcases hp_42 with ⟨rfl, hv9, hb_124⟩ | ⟨rfl, hv9, hb_124⟩
                  · obtain rfl := hv9.symm
                    show vV _ _ _ _ _ _ _ _ _ _ _ _ _ v 0 0 127 [(9, .long (w - (zl S 14 ln))), (8, .int (nI ln)), (7, .int (nI pk)), (0, .ref o), (1, .int (nI cu)), (2, .int it), (3, .long w), (5, .long b)] [.int 1]
                    refine v_if_eq C 132 d_M_promise_127 (by decide) (fun z => absurd z (by decide)) (fun _ => ?_)
                    refine v_iconst (x := 0) C d_M_promise_130 (by decide) ?_
                    exact v_iret C d_M_promise_131 (by first | exact Nat.le_of_ble_eq_true rfl | (show _ ≤ _; omega)) (by first | exact Nat.le_of_ble_eq_true rfl | (show _ ≤ _; omega)) ⟨(by  rw [oProm, zn_nI hcu3, if_pos hx0, if_pos hz, if_pos ⟨(by rw [zended, hpr]; exact c_69), n_78⟩, hla, zn_nI (show ln < 2 ^ 31 by omega), if_pos ⟨hpos, hb_124⟩] <;> (try rfl)), (by  rw [oProm, zn_nI hcu3, if_pos hx0, if_pos hz, if_pos ⟨(by rw [zended, hpr]; exact c_69), n_78⟩, hla, zn_nI (show ln < 2 ^ 31 by omega), if_pos ⟨hpos, hb_124⟩]; exact hR), hk⟩
                  · obtain rfl := hv9.symm
                    show vV _ _ _ _ _ _ _ _ _ _ _ _ _ v 0 0 127 [(9, .long (w - (zl S 14 ln))), (8, .int (nI ln)), (7, .int (nI pk)), (0, .ref o), (1, .int (nI cu)), (2, .int it), (3, .long w), (5, .long b)] [.int 0]
                    refine v_if_eq C 132 d_M_promise_127 (by decide) (fun _ => ?_) (fun z => absurd (by decide) z)
                    refine v_aload_n C 3 d_M_promise_132 rfl rfl ?_
                    refine v_get C k_M hR.1 15 (by decide) tw_498 (fun _ h => h) rfl d_M_promise_133 ?_
                    refine v_iload C 1 d_M_promise_136 rfl ?_
                    refine v_ialdN C (hR.oi (f := 15) (by decide)) (by show _ < 201; omega) (by decide) d_M_promise_138 ?_
                    refine v_if_ne C 153 d_M_promise_139 (by decide) (fun c_139 => ?_) (fun c_139 => ?_)
                    · refine v_aload_n C 3 d_M_promise_153 rfl rfl ?_
                      refine v_get C k_M hR.1 9 (by decide) tw_492 (fun _ h => h) rfl d_M_promise_154 ?_
                      refine v_sipush (x := 200) C d_M_promise_157 (by decide) ?_
                      refine v_icmp_eq C 177 d_M_promise_160 (by decide) (fun c_160 => ?_) (fun c_160 => ?_)
                      · have n_160 : (zc S 1) = 200 := (nI_eq (a := (zc S 1)) (b := 200) (by omega) (by omega)).mp c_160
                        refine v_bipush (x := -14) C d_M_promise_177 (by decide) ?_
                        exact v_iret C d_M_promise_179 (by first | exact Nat.le_of_ble_eq_true rfl | (show _ ≤ _; omega)) (by first | exact Nat.le_of_ble_eq_true rfl | (show _ ≤ _; omega)) ⟨(by  rw [oProm, zn_nI hcu3, if_pos hx0, if_pos hz, if_pos ⟨(by rw [zended, hpr]; exact c_69), n_78⟩, hla, zn_nI (show ln < 2 ^ 31 by omega), if_neg (fun z => hb_124 z.2), if_neg (fun z => c_139 z.2), if_pos (Or.inl n_160)] <;> (try rfl)), (by  rw [oProm, zn_nI hcu3, if_pos hx0, if_pos hz, if_pos ⟨(by rw [zended, hpr]; exact c_69), n_78⟩, hla, zn_nI (show ln < 2 ^ 31 by omega), if_neg (fun z => hb_124 z.2), if_neg (fun z => c_139 z.2), if_pos (Or.inl n_160)]; exact hR), hk⟩
                      · have n_160 : ¬ (zc S 1) = 200 := mt (nI_eq (a := (zc S 1)) (b := 200) (by omega) (by omega)).mpr c_160
                        refine v_iload C 2 d_M_promise_163 rfl ?_
                        refine v_if_ge C 180 d_M_promise_165 (by decide) (fun _ => ?_) (fun z => absurd (nI_pos' (by omega)) z)
                        refine v_aload_n C 3 d_M_promise_180 rfl rfl ?_
                        refine v_iload_n C 4 d_M_promise_181 rfl rfl ?_
                        refine v_iload_n C 5 d_M_promise_182 rfl rfl ?_
                        refine v_iconst (x := 3) C d_M_promise_183 (by decide) ?_
                        refine v_aload_n C 3 d_M_promise_184 rfl rfl ?_
                        refine v_get C k_M hR.1 0 (by decide) tw_483 (fun _ h => h) rfl d_M_promise_185 ?_
                        refine v_lload_n C 6 d_M_promise_188 rfl rfl ?_
                        refine v_iconst (x := 0) C d_M_promise_189 (by decide) ?_
                        refine v_callV (rest := []) C (c_M_put l G v o ad S (nI cu) it 3 (zl S 0 0) w 0 hR (by omega) (by first | exact Or.inl rfl | exact Or.inr rfl)) tw_632 tw_34 tw_629 tw_631 tw_24 mn_M_put hR.1 k_M.1 ⟨Nat.le_of_ble_eq_true rfl, Nat.le_of_ble_eq_true rfl⟩ rfl rfl (Nat.le_of_ble_eq_true rfl) d_M_promise_190 ⟨(by first | exact Nat.le_of_ble_eq_true rfl | (show _ ≤ _; omega)), (by first | exact Nat.le_of_ble_eq_true rfl | (show _ ≤ _; omega))⟩ (fun r_43 v_44 hp_45 => ?_)
                        obtain ⟨rfl, hRc_hp_45, hkc_hp_45⟩ := hp_45
                        obtain ⟨S_46, eS_46⟩ : ∃ z, z = zput S (nI cu) it 3 (zl S 0 0) w 0 := ⟨_, rfl⟩
                        have hR_46 : RM G v_44 o ad S_46 := by rw [eS_46]; exact hRc_hp_45
                        have hk_46 : vkeep (mX o ad) v v_44 := hk.tr hkc_hp_45
                        show vV _ _ _ _ _ _ _ _ _ _ _ _ _ v_44 0 0 193 [(9, .long (w - (zl S 14 ln))), (8, .int (nI ln)), (7, .int (nI pk)), (0, .ref o), (1, .int (nI cu)), (2, .int it), (3, .long w), (5, .long b)] [.int (nI (zc S 1 + 1))]
                        refine v_istore (lv' := [(9, .int (nI (zc S 1 + 1))), (8, .int (nI ln)), (7, .int (nI pk)), (0, .ref o), (1, .int (nI cu)), (2, .int it), (3, .long w), (5, .long b)]) C d_M_promise_193 (by decide) rfl ?_
                        refine v_aload_n C 3 d_M_promise_195 rfl rfl ?_
                        refine v_get C k_M hR_46.1 22 (by decide) tw_505 (fun _ h => h) rfl d_M_promise_196 ?_
                        refine v_aload_n C 3 d_M_promise_199 rfl rfl ?_
                        refine v_iload_n C 4 d_M_promise_200 rfl rfl ?_
                        refine v_iload_n C 5 d_M_promise_201 rfl rfl ?_
                        refine v_callV (rest := [.ref (ad 22)]) C (c_M_keep l G v_44 o ad S_46 (nI cu) it hR_46 (by rw [eS_46]; show zc S 2 ≤ 60; omega) (by intro z; rw [eS_46, zpf_put] at z; have z : zpf S (nI cu) it (zc S 2) = none := z; rw [eS_46]; show zc S 2 < 60; first | (rw [hpr] at z; exact absurd z (Option.some_ne_none _)) | omega)) tw_627 tw_34 tw_624 tw_626 tw_23 mn_M_keep hR_46.1 k_M.1 ⟨Nat.le_of_ble_eq_true rfl, Nat.le_of_ble_eq_true rfl⟩ rfl rfl (Nat.le_of_ble_eq_true rfl) d_M_promise_202 ⟨(by first | exact Nat.le_of_ble_eq_true rfl | (show _ ≤ _; omega)), (by first | exact Nat.le_of_ble_eq_true rfl | (show _ ≤ _; omega))⟩ (fun r_47 v_48 hp_49 => ?_)
                        obtain ⟨rfl, hRc_hp_49, hkc_hp_49⟩ := hp_49
                        obtain ⟨S_50, eS_50⟩ : ∃ z, z = zkeep S_46 (nI cu) it := ⟨_, rfl⟩
                        have hR_50 : RM G v_48 o ad S_50 := by rw [eS_50]; exact hRc_hp_49
                        have hk_50 : vkeep (mX o ad) v v_48 := hk_46.tr hkc_hp_49
                        show vV _ _ _ _ _ _ _ _ _ _ _ _ _ v_48 0 0 205 [(9, .int (nI (zc S 1 + 1))), (8, .int (nI ln)), (7, .int (nI pk)), (0, .ref o), (1, .int (nI cu)), (2, .int it), (3, .long w), (5, .long b)] [.int (nI (zkix S_46 (nI cu) it)), .ref (ad 22)]
                        refine v_iload C 0 d_M_promise_205 rfl ?_
                        have hkx : zkix S (nI cu) it < 60 := by first | (rw [zkix_n hpr]; omega) | (rw [zkix_s hpr]; omega)
                        refine v_toi2 (y := nI (zkix S (nI cu) it)) (by rw [eS_46, zkix_put]) ?_
                        refine v_iastN C (hR_50.oi (f := 22) (by decide)) hkx (by decide) d_M_promise_207 ?_
                        refine v_view (fun v3 ev3 => ?_)
                        obtain ⟨S_51, eS_51⟩ : ∃ z, z = zui S_50 22 (zkix S (nI cu) it) (nI (zc S 1 + 1)) := ⟨_, rfl⟩
                        have hR_51 : RM G v3 o ad S_51 := by rw [eS_51]; exact (by rw [ev3]; exact hR_50.puti 22 (by decide) (zkix S (nI cu) it) (nI (zc S 1 + 1)))
                        have hk_51 : vkeep (mX o ad) v v3 := by rw [ev3]; exact hk_50.up (mX_f (by decide))
                        refine v_iload C 0 d_M_promise_208 rfl ?_
                        exact v_iret C d_M_promise_210 (by first | exact Nat.le_of_ble_eq_true rfl | (show _ ≤ _; omega)) (by first | exact Nat.le_of_ble_eq_true rfl | (show _ ≤ _; omega)) ⟨(by  rw [oProm, zn_nI hcu3, if_pos hx0, if_pos hz, if_pos ⟨(by rw [zended, hpr]; exact c_69), n_78⟩, hla, zn_nI (show ln < 2 ^ 31 by omega), if_neg (fun z => hb_124 z.2), if_neg (fun z => c_139 z.2), if_neg (by intro z; rcases z with z | ⟨z1, z2⟩; exact n_160 z; first | exact n_174 z2 | (rw [hpr] at z1; exact absurd z1 (Option.some_ne_none _)))] <;> (try rfl)), (by  rw [oProm, zn_nI hcu3, if_pos hx0, if_pos hz, if_pos ⟨(by rw [zended, hpr]; exact c_69), n_78⟩, hla, zn_nI (show ln < 2 ^ 31 by omega), if_neg (fun z => hb_124 z.2), if_neg (fun z => c_139 z.2), if_neg (by intro z; rcases z with z | ⟨z1, z2⟩; exact n_160 z; first | exact n_174 z2 | (rw [hpr] at z1; exact absurd z1 (Option.some_ne_none _)))]; subst eS_46 eS_50 eS_51; exact hR_51), hk_51⟩
                    · refine v_aload_n C 3 d_M_promise_142 rfl rfl ?_
                      refine v_get C k_M hR.1 14 (by decide) tw_497 (fun _ h => h) rfl d_M_promise_143 ?_
                      refine v_iload C 1 d_M_promise_146 rfl ?_
                      refine v_lload_n C 6 d_M_promise_148 rfl rfl ?_
                      refine v_lastN C (hR.ol (f := 14) (by decide)) (by show _ < 201; omega) (by decide) d_M_promise_149 ?_
                      refine v_view (fun v4 ev4 => ?_)
                      obtain ⟨S_52, eS_52⟩ : ∃ z, z = zul S 14 ln w := ⟨_, rfl⟩
                      have hR_52 : RM G v4 o ad S_52 := by rw [eS_52]; exact (by rw [ev4]; exact hR.putl 14 (by decide) ln w)
                      have hk_52 : vkeep (mX o ad) v v4 := by rw [ev4]; exact hk.up (mX_f (by decide))
                      refine v_iload C 1 d_M_promise_150 rfl ?_
                      exact v_iret C d_M_promise_152 (by first | exact Nat.le_of_ble_eq_true rfl | (show _ ≤ _; omega)) (by first | exact Nat.le_of_ble_eq_true rfl | (show _ ≤ _; omega)) ⟨(by  rw [oProm, zn_nI hcu3, if_pos hx0, if_pos hz, if_pos ⟨(by rw [zended, hpr]; exact c_69), n_78⟩, hla, zn_nI (show ln < 2 ^ 31 by omega), if_neg (fun z => hb_124 z.2), if_pos ⟨hpos, c_139⟩] <;> (try rfl)), (by  rw [oProm, zn_nI hcu3, if_pos hx0, if_pos hz, if_pos ⟨(by rw [zended, hpr]; exact c_69), n_78⟩, hla, zn_nI (show ln < 2 ^ 31 by omega), if_neg (fun z => hb_124 z.2), if_pos ⟨hpos, c_139⟩]; subst eS_52; exact hR_52), hk_52⟩
              · have n_78 : (zwn S (32 * cu + 4 * 3) 4) = 0 := (nI_eq (a := (zwn S (32 * cu + 4 * 3) 4)) (b := 0) (by omega) (by omega)).mp c_78
                refine v_iconst (x := 0) C d_M_promise_81 (by decide) ?_
                exact v_iret C d_M_promise_82 (by first | exact Nat.le_of_ble_eq_true rfl | (show _ ≤ _; omega)) (by first | exact Nat.le_of_ble_eq_true rfl | (show _ ≤ _; omega)) ⟨(by  rw [oProm, zn_nI hcu3, if_pos hx0, if_pos hz, if_neg (fun z => z.2 n_78)] <;> (try rfl)), (by  rw [oProm, zn_nI hcu3, if_pos hx0, if_pos hz, if_neg (fun z => z.2 n_78)]; exact hR), hk⟩
        · obtain rfl := hv9.symm
          show vV _ _ _ _ _ _ _ _ _ _ _ _ _ v 0 0 43 [(0, .ref o), (1, .int x), (2, .int it), (3, .long w), (5, .long b)] [.int 0]
          refine v_if_ne C 49 d_M_promise_43 (by decide) (fun z => absurd (by decide) z) (fun _ => ?_)
          refine v_bipush (x := -12) C d_M_promise_46 (by decide) ?_
          exact v_iret C d_M_promise_48 (by first | exact Nat.le_of_ble_eq_true rfl | (show _ ≤ _; omega)) (by first | exact Nat.le_of_ble_eq_true rfl | (show _ ≤ _; omega)) ⟨(by rw [i64_toInt] at hb_17; rw [oProm, if_pos hb_2, if_neg (fun z => hb_40 z.2.2)] <;> (try rfl)), (by rw [i64_toInt] at hb_17; rw [oProm, if_pos hb_2, if_neg (fun z => hb_40 z.2.2)]; exact hR), hk⟩
      · obtain rfl := hv9.symm
        show vV _ _ _ _ _ _ _ _ _ _ _ _ _ v 0 0 31 [(0, .ref o), (1, .int x), (2, .int it), (3, .long w), (5, .long b)] [.int 0]
        refine v_if_eq C 46 d_M_promise_31 (by decide) (fun _ => ?_) (fun z => absurd (by decide) z)
        refine v_bipush (x := -12) C d_M_promise_46 (by decide) ?_
        exact v_iret C d_M_promise_48 (by first | exact Nat.le_of_ble_eq_true rfl | (show _ ≤ _; omega)) (by first | exact Nat.le_of_ble_eq_true rfl | (show _ ≤ _; omega)) ⟨(by rw [i64_toInt] at hb_17; rw [oProm, if_pos hb_2, if_neg (fun z => hb_28 z.2.1)] <;> (try rfl)), (by rw [i64_toInt] at hb_17; rw [oProm, if_pos hb_2, if_neg (fun z => hb_28 z.2.1)]; exact hR), hk⟩
    · obtain rfl := hv9.symm
      show vV _ _ _ _ _ _ _ _ _ _ _ _ _ v 0 0 20 [(0, .ref o), (1, .int x), (2, .int it), (3, .long w), (5, .long b)] [.int 0]
      refine v_if_eq C 46 d_M_promise_20 (by decide) (fun _ => ?_) (fun z => absurd (by decide) z)
      refine v_bipush (x := -12) C d_M_promise_46 (by decide) ?_
      exact v_iret C d_M_promise_48 (by first | exact Nat.le_of_ble_eq_true rfl | (show _ ≤ _; omega)) (by first | exact Nat.le_of_ble_eq_true rfl | (show _ ≤ _; omega)) ⟨(by rw [i64_toInt] at hb_17; rw [oProm, if_pos hb_2, if_neg (fun z => hb_17 z.1)] <;> (try rfl)), (by rw [i64_toInt] at hb_17; rw [oProm, if_pos hb_2, if_neg (fun z => hb_17 z.1)]; exact hR), hk⟩
  · obtain rfl := hv9.symm
    show vV _ _ _ _ _ _ _ _ _ _ _ _ _ v 0 0 5 [(0, .ref o), (1, .int x), (2, .int it), (3, .long w), (5, .long b)] [.int 0]
    refine v_if_ne C 11 d_M_promise_5 (by decide) (fun z => absurd (by decide) z) (fun _ => ?_)
    refine v_bipush (x := -11) C d_M_promise_8 (by decide) ?_
    exact v_iret C d_M_promise_10 (by first | exact Nat.le_of_ble_eq_true rfl | (show _ ≤ _; omega)) (by first | exact Nat.le_of_ble_eq_true rfl | (show _ ≤ _; omega)) ⟨(by  rw [oProm, if_neg hb_2] <;> (try rfl)), (by  rw [oProm, if_neg hb_2]; exact hR), hk⟩
