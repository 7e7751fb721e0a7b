set_option maxHeartbeats 20000000 in
set_option maxRecDepth 100000 in
theorem lp_law {p : Program} {l : Launch} {e : Env} {s : State} {m : MethodId} {below : List Frame} {meth : Method} {c : Code} {G : vv_G} {b L : Nat} {xs : Nat → Int32} {o : Nat} {la : Nat → Nat} {cw om : Nat} {ad : Nat → Nat} (C : vC p s m #[.ref b] meth c code 4 ret "CustomerNoticesLaw" G) (hX : va_X b L xs s s.heap ∧ b < s.heap.size ∧ b < G.2.1) (hL : L ≤ 3584) (hG : G.2.1 = s.heap.size) : ∀ (n t i : Nat) (v : vv_V) (S : zS) (kc ks : Nat), i = 7 * t → L + 8 ≤ i + n → i ≤ L → kc ≤ 60 + 18 * t → ks ≤ 6000 + 4392 * t → LI G v o la cw om ad S → vV p l e room_1 s m #[.ref b] below meth c (lw_Z below #[.ref b] s) G 4 v kc ks 18 [(3, .int (nI i)), (0, .ref b), (1, .ref o), (2, .ref om)] [] := by
  intro n
  induction n with
  | zero => intro t i v S kc ks hit hn hiL; exfalso; omega
  | succ n ih =>
    intro t i v S kc ks hit hn hiL hkc hks hLI0
    obtain ⟨ra, ea, ca, oa, na, ia, hRC, hM, hI, hd1, hd2⟩ := id hLI0
    obtain ⟨hB, hB2, hB3, hB4, hB4f, hB5, hB6, hB7, hB8, hB9, hBs⟩ := id hI
    have hr3 : zc S 3 ≤ 200 := by have y1 := hB3.1; have y2 := hB3.2; omega
    have hr4 : zc S 4 ≤ 200 := by have y1 := hB3.1; have y2 := hB3.2; omega
    refine v_iload_n C 0 d_law_18 rfl rfl ?_
    refine v_aload_n C 1 d_law_19 rfl rfl ?_
    refine v_slen C hX d_law_20 ?_
    refine v_bipush (x := 7) C d_law_21 (by decide) ?_
    refine v_isub C d_law_23 ?_
    refine v_icmp_gt C 706 d_law_24 (by decide) (fun c_24 => ?_) (fun c_24 => ?_)
    · refine v_iconst (x := 1) C d_law_706 (by decide) ?_
      exact v_end C hG (by omega) (by omega) d_law_707
    · have hlt : i + 7 ≤ L := Nat.le_of_not_lt (fun z => c_24 ((law_gt hL (by omega)).mpr z))
      refine v_aload_n C 1 d_law_27 rfl rfl ?_
      refine v_iload_n C 0 d_law_28 rfl rfl ?_
      refine v_sld C hX (i := i) (by omega) hL d_law_29 ?_
      refine v_bipush (x := 15) C d_law_30 (by decide) ?_
      refine v_iand C d_law_32 ?_
      obtain ⟨w9, hw9, ew9⟩ := and15 (xs i)
      refine v_toi (y := nI w9) ew9 ?_
      clear ew9
      rcases (show w9 = 0 ∨ w9 = 1 ∨ w9 = 2 ∨ w9 = 3 ∨ w9 = 4 ∨ w9 = 5 ∨ w9 = 6 ∨ w9 = 7 ∨ w9 = 8 ∨ w9 = 9 ∨ w9 = 10 ∨ w9 = 11 ∨ w9 = 12 ∨ w9 = 13 ∨ w9 = 14 ∨ w9 = 15 by omega) with rfl | rfl | rfl | rfl | rfl | rfl | rfl | rfl | rfl | rfl | rfl | rfl | rfl | rfl | rfl | rfl
      · refine v_tableIn C 96 d_law_33 (by decide) (by decide) (off := 63) (by decide) (by decide) ?_
        refine v_aload_n C 2 d_law_96 rfl rfl ?_
        refine v_aload_n C 1 d_law_97 rfl rfl ?_
        refine v_iload_n C 0 d_law_98 rfl rfl ?_
        refine v_iconst (x := 1) C d_law_99 (by decide) ?_
        refine v_iadd C d_law_100 ?_
        refine v_toi (y := nI (i + 1)) (nI_add i 1) ?_
        refine v_sld C hX (i := (i + 1)) (by omega) hL d_law_101 ?_
        refine v_aload_n C 1 d_law_102 rfl rfl ?_
        refine v_iload_n C 0 d_law_103 rfl rfl ?_
        refine v_iconst (x := 2) C d_law_104 (by decide) ?_
        refine v_iadd C d_law_105 ?_
        refine v_toi (y := nI (i + 2)) (nI_add i 2) ?_
        refine v_sld C hX (i := (i + 2)) (by omega) hL d_law_106 ?_
        refine v_callV (rest := []) C (c_C_customer l G v o la cw S ra ea ca oa na ia (xs (i + 1)) (xs (i + 2)) hRC hB.1 hB2 hB8) tw_107 tw_30 tw_104 tw_105 tw_106 mn_C_customer hRC.1 k_C.1 ⟨Nat.le_of_ble_eq_true rfl, Nat.le_of_ble_eq_true rfl⟩ rfl rfl (Nat.le_of_ble_eq_true rfl) d_law_107 ⟨(by show _ ≤ _; simp only [room_1]; omega), (by show _ ≤ _; simp only [room_1]; omega)⟩ (fun r_1 v_2 hp_3 => ?_)
        refine v_cs (kc' := (kc + 3)) (ks' := (ks + 284)) rfl rfl ?_
        obtain ⟨rfl, hE⟩ := hp_3
        have hM1 : RM G v_2 om ad S := hM.keepC (by obtain ⟨_, _, _, _, _, _, _, h9, _⟩ := hE; exact h9) hd1 hd2
        refine v_one (fun one => ?_)
        show vV _ _ _ _ _ _ _ _ _ _ _ _ _ v_2 (kc + 3) (ks + 284) 110 [(3, .int (nI i)), (0, .ref b), (1, .ref o), (2, .ref om)] [.int ((oCust S (xs (i + 1)) (xs (i + 2))).1)]
        refine v_aload_n C 3 d_law_110 rfl rfl ?_
        refine v_aload_n C 1 d_law_111 rfl rfl ?_
        refine v_iload_n C 0 d_law_112 rfl rfl ?_
        refine v_iconst (x := 1) C d_law_113 (by decide) ?_
        refine v_iadd C d_law_114 ?_
        refine v_toi (y := nI (i + 1)) (nI_add i 1) ?_
        refine v_sld C hX (i := (i + 1)) (by omega) hL d_law_115 ?_
        refine v_aload_n C 1 d_law_116 rfl rfl ?_
        refine v_iload_n C 0 d_law_117 rfl rfl ?_
        refine v_iconst (x := 2) C d_law_118 (by decide) ?_
        refine v_iadd C d_law_119 ?_
        refine v_toi (y := nI (i + 2)) (nI_add i 2) ?_
        refine v_sld C hX (i := (i + 2)) (by omega) hL d_law_120 ?_
        refine v_callV (rest := [.int ((oCust S (xs (i + 1)) (xs (i + 2))).1)]) C (c_M_customer l G v_2 om ad S (xs (i + 1)) (xs (i + 2)) hM1 hB.1) tw_584 tw_34 tw_581 tw_582 tw_583 mn_M_customer hM1.1 k_M.1 ⟨Nat.le_of_ble_eq_true rfl, Nat.le_of_ble_eq_true rfl⟩ rfl rfl (Nat.le_of_ble_eq_true rfl) d_law_121 ⟨(by show _ ≤ _; simp only [room_1]; omega), (by show _ ≤ _; simp only [room_1]; omega)⟩ (fun r_4 v_5 hp_6 => ?_)
        obtain ⟨rfl, hM2, hk2⟩ := hp_6
        have hLI : LI G v_5 o la cw om ad (oCust S (xs (i + 1)) (xs (i + 2))).2 := LI.m hM hE hM1 one hM2 hk2 (inv_cust hI _ _) hd1 hd2
        show vV _ _ _ _ _ _ _ _ _ _ _ _ _ v_5 (kc + 3) (ks + 284) 124 [(3, .int (nI i)), (0, .ref b), (1, .ref o), (2, .ref om)] [.int ((oCust S (xs (i + 1)) (xs (i + 2))).1), .int ((oCust S (xs (i + 1)) (xs (i + 2))).1)]
        refine v_icmp_eq C 700 d_law_124 (by decide) (fun c_124 => ?_) (fun c_124 => absurd rfl c_124)
        refine v_iinc (y := nI (i + 7)) (lv' := [(3, .int (nI (i + 7))), (0, .ref b), (1, .ref o), (2, .ref om)]) C 0 d_law_700 rfl (nI_add i 7) (by decide) rfl ?_
        refine v_goto C 18 d_law_703 (by decide) ?_
        refine v_sub [0, 1, 2, 3] rfl ?_
        exact ih (t + 1) (i + 7) v_5 (oCust S (xs (i + 1)) (xs (i + 2))).2 (kc + 3) (ks + 284) (by omega) (by omega) (by omega) (by omega) (by omega) hLI
      · refine v_tableIn C 129 d_law_33 (by decide) (by decide) (off := 96) (by decide) (by decide) ?_
        refine v_aload_n C 2 d_law_129 rfl rfl ?_
        refine v_aload_n C 1 d_law_130 rfl rfl ?_
        refine v_iload_n C 0 d_law_131 rfl rfl ?_
        refine v_iconst (x := 1) C d_law_132 (by decide) ?_
        refine v_iadd C d_law_133 ?_
        refine v_toi (y := nI (i + 1)) (nI_add i 1) ?_
        refine v_sld C hX (i := (i + 1)) (by omega) hL d_law_134 ?_
        refine v_aload_n C 1 d_law_135 rfl rfl ?_
        refine v_iload_n C 0 d_law_136 rfl rfl ?_
        refine v_iconst (x := 2) C d_law_137 (by decide) ?_
        refine v_iadd C d_law_138 ?_
        refine v_toi (y := nI (i + 2)) (nI_add i 2) ?_
        refine v_sld C hX (i := (i + 2)) (by omega) hL d_law_139 ?_
        refine v_aload_n C 1 d_law_140 rfl rfl ?_
        refine v_iload_n C 0 d_law_141 rfl rfl ?_
        refine v_iconst (x := 3) C d_law_142 (by decide) ?_
        refine v_iadd C d_law_143 ?_
        refine v_toi (y := nI (i + 3)) (nI_add i 3) ?_
        refine v_sld C hX (i := (i + 3)) (by omega) hL d_law_144 ?_
        refine v_aload_n C 1 d_law_145 rfl rfl ?_
        refine v_iload_n C 0 d_law_146 rfl rfl ?_
        refine v_iconst (x := 4) C d_law_147 (by decide) ?_
        refine v_iadd C d_law_148 ?_
        refine v_toi (y := nI (i + 4)) (nI_add i 4) ?_
        refine v_sld C hX (i := (i + 4)) (by omega) hL d_law_149 ?_
        refine v_callV (rest := []) C (c_C_wish l G v o la cw S ra ea ca oa na ia (xs (i + 1)) (xs (i + 2)) (xs (i + 3)) (xs (i + 4)) hRC hB.1 hB7) tw_210 tw_30 tw_207 tw_208 tw_209 mn_C_wish hRC.1 k_C.1 ⟨Nat.le_of_ble_eq_true rfl, Nat.le_of_ble_eq_true rfl⟩ rfl rfl (Nat.le_of_ble_eq_true rfl) d_law_150 ⟨(by show _ ≤ _; simp only [room_1]; omega), (by show _ ≤ _; simp only [room_1]; omega)⟩ (fun r_7 v_8 hp_9 => ?_)
        obtain ⟨rfl, hE⟩ := hp_9
        have hM1 : RM G v_8 om ad S := hM.keepC (by obtain ⟨_, _, _, _, _, _, _, h9, _⟩ := hE; exact h9) hd1 hd2
        refine v_one (fun one => ?_)
        show vV _ _ _ _ _ _ _ _ _ _ _ _ _ v_8 kc ks 153 [(3, .int (nI i)), (0, .ref b), (1, .ref o), (2, .ref om)] [.int ((oWish S (xs (i + 1)) (xs (i + 2)) (xs (i + 3)) (xs (i + 4))).1)]
        refine v_aload_n C 3 d_law_153 rfl rfl ?_
        refine v_aload_n C 1 d_law_154 rfl rfl ?_
        refine v_iload_n C 0 d_law_155 rfl rfl ?_
        refine v_iconst (x := 1) C d_law_156 (by decide) ?_
        refine v_iadd C d_law_157 ?_
        refine v_toi (y := nI (i + 1)) (nI_add i 1) ?_
        refine v_sld C hX (i := (i + 1)) (by omega) hL d_law_158 ?_
        refine v_aload_n C 1 d_law_159 rfl rfl ?_
        refine v_iload_n C 0 d_law_160 rfl rfl ?_
        refine v_iconst (x := 2) C d_law_161 (by decide) ?_
        refine v_iadd C d_law_162 ?_
        refine v_toi (y := nI (i + 2)) (nI_add i 2) ?_
        refine v_sld C hX (i := (i + 2)) (by omega) hL d_law_163 ?_
        refine v_aload_n C 1 d_law_164 rfl rfl ?_
        refine v_iload_n C 0 d_law_165 rfl rfl ?_
        refine v_iconst (x := 3) C d_law_166 (by decide) ?_
        refine v_iadd C d_law_167 ?_
        refine v_toi (y := nI (i + 3)) (nI_add i 3) ?_
        refine v_sld C hX (i := (i + 3)) (by omega) hL d_law_168 ?_
        refine v_aload_n C 1 d_law_169 rfl rfl ?_
        refine v_iload_n C 0 d_law_170 rfl rfl ?_
        refine v_iconst (x := 4) C d_law_171 (by decide) ?_
        refine v_iadd C d_law_172 ?_
        refine v_toi (y := nI (i + 4)) (nI_add i 4) ?_
        refine v_sld C hX (i := (i + 4)) (by omega) hL d_law_173 ?_
        refine v_callV (rest := [.int ((oWish S (xs (i + 1)) (xs (i + 2)) (xs (i + 3)) (xs (i + 4))).1)]) C (c_M_wish l G v_8 om ad S (xs (i + 1)) (xs (i + 2)) (xs (i + 3)) (xs (i + 4)) hM1 hB.1) tw_594 tw_34 tw_591 tw_592 tw_593 mn_M_wish hM1.1 k_M.1 ⟨Nat.le_of_ble_eq_true rfl, Nat.le_of_ble_eq_true rfl⟩ rfl rfl (Nat.le_of_ble_eq_true rfl) d_law_174 ⟨(by show _ ≤ _; simp only [room_1]; omega), (by show _ ≤ _; simp only [room_1]; omega)⟩ (fun r_10 v_11 hp_12 => ?_)
        obtain ⟨rfl, hM2, hk2⟩ := hp_12
        have hLI : LI G v_11 o la cw om ad (oWish S (xs (i + 1)) (xs (i + 2)) (xs (i + 3)) (xs (i + 4))).2 := LI.m hM hE hM1 one hM2 hk2 (inv_wish hI _ _ _ _) hd1 hd2
        show vV _ _ _ _ _ _ _ _ _ _ _ _ _ v_11 kc ks 177 [(3, .int (nI i)), (0, .ref b), (1, .ref o), (2, .ref om)] [.int ((oWish S (xs (i + 1)) (xs (i + 2)) (xs (i + 3)) (xs (i + 4))).1), .int ((oWish S (xs (i + 1)) (xs (i + 2)) (xs (i + 3)) (xs (i + 4))).1)]
        refine v_icmp_eq C 700 d_law_177 (by decide) (fun c_177 => ?_) (fun c_177 => absurd rfl c_177)
        refine v_iinc (y := nI (i + 7)) (lv' := [(3, .int (nI (i + 7))), (0, .ref b), (1, .ref o), (2, .ref om)]) C 0 d_law_700 rfl (nI_add i 7) (by decide) rfl ?_
        refine v_goto C 18 d_law_703 (by decide) ?_
        refine v_sub [0, 1, 2, 3] rfl ?_
        exact ih (t + 1) (i + 7) v_11 (oWish S (xs (i + 1)) (xs (i + 2)) (xs (i + 3)) (xs (i + 4))).2 kc ks (by omega) (by omega) (by omega) (by omega) (by omega) hLI
      · refine v_tableIn C 182 d_law_33 (by decide) (by decide) (off := 149) (by decide) (by decide) ?_
        refine v_aload_n C 2 d_law_182 rfl rfl ?_
        refine v_aload_n C 1 d_law_183 rfl rfl ?_
        refine v_iload_n C 0 d_law_184 rfl rfl ?_
        refine v_iconst (x := 1) C d_law_185 (by decide) ?_
        refine v_iadd C d_law_186 ?_
        refine v_toi (y := nI (i + 1)) (nI_add i 1) ?_
        refine v_sld C hX (i := (i + 1)) (by omega) hL d_law_187 ?_
        refine v_aload_n C 1 d_law_188 rfl rfl ?_
        refine v_iload_n C 0 d_law_189 rfl rfl ?_
        refine v_iconst (x := 2) C d_law_190 (by decide) ?_
        refine v_iadd C d_law_191 ?_
        refine v_toi (y := nI (i + 2)) (nI_add i 2) ?_
        refine v_sld C hX (i := (i + 2)) (by omega) hL d_law_192 ?_
        refine v_aload_n C 1 d_law_193 rfl rfl ?_
        refine v_iload_n C 0 d_law_194 rfl rfl ?_
        refine v_iconst (x := 3) C d_law_195 (by decide) ?_
        refine v_iadd C d_law_196 ?_
        refine v_toi (y := nI (i + 3)) (nI_add i 3) ?_
        refine v_sld C hX (i := (i + 3)) (by omega) hL d_law_197 ?_
        refine v_callV (rest := []) C (c_C_quiet l G v o la cw S ra ea ca oa na ia (xs (i + 1)) (xs (i + 2)) (xs (i + 3)) hRC hB.1) tw_254 tw_30 tw_251 tw_252 tw_253 mn_C_quiet hRC.1 k_C.1 ⟨Nat.le_of_ble_eq_true rfl, Nat.le_of_ble_eq_true rfl⟩ rfl rfl (Nat.le_of_ble_eq_true rfl) d_law_198 ⟨(by show _ ≤ _; simp only [room_1]; omega), (by show _ ≤ _; simp only [room_1]; omega)⟩ (fun r_13 v_14 hp_15 => ?_)
        obtain ⟨rfl, hE⟩ := hp_15
        have hM1 : RM G v_14 om ad S := hM.keepC (by obtain ⟨_, _, _, _, _, _, _, h9, _⟩ := hE; exact h9) hd1 hd2
        refine v_one (fun one => ?_)
        show vV _ _ _ _ _ _ _ _ _ _ _ _ _ v_14 kc ks 201 [(3, .int (nI i)), (0, .ref b), (1, .ref o), (2, .ref om)] [.int ((oQuiet S (xs (i + 1)) (xs (i + 2)) (xs (i + 3))).1)]
        refine v_aload_n C 3 d_law_201 rfl rfl ?_
        refine v_aload_n C 1 d_law_202 rfl rfl ?_
        refine v_iload_n C 0 d_law_203 rfl rfl ?_
        refine v_iconst (x := 1) C d_law_204 (by decide) ?_
        refine v_iadd C d_law_205 ?_
        refine v_toi (y := nI (i + 1)) (nI_add i 1) ?_
        refine v_sld C hX (i := (i + 1)) (by omega) hL d_law_206 ?_
        refine v_aload_n C 1 d_law_207 rfl rfl ?_
        refine v_iload_n C 0 d_law_208 rfl rfl ?_
        refine v_iconst (x := 2) C d_law_209 (by decide) ?_
        refine v_iadd C d_law_210 ?_
        refine v_toi (y := nI (i + 2)) (nI_add i 2) ?_
        refine v_sld C hX (i := (i + 2)) (by omega) hL d_law_211 ?_
        refine v_aload_n C 1 d_law_212 rfl rfl ?_
        refine v_iload_n C 0 d_law_213 rfl rfl ?_
        refine v_iconst (x := 3) C d_law_214 (by decide) ?_
        refine v_iadd C d_law_215 ?_
        refine v_toi (y := nI (i + 3)) (nI_add i 3) ?_
        refine v_sld C hX (i := (i + 3)) (by omega) hL d_law_216 ?_
        refine v_callV (rest := [.int ((oQuiet S (xs (i + 1)) (xs (i + 2)) (xs (i + 3))).1)]) C (c_M_quiet l G v_14 om ad S (xs (i + 1)) (xs (i + 2)) (xs (i + 3)) hM1 hB.1) tw_608 tw_34 tw_605 tw_606 tw_607 mn_M_quiet hM1.1 k_M.1 ⟨Nat.le_of_ble_eq_true rfl, Nat.le_of_ble_eq_true rfl⟩ rfl rfl (Nat.le_of_ble_eq_true rfl) d_law_217 ⟨(by show _ ≤ _; simp only [room_1]; omega), (by show _ ≤ _; simp only [room_1]; omega)⟩ (fun r_16 v_17 hp_18 => ?_)
        obtain ⟨rfl, hM2, hk2⟩ := hp_18
        have hLI : LI G v_17 o la cw om ad (oQuiet S (xs (i + 1)) (xs (i + 2)) (xs (i + 3))).2 := LI.m hM hE hM1 one hM2 hk2 (inv_quiet hI _ _ _) hd1 hd2
        show vV _ _ _ _ _ _ _ _ _ _ _ _ _ v_17 kc ks 220 [(3, .int (nI i)), (0, .ref b), (1, .ref o), (2, .ref om)] [.int ((oQuiet S (xs (i + 1)) (xs (i + 2)) (xs (i + 3))).1), .int ((oQuiet S (xs (i + 1)) (xs (i + 2)) (xs (i + 3))).1)]
        refine v_icmp_eq C 700 d_law_220 (by decide) (fun c_220 => ?_) (fun c_220 => absurd rfl c_220)
        refine v_iinc (y := nI (i + 7)) (lv' := [(3, .int (nI (i + 7))), (0, .ref b), (1, .ref o), (2, .ref om)]) C 0 d_law_700 rfl (nI_add i 7) (by decide) rfl ?_
        refine v_goto C 18 d_law_703 (by decide) ?_
        refine v_sub [0, 1, 2, 3] rfl ?_
        exact ih (t + 1) (i + 7) v_17 (oQuiet S (xs (i + 1)) (xs (i + 2)) (xs (i + 3))).2 kc ks (by omega) (by omega) (by omega) (by omega) (by omega) hLI
      · refine v_tableIn C 225 d_law_33 (by decide) (by decide) (off := 192) (by decide) (by decide) ?_
        refine v_aload_n C 2 d_law_225 rfl rfl ?_
        refine v_aload_n C 1 d_law_226 rfl rfl ?_
        refine v_iload_n C 0 d_law_227 rfl rfl ?_
        refine v_iconst (x := 1) C d_law_228 (by decide) ?_
        refine v_iadd C d_law_229 ?_
        refine v_toi (y := nI (i + 1)) (nI_add i 1) ?_
        refine v_sld C hX (i := (i + 1)) (by omega) hL d_law_230 ?_
        refine v_aload_n C 1 d_law_231 rfl rfl ?_
        refine v_iload_n C 0 d_law_232 rfl rfl ?_
        refine v_iconst (x := 2) C d_law_233 (by decide) ?_
        refine v_iadd C d_law_234 ?_
        refine v_toi (y := nI (i + 2)) (nI_add i 2) ?_
        refine v_sld C hX (i := (i + 2)) (by omega) hL d_law_235 ?_
        refine v_aload_n C 1 d_law_236 rfl rfl ?_
        refine v_iload_n C 0 d_law_237 rfl rfl ?_
        refine v_iconst (x := 3) C d_law_238 (by decide) ?_
        refine v_iadd C d_law_239 ?_
        refine v_toi (y := nI (i + 3)) (nI_add i 3) ?_
        refine v_sld C hX (i := (i + 3)) (by omega) hL d_law_240 ?_
        refine v_aload_n C 1 d_law_241 rfl rfl ?_
        refine v_iload_n C 0 d_law_242 rfl rfl ?_
        refine v_iconst (x := 4) C d_law_243 (by decide) ?_
        refine v_iadd C d_law_244 ?_
        refine v_toi (y := nI (i + 4)) (nI_add i 4) ?_
        refine v_sld C hX (i := (i + 4)) (by omega) hL d_law_245 ?_
        refine v_i2l (y := (Int32.toInt64 (xs (i + 4)))) C d_law_246 rfl ?_
        refine v_bipush (x := 32) C d_law_247 (by decide) ?_
        refine v_lshl C d_law_249 rfl ?_
        refine v_aload_n C 1 d_law_250 rfl rfl ?_
        refine v_iload_n C 0 d_law_251 rfl rfl ?_
        refine v_iconst (x := 5) C d_law_252 (by decide) ?_
        refine v_iadd C d_law_253 ?_
        refine v_toi (y := nI (i + 5)) (nI_add i 5) ?_
        refine v_sld C hX (i := (i + 5)) (by omega) hL d_law_254 ?_
        refine v_i2l (y := (Int32.toInt64 (xs (i + 5)))) C d_law_255 rfl ?_
        refine v_ldc2 (x := 4294967295) C d_law_256 tw_685 ?_
        refine v_land C d_law_259 ?_
        refine v_lor C d_law_260 ?_
        refine v_callV (rest := []) C (c_C_event l G v o la cw S ra ea ca oa na ia (xs (i + 1)) (xs (i + 2)) (xs (i + 3)) (((Int32.toInt64 (xs (i + 4))) <<< (Int32.toInt64 32 &&& 63)) ||| ((Int32.toInt64 (xs (i + 5))) &&& 4294967295)) hRC hB hB4 hB4f hB6 hB7) tw_265 tw_30 tw_262 tw_263 tw_264 mn_C_event hRC.1 k_C.1 ⟨Nat.le_of_ble_eq_true rfl, Nat.le_of_ble_eq_true rfl⟩ rfl rfl (Nat.le_of_ble_eq_true rfl) d_law_261 ⟨(by show _ ≤ _; simp only [room_1]; omega), (by show _ ≤ _; simp only [room_1]; omega)⟩ (fun r_19 v_20 hp_21 => ?_)
        refine v_cs (kc' := (kc + 4)) (ks' := (ks + 504)) rfl rfl ?_
        obtain ⟨rfl, hE⟩ := hp_21
        have hM1 : RM G v_20 om ad S := hM.keepC (by obtain ⟨_, _, _, _, _, _, _, h9, _⟩ := hE; exact h9) hd1 hd2
        refine v_one (fun one => ?_)
        show vV _ _ _ _ _ _ _ _ _ _ _ _ _ v_20 (kc + 4) (ks + 504) 264 [(3, .int (nI i)), (0, .ref b), (1, .ref o), (2, .ref om)] [.int ((oEvent S (xs (i + 1)) (xs (i + 2)) (xs (i + 3)) (((Int32.toInt64 (xs (i + 4))) <<< (Int32.toInt64 32 &&& 63)) ||| ((Int32.toInt64 (xs (i + 5))) &&& 4294967295))).1)]
        refine v_aload_n C 3 d_law_264 rfl rfl ?_
        refine v_aload_n C 1 d_law_265 rfl rfl ?_
        refine v_iload_n C 0 d_law_266 rfl rfl ?_
        refine v_iconst (x := 1) C d_law_267 (by decide) ?_
        refine v_iadd C d_law_268 ?_
        refine v_toi (y := nI (i + 1)) (nI_add i 1) ?_
        refine v_sld C hX (i := (i + 1)) (by omega) hL d_law_269 ?_
        refine v_aload_n C 1 d_law_270 rfl rfl ?_
        refine v_iload_n C 0 d_law_271 rfl rfl ?_
        refine v_iconst (x := 2) C d_law_272 (by decide) ?_
        refine v_iadd C d_law_273 ?_
        refine v_toi (y := nI (i + 2)) (nI_add i 2) ?_
        refine v_sld C hX (i := (i + 2)) (by omega) hL d_law_274 ?_
        refine v_aload_n C 1 d_law_275 rfl rfl ?_
        refine v_iload_n C 0 d_law_276 rfl rfl ?_
        refine v_iconst (x := 3) C d_law_277 (by decide) ?_
        refine v_iadd C d_law_278 ?_
        refine v_toi (y := nI (i + 3)) (nI_add i 3) ?_
        refine v_sld C hX (i := (i + 3)) (by omega) hL d_law_279 ?_
        refine v_aload_n C 1 d_law_280 rfl rfl ?_
        refine v_iload_n C 0 d_law_281 rfl rfl ?_
        refine v_iconst (x := 4) C d_law_282 (by decide) ?_
        refine v_iadd C d_law_283 ?_
        refine v_toi (y := nI (i + 4)) (nI_add i 4) ?_
        refine v_sld C hX (i := (i + 4)) (by omega) hL d_law_284 ?_
        refine v_i2l (y := (Int32.toInt64 (xs (i + 4)))) C d_law_285 rfl ?_
        refine v_bipush (x := 32) C d_law_286 (by decide) ?_
        refine v_lshl C d_law_288 rfl ?_
        refine v_aload_n C 1 d_law_289 rfl rfl ?_
        refine v_iload_n C 0 d_law_290 rfl rfl ?_
        refine v_iconst (x := 5) C d_law_291 (by decide) ?_
        refine v_iadd C d_law_292 ?_
        refine v_toi (y := nI (i + 5)) (nI_add i 5) ?_
        refine v_sld C hX (i := (i + 5)) (by omega) hL d_law_293 ?_
        refine v_i2l (y := (Int32.toInt64 (xs (i + 5)))) C d_law_294 rfl ?_
        refine v_ldc2 (x := 4294967295) C d_law_295 tw_685 ?_
        refine v_land C d_law_298 ?_
        refine v_lor C d_law_299 ?_
        refine v_callV (rest := [.int ((oEvent S (xs (i + 1)) (xs (i + 2)) (xs (i + 3)) (((Int32.toInt64 (xs (i + 4))) <<< (Int32.toInt64 32 &&& 63)) ||| ((Int32.toInt64 (xs (i + 5))) &&& 4294967295))).1)]) C (c_M_event l G v_20 om ad S (xs (i + 1)) (xs (i + 2)) (xs (i + 3)) (((Int32.toInt64 (xs (i + 4))) <<< (Int32.toInt64 32 &&& 63)) ||| ((Int32.toInt64 (xs (i + 5))) &&& 4294967295)) hM1 hB) tw_613 tw_34 tw_610 tw_611 tw_612 mn_M_event hM1.1 k_M.1 ⟨Nat.le_of_ble_eq_true rfl, Nat.le_of_ble_eq_true rfl⟩ rfl rfl (Nat.le_of_ble_eq_true rfl) d_law_300 ⟨(by show _ ≤ _; simp only [room_1]; omega), (by show _ ≤ _; simp only [room_1]; omega)⟩ (fun r_22 v_23 hp_24 => ?_)
        obtain ⟨rfl, hM2, hk2⟩ := hp_24
        have hLI : LI G v_23 o la cw om ad (oEvent S (xs (i + 1)) (xs (i + 2)) (xs (i + 3)) (((Int32.toInt64 (xs (i + 4))) <<< (Int32.toInt64 32 &&& 63)) ||| ((Int32.toInt64 (xs (i + 5))) &&& 4294967295))).2 := LI.m hM hE hM1 one hM2 hk2 (inv_event hI _ _ _ _) hd1 hd2
        show vV _ _ _ _ _ _ _ _ _ _ _ _ _ v_23 (kc + 4) (ks + 504) 303 [(3, .int (nI i)), (0, .ref b), (1, .ref o), (2, .ref om)] [.int ((oEvent S (xs (i + 1)) (xs (i + 2)) (xs (i + 3)) (((Int32.toInt64 (xs (i + 4))) <<< (Int32.toInt64 32 &&& 63)) ||| ((Int32.toInt64 (xs (i + 5))) &&& 4294967295))).1), .int ((oEvent S (xs (i + 1)) (xs (i + 2)) (xs (i + 3)) (((Int32.toInt64 (xs (i + 4))) <<< (Int32.toInt64 32 &&& 63)) ||| ((Int32.toInt64 (xs (i + 5))) &&& 4294967295))).1)]
        refine v_icmp_eq C 700 d_law_303 (by decide) (fun c_303 => ?_) (fun c_303 => absurd rfl c_303)
        refine v_iinc (y := nI (i + 7)) (lv' := [(3, .int (nI (i + 7))), (0, .ref b), (1, .ref o), (2, .ref om)]) C 0 d_law_700 rfl (nI_add i 7) (by decide) rfl ?_
        refine v_goto C 18 d_law_703 (by decide) ?_
        refine v_sub [0, 1, 2, 3] rfl ?_
        exact ih (t + 1) (i + 7) v_23 (oEvent S (xs (i + 1)) (xs (i + 2)) (xs (i + 3)) (((Int32.toInt64 (xs (i + 4))) <<< (Int32.toInt64 32 &&& 63)) ||| ((Int32.toInt64 (xs (i + 5))) &&& 4294967295))).2 (kc + 4) (ks + 504) (by omega) (by omega) (by omega) (by omega) (by omega) hLI
      · refine v_tableIn C 308 d_law_33 (by decide) (by decide) (off := 275) (by decide) (by decide) ?_
        refine v_aload_n C 2 d_law_308 rfl rfl ?_
        refine v_aload_n C 1 d_law_309 rfl rfl ?_
        refine v_iload_n C 0 d_law_310 rfl rfl ?_
        refine v_iconst (x := 1) C d_law_311 (by decide) ?_
        refine v_iadd C d_law_312 ?_
        refine v_toi (y := nI (i + 1)) (nI_add i 1) ?_
        refine v_sld C hX (i := (i + 1)) (by omega) hL d_law_313 ?_
        refine v_aload_n C 1 d_law_314 rfl rfl ?_
        refine v_iload_n C 0 d_law_315 rfl rfl ?_
        refine v_iconst (x := 2) C d_law_316 (by decide) ?_
        refine v_iadd C d_law_317 ?_
        refine v_toi (y := nI (i + 2)) (nI_add i 2) ?_
        refine v_sld C hX (i := (i + 2)) (by omega) hL d_law_318 ?_
        refine v_aload_n C 1 d_law_319 rfl rfl ?_
        refine v_iload_n C 0 d_law_320 rfl rfl ?_
        refine v_iconst (x := 3) C d_law_321 (by decide) ?_
        refine v_iadd C d_law_322 ?_
        refine v_toi (y := nI (i + 3)) (nI_add i 3) ?_
        refine v_sld C hX (i := (i + 3)) (by omega) hL d_law_323 ?_
        refine v_i2l (y := (Int32.toInt64 (xs (i + 3)))) C d_law_324 rfl ?_
        refine v_bipush (x := 32) C d_law_325 (by decide) ?_
        refine v_lshl C d_law_327 rfl ?_
        refine v_aload_n C 1 d_law_328 rfl rfl ?_
        refine v_iload_n C 0 d_law_329 rfl rfl ?_
        refine v_iconst (x := 4) C d_law_330 (by decide) ?_
        refine v_iadd C d_law_331 ?_
        refine v_toi (y := nI (i + 4)) (nI_add i 4) ?_
        refine v_sld C hX (i := (i + 4)) (by omega) hL d_law_332 ?_
        refine v_i2l (y := (Int32.toInt64 (xs (i + 4)))) C d_law_333 rfl ?_
        refine v_ldc2 (x := 4294967295) C d_law_334 tw_685 ?_
        refine v_land C d_law_337 ?_
        refine v_lor C d_law_338 ?_
        refine v_aload_n C 1 d_law_339 rfl rfl ?_
        refine v_iload_n C 0 d_law_340 rfl rfl ?_
        refine v_iconst (x := 5) C d_law_341 (by decide) ?_
        refine v_iadd C d_law_342 ?_
        refine v_toi (y := nI (i + 5)) (nI_add i 5) ?_
        refine v_sld C hX (i := (i + 5)) (by omega) hL d_law_343 ?_
        refine v_i2l (y := (Int32.toInt64 (xs (i + 5)))) C d_law_344 rfl ?_
        refine v_bipush (x := 32) C d_law_345 (by decide) ?_
        refine v_lshl C d_law_347 rfl ?_
        refine v_aload_n C 1 d_law_348 rfl rfl ?_
        refine v_iload_n C 0 d_law_349 rfl rfl ?_
        refine v_bipush (x := 6) C d_law_350 (by decide) ?_
        refine v_iadd C d_law_352 ?_
        refine v_toi (y := nI (i + 6)) (nI_add i 6) ?_
        refine v_sld C hX (i := (i + 6)) (by omega) hL d_law_353 ?_
        refine v_i2l (y := (Int32.toInt64 (xs (i + 6)))) C d_law_354 rfl ?_
        refine v_ldc2 (x := 4294967295) C d_law_355 tw_685 ?_
        refine v_land C d_law_358 ?_
        refine v_lor C d_law_359 ?_
        refine v_callV (rest := []) C (c_C_promise l G v o la cw S ra ea ca oa na ia (xs (i + 1)) (xs (i + 2)) (((Int32.toInt64 (xs (i + 3))) <<< (Int32.toInt64 32 &&& 63)) ||| ((Int32.toInt64 (xs (i + 4))) &&& 4294967295)) (((Int32.toInt64 (xs (i + 5))) <<< (Int32.toInt64 32 &&& 63)) ||| ((Int32.toInt64 (xs (i + 6))) &&& 4294967295)) hRC hB hB4 hB4f hB6 hB7 hB9) tw_375 tw_30 tw_372 tw_373 tw_374 mn_C_promise hRC.1 k_C.1 ⟨Nat.le_of_ble_eq_true rfl, Nat.le_of_ble_eq_true rfl⟩ rfl rfl (Nat.le_of_ble_eq_true rfl) d_law_360 ⟨(by show _ ≤ _; simp only [room_1]; omega), (by show _ ≤ _; simp only [room_1]; omega)⟩ (fun r_25 v_26 hp_27 => ?_)
        refine v_cs (kc' := (kc + 4)) (ks' := (ks + 504)) rfl rfl ?_
        obtain ⟨rfl, hE⟩ := hp_27
        have hM1 : RM G v_26 om ad S := hM.keepC (by obtain ⟨_, _, _, _, _, _, _, h9, _⟩ := hE; exact h9) hd1 hd2
        refine v_one (fun one => ?_)
        show vV _ _ _ _ _ _ _ _ _ _ _ _ _ v_26 (kc + 4) (ks + 504) 363 [(3, .int (nI i)), (0, .ref b), (1, .ref o), (2, .ref om)] [.int ((oProm S (xs (i + 1)) (xs (i + 2)) (((Int32.toInt64 (xs (i + 3))) <<< (Int32.toInt64 32 &&& 63)) ||| ((Int32.toInt64 (xs (i + 4))) &&& 4294967295)) (((Int32.toInt64 (xs (i + 5))) <<< (Int32.toInt64 32 &&& 63)) ||| ((Int32.toInt64 (xs (i + 6))) &&& 4294967295))).1)]
        refine v_aload_n C 3 d_law_363 rfl rfl ?_
        refine v_aload_n C 1 d_law_364 rfl rfl ?_
        refine v_iload_n C 0 d_law_365 rfl rfl ?_
        refine v_iconst (x := 1) C d_law_366 (by decide) ?_
        refine v_iadd C d_law_367 ?_
        refine v_toi (y := nI (i + 1)) (nI_add i 1) ?_
        refine v_sld C hX (i := (i + 1)) (by omega) hL d_law_368 ?_
        refine v_aload_n C 1 d_law_369 rfl rfl ?_
        refine v_iload_n C 0 d_law_370 rfl rfl ?_
        refine v_iconst (x := 2) C d_law_371 (by decide) ?_
        refine v_iadd C d_law_372 ?_
        refine v_toi (y := nI (i + 2)) (nI_add i 2) ?_
        refine v_sld C hX (i := (i + 2)) (by omega) hL d_law_373 ?_
        refine v_aload_n C 1 d_law_374 rfl rfl ?_
        refine v_iload_n C 0 d_law_375 rfl rfl ?_
        refine v_iconst (x := 3) C d_law_376 (by decide) ?_
        refine v_iadd C d_law_377 ?_
        refine v_toi (y := nI (i + 3)) (nI_add i 3) ?_
        refine v_sld C hX (i := (i + 3)) (by omega) hL d_law_378 ?_
        refine v_i2l (y := (Int32.toInt64 (xs (i + 3)))) C d_law_379 rfl ?_
        refine v_bipush (x := 32) C d_law_380 (by decide) ?_
        refine v_lshl C d_law_382 rfl ?_
        refine v_aload_n C 1 d_law_383 rfl rfl ?_
        refine v_iload_n C 0 d_law_384 rfl rfl ?_
        refine v_iconst (x := 4) C d_law_385 (by decide) ?_
        refine v_iadd C d_law_386 ?_
        refine v_toi (y := nI (i + 4)) (nI_add i 4) ?_
        refine v_sld C hX (i := (i + 4)) (by omega) hL d_law_387 ?_
        refine v_i2l (y := (Int32.toInt64 (xs (i + 4)))) C d_law_388 rfl ?_
        refine v_ldc2 (x := 4294967295) C d_law_389 tw_685 ?_
        refine v_land C d_law_392 ?_
        refine v_lor C d_law_393 ?_
        refine v_aload_n C 1 d_law_394 rfl rfl ?_
        refine v_iload_n C 0 d_law_395 rfl rfl ?_
        refine v_iconst (x := 5) C d_law_396 (by decide) ?_
        refine v_iadd C d_law_397 ?_
        refine v_toi (y := nI (i + 5)) (nI_add i 5) ?_
        refine v_sld C hX (i := (i + 5)) (by omega) hL d_law_398 ?_
        refine v_i2l (y := (Int32.toInt64 (xs (i + 5)))) C d_law_399 rfl ?_
        refine v_bipush (x := 32) C d_law_400 (by decide) ?_
        refine v_lshl C d_law_402 rfl ?_
        refine v_aload_n C 1 d_law_403 rfl rfl ?_
        refine v_iload_n C 0 d_law_404 rfl rfl ?_
        refine v_bipush (x := 6) C d_law_405 (by decide) ?_
        refine v_iadd C d_law_407 ?_
        refine v_toi (y := nI (i + 6)) (nI_add i 6) ?_
        refine v_sld C hX (i := (i + 6)) (by omega) hL d_law_408 ?_
        refine v_i2l (y := (Int32.toInt64 (xs (i + 6)))) C d_law_409 rfl ?_
        refine v_ldc2 (x := 4294967295) C d_law_410 tw_685 ?_
        refine v_land C d_law_413 ?_
        refine v_lor C d_law_414 ?_
        refine v_callV (rest := [.int ((oProm S (xs (i + 1)) (xs (i + 2)) (((Int32.toInt64 (xs (i + 3))) <<< (Int32.toInt64 32 &&& 63)) ||| ((Int32.toInt64 (xs (i + 4))) &&& 4294967295)) (((Int32.toInt64 (xs (i + 5))) <<< (Int32.toInt64 32 &&& 63)) ||| ((Int32.toInt64 (xs (i + 6))) &&& 4294967295))).1)]) C (c_M_promise l G v_26 om ad S (xs (i + 1)) (xs (i + 2)) (((Int32.toInt64 (xs (i + 3))) <<< (Int32.toInt64 32 &&& 63)) ||| ((Int32.toInt64 (xs (i + 4))) &&& 4294967295)) (((Int32.toInt64 (xs (i + 5))) <<< (Int32.toInt64 32 &&& 63)) ||| ((Int32.toInt64 (xs (i + 6))) &&& 4294967295)) hM1 hB) tw_636 tw_34 tw_633 tw_634 tw_635 mn_M_promise hM1.1 k_M.1 ⟨Nat.le_of_ble_eq_true rfl, Nat.le_of_ble_eq_true rfl⟩ rfl rfl (Nat.le_of_ble_eq_true rfl) d_law_415 ⟨(by show _ ≤ _; simp only [room_1]; omega), (by show _ ≤ _; simp only [room_1]; omega)⟩ (fun r_28 v_29 hp_30 => ?_)
        obtain ⟨rfl, hM2, hk2⟩ := hp_30
        have hLI : LI G v_29 o la cw om ad (oProm S (xs (i + 1)) (xs (i + 2)) (((Int32.toInt64 (xs (i + 3))) <<< (Int32.toInt64 32 &&& 63)) ||| ((Int32.toInt64 (xs (i + 4))) &&& 4294967295)) (((Int32.toInt64 (xs (i + 5))) <<< (Int32.toInt64 32 &&& 63)) ||| ((Int32.toInt64 (xs (i + 6))) &&& 4294967295))).2 := LI.m hM hE hM1 one hM2 hk2 (inv_prom hI _ _ _ _) hd1 hd2
        show vV _ _ _ _ _ _ _ _ _ _ _ _ _ v_29 (kc + 4) (ks + 504) 418 [(3, .int (nI i)), (0, .ref b), (1, .ref o), (2, .ref om)] [.int ((oProm S (xs (i + 1)) (xs (i + 2)) (((Int32.toInt64 (xs (i + 3))) <<< (Int32.toInt64 32 &&& 63)) ||| ((Int32.toInt64 (xs (i + 4))) &&& 4294967295)) (((Int32.toInt64 (xs (i + 5))) <<< (Int32.toInt64 32 &&& 63)) ||| ((Int32.toInt64 (xs (i + 6))) &&& 4294967295))).1), .int ((oProm S (xs (i + 1)) (xs (i + 2)) (((Int32.toInt64 (xs (i + 3))) <<< (Int32.toInt64 32 &&& 63)) ||| ((Int32.toInt64 (xs (i + 4))) &&& 4294967295)) (((Int32.toInt64 (xs (i + 5))) <<< (Int32.toInt64 32 &&& 63)) ||| ((Int32.toInt64 (xs (i + 6))) &&& 4294967295))).1)]
        refine v_icmp_eq C 700 d_law_418 (by decide) (fun c_418 => ?_) (fun c_418 => absurd rfl c_418)
        refine v_iinc (y := nI (i + 7)) (lv' := [(3, .int (nI (i + 7))), (0, .ref b), (1, .ref o), (2, .ref om)]) C 0 d_law_700 rfl (nI_add i 7) (by decide) rfl ?_
        refine v_goto C 18 d_law_703 (by decide) ?_
        refine v_sub [0, 1, 2, 3] rfl ?_
        exact ih (t + 1) (i + 7) v_29 (oProm S (xs (i + 1)) (xs (i + 2)) (((Int32.toInt64 (xs (i + 3))) <<< (Int32.toInt64 32 &&& 63)) ||| ((Int32.toInt64 (xs (i + 4))) &&& 4294967295)) (((Int32.toInt64 (xs (i + 5))) <<< (Int32.toInt64 32 &&& 63)) ||| ((Int32.toInt64 (xs (i + 6))) &&& 4294967295))).2 (kc + 4) (ks + 504) (by omega) (by omega) (by omega) (by omega) (by omega) hLI
      · refine v_tableIn C 423 d_law_33 (by decide) (by decide) (off := 390) (by decide) (by decide) ?_
        refine v_aload_n C 2 d_law_423 rfl rfl ?_
        refine v_aload_n C 1 d_law_424 rfl rfl ?_
        refine v_iload_n C 0 d_law_425 rfl rfl ?_
        refine v_iconst (x := 1) C d_law_426 (by decide) ?_
        refine v_iadd C d_law_427 ?_
        refine v_toi (y := nI (i + 1)) (nI_add i 1) ?_
        refine v_sld C hX (i := (i + 1)) (by omega) hL d_law_428 ?_
        refine v_i2l (y := (Int32.toInt64 (xs (i + 1)))) C d_law_429 rfl ?_
        refine v_bipush (x := 32) C d_law_430 (by decide) ?_
        refine v_lshl C d_law_432 rfl ?_
        refine v_aload_n C 1 d_law_433 rfl rfl ?_
        refine v_iload_n C 0 d_law_434 rfl rfl ?_
        refine v_iconst (x := 2) C d_law_435 (by decide) ?_
        refine v_iadd C d_law_436 ?_
        refine v_toi (y := nI (i + 2)) (nI_add i 2) ?_
        refine v_sld C hX (i := (i + 2)) (by omega) hL d_law_437 ?_
        refine v_i2l (y := (Int32.toInt64 (xs (i + 2)))) C d_law_438 rfl ?_
        refine v_ldc2 (x := 4294967295) C d_law_439 tw_685 ?_
        refine v_land C d_law_442 ?_
        refine v_lor C d_law_443 ?_
        refine v_callV (rest := []) C (c_C_tick l G v o la cw S ra ea ca oa na ia (((Int32.toInt64 (xs (i + 1))) <<< (Int32.toInt64 32 &&& 63)) ||| ((Int32.toInt64 (xs (i + 2))) &&& 4294967295)) hRC hI) tw_387 tw_30 tw_384 tw_385 tw_386 mn_C_tick hRC.1 k_C.1 ⟨Nat.le_of_ble_eq_true rfl, Nat.le_of_ble_eq_true rfl⟩ rfl rfl (Nat.le_of_ble_eq_true rfl) d_law_444 ⟨(by show _ ≤ _; simp only [room_1]; omega), (by show _ ≤ _; simp only [room_1]; omega)⟩ (fun r_31 v_32 hp_33 => ?_)
        refine v_cs (kc' := (kc + 18)) (ks' := (ks + 4392)) rfl rfl ?_
        obtain ⟨rfl, hE⟩ := hp_33
        have hM1 : RM G v_32 om ad S := hM.keepC (by obtain ⟨_, _, _, _, _, _, _, h9, _⟩ := hE; exact h9) hd1 hd2
        refine v_one (fun one => ?_)
        show vV _ _ _ _ _ _ _ _ _ _ _ _ _ v_32 (kc + 18) (ks + 4392) 447 [(3, .int (nI i)), (0, .ref b), (1, .ref o), (2, .ref om)] [.int ((oTick S (((Int32.toInt64 (xs (i + 1))) <<< (Int32.toInt64 32 &&& 63)) ||| ((Int32.toInt64 (xs (i + 2))) &&& 4294967295))).1)]
        refine v_aload_n C 3 d_law_447 rfl rfl ?_
        refine v_aload_n C 1 d_law_448 rfl rfl ?_
        refine v_iload_n C 0 d_law_449 rfl rfl ?_
        refine v_iconst (x := 1) C d_law_450 (by decide) ?_
        refine v_iadd C d_law_451 ?_
        refine v_toi (y := nI (i + 1)) (nI_add i 1) ?_
        refine v_sld C hX (i := (i + 1)) (by omega) hL d_law_452 ?_
        refine v_i2l (y := (Int32.toInt64 (xs (i + 1)))) C d_law_453 rfl ?_
        refine v_bipush (x := 32) C d_law_454 (by decide) ?_
        refine v_lshl C d_law_456 rfl ?_
        refine v_aload_n C 1 d_law_457 rfl rfl ?_
        refine v_iload_n C 0 d_law_458 rfl rfl ?_
        refine v_iconst (x := 2) C d_law_459 (by decide) ?_
        refine v_iadd C d_law_460 ?_
        refine v_toi (y := nI (i + 2)) (nI_add i 2) ?_
        refine v_sld C hX (i := (i + 2)) (by omega) hL d_law_461 ?_
        refine v_i2l (y := (Int32.toInt64 (xs (i + 2)))) C d_law_462 rfl ?_
        refine v_ldc2 (x := 4294967295) C d_law_463 tw_685 ?_
        refine v_land C d_law_466 ?_
        refine v_lor C d_law_467 ?_
        refine v_callV (rest := [.int ((oTick S (((Int32.toInt64 (xs (i + 1))) <<< (Int32.toInt64 32 &&& 63)) ||| ((Int32.toInt64 (xs (i + 2))) &&& 4294967295))).1)]) C (c_M_tick l G v_32 om ad S (((Int32.toInt64 (xs (i + 1))) <<< (Int32.toInt64 32 &&& 63)) ||| ((Int32.toInt64 (xs (i + 2))) &&& 4294967295)) hM1 ⟨hB.1, hB.2.1⟩ hB2 hB3) tw_641 tw_34 tw_638 tw_639 tw_640 mn_M_tick hM1.1 k_M.1 ⟨Nat.le_of_ble_eq_true rfl, Nat.le_of_ble_eq_true rfl⟩ rfl rfl (Nat.le_of_ble_eq_true rfl) d_law_468 ⟨(by show _ ≤ _; simp only [room_1]; omega), (by show _ ≤ _; simp only [room_1]; omega)⟩ (fun r_34 v_35 hp_36 => ?_)
        obtain ⟨rfl, hM2, hk2⟩ := hp_36
        have hLI : LI G v_35 o la cw om ad (oTick S (((Int32.toInt64 (xs (i + 1))) <<< (Int32.toInt64 32 &&& 63)) ||| ((Int32.toInt64 (xs (i + 2))) &&& 4294967295))).2 := LI.m hM hE hM1 one hM2 hk2 (inv_tick hI _) hd1 hd2
        show vV _ _ _ _ _ _ _ _ _ _ _ _ _ v_35 (kc + 18) (ks + 4392) 471 [(3, .int (nI i)), (0, .ref b), (1, .ref o), (2, .ref om)] [.int ((oTick S (((Int32.toInt64 (xs (i + 1))) <<< (Int32.toInt64 32 &&& 63)) ||| ((Int32.toInt64 (xs (i + 2))) &&& 4294967295))).1), .int ((oTick S (((Int32.toInt64 (xs (i + 1))) <<< (Int32.toInt64 32 &&& 63)) ||| ((Int32.toInt64 (xs (i + 2))) &&& 4294967295))).1)]
        refine v_icmp_eq C 700 d_law_471 (by decide) (fun c_471 => ?_) (fun c_471 => absurd rfl c_471)
        refine v_iinc (y := nI (i + 7)) (lv' := [(3, .int (nI (i + 7))), (0, .ref b), (1, .ref o), (2, .ref om)]) C 0 d_law_700 rfl (nI_add i 7) (by decide) rfl ?_
        refine v_goto C 18 d_law_703 (by decide) ?_
        refine v_sub [0, 1, 2, 3] rfl ?_
        exact ih (t + 1) (i + 7) v_35 (oTick S (((Int32.toInt64 (xs (i + 1))) <<< (Int32.toInt64 32 &&& 63)) ||| ((Int32.toInt64 (xs (i + 2))) &&& 4294967295))).2 (kc + 18) (ks + 4392) (by omega) (by omega) (by omega) (by omega) (by omega) hLI
      · refine v_tableIn C 476 d_law_33 (by decide) (by decide) (off := 443) (by decide) (by decide) ?_
        refine v_aload_n C 2 d_law_476 rfl rfl ?_
        refine v_aload_n C 1 d_law_477 rfl rfl ?_
        refine v_iload_n C 0 d_law_478 rfl rfl ?_
        refine v_iconst (x := 1) C d_law_479 (by decide) ?_
        refine v_iadd C d_law_480 ?_
        refine v_toi (y := nI (i + 1)) (nI_add i 1) ?_
        refine v_sld C hX (i := (i + 1)) (by omega) hL d_law_481 ?_
        refine v_aload_n C 1 d_law_482 rfl rfl ?_
        refine v_iload_n C 0 d_law_483 rfl rfl ?_
        refine v_iconst (x := 2) C d_law_484 (by decide) ?_
        refine v_iadd C d_law_485 ?_
        refine v_toi (y := nI (i + 2)) (nI_add i 2) ?_
        refine v_sld C hX (i := (i + 2)) (by omega) hL d_law_486 ?_
        refine v_callV (rest := []) C (c_C_sent l G v o la cw S ra ea ca oa na ia (xs (i + 1)) (xs (i + 2)) hRC ⟨hB.1, hr3, hB.2.1⟩ hB2 hB4) tw_426 tw_30 tw_423 tw_424 tw_425 mn_C_sent hRC.1 k_C.1 ⟨Nat.le_of_ble_eq_true rfl, Nat.le_of_ble_eq_true rfl⟩ rfl rfl (Nat.le_of_ble_eq_true rfl) d_law_487 ⟨(by show _ ≤ _; simp only [room_1]; omega), (by show _ ≤ _; simp only [room_1]; omega)⟩ (fun r_37 v_38 hp_39 => ?_)
        obtain ⟨rfl, hE⟩ := hp_39
        have hM1 : RM G v_38 om ad S := hM.keepC (by obtain ⟨_, _, _, _, _, _, _, h9, _⟩ := hE; exact h9) hd1 hd2
        refine v_one (fun one => ?_)
        show vV _ _ _ _ _ _ _ _ _ _ _ _ _ v_38 kc ks 490 [(3, .int (nI i)), (0, .ref b), (1, .ref o), (2, .ref om)] [.int ((oSent S (xs (i + 1)) (xs (i + 2))).1)]
        refine v_aload_n C 3 d_law_490 rfl rfl ?_
        refine v_aload_n C 1 d_law_491 rfl rfl ?_
        refine v_iload_n C 0 d_law_492 rfl rfl ?_
        refine v_iconst (x := 1) C d_law_493 (by decide) ?_
        refine v_iadd C d_law_494 ?_
        refine v_toi (y := nI (i + 1)) (nI_add i 1) ?_
        refine v_sld C hX (i := (i + 1)) (by omega) hL d_law_495 ?_
        refine v_aload_n C 1 d_law_496 rfl rfl ?_
        refine v_iload_n C 0 d_law_497 rfl rfl ?_
        refine v_iconst (x := 2) C d_law_498 (by decide) ?_
        refine v_iadd C d_law_499 ?_
        refine v_toi (y := nI (i + 2)) (nI_add i 2) ?_
        refine v_sld C hX (i := (i + 2)) (by omega) hL d_law_500 ?_
        refine v_callV (rest := [.int ((oSent S (xs (i + 1)) (xs (i + 2))).1)]) C (c_M_sent l G v_38 om ad S (xs (i + 1)) (xs (i + 2)) hM1 ⟨hB.1, hB.2.1, hr3⟩ hB2 hB4) tw_659 tw_34 tw_656 tw_657 tw_658 mn_M_sent hM1.1 k_M.1 ⟨Nat.le_of_ble_eq_true rfl, Nat.le_of_ble_eq_true rfl⟩ rfl rfl (Nat.le_of_ble_eq_true rfl) d_law_501 ⟨(by show _ ≤ _; simp only [room_1]; omega), (by show _ ≤ _; simp only [room_1]; omega)⟩ (fun r_40 v_41 hp_42 => ?_)
        obtain ⟨rfl, hM2, hk2⟩ := hp_42
        have hLI : LI G v_41 o la cw om ad (oSent S (xs (i + 1)) (xs (i + 2))).2 := LI.m hM hE hM1 one hM2 hk2 (hI) hd1 hd2
        show vV _ _ _ _ _ _ _ _ _ _ _ _ _ v_41 kc ks 504 [(3, .int (nI i)), (0, .ref b), (1, .ref o), (2, .ref om)] [.int ((oSent S (xs (i + 1)) (xs (i + 2))).1), .int ((oSent S (xs (i + 1)) (xs (i + 2))).1)]
        refine v_icmp_eq C 700 d_law_504 (by decide) (fun c_504 => ?_) (fun c_504 => absurd rfl c_504)
        refine v_iinc (y := nI (i + 7)) (lv' := [(3, .int (nI (i + 7))), (0, .ref b), (1, .ref o), (2, .ref om)]) C 0 d_law_700 rfl (nI_add i 7) (by decide) rfl ?_
        refine v_goto C 18 d_law_703 (by decide) ?_
        refine v_sub [0, 1, 2, 3] rfl ?_
        exact ih (t + 1) (i + 7) v_41 (oSent S (xs (i + 1)) (xs (i + 2))).2 kc ks (by omega) (by omega) (by omega) (by omega) (by omega) hLI
      · refine v_tableIn C 509 d_law_33 (by decide) (by decide) (off := 476) (by decide) (by decide) ?_
        refine v_aload_n C 2 d_law_509 rfl rfl ?_
        refine v_aload_n C 1 d_law_510 rfl rfl ?_
        refine v_iload_n C 0 d_law_511 rfl rfl ?_
        refine v_iconst (x := 1) C d_law_512 (by decide) ?_
        refine v_iadd C d_law_513 ?_
        refine v_toi (y := nI (i + 1)) (nI_add i 1) ?_
        refine v_sld C hX (i := (i + 1)) (by omega) hL d_law_514 ?_
        refine v_aload_n C 1 d_law_515 rfl rfl ?_
        refine v_iload_n C 0 d_law_516 rfl rfl ?_
        refine v_iconst (x := 2) C d_law_517 (by decide) ?_
        refine v_iadd C d_law_518 ?_
        refine v_toi (y := nI (i + 2)) (nI_add i 2) ?_
        refine v_sld C hX (i := (i + 2)) (by omega) hL d_law_519 ?_
        refine v_if_eq C 527 d_law_520 (by decide) (fun c_520 => ?_) (fun c_520 => ?_)
        · refine v_iconst (x := 0) C d_law_527 (by decide) ?_
          refine v_callV (rest := []) C (c_C_works l G v o la cw S ra ea ca oa na ia (xs (i + 1)) 0 hRC hB7 (Or.inl rfl)) tw_438 tw_30 tw_435 tw_436 tw_437 mn_C_works hRC.1 k_C.1 ⟨Nat.le_of_ble_eq_true rfl, Nat.le_of_ble_eq_true rfl⟩ rfl rfl (Nat.le_of_ble_eq_true rfl) d_law_528 ⟨(by show _ ≤ _; simp only [room_1]; omega), (by show _ ≤ _; simp only [room_1]; omega)⟩ (fun r_43 v_44 hp_45 => ?_)
          obtain ⟨rfl, hE⟩ := hp_45
          have hM1 : RM G v_44 om ad S := hM.keepC (by obtain ⟨_, _, _, _, _, _, _, h9, _⟩ := hE; exact h9) hd1 hd2
          refine v_one (fun one => ?_)
          show vV _ _ _ _ _ _ _ _ _ _ _ _ _ v_44 kc ks 531 [(3, .int (nI i)), (0, .ref b), (1, .ref o), (2, .ref om)] [.int ((oWorks S (xs (i + 1)) 0).1)]
          refine v_aload_n C 3 d_law_531 rfl rfl ?_
          refine v_aload_n C 1 d_law_532 rfl rfl ?_
          refine v_iload_n C 0 d_law_533 rfl rfl ?_
          refine v_iconst (x := 1) C d_law_534 (by decide) ?_
          refine v_iadd C d_law_535 ?_
          refine v_toi (y := nI (i + 1)) (nI_add i 1) ?_
          refine v_sld C hX (i := (i + 1)) (by omega) hL d_law_536 ?_
          refine v_aload_n C 1 d_law_537 rfl rfl ?_
          refine v_iload_n C 0 d_law_538 rfl rfl ?_
          refine v_iconst (x := 2) C d_law_539 (by decide) ?_
          refine v_iadd C d_law_540 ?_
          refine v_toi (y := nI (i + 2)) (nI_add i 2) ?_
          refine v_sld C hX (i := (i + 2)) (by omega) hL d_law_541 ?_
          refine v_if_eq C 549 d_law_542 (by decide) (fun c_542 => ?_) (fun c_542 => absurd c_520 c_542)
          refine v_iconst (x := 0) C d_law_549 (by decide) ?_
          refine v_callV (rest := [.int ((oWorks S (xs (i + 1)) 0).1)]) C (c_M_works l G v_44 om ad S (xs (i + 1)) 0 hM1 (fun j _ => hB7.2 j) (Or.inl rfl)) tw_664 tw_34 tw_661 tw_662 tw_663 mn_M_works hM1.1 k_M.1 ⟨Nat.le_of_ble_eq_true rfl, Nat.le_of_ble_eq_true rfl⟩ rfl rfl (Nat.le_of_ble_eq_true rfl) d_law_550 ⟨(by show _ ≤ _; simp only [room_1]; omega), (by show _ ≤ _; simp only [room_1]; omega)⟩ (fun r_46 v_47 hp_48 => ?_)
          obtain ⟨rfl, hM2, hk2⟩ := hp_48
          have hLI : LI G v_47 o la cw om ad (oWorks S (xs (i + 1)) 0).2 := LI.m hM hE hM1 one hM2 hk2 (inv_works hI _ _ (Or.inl rfl)) hd1 hd2
          show vV _ _ _ _ _ _ _ _ _ _ _ _ _ v_47 kc ks 553 [(3, .int (nI i)), (0, .ref b), (1, .ref o), (2, .ref om)] [.int ((oWorks S (xs (i + 1)) 0).1), .int ((oWorks S (xs (i + 1)) 0).1)]
          refine v_icmp_eq C 700 d_law_553 (by decide) (fun c_553 => ?_) (fun c_553 => absurd rfl c_553)
          refine v_iinc (y := nI (i + 7)) (lv' := [(3, .int (nI (i + 7))), (0, .ref b), (1, .ref o), (2, .ref om)]) C 0 d_law_700 rfl (nI_add i 7) (by decide) rfl ?_
          refine v_goto C 18 d_law_703 (by decide) ?_
          refine v_sub [0, 1, 2, 3] rfl ?_
          exact ih (t + 1) (i + 7) v_47 (oWorks S (xs (i + 1)) 0).2 kc ks (by omega) (by omega) (by omega) (by omega) (by omega) hLI
        · refine v_iconst (x := 1) C d_law_523 (by decide) ?_
          refine v_goto C 528 d_law_524 (by decide) ?_
          refine v_callV (rest := []) C (c_C_works l G v o la cw S ra ea ca oa na ia (xs (i + 1)) 1 hRC hB7 (Or.inr rfl)) tw_438 tw_30 tw_435 tw_436 tw_437 mn_C_works hRC.1 k_C.1 ⟨Nat.le_of_ble_eq_true rfl, Nat.le_of_ble_eq_true rfl⟩ rfl rfl (Nat.le_of_ble_eq_true rfl) d_law_528 ⟨(by show _ ≤ _; simp only [room_1]; omega), (by show _ ≤ _; simp only [room_1]; omega)⟩ (fun r_49 v_50 hp_51 => ?_)
          obtain ⟨rfl, hE⟩ := hp_51
          have hM1 : RM G v_50 om ad S := hM.keepC (by obtain ⟨_, _, _, _, _, _, _, h9, _⟩ := hE; exact h9) hd1 hd2
          refine v_one (fun one => ?_)
          show vV _ _ _ _ _ _ _ _ _ _ _ _ _ v_50 kc ks 531 [(3, .int (nI i)), (0, .ref b), (1, .ref o), (2, .ref om)] [.int ((oWorks S (xs (i + 1)) 1).1)]
          refine v_aload_n C 3 d_law_531 rfl rfl ?_
          refine v_aload_n C 1 d_law_532 rfl rfl ?_
          refine v_iload_n C 0 d_law_533 rfl rfl ?_
          refine v_iconst (x := 1) C d_law_534 (by decide) ?_
          refine v_iadd C d_law_535 ?_
          refine v_toi (y := nI (i + 1)) (nI_add i 1) ?_
          refine v_sld C hX (i := (i + 1)) (by omega) hL d_law_536 ?_
          refine v_aload_n C 1 d_law_537 rfl rfl ?_
          refine v_iload_n C 0 d_law_538 rfl rfl ?_
          refine v_iconst (x := 2) C d_law_539 (by decide) ?_
          refine v_iadd C d_law_540 ?_
          refine v_toi (y := nI (i + 2)) (nI_add i 2) ?_
          refine v_sld C hX (i := (i + 2)) (by omega) hL d_law_541 ?_
          refine v_if_eq C 549 d_law_542 (by decide) (fun c_542 => absurd c_542 c_520) (fun c_542 => ?_)
          refine v_iconst (x := 1) C d_law_545 (by decide) ?_
          refine v_goto C 550 d_law_546 (by decide) ?_
          refine v_callV (rest := [.int ((oWorks S (xs (i + 1)) 1).1)]) C (c_M_works l G v_50 om ad S (xs (i + 1)) 1 hM1 (fun j _ => hB7.2 j) (Or.inr rfl)) tw_664 tw_34 tw_661 tw_662 tw_663 mn_M_works hM1.1 k_M.1 ⟨Nat.le_of_ble_eq_true rfl, Nat.le_of_ble_eq_true rfl⟩ rfl rfl (Nat.le_of_ble_eq_true rfl) d_law_550 ⟨(by show _ ≤ _; simp only [room_1]; omega), (by show _ ≤ _; simp only [room_1]; omega)⟩ (fun r_52 v_53 hp_54 => ?_)
          obtain ⟨rfl, hM2, hk2⟩ := hp_54
          have hLI : LI G v_53 o la cw om ad (oWorks S (xs (i + 1)) 1).2 := LI.m hM hE hM1 one hM2 hk2 (inv_works hI _ _ (Or.inr rfl)) hd1 hd2
          show vV _ _ _ _ _ _ _ _ _ _ _ _ _ v_53 kc ks 553 [(3, .int (nI i)), (0, .ref b), (1, .ref o), (2, .ref om)] [.int ((oWorks S (xs (i + 1)) 1).1), .int ((oWorks S (xs (i + 1)) 1).1)]
          refine v_icmp_eq C 700 d_law_553 (by decide) (fun c_553 => ?_) (fun c_553 => absurd rfl c_553)
          refine v_iinc (y := nI (i + 7)) (lv' := [(3, .int (nI (i + 7))), (0, .ref b), (1, .ref o), (2, .ref om)]) C 0 d_law_700 rfl (nI_add i 7) (by decide) rfl ?_
          refine v_goto C 18 d_law_703 (by decide) ?_
          refine v_sub [0, 1, 2, 3] rfl ?_
          exact ih (t + 1) (i + 7) v_53 (oWorks S (xs (i + 1)) 1).2 kc ks (by omega) (by omega) (by omega) (by omega) (by omega) hLI
      · refine v_tableIn C 558 d_law_33 (by decide) (by decide) (off := 525) (by decide) (by decide) ?_
        refine v_aload_n C 2 d_law_558 rfl rfl ?_
        refine v_aload_n C 1 d_law_559 rfl rfl ?_
        refine v_iload_n C 0 d_law_560 rfl rfl ?_
        refine v_iconst (x := 1) C d_law_561 (by decide) ?_
        refine v_iadd C d_law_562 ?_
        refine v_toi (y := nI (i + 1)) (nI_add i 1) ?_
        refine v_sld C hX (i := (i + 1)) (by omega) hL d_law_563 ?_
        refine v_aload_n C 1 d_law_564 rfl rfl ?_
        refine v_iload_n C 0 d_law_565 rfl rfl ?_
        refine v_iconst (x := 2) C d_law_566 (by decide) ?_
        refine v_iadd C d_law_567 ?_
        refine v_toi (y := nI (i + 2)) (nI_add i 2) ?_
        refine v_sld C hX (i := (i + 2)) (by omega) hL d_law_568 ?_
        refine v_callV (rest := []) C (c_C_out l G v o la cw S ra ea ca oa na ia (xs (i + 1)) (xs (i + 2)) hRC hB hB2) tw_442 tw_30 tw_439 tw_440 tw_441 mn_C_out hRC.1 k_C.1 ⟨Nat.le_of_ble_eq_true rfl, Nat.le_of_ble_eq_true rfl⟩ rfl rfl (Nat.le_of_ble_eq_true rfl) d_law_569 ⟨(by show _ ≤ _; simp only [room_1]; omega), (by show _ ≤ _; simp only [room_1]; omega)⟩ (fun r_55 v_56 hp_57 => ?_)
        obtain ⟨rfl, hE⟩ := hp_57
        have hM1 : RM G v_56 om ad S := hM.keepC (by obtain ⟨_, _, _, _, _, _, _, h9, _⟩ := hE; exact h9) hd1 hd2
        refine v_one (fun one => ?_)
        show vV _ _ _ _ _ _ _ _ _ _ _ _ _ v_56 kc ks 572 [(3, .int (nI i)), (0, .ref b), (1, .ref o), (2, .ref om)] [.int ((oOut S (xs (i + 1)) (xs (i + 2))).1)]
        refine v_aload_n C 3 d_law_572 rfl rfl ?_
        refine v_aload_n C 1 d_law_573 rfl rfl ?_
        refine v_iload_n C 0 d_law_574 rfl rfl ?_
        refine v_iconst (x := 1) C d_law_575 (by decide) ?_
        refine v_iadd C d_law_576 ?_
        refine v_toi (y := nI (i + 1)) (nI_add i 1) ?_
        refine v_sld C hX (i := (i + 1)) (by omega) hL d_law_577 ?_
        refine v_aload_n C 1 d_law_578 rfl rfl ?_
        refine v_iload_n C 0 d_law_579 rfl rfl ?_
        refine v_iconst (x := 2) C d_law_580 (by decide) ?_
        refine v_iadd C d_law_581 ?_
        refine v_toi (y := nI (i + 2)) (nI_add i 2) ?_
        refine v_sld C hX (i := (i + 2)) (by omega) hL d_law_582 ?_
        refine v_callV (rest := [.int ((oOut S (xs (i + 1)) (xs (i + 2))).1)]) C (c_M_out l G v_56 om ad S (xs (i + 1)) (xs (i + 2)) hM1 ⟨hB.1, hB.2.1⟩) tw_668 tw_34 tw_665 tw_666 tw_667 mn_M_out hM1.1 k_M.1 ⟨Nat.le_of_ble_eq_true rfl, Nat.le_of_ble_eq_true rfl⟩ rfl rfl (Nat.le_of_ble_eq_true rfl) d_law_583 ⟨(by show _ ≤ _; simp only [room_1]; omega), (by show _ ≤ _; simp only [room_1]; omega)⟩ (fun r_58 v_59 hp_60 => ?_)
        obtain ⟨rfl, hM2, hk2⟩ := hp_60
        have hLI : LI G v_59 o la cw om ad (oOut S (xs (i + 1)) (xs (i + 2))).2 := LI.m hM hE hM1 one hM2 hk2 (inv_out hI _ _) hd1 hd2
        show vV _ _ _ _ _ _ _ _ _ _ _ _ _ v_59 kc ks 586 [(3, .int (nI i)), (0, .ref b), (1, .ref o), (2, .ref om)] [.int ((oOut S (xs (i + 1)) (xs (i + 2))).1), .int ((oOut S (xs (i + 1)) (xs (i + 2))).1)]
        refine v_icmp_eq C 700 d_law_586 (by decide) (fun c_586 => ?_) (fun c_586 => absurd rfl c_586)
        refine v_iinc (y := nI (i + 7)) (lv' := [(3, .int (nI (i + 7))), (0, .ref b), (1, .ref o), (2, .ref om)]) C 0 d_law_700 rfl (nI_add i 7) (by decide) rfl ?_
        refine v_goto C 18 d_law_703 (by decide) ?_
        refine v_sub [0, 1, 2, 3] rfl ?_
        exact ih (t + 1) (i + 7) v_59 (oOut S (xs (i + 1)) (xs (i + 2))).2 kc ks (by omega) (by omega) (by omega) (by omega) (by omega) hLI
      · refine v_tableIn C 591 d_law_33 (by decide) (by decide) (off := 558) (by decide) (by decide) ?_
        refine v_aload_n C 2 d_law_591 rfl rfl ?_
        refine v_aload_n C 1 d_law_592 rfl rfl ?_
        refine v_iload_n C 0 d_law_593 rfl rfl ?_
        refine v_iconst (x := 1) C d_law_594 (by decide) ?_
        refine v_iadd C d_law_595 ?_
        refine v_toi (y := nI (i + 1)) (nI_add i 1) ?_
        refine v_sld C hX (i := (i + 1)) (by omega) hL d_law_596 ?_
        refine v_callV (rest := []) C (c_C_failed l G v o la cw S ra ea ca oa na ia (xs (i + 1)) hRC ⟨hr4, hB.2.1⟩ hB4f) tw_451 tw_30 tw_448 tw_449 tw_450 mn_C_failed hRC.1 k_C.1 ⟨Nat.le_of_ble_eq_true rfl, Nat.le_of_ble_eq_true rfl⟩ rfl rfl (Nat.le_of_ble_eq_true rfl) d_law_597 ⟨(by show _ ≤ _; simp only [room_1]; omega), (by show _ ≤ _; simp only [room_1]; omega)⟩ (fun r_61 v_62 hp_63 => ?_)
        obtain ⟨rfl, hE⟩ := hp_63
        have hM1 : RM G v_62 om ad S := hM.keepC (by obtain ⟨_, _, _, _, _, _, _, h9, _⟩ := hE; exact h9) hd1 hd2
        refine v_one (fun one => ?_)
        show vV _ _ _ _ _ _ _ _ _ _ _ _ _ v_62 kc ks 600 [(3, .int (nI i)), (0, .ref b), (1, .ref o), (2, .ref om)] [.int ((oFail S (xs (i + 1))).1)]
        refine v_aload_n C 3 d_law_600 rfl rfl ?_
        refine v_aload_n C 1 d_law_601 rfl rfl ?_
        refine v_iload_n C 0 d_law_602 rfl rfl ?_
        refine v_iconst (x := 1) C d_law_603 (by decide) ?_
        refine v_iadd C d_law_604 ?_
        refine v_toi (y := nI (i + 1)) (nI_add i 1) ?_
        refine v_sld C hX (i := (i + 1)) (by omega) hL d_law_605 ?_
        refine v_callV (rest := [.int ((oFail S (xs (i + 1))).1)]) C (c_M_failed l G v_62 om ad S (xs (i + 1)) hM1 hr4) tw_672 tw_34 tw_669 tw_670 tw_671 mn_M_failed hM1.1 k_M.1 ⟨Nat.le_of_ble_eq_true rfl, Nat.le_of_ble_eq_true rfl⟩ rfl rfl (Nat.le_of_ble_eq_true rfl) d_law_606 ⟨(by show _ ≤ _; simp only [room_1]; omega), (by show _ ≤ _; simp only [room_1]; omega)⟩ (fun r_64 v_65 hp_66 => ?_)
        obtain ⟨rfl, hM2, hk2⟩ := hp_66
        have hLI : LI G v_65 o la cw om ad (oFail S (xs (i + 1))).2 := LI.m hM hE hM1 one hM2 hk2 (hI) hd1 hd2
        show vV _ _ _ _ _ _ _ _ _ _ _ _ _ v_65 kc ks 609 [(3, .int (nI i)), (0, .ref b), (1, .ref o), (2, .ref om)] [.int ((oFail S (xs (i + 1))).1), .int ((oFail S (xs (i + 1))).1)]
        refine v_icmp_eq C 700 d_law_609 (by decide) (fun c_609 => ?_) (fun c_609 => absurd rfl c_609)
        refine v_iinc (y := nI (i + 7)) (lv' := [(3, .int (nI (i + 7))), (0, .ref b), (1, .ref o), (2, .ref om)]) C 0 d_law_700 rfl (nI_add i 7) (by decide) rfl ?_
        refine v_goto C 18 d_law_703 (by decide) ?_
        refine v_sub [0, 1, 2, 3] rfl ?_
        exact ih (t + 1) (i + 7) v_65 (oFail S (xs (i + 1))).2 kc ks (by omega) (by omega) (by omega) (by omega) (by omega) hLI
      · refine v_tableIn C 614 d_law_33 (by decide) (by decide) (off := 581) (by decide) (by decide) ?_
        refine v_aload_n C 2 d_law_614 rfl rfl ?_
        refine v_aload_n C 1 d_law_615 rfl rfl ?_
        refine v_iload_n C 0 d_law_616 rfl rfl ?_
        refine v_iconst (x := 1) C d_law_617 (by decide) ?_
        refine v_iadd C d_law_618 ?_
        refine v_toi (y := nI (i + 1)) (nI_add i 1) ?_
        refine v_sld C hX (i := (i + 1)) (by omega) hL d_law_619 ?_
        refine v_aload_n C 1 d_law_620 rfl rfl ?_
        refine v_iload_n C 0 d_law_621 rfl rfl ?_
        refine v_iconst (x := 2) C d_law_622 (by decide) ?_
        refine v_iadd C d_law_623 ?_
        refine v_toi (y := nI (i + 2)) (nI_add i 2) ?_
        refine v_sld C hX (i := (i + 2)) (by omega) hL d_law_624 ?_
        refine v_i2l (y := (Int32.toInt64 (xs (i + 2)))) C d_law_625 rfl ?_
        refine v_bipush (x := 32) C d_law_626 (by decide) ?_
        refine v_lshl C d_law_628 rfl ?_
        refine v_aload_n C 1 d_law_629 rfl rfl ?_
        refine v_iload_n C 0 d_law_630 rfl rfl ?_
        refine v_iconst (x := 3) C d_law_631 (by decide) ?_
        refine v_iadd C d_law_632 ?_
        refine v_toi (y := nI (i + 3)) (nI_add i 3) ?_
        refine v_sld C hX (i := (i + 3)) (by omega) hL d_law_633 ?_
        refine v_i2l (y := (Int32.toInt64 (xs (i + 3)))) C d_law_634 rfl ?_
        refine v_ldc2 (x := 4294967295) C d_law_635 tw_685 ?_
        refine v_land C d_law_638 ?_
        refine v_lor C d_law_639 ?_
        refine v_callV (rest := []) C (c_C_correct l G v o la cw S ra ea ca oa na ia (xs (i + 1)) (((Int32.toInt64 (xs (i + 2))) <<< (Int32.toInt64 32 &&& 63)) ||| ((Int32.toInt64 (xs (i + 3))) &&& 4294967295)) hRC hB hB2 hB4 hB4f hB6 hB7 hB9) tw_455 tw_30 tw_452 tw_453 tw_454 mn_C_correct hRC.1 k_C.1 ⟨Nat.le_of_ble_eq_true rfl, Nat.le_of_ble_eq_true rfl⟩ rfl rfl (Nat.le_of_ble_eq_true rfl) d_law_640 ⟨(by show _ ≤ _; simp only [room_1]; omega), (by show _ ≤ _; simp only [room_1]; omega)⟩ (fun r_67 v_68 hp_69 => ?_)
        refine v_cs (kc' := (kc + 2)) (ks' := (ks + 256)) rfl rfl ?_
        obtain ⟨rfl, hE⟩ := hp_69
        have hM1 : RM G v_68 om ad S := hM.keepC (by obtain ⟨_, _, _, _, _, _, _, h9, _⟩ := hE; exact h9) hd1 hd2
        refine v_one (fun one => ?_)
        show vV _ _ _ _ _ _ _ _ _ _ _ _ _ v_68 (kc + 2) (ks + 256) 643 [(3, .int (nI i)), (0, .ref b), (1, .ref o), (2, .ref om)] [.int ((oCorr S (xs (i + 1)) (((Int32.toInt64 (xs (i + 2))) <<< (Int32.toInt64 32 &&& 63)) ||| ((Int32.toInt64 (xs (i + 3))) &&& 4294967295))).1)]
        refine v_aload_n C 3 d_law_643 rfl rfl ?_
        refine v_aload_n C 1 d_law_644 rfl rfl ?_
        refine v_iload_n C 0 d_law_645 rfl rfl ?_
        refine v_iconst (x := 1) C d_law_646 (by decide) ?_
        refine v_iadd C d_law_647 ?_
        refine v_toi (y := nI (i + 1)) (nI_add i 1) ?_
        refine v_sld C hX (i := (i + 1)) (by omega) hL d_law_648 ?_
        refine v_aload_n C 1 d_law_649 rfl rfl ?_
        refine v_iload_n C 0 d_law_650 rfl rfl ?_
        refine v_iconst (x := 2) C d_law_651 (by decide) ?_
        refine v_iadd C d_law_652 ?_
        refine v_toi (y := nI (i + 2)) (nI_add i 2) ?_
        refine v_sld C hX (i := (i + 2)) (by omega) hL d_law_653 ?_
        refine v_i2l (y := (Int32.toInt64 (xs (i + 2)))) C d_law_654 rfl ?_
        refine v_bipush (x := 32) C d_law_655 (by decide) ?_
        refine v_lshl C d_law_657 rfl ?_
        refine v_aload_n C 1 d_law_658 rfl rfl ?_
        refine v_iload_n C 0 d_law_659 rfl rfl ?_
        refine v_iconst (x := 3) C d_law_660 (by decide) ?_
        refine v_iadd C d_law_661 ?_
        refine v_toi (y := nI (i + 3)) (nI_add i 3) ?_
        refine v_sld C hX (i := (i + 3)) (by omega) hL d_law_662 ?_
        refine v_i2l (y := (Int32.toInt64 (xs (i + 3)))) C d_law_663 rfl ?_
        refine v_ldc2 (x := 4294967295) C d_law_664 tw_685 ?_
        refine v_land C d_law_667 ?_
        refine v_lor C d_law_668 ?_
        refine v_callV (rest := [.int ((oCorr S (xs (i + 1)) (((Int32.toInt64 (xs (i + 2))) <<< (Int32.toInt64 32 &&& 63)) ||| ((Int32.toInt64 (xs (i + 3))) &&& 4294967295))).1)]) C (c_M_correct l G v_68 om ad S (xs (i + 1)) (((Int32.toInt64 (xs (i + 2))) <<< (Int32.toInt64 32 &&& 63)) ||| ((Int32.toInt64 (xs (i + 3))) &&& 4294967295)) hM1 ⟨hB.1, hB.2.1, hB.2.2.1⟩ hB2 hB5) tw_676 tw_34 tw_673 tw_674 tw_675 mn_M_correct hM1.1 k_M.1 ⟨Nat.le_of_ble_eq_true rfl, Nat.le_of_ble_eq_true rfl⟩ rfl rfl (Nat.le_of_ble_eq_true rfl) d_law_669 ⟨(by show _ ≤ _; simp only [room_1]; omega), (by show _ ≤ _; simp only [room_1]; omega)⟩ (fun r_70 v_71 hp_72 => ?_)
        obtain ⟨rfl, hM2, hk2⟩ := hp_72
        have hLI : LI G v_71 o la cw om ad (oCorr S (xs (i + 1)) (((Int32.toInt64 (xs (i + 2))) <<< (Int32.toInt64 32 &&& 63)) ||| ((Int32.toInt64 (xs (i + 3))) &&& 4294967295))).2 := LI.m hM hE hM1 one hM2 hk2 (inv_corr hI _ _) hd1 hd2
        show vV _ _ _ _ _ _ _ _ _ _ _ _ _ v_71 (kc + 2) (ks + 256) 672 [(3, .int (nI i)), (0, .ref b), (1, .ref o), (2, .ref om)] [.int ((oCorr S (xs (i + 1)) (((Int32.toInt64 (xs (i + 2))) <<< (Int32.toInt64 32 &&& 63)) ||| ((Int32.toInt64 (xs (i + 3))) &&& 4294967295))).1), .int ((oCorr S (xs (i + 1)) (((Int32.toInt64 (xs (i + 2))) <<< (Int32.toInt64 32 &&& 63)) ||| ((Int32.toInt64 (xs (i + 3))) &&& 4294967295))).1)]
        refine v_icmp_eq C 700 d_law_672 (by decide) (fun c_672 => ?_) (fun c_672 => absurd rfl c_672)
        refine v_iinc (y := nI (i + 7)) (lv' := [(3, .int (nI (i + 7))), (0, .ref b), (1, .ref o), (2, .ref om)]) C 0 d_law_700 rfl (nI_add i 7) (by decide) rfl ?_
        refine v_goto C 18 d_law_703 (by decide) ?_
        refine v_sub [0, 1, 2, 3] rfl ?_
        exact ih (t + 1) (i + 7) v_71 (oCorr S (xs (i + 1)) (((Int32.toInt64 (xs (i + 2))) <<< (Int32.toInt64 32 &&& 63)) ||| ((Int32.toInt64 (xs (i + 3))) &&& 4294967295))).2 (kc + 2) (ks + 256) (by omega) (by omega) (by omega) (by omega) (by omega) hLI
      · refine v_tableIn C 677 d_law_33 (by decide) (by decide) (off := 644) (by decide) (by decide) ?_
        refine v_aload_n C 2 d_law_677 rfl rfl ?_
        refine v_aload_n C 1 d_law_678 rfl rfl ?_
        refine v_iload_n C 0 d_law_679 rfl rfl ?_
        refine v_iconst (x := 1) C d_law_680 (by decide) ?_
        refine v_iadd C d_law_681 ?_
        refine v_toi (y := nI (i + 1)) (nI_add i 1) ?_
        refine v_sld C hX (i := (i + 1)) (by omega) hL d_law_682 ?_
        refine v_callV (rest := []) C (c_C_join l G v o la cw S ra ea ca oa na ia (xs (i + 1)) hRC ) tw_475 tw_30 tw_472 tw_473 tw_474 mn_C_join hRC.1 k_C.1 ⟨Nat.le_of_ble_eq_true rfl, Nat.le_of_ble_eq_true rfl⟩ rfl rfl (Nat.le_of_ble_eq_true rfl) d_law_683 ⟨(by show _ ≤ _; simp only [room_1]; omega), (by show _ ≤ _; simp only [room_1]; omega)⟩ (fun r_73 v_74 hp_75 => ?_)
        obtain ⟨rfl, hE⟩ := hp_75
        have hM1 : RM G v_74 om ad S := hM.keepC (by obtain ⟨_, _, _, _, _, _, _, h9, _⟩ := hE; exact h9) hd1 hd2
        refine v_one (fun one => ?_)
        show vV _ _ _ _ _ _ _ _ _ _ _ _ _ v_74 kc ks 686 [(3, .int (nI i)), (0, .ref b), (1, .ref o), (2, .ref om)] [.int ((oJoin S (xs (i + 1))).1)]
        refine v_aload_n C 3 d_law_686 rfl rfl ?_
        refine v_aload_n C 1 d_law_687 rfl rfl ?_
        refine v_iload_n C 0 d_law_688 rfl rfl ?_
        refine v_iconst (x := 1) C d_law_689 (by decide) ?_
        refine v_iadd C d_law_690 ?_
        refine v_toi (y := nI (i + 1)) (nI_add i 1) ?_
        refine v_sld C hX (i := (i + 1)) (by omega) hL d_law_691 ?_
        refine v_callV (rest := [.int ((oJoin S (xs (i + 1))).1)]) C (c_M_join l G v_74 om ad S (xs (i + 1)) hM1 ) tw_684 tw_34 tw_681 tw_682 tw_683 mn_M_join hM1.1 k_M.1 ⟨Nat.le_of_ble_eq_true rfl, Nat.le_of_ble_eq_true rfl⟩ rfl rfl (Nat.le_of_ble_eq_true rfl) d_law_692 ⟨(by show _ ≤ _; simp only [room_1]; omega), (by show _ ≤ _; simp only [room_1]; omega)⟩ (fun r_76 v_77 hp_78 => ?_)
        obtain ⟨rfl, hM2, hk2⟩ := hp_78
        have hLI : LI G v_77 o la cw om ad (oJoin S (xs (i + 1))).2 := LI.m hM hE hM1 one hM2 hk2 (inv_join hI _) hd1 hd2
        show vV _ _ _ _ _ _ _ _ _ _ _ _ _ v_77 kc ks 695 [(3, .int (nI i)), (0, .ref b), (1, .ref o), (2, .ref om)] [.int ((oJoin S (xs (i + 1))).1), .int ((oJoin S (xs (i + 1))).1)]
        refine v_icmp_eq C 700 d_law_695 (by decide) (fun c_695 => ?_) (fun c_695 => absurd rfl c_695)
        refine v_iinc (y := nI (i + 7)) (lv' := [(3, .int (nI (i + 7))), (0, .ref b), (1, .ref o), (2, .ref om)]) C 0 d_law_700 rfl (nI_add i 7) (by decide) rfl ?_
        refine v_goto C 18 d_law_703 (by decide) ?_
        refine v_sub [0, 1, 2, 3] rfl ?_
        exact ih (t + 1) (i + 7) v_77 (oJoin S (xs (i + 1))).2 kc ks (by omega) (by omega) (by omega) (by omega) (by omega) hLI
      · refine v_tableOut C 700 d_law_33 (by decide) (by decide) ?_
        refine v_iinc (y := nI (i + 7)) (lv' := [(3, .int (nI (i + 7))), (0, .ref b), (1, .ref o), (2, .ref om)]) C 0 d_law_700 rfl (nI_add i 7) (by decide) rfl ?_
        refine v_goto C 18 d_law_703 (by decide) ?_
        refine v_sub [0, 1, 2, 3] rfl ?_
        exact ih (t + 1) (i + 7) v S kc ks (by omega) (by omega) (by omega) (by omega) (by omega) hLI0
      · refine v_tableOut C 700 d_law_33 (by decide) (by decide) ?_
        refine v_iinc (y := nI (i + 7)) (lv' := [(3, .int (nI (i + 7))), (0, .ref b), (1, .ref o), (2, .ref om)]) C 0 d_law_700 rfl (nI_add i 7) (by decide) rfl ?_
        refine v_goto C 18 d_law_703 (by decide) ?_
        refine v_sub [0, 1, 2, 3] rfl ?_
        exact ih (t + 1) (i + 7) v S kc ks (by omega) (by omega) (by omega) (by omega) (by omega) hLI0
      · refine v_tableOut C 700 d_law_33 (by decide) (by decide) ?_
        refine v_iinc (y := nI (i + 7)) (lv' := [(3, .int (nI (i + 7))), (0, .ref b), (1, .ref o), (2, .ref om)]) C 0 d_law_700 rfl (nI_add i 7) (by decide) rfl ?_
        refine v_goto C 18 d_law_703 (by decide) ?_
        refine v_sub [0, 1, 2, 3] rfl ?_
        exact ih (t + 1) (i + 7) v S kc ks (by omega) (by omega) (by omega) (by omega) (by omega) hLI0
      · refine v_tableOut C 700 d_law_33 (by decide) (by decide) ?_
        refine v_iinc (y := nI (i + 7)) (lv' := [(3, .int (nI (i + 7))), (0, .ref b), (1, .ref o), (2, .ref om)]) C 0 d_law_700 rfl (nI_add i 7) (by decide) rfl ?_
        refine v_goto C 18 d_law_703 (by decide) ?_
        refine v_sub [0, 1, 2, 3] rfl ?_
        exact ih (t + 1) (i + 7) v S kc ks (by omega) (by omega) (by omega) (by omega) (by omega) hLI0
