set_option maxHeartbeats 4000000 in
set_option maxRecDepth 100000 in
theorem c_Ar_copyOf (l : Launch) (G : vv_G) (v : vv_V) (arr n N : Nat) (cj : Nat) (f : Nat → Option Nat) (Cj : String) (Tj : u_T) (Nj : Nat) (h1 : v 53 arr = some (vq G n f)) (hn : n ≤ N) (hN : N ≤ 1000) (hcj : vwCl[cj]? = some (Cj, Tj, Nj)) (hca : Cond.castable Cj "java/lang/Object" ∈ vv_wds) (hel : ∀ i, i < n → ∀ y, f i = some y → ∃ fs, v cj y = some (.inr (cj, fs))) : Mv l y_Ar_copyOf b_Ar_copyOf 2 (some (FieldType.array (FieldType.object "java/lang/Object"))) 2 63 G v [.ref arr, .int (nI N)] (fun r v' => ∃ q, r = some (.ref q) ∧ (∀ k, v k q = none) ∧ v' 53 q = some (vq G N (va_cpy f (fun _ => none) 0 0 n)) ∧ vkp (fun _ _ => False) v v') 1 N := by
  refine vv_metF (own := "java/util/Arrays") (nm := "copyOf") pf_Ar_copyOf rfl rfl (Nat.le_of_ble_eq_true rfl) ?_
  intro p e s m below meth c C hin
  show vV _ _ _ _ _ _ _ _ _ _ _ _ _ v 0 0 0 [(0, .ref arr), (1, .int (nI N))] []
  refine v_aload_n C 0 d_Ar_copyOf_0 rfl rfl ?_
  refine v_iload_n C 1 d_Ar_copyOf_1 rfl rfl ?_
  refine v_aload_n C 0 d_Ar_copyOf_2 rfl rfl ?_
  refine v_getC C h1 tw_183 tw_691 tw_690 tw_184 tw_192 (Nat.le_of_ble_eq_true rfl) (Nat.le_of_ble_eq_true rfl) d_Ar_copyOf_3 ?_
  refine v_callS (rest := []) C (c_Ar_copyOf3 l G v arr n N cj f Cj Tj Nj h1 hn hN hcj hca hel) tw_195 tw_38 tw_193 tw_194 mn_Ar_copyOf_ALObjectILClassALObject ⟨Nat.le_of_ble_eq_true rfl, Nat.le_of_ble_eq_true rfl⟩ rfl rfl (Nat.le_of_ble_eq_true rfl) d_Ar_copyOf_6 ⟨(by first | exact Nat.le_of_ble_eq_true rfl | (dsimp only; omega)), (by first | exact Nat.le_of_ble_eq_true rfl | (dsimp only; omega))⟩ (fun r_1 v_2 hp_3 => ?_)
  refine v_cs (kc' := 1) (ks' := N) (by omega) (by omega) ?_
  obtain ⟨q, rfl, hfr, hfin, hk9⟩ := hp_3
  show vV _ _ _ _ _ _ _ _ _ _ _ _ _ v_2 1 N 9 [(0, .ref arr), (1, .int (nI N))] [.ref q]
  exact v_aret C (Or.inr ⟨_, rfl⟩) (Or.inr ⟨_, rfl⟩) d_Ar_copyOf_9 (by first | exact Nat.le_of_ble_eq_true rfl | (show _ ≤ _; omega)) (by first | exact Nat.le_of_ble_eq_true rfl | (show _ ≤ _; omega)) ⟨_, rfl, hfr, hfin, hk9⟩
set_option maxHeartbeats 4000000 in
set_option maxRecDepth 100000 in
theorem c_AL_growI_1 (l : Launch) (G : vv_G) (v : vv_V) (a : Nat) (mo : Int32) (g : Nat → Option Nat) (h0 : v 5 a = some (vl G.2.2.1 0 mo)) (h9 : v 99 G.2.2.1 = some (vq G 0 g)) : Mv l y_AL_grow_IALObject b_AL_grow_IALObject 4 (some (FieldType.array (FieldType.object "java/lang/Object"))) 1 21 G v [.ref a, .int (nI 1)] (fun r v' => ∃ q, r = some (.ref q) ∧ (∀ k, v k q = none) ∧ v' 5 a = some (vl q 0 mo) ∧ v' 53 q = some (vq G 10 (fun _ => none)) ∧ vkp (fun k x => k = 5 ∧ x = a) v v') 1 10 := by
  refine vv_metF (own := "java/util/ArrayList") (nm := "grow") pf_AL_grow_IALObject rfl rfl (Nat.le_of_ble_eq_true rfl) ?_
  intro p e s m below meth c C hin
  have hk : vkp (fun k x => k = 5 ∧ x = a) v v := vkp.rf
  show vV _ _ _ _ _ _ _ _ _ _ _ _ _ v 0 0 0 [(0, .ref a), (1, .int (nI 1))] []
  refine v_aload_n C 0 d_AL_grow_IALObject_0 rfl rfl ?_
  refine v_get C k_AL h0 0 (by decide) tw_66 (fun _ h => h) rfl d_AL_grow_IALObject_1 ?_
  refine v_alen9 (z := 0) C rfl d_AL_grow_IALObject_4 ?_
  refine v_istore_n (lv' := [(2, .int 0), (0, .ref a), (1, .int (nI 1))]) C d_AL_grow_IALObject_5 rfl (by decide) rfl ?_
  refine v_iload_n C 0 d_AL_grow_IALObject_6 rfl rfl ?_
  refine v_if_gt C 20 d_AL_grow_IALObject_7 (by decide) (fun z => absurd z (by decide)) (fun _ => ?_)
  refine v_aload_n C 1 d_AL_grow_IALObject_10 rfl rfl ?_
  refine v_get C k_AL h0 0 (by decide) tw_66 (fun _ h => h) rfl d_AL_grow_IALObject_11 ?_
  refine v_gets C tw_64 d_AL_grow_IALObject_14 ?_
  refine v_acmp_eq (rx := some G.2.2.1) (ry := some G.2.2.1) C 45 d_AL_grow_IALObject_17 (by decide) (fun _ => ?_) (fun z => absurd rfl z)
  show vV _ _ _ _ _ _ _ _ _ _ _ _ _ v 0 0 45 [(2, .int 0), (0, .ref a), (1, .int (nI 1))] []
  refine v_aload_n C 1 d_AL_grow_IALObject_45 rfl rfl ?_
  refine v_bipush (x := 10) C d_AL_grow_IALObject_46 (by decide) ?_
  refine v_iload_n C 2 d_AL_grow_IALObject_48 rfl rfl ?_
  refine v_callS (rest := [.ref a]) C (c_Ma_max l G v 10 (nI 1)) tw_175 tw_37 tw_205 tw_174 mn_Ma_max ⟨Nat.le_of_ble_eq_true rfl, Nat.le_of_ble_eq_true rfl⟩ rfl rfl (Nat.le_of_ble_eq_true rfl) d_AL_grow_IALObject_49 ⟨(by first | exact Nat.le_of_ble_eq_true rfl | (dsimp only; omega)), (by first | exact Nat.le_of_ble_eq_true rfl | (dsimp only; omega))⟩ (fun r_1 v_2 hp_3 => ?_)
  obtain ⟨rfl, hv9⟩ := hp_3
  obtain rfl := hv9.symm
  show vV _ _ _ _ _ _ _ _ _ _ _ _ _ v 0 0 52 [(2, .int 0), (0, .ref a), (1, .int (nI 1))] [.int (if 10 < (nI 1) then (nI 1) else 10), .ref a]
  refine v_toi (y := 10) (by decide) ?_
  refine v_newaq (n := 10) C tw_206 (by decide) (by decide) (by decide) (by first | exact Nat.le_of_ble_eq_true rfl | (dsimp only; omega)) (by first | exact Nat.le_of_ble_eq_true rfl | (dsimp only; omega)) d_AL_grow_IALObject_52 (fun q_4 hfr_5 => ?_)
  refine v_cs (kc' := 1) (ks' := 10) (by omega) (by omega) ?_
  refine v_view (fun v1 ev1 => ?_)
  have he_6 : v1 5 a = some (.inr (5, [.ref G.2.2.1, .int (nI 0), .int mo])) := by rw [ev1]; exact (vv_up_a _ _ _ _ (fun z => by subst z; have y := hfr_5 5; rw [h0] at y; cases y)).trans h0
  have he_7 : v1 99 G.2.2.1 = some (.inl (G.2.2.2.2 3, 0, .inr (.inr (.inr (.inr g))))) := by rw [ev1]; exact (vv_up_a _ _ _ _ (fun z => by subst z; have y := hfr_5 99; rw [h9] at y; cases y)).trans h9
  have he_8 : v1 53 q_4 = some (.inl (G.2.2.2.2 3, 10, .inr (.inr (.inr (.inr (fun _ => none)))))) := by rw [ev1]; exact vv_up_s _ _ _ _
  have hkv1 : vkp (fun k x => k = 5 ∧ x = a) v v1 := by rw [ev1]; exact hk.nu hfr_5
  refine v_dup_x1 C d_AL_grow_IALObject_55 rfl rfl ?_
  refine v_put C k_AL he_6 0 (by decide) tw_66 (fun _ h => h) rfl rfl rfl (Nat.le_of_ble_eq_true rfl) d_AL_grow_IALObject_56 ?_
  refine v_view (fun v2 ev2 => ?_)
  have he_9 : v2 5 a = some (.inr (5, [.ref q_4, .int (nI 0), .int mo])) := by rw [ev2]; exact vv_up_s _ _ _ _
  have he_10 : v2 99 G.2.2.1 = some (.inl (G.2.2.2.2 3, 0, .inr (.inr (.inr (.inr g))))) := by rw [ev2]; exact (vv_up_k _ _ _ _ (by decide)).trans he_7
  have he_11 : v2 53 q_4 = some (.inl (G.2.2.2.2 3, 10, .inr (.inr (.inr (.inr (fun _ => none)))))) := by rw [ev2]; exact (vv_up_k _ _ _ _ (by decide)).trans he_8
  have hkv2 : vkp (fun k x => k = 5 ∧ x = a) v v2 := by rw [ev2]; exact hkv1.up (⟨rfl, rfl⟩)
  exact v_aret C (Or.inr ⟨_, rfl⟩) (Or.inr ⟨_, rfl⟩) d_AL_grow_IALObject_59 (by first | exact Nat.le_of_ble_eq_true rfl | (show _ ≤ _; omega)) (by first | exact Nat.le_of_ble_eq_true rfl | (show _ ≤ _; omega)) ⟨_, rfl, hfr_5, he_9, he_11, hkv2⟩
set_option maxHeartbeats 4000000 in
set_option maxRecDepth 100000 in
theorem c_AL_growI_2 (l : Launch) (G : vv_G) (v : vv_V) (a arr n : Nat) (mo : Int32) (cj : Nat) (f : Nat → Option Nat) (Cj : String) (Tj : u_T) (Nj : Nat) (h0 : v 5 a = some (vl arr n mo)) (h1 : v 53 arr = some (vq G n f)) (hn : 2 ≤ n ∧ n ≤ 500) (hcj : vwCl[cj]? = some (Cj, Tj, Nj)) (hca : Cond.castable Cj "java/lang/Object" ∈ vv_wds) (hel : ∀ i, i < n → ∀ y, f i = some y → ∃ fs, v cj y = some (.inr (cj, fs))) : Mv l y_AL_grow_IALObject b_AL_grow_IALObject 4 (some (FieldType.array (FieldType.object "java/lang/Object"))) 3 84 G v [.ref a, .int (nI (n + 1))] (fun r v' => ∃ q, r = some (.ref q) ∧ (∀ k, v k q = none) ∧ v' 5 a = some (vl q n mo) ∧ v' 53 q = some (vq G (n + n / 2) (va_cpy f (fun _ => none) 0 0 n)) ∧ vkp (fun k x => k = 5 ∧ x = a) v v') 1 (n + n / 2) := by
  refine vv_metF (own := "java/util/ArrayList") (nm := "grow") pf_AL_grow_IALObject rfl rfl (Nat.le_of_ble_eq_true rfl) ?_
  intro p e s m below meth c C hin
  have hk : vkp (fun k x => k = 5 ∧ x = a) v v := vkp.rf
  show vV _ _ _ _ _ _ _ _ _ _ _ _ _ v 0 0 0 [(0, .ref a), (1, .int (nI (n + 1)))] []
  refine v_aload_n C 0 d_AL_grow_IALObject_0 rfl rfl ?_
  refine v_get C k_AL h0 0 (by decide) tw_66 (fun _ h => h) rfl d_AL_grow_IALObject_1 ?_
  refine v_alen (z := (nI n)) C 53 3 h1 rfl rfl d_AL_grow_IALObject_4 ?_
  refine v_istore_n (lv' := [(2, .int (nI n)), (0, .ref a), (1, .int (nI (n + 1)))]) C d_AL_grow_IALObject_5 rfl (by decide) rfl ?_
  refine v_iload_n C 0 d_AL_grow_IALObject_6 rfl rfl ?_
  refine v_if_gt C 20 d_AL_grow_IALObject_7 (by decide) (fun c_7 => ?_) (fun c_7 => absurd (nI_lt (a := 0) (by omega) (by omega)) c_7)
  refine v_iload_n C 0 d_AL_grow_IALObject_20 rfl rfl ?_
  refine v_iload_n C 2 d_AL_grow_IALObject_21 rfl rfl ?_
  refine v_iload_n C 0 d_AL_grow_IALObject_22 rfl rfl ?_
  refine v_isub C d_AL_grow_IALObject_23 ?_
  refine v_toi (y := nI 1) (by rw [pk_sub (by omega), Nat.add_sub_cancel_left]) ?_
  refine v_iload_n C 0 d_AL_grow_IALObject_24 rfl rfl ?_
  refine v_iconst (x := 1) C d_AL_grow_IALObject_25 (by decide) ?_
  refine v_ishr C d_AL_grow_IALObject_26 ?_
  refine v_toi (y := nI (n / 2)) (by have k9 := pk_shrN (n := n) (by omega) ((1 : Int32) &&& 31) 1 (by decide); rw [Nat.pow_one] at k9; exact k9) ?_
  refine v_callS (rest := []) C (c_AS_newLength l G v n 1 (n / 2) (by omega) ⟨by omega, by omega⟩ (by omega)) tw_172 tw_36 tw_170 tw_171 mn_AS_newLength ⟨Nat.le_of_ble_eq_true rfl, Nat.le_of_ble_eq_true rfl⟩ rfl rfl (Nat.le_of_ble_eq_true rfl) d_AL_grow_IALObject_27 ⟨(by first | exact Nat.le_of_ble_eq_true rfl | (dsimp only; omega)), (by first | exact Nat.le_of_ble_eq_true rfl | (dsimp only; omega))⟩ (fun r_1 v_2 hp_3 => ?_)
  obtain ⟨rfl, hv9⟩ := hp_3
  obtain rfl := hv9.symm
  show vV _ _ _ _ _ _ _ _ _ _ _ _ _ v 0 0 30 [(2, .int (nI n)), (0, .ref a), (1, .int (nI (n + 1)))] [.int (nI (n + max 1 (n / 2)))]
  refine v_toi (y := nI (n + n / 2)) (by rw [Nat.max_eq_right (by omega)]) ?_
  refine v_istore_n (lv' := [(3, .int (nI (n + n / 2))), (2, .int (nI n)), (0, .ref a), (1, .int (nI (n + 1)))]) C d_AL_grow_IALObject_30 rfl (by decide) rfl ?_
  refine v_aload_n C 2 d_AL_grow_IALObject_31 rfl rfl ?_
  refine v_aload_n C 2 d_AL_grow_IALObject_32 rfl rfl ?_
  refine v_get C k_AL h0 0 (by decide) tw_66 (fun _ h => h) rfl d_AL_grow_IALObject_33 ?_
  refine v_iload_n C 0 d_AL_grow_IALObject_36 rfl rfl ?_
  refine v_callS (rest := [.ref a]) C (c_Ar_copyOf l G v arr n (n + n / 2) cj f Cj Tj Nj h1 (by omega) (by omega) hcj hca hel) tw_182 tw_38 tw_180 tw_181 mn_Ar_copyOf ⟨Nat.le_of_ble_eq_true rfl, Nat.le_of_ble_eq_true rfl⟩ rfl rfl (Nat.le_of_ble_eq_true rfl) d_AL_grow_IALObject_37 ⟨(by first | exact Nat.le_of_ble_eq_true rfl | (dsimp only; omega)), (by first | exact Nat.le_of_ble_eq_true rfl | (dsimp only; omega))⟩ (fun r_4 v_5 hp_6 => ?_)
  refine v_cs (kc' := 1) (ks' := (n + n / 2)) (by omega) (by omega) ?_
  obtain ⟨q, rfl, hfr, hfin, hk9⟩ := hp_6
  have he_7 : v_5 5 a = some (.inr (5, [.ref arr, .int (nI n), .int mo])) := hk9 _ _ _ id h0
  have he_8 : v_5 53 q = some (.inl (G.2.2.2.2 3, (n + n / 2), .inr (.inr (.inr (.inr (va_cpy f (fun _ => none) 0 0 n)))))) := hfin
  have hkb : vkp (fun k x => k = 5 ∧ x = a) v v_5 := hk9.mono (fun _ _ z => z.elim)
  show vV _ _ _ _ _ _ _ _ _ _ _ _ _ v_5 1 (n + n / 2) 40 [(3, .int (nI (n + n / 2))), (2, .int (nI n)), (0, .ref a), (1, .int (nI (n + 1)))] [.ref q, .ref a]
  refine v_dup_x1 C d_AL_grow_IALObject_40 rfl rfl ?_
  refine v_put C k_AL he_7 0 (by decide) tw_66 (fun _ h => h) rfl rfl rfl (Nat.le_of_ble_eq_true rfl) d_AL_grow_IALObject_41 ?_
  refine v_view (fun v1 ev1 => ?_)
  have he_9 : v1 5 a = some (.inr (5, [.ref q, .int (nI n), .int mo])) := by rw [ev1]; exact vv_up_s _ _ _ _
  have he_10 : v1 53 q = some (.inl (G.2.2.2.2 3, (n + n / 2), .inr (.inr (.inr (.inr (va_cpy f (fun _ => none) 0 0 n)))))) := by rw [ev1]; exact (vv_up_k _ _ _ _ (by decide)).trans he_8
  have hkv1 : vkp (fun k x => k = 5 ∧ x = a) v v1 := by rw [ev1]; exact hkb.up (⟨rfl, rfl⟩)
  exact v_aret C (Or.inr ⟨_, rfl⟩) (Or.inr ⟨_, rfl⟩) d_AL_grow_IALObject_44 (by first | exact Nat.le_of_ble_eq_true rfl | (show _ ≤ _; omega)) (by first | exact Nat.le_of_ble_eq_true rfl | (show _ ≤ _; omega)) ⟨_, rfl, hfr, he_9, he_10, hkv1⟩
set_option maxHeartbeats 4000000 in
set_option maxRecDepth 100000 in
theorem c_AL_grow_1 (l : Launch) (G : vv_G) (v : vv_V) (a : Nat) (mo : Int32) (g : Nat → Option Nat) (h0 : v 5 a = some (vl G.2.2.1 0 mo)) (h9 : v 99 G.2.2.1 = some (vq G 0 g)) : Mv l y_AL_grow b_AL_grow 1 (some (FieldType.array (FieldType.object "java/lang/Object"))) 2 44 G v [.ref a] (fun r v' => ∃ q, r = some (.ref q) ∧ (∀ k, v k q = none) ∧ v' 5 a = some (vl q 0 mo) ∧ v' 53 q = some (vq G 10 (fun _ => none)) ∧ vkp (fun k x => k = 5 ∧ x = a) v v') 1 10 := by
  refine vv_metF (own := "java/util/ArrayList") (nm := "grow") pf_AL_grow rfl rfl (Nat.le_of_ble_eq_true rfl) ?_
  intro p e s m below meth c C hin
  show vV _ _ _ _ _ _ _ _ _ _ _ _ _ v 0 0 0 [(0, .ref a)] []
  refine v_aload_n C 0 d_AL_grow_0 rfl rfl ?_
  refine v_aload_n C 0 d_AL_grow_1 rfl rfl ?_
  refine v_get C k_AL h0 1 (by decide) tw_67 (fun _ h => h) rfl d_AL_grow_2 ?_
  refine v_iconst (x := 1) C d_AL_grow_5 (by decide) ?_
  refine v_iadd C d_AL_grow_6 ?_
  refine v_toi (y := nI 1) (by decide) ?_
  refine v_callV (rest := []) C (c_AL_growI_1 l G v a mo g h0 h9) tw_169 tw_33 tw_166 tw_168 tw_2 mn_AL_grow_IALObject h0 k_AL.1 ⟨Nat.le_of_ble_eq_true rfl, Nat.le_of_ble_eq_true rfl⟩ rfl rfl (Nat.le_of_ble_eq_true rfl) d_AL_grow_7 ⟨(by first | exact Nat.le_of_ble_eq_true rfl | (dsimp only; omega)), (by first | exact Nat.le_of_ble_eq_true rfl | (dsimp only; omega))⟩ (fun r_1 v_2 hp_3 => ?_)
  refine v_cs (kc' := 1) (ks' := 10) (by omega) (by omega) ?_
  obtain ⟨q, rfl, hfr, hq1, hq2, hq3⟩ := hp_3
  show vV _ _ _ _ _ _ _ _ _ _ _ _ _ v_2 1 10 10 [(0, .ref a)] [.ref q]
  exact v_aret C (Or.inr ⟨_, rfl⟩) (Or.inr ⟨_, rfl⟩) d_AL_grow_10 (by first | exact Nat.le_of_ble_eq_true rfl | (show _ ≤ _; omega)) (by first | exact Nat.le_of_ble_eq_true rfl | (show _ ≤ _; omega)) ⟨_, rfl, hfr, hq1, hq2, hq3⟩
set_option maxHeartbeats 4000000 in
set_option maxRecDepth 100000 in
theorem c_AL_grow_2 (l : Launch) (G : vv_G) (v : vv_V) (a arr n : Nat) (mo : Int32) (cj : Nat) (f : Nat → Option Nat) (Cj : String) (Tj : u_T) (Nj : Nat) (h0 : v 5 a = some (vl arr n mo)) (h1 : v 53 arr = some (vq G n f)) (hn : 2 ≤ n ∧ n ≤ 500) (hcj : vwCl[cj]? = some (Cj, Tj, Nj)) (hca : Cond.castable Cj "java/lang/Object" ∈ vv_wds) (hel : ∀ i, i < n → ∀ y, f i = some y → ∃ fs, v cj y = some (.inr (cj, fs))) : Mv l y_AL_grow b_AL_grow 1 (some (FieldType.array (FieldType.object "java/lang/Object"))) 4 107 G v [.ref a] (fun r v' => ∃ q, r = some (.ref q) ∧ (∀ k, v k q = none) ∧ v' 5 a = some (vl q n mo) ∧ v' 53 q = some (vq G (n + n / 2) (va_cpy f (fun _ => none) 0 0 n)) ∧ vkp (fun k x => k = 5 ∧ x = a) v v') 1 (n + n / 2) := by
  refine vv_metF (own := "java/util/ArrayList") (nm := "grow") pf_AL_grow rfl rfl (Nat.le_of_ble_eq_true rfl) ?_
  intro p e s m below meth c C hin
  show vV _ _ _ _ _ _ _ _ _ _ _ _ _ v 0 0 0 [(0, .ref a)] []
  refine v_aload_n C 0 d_AL_grow_0 rfl rfl ?_
  refine v_aload_n C 0 d_AL_grow_1 rfl rfl ?_
  refine v_get C k_AL h0 1 (by decide) tw_67 (fun _ h => h) rfl d_AL_grow_2 ?_
  refine v_iconst (x := 1) C d_AL_grow_5 (by decide) ?_
  refine v_iadd C d_AL_grow_6 ?_
  refine v_toi (y := nI (n + 1)) (nI_add n 1) ?_
  refine v_callV (rest := []) C (c_AL_growI_2 l G v a arr n mo cj f Cj Tj Nj h0 h1 hn hcj hca hel) tw_169 tw_33 tw_166 tw_168 tw_2 mn_AL_grow_IALObject h0 k_AL.1 ⟨Nat.le_of_ble_eq_true rfl, Nat.le_of_ble_eq_true rfl⟩ rfl rfl (Nat.le_of_ble_eq_true rfl) d_AL_grow_7 ⟨(by first | exact Nat.le_of_ble_eq_true rfl | (dsimp only; omega)), (by first | exact Nat.le_of_ble_eq_true rfl | (dsimp only; omega))⟩ (fun r_1 v_2 hp_3 => ?_)
  refine v_cs (kc' := 1) (ks' := (n + n / 2)) (by omega) (by omega) ?_
  obtain ⟨q, rfl, hfr, hq1, hq2, hq3⟩ := hp_3
  show vV _ _ _ _ _ _ _ _ _ _ _ _ _ v_2 1 (n + n / 2) 10 [(0, .ref a)] [.ref q]
  exact v_aret C (Or.inr ⟨_, rfl⟩) (Or.inr ⟨_, rfl⟩) d_AL_grow_10 (by first | exact Nat.le_of_ble_eq_true rfl | (show _ ≤ _; omega)) (by first | exact Nat.le_of_ble_eq_true rfl | (show _ ≤ _; omega)) ⟨_, rfl, hfr, hq1, hq2, hq3⟩
set_option maxHeartbeats 4000000 in
set_option maxRecDepth 100000 in
theorem c_AL_add3_0 (l : Launch) (G : vv_G) (v : vv_V) (a arr n cap b cj : Nat) (mo : Int32) (f : Nat → Option Nat) (vs : List Value) (Cj : String) (Tj : u_T) (Nj : Nat) (h0 : v 5 a = some (vl arr n mo)) (h1 : v 53 arr = some (vq G cap f)) (hn : n < cap) (hcap : cap ≤ 1000) (h99 : cj ≠ 99) (hcj5 : cj ≠ 5) (hcj53 : cj ≠ 53) (hj : v cj b = some (.inr (cj, vs))) (hcj : vwCl[cj]? = some (Cj, Tj, Nj)) (hca : Cond.castable Cj "java/lang/Object" ∈ vv_wds) : Mv l y_AL_add_LObjectALObjectIV b_AL_add_LObjectALObjectIV 4 none 0 0 G v [.ref a, .ref b, .ref arr, .int (nI n)] (fun r v' => r = none ∧ v' 5 a = some (vl arr (n + 1) mo) ∧ v' 53 arr = some (vq G cap (va_up f n (some b))) ∧ vkp (fun k x => (k = 5 ∧ x = a) ∨ (k = 53 ∧ x = arr)) v v') 0 0 := by
  refine vv_metF (own := "java/util/ArrayList") (nm := "add") pf_AL_add_LObjectALObjectIV rfl rfl (Nat.le_of_ble_eq_true rfl) ?_
  intro p e s m below meth c C hin
  have hk : vkp (fun k x => (k = 5 ∧ x = a) ∨ (k = 53 ∧ x = arr)) v v := vkp.rf
  show vV _ _ _ _ _ _ _ _ _ _ _ _ _ v 0 0 0 [(0, .ref a), (1, .ref b), (2, .ref arr), (3, .int (nI n))] []
  refine v_iload_n C 3 d_AL_add_LObjectALObjectIV_0 rfl rfl ?_
  refine v_aload_n C 2 d_AL_add_LObjectALObjectIV_1 rfl rfl ?_
  refine v_alen (z := (nI cap)) C 53 3 h1 rfl rfl d_AL_add_LObjectALObjectIV_2 ?_
  refine v_icmp_ne C 11 d_AL_add_LObjectALObjectIV_3 (by decide) (fun c_3 => ?_) (fun c_3 => absurd c_3 (fun z => by have := (nI_eq (by omega) (by omega)).mp z; omega))
  refine v_aload_n C 2 d_AL_add_LObjectALObjectIV_11 rfl rfl ?_
  refine v_iload_n C 3 d_AL_add_LObjectALObjectIV_12 rfl rfl ?_
  refine v_aload_n C 1 d_AL_add_LObjectALObjectIV_13 rfl rfl ?_
  refine v_aastN C h1 h99 hj hcj hca (by omega) (by omega) d_AL_add_LObjectALObjectIV_14 ?_
  refine v_view (fun v1 ev1 => ?_)
  have he_1 : v1 5 a = some (.inr (5, [.ref arr, .int (nI n), .int mo])) := by rw [ev1]; exact (vv_up_k _ _ _ _ (by decide)).trans h0
  have he_2 : v1 53 arr = some (.inl (G.2.2.2.2 3, cap, .inr (.inr (.inr (.inr (va_up f n (some b))))))) := by rw [ev1]; exact vv_up_s _ _ _ _
  have hkv1 : vkp (fun k x => (k = 5 ∧ x = a) ∨ (k = 53 ∧ x = arr)) v v1 := by rw [ev1]; exact hk.up (Or.inr ⟨rfl, rfl⟩)
  have he_3 : v1 cj b = some (.inr (cj, vs)) := by rw [ev1]; exact (vv_up_k _ _ _ _ hcj53).trans hj
  refine v_aload_n C 0 d_AL_add_LObjectALObjectIV_15 rfl rfl ?_
  refine v_iload_n C 3 d_AL_add_LObjectALObjectIV_16 rfl rfl ?_
  refine v_iconst (x := 1) C d_AL_add_LObjectALObjectIV_17 (by decide) ?_
  refine v_iadd C d_AL_add_LObjectALObjectIV_18 ?_
  refine v_toi (y := nI (n + 1)) (nI_add n 1) ?_
  refine v_put C k_AL he_1 1 (by decide) tw_67 (fun _ h => h) rfl rfl rfl (Nat.le_of_ble_eq_true rfl) d_AL_add_LObjectALObjectIV_19 ?_
  refine v_view (fun v2 ev2 => ?_)
  have he_4 : v2 5 a = some (.inr (5, [.ref arr, .int (nI (n + 1)), .int mo])) := by rw [ev2]; exact vv_up_s _ _ _ _
  have he_5 : v2 53 arr = some (.inl (G.2.2.2.2 3, cap, .inr (.inr (.inr (.inr (va_up f n (some b))))))) := by rw [ev2]; exact (vv_up_k _ _ _ _ (by decide)).trans he_2
  have hkv2 : vkp (fun k x => (k = 5 ∧ x = a) ∨ (k = 53 ∧ x = arr)) v v2 := by rw [ev2]; exact hkv1.up (Or.inl ⟨rfl, rfl⟩)
  have he_6 : v2 cj b = some (.inr (cj, vs)) := by rw [ev2]; exact (vv_up_k _ _ _ _ hcj5).trans he_3
  exact v_vret C d_AL_add_LObjectALObjectIV_22 (by first | exact Nat.le_of_ble_eq_true rfl | (show _ ≤ _; omega)) (by first | exact Nat.le_of_ble_eq_true rfl | (show _ ≤ _; omega)) ⟨rfl, he_4, he_5, hkv2⟩
set_option maxHeartbeats 4000000 in
set_option maxRecDepth 100000 in
theorem c_AL_add3_1 (l : Launch) (G : vv_G) (v : vv_V) (a b cj : Nat) (mo : Int32) (f g : Nat → Option Nat) (vs : List Value) (Cj : String) (Tj : u_T) (Nj : Nat) (h0 : v 5 a = some (vl G.2.2.1 0 mo)) (h9 : v 99 G.2.2.1 = some (vq G 0 g)) (h99 : cj ≠ 99) (hcj5 : cj ≠ 5) (hcj53 : cj ≠ 53) (hj : v cj b = some (.inr (cj, vs))) (hcj : vwCl[cj]? = some (Cj, Tj, Nj)) (hca : Cond.castable Cj "java/lang/Object" ∈ vv_wds) : Mv l y_AL_add_LObjectALObjectIV b_AL_add_LObjectALObjectIV 4 none 3 64 G v [.ref a, .ref b, .ref G.2.2.1, .int (nI 0)] (fun r v' => ∃ q g, r = none ∧ (∀ k, v k q = none) ∧ v' 5 a = some (vl q (0 + 1) mo) ∧ v' 53 q = some (vq G (10) g) ∧ (∀ i, i < 0 → g i = f i) ∧ g (0) = some b ∧ vkp (fun k x => k = 5 ∧ x = a) v v') 1 10 := by
  refine vv_metF (own := "java/util/ArrayList") (nm := "add") pf_AL_add_LObjectALObjectIV rfl rfl (Nat.le_of_ble_eq_true rfl) ?_
  intro p e s m below meth c C hin
  have hk : vkp (fun k x => (k = 5 ∧ x = a) ∨ (k = 53 ∧ v k x = none)) v v := vkp.rf
  show vV _ _ _ _ _ _ _ _ _ _ _ _ _ v 0 0 0 [(0, .ref a), (1, .ref b), (2, .ref G.2.2.1), (3, .int (nI 0))] []
  refine v_iload_n C 3 d_AL_add_LObjectALObjectIV_0 rfl rfl ?_
  refine v_aload_n C 2 d_AL_add_LObjectALObjectIV_1 rfl rfl ?_
  refine v_alen9 (z := 0) C rfl d_AL_add_LObjectALObjectIV_2 ?_
  refine v_icmp_ne C 11 d_AL_add_LObjectALObjectIV_3 (by decide) (fun c_3 => absurd (show nI 0 = 0 from rfl) c_3) (fun c_3 => ?_)
  refine v_aload_n C 0 d_AL_add_LObjectALObjectIV_6 rfl rfl ?_
  refine v_callV (rest := []) C (c_AL_grow_1 l G v a mo g h0 h9) tw_165 tw_33 tw_162 tw_164 tw_1 mn_AL_grow h0 k_AL.1 ⟨Nat.le_of_ble_eq_true rfl, Nat.le_of_ble_eq_true rfl⟩ rfl rfl (Nat.le_of_ble_eq_true rfl) d_AL_add_LObjectALObjectIV_7 ⟨(by first | exact Nat.le_of_ble_eq_true rfl | (dsimp only; omega)), (by first | exact Nat.le_of_ble_eq_true rfl | (dsimp only; omega))⟩ (fun r_1 v_2 hp_3 => ?_)
  refine v_cs (kc' := 1) (ks' := 10) (by omega) (by omega) ?_
  obtain ⟨q, rfl, hfr, hq1, hq2, hq3⟩ := hp_3
  have he_4 : v_2 5 a = some (.inr (5, [.ref q, .int (nI 0), .int mo])) := hq1
  have he_5 : v_2 53 q = some (.inl (G.2.2.2.2 3, 10, .inr (.inr (.inr (.inr (fun _ => none)))))) := hq2
  have hjq : v_2 cj b = some (.inr (cj, vs)) := hq3 _ _ _ (fun z => hcj5 z.1) hj
  have hkq : vkp (fun k x => (k = 5 ∧ x = a) ∨ (k = 53 ∧ v k x = none)) v v_2 := hq3.mono (fun _ _ z => Or.inl z)
  show vV _ _ _ _ _ _ _ _ _ _ _ _ _ v_2 1 10 10 [(0, .ref a), (1, .ref b), (2, .ref G.2.2.1), (3, .int (nI 0))] [.ref q]
  refine v_astore_n (lv' := [(2, .ref q), (0, .ref a), (1, .ref b), (3, .int (nI 0))]) C d_AL_add_LObjectALObjectIV_10 rfl (by decide) rfl ?_
  refine v_aload_n C 0 d_AL_add_LObjectALObjectIV_11 rfl rfl ?_
  refine v_iload_n C 3 d_AL_add_LObjectALObjectIV_12 rfl rfl ?_
  refine v_aload_n C 2 d_AL_add_LObjectALObjectIV_13 rfl rfl ?_
  refine v_aastN C he_5 h99 hjq hcj hca (by omega) (by omega) d_AL_add_LObjectALObjectIV_14 ?_
  refine v_view (fun v1 ev1 => ?_)
  have he_6 : v1 5 a = some (.inr (5, [.ref q, .int (nI 0), .int mo])) := by rw [ev1]; exact (vv_up_k _ _ _ _ (by decide)).trans he_4
  have he_7 : v1 53 q = some (.inl (G.2.2.2.2 3, 10, .inr (.inr (.inr (.inr (va_up (fun _ => none) 0 (some b))))))) := by rw [ev1]; exact vv_up_s _ _ _ _
  have hkv1 : vkp (fun k x => (k = 5 ∧ x = a) ∨ (k = 53 ∧ v k x = none)) v v1 := by rw [ev1]; exact hkq.up (Or.inr ⟨rfl, hfr 53⟩)
  have he_8 : v1 cj b = some (.inr (cj, vs)) := by rw [ev1]; exact (vv_up_k _ _ _ _ hcj53).trans hjq
  refine v_aload_n C 1 d_AL_add_LObjectALObjectIV_15 rfl rfl ?_
  refine v_iload_n C 3 d_AL_add_LObjectALObjectIV_16 rfl rfl ?_
  refine v_iconst (x := 1) C d_AL_add_LObjectALObjectIV_17 (by decide) ?_
  refine v_iadd C d_AL_add_LObjectALObjectIV_18 ?_
  refine v_put C k_AL he_6 1 (by decide) tw_67 (fun _ h => h) rfl rfl rfl (Nat.le_of_ble_eq_true rfl) d_AL_add_LObjectALObjectIV_19 ?_
  refine v_view (fun v2 ev2 => ?_)
  have he_9 : v2 5 a = some (.inr (5, [.ref q, .int ((nI 0) + 1), .int mo])) := by rw [ev2]; exact vv_up_s _ _ _ _
  have he_10 : v2 53 q = some (.inl (G.2.2.2.2 3, 10, .inr (.inr (.inr (.inr (va_up (fun _ => none) 0 (some b))))))) := by rw [ev2]; exact (vv_up_k _ _ _ _ (by decide)).trans he_7
  have hkv2 : vkp (fun k x => (k = 5 ∧ x = a) ∨ (k = 53 ∧ v k x = none)) v v2 := by rw [ev2]; exact hkv1.up (Or.inl ⟨rfl, rfl⟩)
  have he_11 : v2 cj b = some (.inr (cj, vs)) := by rw [ev2]; exact (vv_up_k _ _ _ _ hcj5).trans he_8
  exact v_vret C d_AL_add_LObjectALObjectIV_22 (by first | exact Nat.le_of_ble_eq_true rfl | (show _ ≤ _; omega)) (by first | exact Nat.le_of_ble_eq_true rfl | (show _ ≤ _; omega)) ⟨q, _, rfl, hfr, he_9, he_10, (fun i hi => by omega), (by simp [va_up]), (fun k x e hx h => hkv2 k x e (fun z => by rcases z with z | z; exact hx z; rw [z.2] at h; cases h) h)⟩
set_option maxHeartbeats 4000000 in
set_option maxRecDepth 100000 in
theorem c_AL_add3_2 (l : Launch) (G : vv_G) (v : vv_V) (a arr n b cj : Nat) (mo : Int32) (f : Nat → Option Nat) (vs : List Value) (Cj : String) (Tj : u_T) (Nj : Nat) (h0 : v 5 a = some (vl arr n mo)) (h1 : v 53 arr = some (vq G n f)) (hn : 2 ≤ n ∧ n ≤ 500) (h99 : cj ≠ 99) (hcj5 : cj ≠ 5) (hcj53 : cj ≠ 53) (hj : v cj b = some (.inr (cj, vs))) (hcj : vwCl[cj]? = some (Cj, Tj, Nj)) (hca : Cond.castable Cj "java/lang/Object" ∈ vv_wds) (hel : ∀ i, i < n → ∀ y, f i = some y → ∃ fs, v cj y = some (.inr (cj, fs))) : Mv l y_AL_add_LObjectALObjectIV b_AL_add_LObjectALObjectIV 4 none 5 127 G v [.ref a, .ref b, .ref arr, .int (nI n)] (fun r v' => ∃ q g, r = none ∧ (∀ k, v k q = none) ∧ v' 5 a = some (vl q (n + 1) mo) ∧ v' 53 q = some (vq G (n + n / 2) g) ∧ (∀ i, i < n → g i = f i) ∧ g (n) = some b ∧ vkp (fun k x => k = 5 ∧ x = a) v v') 1 (n + n / 2) := by
  refine vv_metF (own := "java/util/ArrayList") (nm := "add") pf_AL_add_LObjectALObjectIV rfl rfl (Nat.le_of_ble_eq_true rfl) ?_
  intro p e s m below meth c C hin
  have hk : vkp (fun k x => (k = 5 ∧ x = a) ∨ (k = 53 ∧ v k x = none)) v v := vkp.rf
  show vV _ _ _ _ _ _ _ _ _ _ _ _ _ v 0 0 0 [(0, .ref a), (1, .ref b), (2, .ref arr), (3, .int (nI n))] []
  refine v_iload_n C 3 d_AL_add_LObjectALObjectIV_0 rfl rfl ?_
  refine v_aload_n C 2 d_AL_add_LObjectALObjectIV_1 rfl rfl ?_
  refine v_alen (z := (nI n)) C 53 3 h1 rfl rfl d_AL_add_LObjectALObjectIV_2 ?_
  refine v_icmp_ne C 11 d_AL_add_LObjectALObjectIV_3 (by decide) (fun c_3 => absurd rfl c_3) (fun c_3 => ?_)
  refine v_aload_n C 0 d_AL_add_LObjectALObjectIV_6 rfl rfl ?_
  refine v_callV (rest := []) C (c_AL_grow_2 l G v a arr n mo cj f Cj Tj Nj h0 h1 hn hcj hca hel) tw_165 tw_33 tw_162 tw_164 tw_1 mn_AL_grow h0 k_AL.1 ⟨Nat.le_of_ble_eq_true rfl, Nat.le_of_ble_eq_true rfl⟩ rfl rfl (Nat.le_of_ble_eq_true rfl) d_AL_add_LObjectALObjectIV_7 ⟨(by first | exact Nat.le_of_ble_eq_true rfl | (dsimp only; omega)), (by first | exact Nat.le_of_ble_eq_true rfl | (dsimp only; omega))⟩ (fun r_1 v_2 hp_3 => ?_)
  refine v_cs (kc' := 1) (ks' := (n + n / 2)) (by omega) (by omega) ?_
  obtain ⟨q, rfl, hfr, hq1, hq2, hq3⟩ := hp_3
  have he_4 : v_2 5 a = some (.inr (5, [.ref q, .int (nI n), .int mo])) := hq1
  have he_5 : v_2 53 q = some (.inl (G.2.2.2.2 3, (n + n / 2), .inr (.inr (.inr (.inr (va_cpy f (fun _ => none) 0 0 n)))))) := hq2
  have hjq : v_2 cj b = some (.inr (cj, vs)) := hq3 _ _ _ (fun z => hcj5 z.1) hj
  have hkq : vkp (fun k x => (k = 5 ∧ x = a) ∨ (k = 53 ∧ v k x = none)) v v_2 := hq3.mono (fun _ _ z => Or.inl z)
  show vV _ _ _ _ _ _ _ _ _ _ _ _ _ v_2 1 (n + n / 2) 10 [(0, .ref a), (1, .ref b), (2, .ref arr), (3, .int (nI n))] [.ref q]
  refine v_astore_n (lv' := [(2, .ref q), (0, .ref a), (1, .ref b), (3, .int (nI n))]) C d_AL_add_LObjectALObjectIV_10 rfl (by decide) rfl ?_
  refine v_aload_n C 0 d_AL_add_LObjectALObjectIV_11 rfl rfl ?_
  refine v_iload_n C 3 d_AL_add_LObjectALObjectIV_12 rfl rfl ?_
  refine v_aload_n C 2 d_AL_add_LObjectALObjectIV_13 rfl rfl ?_
  refine v_aastN C he_5 h99 hjq hcj hca (by omega) (by omega) d_AL_add_LObjectALObjectIV_14 ?_
  refine v_view (fun v1 ev1 => ?_)
  have he_6 : v1 5 a = some (.inr (5, [.ref q, .int (nI n), .int mo])) := by rw [ev1]; exact (vv_up_k _ _ _ _ (by decide)).trans he_4
  have he_7 : v1 53 q = some (.inl (G.2.2.2.2 3, (n + n / 2), .inr (.inr (.inr (.inr (va_up (va_cpy f (fun _ => none) 0 0 n) n (some b))))))) := by rw [ev1]; exact vv_up_s _ _ _ _
  have hkv1 : vkp (fun k x => (k = 5 ∧ x = a) ∨ (k = 53 ∧ v k x = none)) v v1 := by rw [ev1]; exact hkq.up (Or.inr ⟨rfl, hfr 53⟩)
  have he_8 : v1 cj b = some (.inr (cj, vs)) := by rw [ev1]; exact (vv_up_k _ _ _ _ hcj53).trans hjq
  refine v_aload_n C 1 d_AL_add_LObjectALObjectIV_15 rfl rfl ?_
  refine v_iload_n C 3 d_AL_add_LObjectALObjectIV_16 rfl rfl ?_
  refine v_iconst (x := 1) C d_AL_add_LObjectALObjectIV_17 (by decide) ?_
  refine v_iadd C d_AL_add_LObjectALObjectIV_18 ?_
  refine v_toi (y := nI (n + 1)) (nI_add n 1) ?_
  refine v_put C k_AL he_6 1 (by decide) tw_67 (fun _ h => h) rfl rfl rfl (Nat.le_of_ble_eq_true rfl) d_AL_add_LObjectALObjectIV_19 ?_
  refine v_view (fun v2 ev2 => ?_)
  have he_9 : v2 5 a = some (.inr (5, [.ref q, .int (nI (n + 1)), .int mo])) := by rw [ev2]; exact vv_up_s _ _ _ _
  have he_10 : v2 53 q = some (.inl (G.2.2.2.2 3, (n + n / 2), .inr (.inr (.inr (.inr (va_up (va_cpy f (fun _ => none) 0 0 n) n (some b))))))) := by rw [ev2]; exact (vv_up_k _ _ _ _ (by decide)).trans he_7
  have hkv2 : vkp (fun k x => (k = 5 ∧ x = a) ∨ (k = 53 ∧ v k x = none)) v v2 := by rw [ev2]; exact hkv1.up (Or.inl ⟨rfl, rfl⟩)
  have he_11 : v2 cj b = some (.inr (cj, vs)) := by rw [ev2]; exact (vv_up_k _ _ _ _ hcj5).trans he_8
  exact v_vret C d_AL_add_LObjectALObjectIV_22 (by first | exact Nat.le_of_ble_eq_true rfl | (show _ ≤ _; omega)) (by first | exact Nat.le_of_ble_eq_true rfl | (show _ ≤ _; omega)) ⟨q, _, rfl, hfr, he_9, he_10, (fun i hi => by simp only [va_up]; rw [if_neg (by omega), pk_cpy_in (by omega) (by omega)]; simp), (by simp [va_up]), (fun k x e hx h => hkv2 k x e (fun z => by rcases z with z | z; exact hx z; rw [z.2] at h; cases h) h)⟩
