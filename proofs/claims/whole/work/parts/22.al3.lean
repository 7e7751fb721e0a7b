/-- the list at a: its array arr, n elements, at the addresses f; e: how often it has grown -/
def LA (G : vv_G) (v : vv_V) (a arr n e : Nat) (f : Nat → Nat) : Prop := (∃ mo, v 5 a = some (vl arr n mo)) ∧ n ≤ zcp e ∧ e ≤ 9 ∧ ((e = 0 ∧ arr = G.2.2.1 ∧ ∃ g, v 99 arr = some (vq G 0 g)) ∨ (0 < e ∧ ∃ g, v 53 arr = some (vq G (zcp e) g) ∧ ∀ i, i < n → g i = some (f i)))
theorem zcp_s {e : Nat} (h : 0 < e) : zcp (e + 1) = zcp e + zcp e / 2 := by
  cases e with
  | zero => omega
  | succ e => rfl
set_option maxHeartbeats 4000000 in
set_option maxRecDepth 100000 in
theorem c_AL_add_0 (l : Launch) (G : vv_G) (v : vv_V) (a arr n cap b : Nat) (f : Nat → Option Nat) (mo : Int32) (vs : List Value) (cj : Nat) (Cj : String) (Tj : u_T) (Nj : Nat) (h0 : v 5 a = some (vl arr n mo)) (h1 : v 53 arr = some (vq G cap f)) (hn : n < cap) (hcap : cap ≤ 1000) (h99 : cj ≠ 99) (hcj5 : cj ≠ 5) (hcj53 : cj ≠ 53) (hj : v cj b = some (.inr (cj, vs))) (hcj : vwCl[cj]? = some (Cj, Tj, Nj)) (hca : Cond.castable Cj "java/lang/Object" ∈ vv_wds) : Mv l y_AL_add b_AL_add 2 (some FieldType.boolean) 6 150 G v [.ref a, .ref b] (fun r v' => r = some (.int 1) ∧ ∃ mo', v' 5 a = some (vl arr (n + 1) mo') ∧ v' 53 arr = some (vq G cap (va_up f n (some b))) ∧ vkp (fun k x => (k = 5 ∧ x = a) ∨ (k = 53 ∧ x = arr)) v v') 0 0 := by
  refine vv_metF (own := "java/util/ArrayList") (nm := "add") pf_AL_add rfl rfl (Nat.le_of_ble_eq_true rfl) ?_
  intro p e s m below meth c C hin
  have hk : vkp (fun k x => (k = 5 ∧ x = a) ∨ (k = 53 ∧ x = arr)) v v := vkp.rf
  show vV _ _ _ _ _ _ _ _ _ _ _ _ _ v 0 0 0 [(0, .ref a), (1, .ref b)] []
  refine v_aload_n C 0 d_AL_add_0 rfl rfl ?_
  refine v_dup C d_AL_add_1 rfl ?_
  refine v_get C k_AL h0 2 (by decide) tw_69 (fun x9 h9 => u_same (C.w _ tw_70) x9 h9) rfl d_AL_add_2 ?_
  refine v_iconst (x := 1) C d_AL_add_5 (by decide) ?_
  refine v_iadd C d_AL_add_6 ?_
  refine v_put C k_AL h0 2 (by decide) tw_69 (fun x9 h9 => u_same (C.w _ tw_70) x9 h9) rfl rfl rfl (Nat.le_of_ble_eq_true rfl) d_AL_add_7 ?_
  refine v_view (fun v1 ev1 => ?_)
  have he_1 : v1 5 a = some (.inr (5, [.ref arr, .int (nI n), .int (mo + 1)])) := by rw [ev1]; exact vv_up_s _ _ _ _
  have he_2 : v1 53 arr = some (.inl (G.2.2.2.2 3, cap, .inr (.inr (.inr (.inr f))))) := by rw [ev1]; exact (vv_up_k _ _ _ _ (by decide)).trans h1
  have hkv1 : vkp (fun k x => (k = 5 ∧ x = a) ∨ (k = 53 ∧ x = arr)) v v1 := by rw [ev1]; exact hk.up (Or.inl ⟨rfl, rfl⟩)
  have he_3 : v1 cj b = some (.inr (cj, vs)) := by rw [ev1]; exact (vv_up_k _ _ _ _ hcj5).trans hj
  refine v_aload_n C 0 d_AL_add_10 rfl rfl ?_
  refine v_aload_n C 1 d_AL_add_11 rfl rfl ?_
  refine v_aload_n C 0 d_AL_add_12 rfl rfl ?_
  refine v_get C k_AL he_1 0 (by decide) tw_66 (fun _ h => h) rfl d_AL_add_13 ?_
  refine v_aload_n C 0 d_AL_add_16 rfl rfl ?_
  refine v_get C k_AL he_1 1 (by decide) tw_67 (fun _ h => h) rfl d_AL_add_17 ?_
  refine v_callV (rest := []) C (c_AL_add3_0 l G v1 a arr n cap b cj _ f vs Cj Tj Nj he_1 he_2 hn hcap h99 hcj5 hcj53 he_3 hcj hca) tw_161 tw_33 tw_158 tw_160 tw_0 mn_AL_add_LObjectALObjectIV he_1 k_AL.1 ⟨Nat.le_of_ble_eq_true rfl, Nat.le_of_ble_eq_true rfl⟩ rfl rfl (Nat.le_of_ble_eq_true rfl) d_AL_add_20 ⟨(by first | exact Nat.le_of_ble_eq_true rfl | (dsimp only; omega)), (by first | exact Nat.le_of_ble_eq_true rfl | (dsimp only; omega))⟩ (fun r_4 v_5 hp_6 => ?_)
  obtain ⟨rfl, hq1, hq2, hq3⟩ := hp_6
  have hkz := hkv1.tr hq3
  show vV _ _ _ _ _ _ _ _ _ _ _ _ _ v_5 0 0 23 [(0, .ref a), (1, .ref b)] []
  refine v_iconst (x := 1) C d_AL_add_23 (by decide) ?_
  exact v_zret C d_AL_add_24 (by first | exact Nat.le_of_ble_eq_true rfl | (show _ ≤ _; omega)) (by first | exact Nat.le_of_ble_eq_true rfl | (show _ ≤ _; omega)) (by decide) ⟨rfl, _, hq1, hq2, hkz⟩
set_option maxHeartbeats 4000000 in
set_option maxRecDepth 100000 in
theorem c_AL_add_1 (l : Launch) (G : vv_G) (v : vv_V) (a b : Nat) (f g : Nat → Option Nat) (mo : Int32) (vs : List Value) (cj : Nat) (Cj : String) (Tj : u_T) (Nj : Nat) (h0 : v 5 a = some (vl G.2.2.1 0 mo)) (h9 : v 99 G.2.2.1 = some (vq G 0 g)) (h99 : cj ≠ 99) (hcj5 : cj ≠ 5) (hcj53 : cj ≠ 53) (hj : v cj b = some (.inr (cj, vs))) (hcj : vwCl[cj]? = some (Cj, Tj, Nj)) (hca : Cond.castable Cj "java/lang/Object" ∈ vv_wds) : Mv l y_AL_add b_AL_add 2 (some FieldType.boolean) 6 150 G v [.ref a, .ref b] (fun r v' => r = some (.int 1) ∧ ∃ q g mo', (∀ k, v k q = none) ∧ v' 5 a = some (vl q (0 + 1) mo') ∧ v' 53 q = some (vq G (10) g) ∧ (∀ i, i < 0 → g i = f i) ∧ g (0) = some b ∧ vkp (fun k x => k = 5 ∧ x = a) v v') 1 244 := by
  refine vv_metF (own := "java/util/ArrayList") (nm := "add") pf_AL_add rfl rfl (Nat.le_of_ble_eq_true rfl) ?_
  intro p e s m below meth c C hin
  have hk : vkp (fun k x => k = 5 ∧ x = a) v v := vkp.rf
  show vV _ _ _ _ _ _ _ _ _ _ _ _ _ v 0 0 0 [(0, .ref a), (1, .ref b)] []
  refine v_aload_n C 0 d_AL_add_0 rfl rfl ?_
  refine v_dup C d_AL_add_1 rfl ?_
  refine v_get C k_AL h0 2 (by decide) tw_69 (fun x9 h9 => u_same (C.w _ tw_70) x9 h9) rfl d_AL_add_2 ?_
  refine v_iconst (x := 1) C d_AL_add_5 (by decide) ?_
  refine v_iadd C d_AL_add_6 ?_
  refine v_put C k_AL h0 2 (by decide) tw_69 (fun x9 h9 => u_same (C.w _ tw_70) x9 h9) rfl rfl rfl (Nat.le_of_ble_eq_true rfl) d_AL_add_7 ?_
  refine v_view (fun v1 ev1 => ?_)
  have he_1 : v1 5 a = some (.inr (5, [.ref G.2.2.1, .int (nI 0), .int (mo + 1)])) := by rw [ev1]; exact vv_up_s _ _ _ _
  have he_2 : v1 99 G.2.2.1 = some (.inl (G.2.2.2.2 3, 0, .inr (.inr (.inr (.inr g))))) := by rw [ev1]; exact (vv_up_k _ _ _ _ (by decide)).trans h9
  have hkv1 : vkp (fun k x => k = 5 ∧ x = a) v v1 := by rw [ev1]; exact hk.up (⟨rfl, rfl⟩)
  have he_3 : v1 cj b = some (.inr (cj, vs)) := by rw [ev1]; exact (vv_up_k _ _ _ _ hcj5).trans hj
  refine v_aload_n C 0 d_AL_add_10 rfl rfl ?_
  refine v_aload_n C 1 d_AL_add_11 rfl rfl ?_
  refine v_aload_n C 0 d_AL_add_12 rfl rfl ?_
  refine v_get C k_AL he_1 0 (by decide) tw_66 (fun _ h => h) rfl d_AL_add_13 ?_
  refine v_aload_n C 0 d_AL_add_16 rfl rfl ?_
  refine v_get C k_AL he_1 1 (by decide) tw_67 (fun _ h => h) rfl d_AL_add_17 ?_
  refine v_callV (rest := []) C (c_AL_add3_1 l G v1 a b cj _ f g vs Cj Tj Nj he_1 he_2 h99 hcj5 hcj53 he_3 hcj hca) tw_161 tw_33 tw_158 tw_160 tw_0 mn_AL_add_LObjectALObjectIV he_1 k_AL.1 ⟨Nat.le_of_ble_eq_true rfl, Nat.le_of_ble_eq_true rfl⟩ rfl rfl (Nat.le_of_ble_eq_true rfl) d_AL_add_20 ⟨(by first | exact Nat.le_of_ble_eq_true rfl | (dsimp only; omega)), (by first | exact Nat.le_of_ble_eq_true rfl | (dsimp only; omega))⟩ (fun r_4 v_5 hp_6 => ?_)
  refine v_cs (kc' := 1) (ks' := 10) (by omega) (by omega) ?_
  obtain ⟨q, g9, rfl, hfr, hq1, hq2, hq4, hq5, hq3⟩ := hp_6
  have hkz := hkv1.tr hq3
  have hfz : ∀ k, v k q = none := fun k => by cases hz : v k q with | none => rfl | some e => exact absurd (hkv1 k q e (fun z => by rw [z.1, z.2] at hz; have y9 := hfr 5; rw [z.2, he_1] at y9; cases y9) hz) (by rw [hfr k]; exact fun z => by cases z)
  show vV _ _ _ _ _ _ _ _ _ _ _ _ _ v_5 1 10 23 [(0, .ref a), (1, .ref b)] []
  refine v_iconst (x := 1) C d_AL_add_23 (by decide) ?_
  exact v_zret C d_AL_add_24 (by first | exact Nat.le_of_ble_eq_true rfl | (show _ ≤ _; omega)) (by first | exact Nat.le_of_ble_eq_true rfl | (show _ ≤ _; omega)) (by decide) ⟨rfl, q, g9, _, hfz, hq1, hq2, hq4, hq5, hkz⟩
set_option maxHeartbeats 4000000 in
set_option maxRecDepth 100000 in
theorem c_AL_add_2 (l : Launch) (G : vv_G) (v : vv_V) (a arr n b : Nat) (f : Nat → Option Nat) (mo : Int32) (vs : List Value) (cj : Nat) (Cj : String) (Tj : u_T) (Nj : Nat) (h0 : v 5 a = some (vl arr n mo)) (h1 : v 53 arr = some (vq G n f)) (hn : 2 ≤ n ∧ n ≤ 500) (hn2 : n + n / 2 ≤ 244) (h99 : cj ≠ 99) (hcj5 : cj ≠ 5) (hcj53 : cj ≠ 53) (hj : v cj b = some (.inr (cj, vs))) (hcj : vwCl[cj]? = some (Cj, Tj, Nj)) (hca : Cond.castable Cj "java/lang/Object" ∈ vv_wds) (hel : ∀ i, i < n → ∀ y, f i = some y → ∃ fs, v cj y = some (.inr (cj, fs))) : Mv l y_AL_add b_AL_add 2 (some FieldType.boolean) 6 150 G v [.ref a, .ref b] (fun r v' => r = some (.int 1) ∧ ∃ q g mo', (∀ k, v k q = none) ∧ v' 5 a = some (vl q (n + 1) mo') ∧ v' 53 q = some (vq G (n + n / 2) g) ∧ (∀ i, i < n → g i = f i) ∧ g (n) = some b ∧ vkp (fun k x => k = 5 ∧ x = a) v v') 1 244 := by
  refine vv_metF (own := "java/util/ArrayList") (nm := "add") pf_AL_add rfl rfl (Nat.le_of_ble_eq_true rfl) ?_
  intro p e s m below meth c C hin
  have hk : vkp (fun k x => k = 5 ∧ x = a) v v := vkp.rf
  show vV _ _ _ _ _ _ _ _ _ _ _ _ _ v 0 0 0 [(0, .ref a), (1, .ref b)] []
  refine v_aload_n C 0 d_AL_add_0 rfl rfl ?_
  refine v_dup C d_AL_add_1 rfl ?_
  refine v_get C k_AL h0 2 (by decide) tw_69 (fun x9 h9 => u_same (C.w _ tw_70) x9 h9) rfl d_AL_add_2 ?_
  refine v_iconst (x := 1) C d_AL_add_5 (by decide) ?_
  refine v_iadd C d_AL_add_6 ?_
  refine v_put C k_AL h0 2 (by decide) tw_69 (fun x9 h9 => u_same (C.w _ tw_70) x9 h9) rfl rfl rfl (Nat.le_of_ble_eq_true rfl) d_AL_add_7 ?_
  refine v_view (fun v1 ev1 => ?_)
  have he_1 : v1 5 a = some (.inr (5, [.ref arr, .int (nI n), .int (mo + 1)])) := by rw [ev1]; exact vv_up_s _ _ _ _
  have he_2 : v1 53 arr = some (.inl (G.2.2.2.2 3, n, .inr (.inr (.inr (.inr f))))) := by rw [ev1]; exact (vv_up_k _ _ _ _ (by decide)).trans h1
  have hkv1 : vkp (fun k x => k = 5 ∧ x = a) v v1 := by rw [ev1]; exact hk.up (⟨rfl, rfl⟩)
  have he_3 : v1 cj b = some (.inr (cj, vs)) := by rw [ev1]; exact (vv_up_k _ _ _ _ hcj5).trans hj
  refine v_aload_n C 0 d_AL_add_10 rfl rfl ?_
  refine v_aload_n C 1 d_AL_add_11 rfl rfl ?_
  refine v_aload_n C 0 d_AL_add_12 rfl rfl ?_
  refine v_get C k_AL he_1 0 (by decide) tw_66 (fun _ h => h) rfl d_AL_add_13 ?_
  refine v_aload_n C 0 d_AL_add_16 rfl rfl ?_
  refine v_get C k_AL he_1 1 (by decide) tw_67 (fun _ h => h) rfl d_AL_add_17 ?_
  refine v_callV (rest := []) C (c_AL_add3_2 l G v1 a arr n b cj _ f vs Cj Tj Nj he_1 he_2 hn h99 hcj5 hcj53 he_3 hcj hca (fun i hi y hy => by obtain ⟨fs, h⟩ := hel i hi y hy; exact ⟨fs, hkv1 _ _ _ (fun z => hcj5 z.1) h⟩)) tw_161 tw_33 tw_158 tw_160 tw_0 mn_AL_add_LObjectALObjectIV he_1 k_AL.1 ⟨Nat.le_of_ble_eq_true rfl, Nat.le_of_ble_eq_true rfl⟩ rfl rfl (Nat.le_of_ble_eq_true rfl) d_AL_add_20 ⟨(by first | exact Nat.le_of_ble_eq_true rfl | (dsimp only; omega)), (by first | exact Nat.le_of_ble_eq_true rfl | (dsimp only; omega))⟩ (fun r_4 v_5 hp_6 => ?_)
  refine v_cs (kc' := 1) (ks' := (n + n / 2)) (by omega) (by omega) ?_
  obtain ⟨q, g9, rfl, hfr, hq1, hq2, hq4, hq5, hq3⟩ := hp_6
  have hkz := hkv1.tr hq3
  have hfz : ∀ k, v k q = none := fun k => by cases hz : v k q with | none => rfl | some e => exact absurd (hkv1 k q e (fun z => by rw [z.1, z.2] at hz; have y9 := hfr 5; rw [z.2, he_1] at y9; cases y9) hz) (by rw [hfr k]; exact fun z => by cases z)
  show vV _ _ _ _ _ _ _ _ _ _ _ _ _ v_5 1 (n + n / 2) 23 [(0, .ref a), (1, .ref b)] []
  refine v_iconst (x := 1) C d_AL_add_23 (by decide) ?_
  exact v_zret C d_AL_add_24 (by first | exact Nat.le_of_ble_eq_true rfl | (show _ ≤ _; omega)) (by first | exact Nat.le_of_ble_eq_true rfl | (show _ ≤ _; omega)) (by decide) ⟨rfl, q, g9, _, hfz, hq1, hq2, hq4, hq5, hkz⟩
/-- ArrayList.add: one more element -/
theorem c_AL_add (l : Launch) (G : vv_G) (v : vv_V) (a arr n e b : Nat) (f : Nat → Nat) (vs : List Value) (cj : Nat) (Cj : String) (Tj : u_T) (Nj : Nat) (hL : LA G v a arr n e f) (hn : n ≤ 199) (h99 : cj ≠ 99) (hcj5 : cj ≠ 5) (hcj53 : cj ≠ 53) (hj : v cj b = some (.inr (cj, vs))) (hcj : vwCl[cj]? = some (Cj, Tj, Nj)) (hca : Cond.castable Cj "java/lang/Object" ∈ vv_wds) (hel : ∀ i, i < n → ∃ fs, v cj (f i) = some (.inr (cj, fs))) : Mv l y_AL_add b_AL_add 2 (some FieldType.boolean) 6 150 G v [.ref a, .ref b] (fun r v' => r = some (.int 1) ∧ ∃ arr', LA G v' a arr' (n + 1) (e + zde n e) (va_up f n b) ∧ ((arr' = arr ∧ 0 < e) ∨ ∀ k, v k arr' = none) ∧ vkp (fun k x => (k = 5 ∧ x = a) ∨ (k = 53 ∧ x = arr ∧ 0 < e)) v v') (zde n e) (244 * zde n e) := by
  obtain ⟨⟨mo, h0⟩, h1, h2, h3⟩ := hL
  rcases h3 with ⟨rfl, rfl, g, hg⟩ | ⟨hpos, g, hg, hgf⟩
  · have hn0 : n = 0 := by have : zcp 0 = 0 := rfl; omega
    subst hn0
    have hz : zde 0 0 = 1 := rfl
    rw [hz]
    refine (c_AL_add_1 l G v a b (fun _ => none) g mo vs cj Cj Tj Nj h0 hg h99 hcj5 hcj53 hj hcj hca).weak ?_
    rintro r v' ⟨rfl, q, g', mo', hf, k1, k2, k3, k4, k5⟩
    exact ⟨rfl, q, ⟨⟨mo', k1⟩, (by decide), (by decide), Or.inr ⟨by decide, g', k2, fun i hi => (by have hi0 : i = 0 := (by omega); subst hi0; rw [k4]; rfl)⟩⟩, Or.inr hf, k5.mono (fun _ _ z => Or.inl z)⟩
  · have hp10 : 10 ≤ zcp e := by obtain ⟨e', rfl⟩ : ∃ e', e = e' + 1 := ⟨e - 1, by omega⟩; exact zcp_pos e'
    have h244 := zcp_9 e h2
    by_cases hlt : n < zcp e
    · have hz : zde n e = 0 := by unfold zde; rw [if_pos hlt]
      rw [hz]
      refine (c_AL_add_0 l G v a arr n (zcp e) b g mo vs cj Cj Tj Nj h0 hg hlt (by omega) h99 hcj5 hcj53 hj hcj hca).weak ?_
      rintro r v' ⟨rfl, mo', k1, k2, k5⟩
      refine ⟨rfl, arr, ⟨⟨mo', k1⟩, (show n + 1 ≤ zcp e by omega), h2, Or.inr ⟨hpos, _, k2, fun i hi => ?_⟩⟩, Or.inl ⟨rfl, hpos⟩, k5.mono (fun _ _ z => z.elim Or.inl (fun y => Or.inr ⟨y.1, y.2, hpos⟩))⟩
      by_cases c : i = n
      · subst c; simp [va_up]
      · simp only [va_up, if_neg c]; exact hgf i (by omega)
    · have hz : zde n e = 1 := by unfold zde; rw [if_neg hlt]
      rw [hz]
      have hnc : n = zcp e := by omega
      have he8 := zcp_full h2 (by omega) hn
      have hs := zcp_s hpos
      have h9 := zcp_9 (e + 1) (by omega)
      subst hnc
      refine (c_AL_add_2 l G v a arr (zcp e) b g mo vs cj Cj Tj Nj h0 hg ⟨by omega, by omega⟩ (by omega) h99 hcj5 hcj53 hj hcj hca (fun i hi y hy => ?_)).weak ?_
      · rw [hgf i hi] at hy; cases hy; exact hel i hi
      · rintro r v' ⟨rfl, q, g', mo', hf, k1, k2, k3, k4, k5⟩
        refine ⟨rfl, q, ⟨⟨mo', k1⟩, (by omega), (by omega), Or.inr ⟨by omega, g', (by rw [hs]; exact k2), fun i hi => ?_⟩⟩, Or.inr hf, k5.mono (fun _ _ z => Or.inl z)⟩
        by_cases c : i = zcp e
        · subst c; rw [k4]; simp [va_up]
        · rw [k3 i (by omega), hgf i (by omega)]; simp only [va_up, if_neg c]
