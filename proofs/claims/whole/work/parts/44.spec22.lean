theorem zInv.u22 {S : zS} (h : zInv S) {k n : Nat} (hn : n ≤ zc S 1) : zInv (zui S 22 k (nI n)) := by
  obtain ⟨a0, a2, a3, a4, a4f, a5, a6, a7, a8, a9, as⟩ := h
  have q : ∀ f i, f ≠ 22 → zi (zui S 22 k (nI n)) f i = zi S f i := fun f i hf => by rw [zi_ui, if_neg hf]
  have hp : ∀ a b m, zpf (zui S 22 k (nI n)) a b m = zpf S a b m := fun a b m => zpf_ui (by decide) (by decide)
  refine ⟨⟨a0.1, a0.2.1, a0.2.2.1, fun j hj => ?_⟩, fun m h1 h2 => ?_, ⟨?_, a3.2⟩, a4.k rfl rfl (fun j => q 24 j (by decide)), a4f.k rfl rfl (fun j => q 29 j (by decide)), fun m h1 h2 h3 => ?_, fun i j h1 h2 h3 h4 => ?_, a7.k (fun f i hf => q f i (by omega)), a8.k rfl (fun f i hf => q f i (by omega)), a9.k (fun f i hf => q f i (by omega)) (fun m => Or.inl (q 15 m (by decide))) (fun _ => Or.inl rfl) (fun _ => Or.inl rfl) (Or.inl rfl), fun i hi => ?_⟩
  · rw [zi_ui, if_pos rfl]
    split
    · exact ⟨n, hn, rfl⟩
    · exact a0.2.2.2 j hj
  · rw [q 10 m (by decide), q 12 m (by decide)]; exact a2 m h1 h2
  · have := zwc_le (S := S) (S' := zui S 22 k (nI n)) (fun m hm => by rw [q 15 m (by decide)] at hm; exact hm) (zc S 1)
    have := a3.1
    show zc S 3 + zc S 4 + zwc (zui S 22 k (nI n)) (zc S 1) ≤ zc S 1
    omega
  · rw [q 12 m (by decide)] at h3
    rw [q 10 m (by decide), q 11 m (by decide), hp]
    exact a5 m h1 h2 h3
  · rw [q 19 i (by decide), q 19 j (by decide)] at h3
    rw [q 20 i (by decide), q 20 j (by decide)] at h4
    exact a6 i j h1 h2 h3 h4
  · rw [q 24 i (by decide), q 15 _ (by decide)]
    exact as i hi
theorem zpf_lts {S S' : zS} {a b : Int32} : ∀ n, (∀ i, i < n → zi S' 19 i = zi S 19 i ∧ zi S' 20 i = zi S 20 i) → zpf S' a b n = zpf S a b n := by
  intro n
  induction n with
  | zero => intro _; rfl
  | succ n ih =>
    intro h
    unfold zpf
    rw [ih (fun i hi => h i (by omega)), (h n (by omega)).1, (h n (by omega)).2]
theorem zpf_non {S : zS} {a b : Int32} : ∀ n, zpf S a b n = none → ∀ j, j < n → ¬ (zi S 19 j = a ∧ zi S 20 j = b) := by
  intro n
  induction n with
  | zero => intro _ j hj; omega
  | succ n ih =>
    intro h j hj
    unfold zpf at h
    split at h
    · cases h
    · rename_i hne
      by_cases c : j = n
      · subst c; exact hne
      · exact ih h j (by omega)
theorem zInv.adI {S : zS} (h : zInv S) {x it : Int32} (h2 : zc S 2 ≤ 59) (hp : zpf S x it (zc S 2) = none) : zInv (zadI S x it) := by
  obtain ⟨a0, a2, a3, a4, a4f, a5, a6, a7, a8, a9, as⟩ := h
  have q : ∀ f i, f ≠ 19 ∧ f ≠ 20 ∧ f ≠ 21 ∧ f ≠ 22 → zi (zadI S x it) f i = zi S f i := fun f i hf => zadI_i (Or.inr hf)
  have e19 : zi (zadI S x it) 19 (zc S 2) = x := by unfold zadI; simp [zi_uc, zi_ui]
  have e20 : zi (zadI S x it) 20 (zc S 2) = it := by unfold zadI; simp [zi_uc, zi_ui]
  have hq : ∀ a b, zpf (zadI S x it) a b (zc S 2) = zpf S a b (zc S 2) := fun a b => zpf_lts _ (fun i hi => ⟨zadI_i (Or.inl (by omega)), zadI_i (Or.inl (by omega))⟩)
  refine ⟨a0.adI h2, fun m h1 h2 => ?_, ⟨?_, a3.2⟩, a4.k rfl rfl (fun j => q 24 j (by decide)), a4f.k rfl rfl (fun j => q 29 j (by decide)), fun m h1 h2 h3 => ?_, fun i j h1 h2 h3 h4 => ?_, a7.k (fun f i hf => q f i (by omega)), a8.k rfl (fun f i hf => q f i (by omega)), a9.k (fun f i hf => q f i (by omega)) (fun m => Or.inl (q 15 m (by decide))) (fun _ => Or.inl rfl) (fun _ => Or.inl rfl) (Or.inl rfl), fun i hi => ?_⟩
  · rw [q 10 m (by decide), q 12 m (by decide)]; exact a2 m h1 h2
  · have := zwc_le (S := S) (S' := zadI S x it) (fun m hm => by rw [q 15 m (by decide)] at hm; exact hm) (zc S 1)
    have := a3.1
    show zc S 3 + zc S 4 + zwc (zadI S x it) (zc S 1) ≤ zc S 1
    omega
  · rw [q 12 m (by decide)] at h3
    rw [q 10 m (by decide), q 11 m (by decide)]
    show ∃ j, zpf (zadI S x it) (zi S 10 m) (zi S 11 m) (zc S 2 + 1) = some j
    unfold zpf
    split
    · exact ⟨_, rfl⟩
    · rw [hq]; exact a5 m h1 h2 h3
  · have h1 : i < zc S 2 + 1 := h1
    have h2' : j < zc S 2 + 1 := h2
    have hno := zpf_non _ hp
    by_cases c1 : i = zc S 2
    · by_cases c2 : j = zc S 2
      · rw [c1, c2]
      · rw [c1, e19, zadI_i (Or.inl c2)] at h3
        rw [c1, e20, zadI_i (Or.inl c2)] at h4
        exact absurd ⟨h3.symm, h4.symm⟩ (hno j (by omega))
    · by_cases c2 : j = zc S 2
      · rw [c2, e19, zadI_i (Or.inl c1)] at h3
        rw [c2, e20, zadI_i (Or.inl c1)] at h4
        exact absurd ⟨h3, h4⟩ (hno i (by omega))
      · rw [zadI_i (Or.inl c1), zadI_i (Or.inl c2)] at h3 h4
        exact a6 i j (by omega) (by omega) h3 h4
  · rw [q 24 i (by decide), q 15 _ (by decide)]
    exact as i hi
theorem zput_at {S : zS} {x it kd : Int32} {t w : Int64} {cr : Int32} : zi (zput S x it kd t w cr) 10 (zc S 1 + 1) = x ∧ zi (zput S x it kd t w cr) 11 (zc S 1 + 1) = it ∧ zi (zput S x it kd t w cr) 12 (zc S 1 + 1) = kd ∧ zi (zput S x it kd t w cr) 15 (zc S 1 + 1) = 0 ∧ zl (zput S x it kd t w cr) 13 (zc S 1 + 1) = t := by
  unfold zput
  simp [zi_ui, zi_ul, zi_uc, zl_ui, zl_ul, zl_uc]
theorem zInv.put {S : zS} (h : zInv S) {x it kd : Int32} {t w : Int64} {cr : Int32} (hx : ∃ c : Nat, x = nI c ∧ 1 ≤ c ∧ c ≤ zc S 0) (hk : ∃ k : Nat, kd = nI k ∧ k ≤ 7) (hn : zc S 1 ≤ 199) (ht : 0 ≤ t.toInt ∧ t.toInt ≤ 1000000000) (hw : -1 ≤ w.toInt ∧ w.toInt ≤ 1000000000) (hE : zE kd → ∃ j, zpf S x it (zc S 2) = some j) : zInv (zput S x it kd t w cr) := by
  obtain ⟨a0, a2, a3, a4, a4f, a5, a6, a7, a8, a9, as⟩ := h
  obtain ⟨v10, v11, v12, v15, v13⟩ := zput_at (S := S) (x := x) (it := it) (kd := kd) (t := t) (w := w) (cr := cr)
  have q : ∀ f i, f ≠ 10 ∧ f ≠ 11 ∧ f ≠ 12 ∧ f ≠ 15 ∧ f ≠ 16 ∧ f ≠ 17 → zi (zput S x it kd t w cr) f i = zi S f i := fun f i hf => zput_i (Or.inr hf)
  have qn : ∀ f i, i ≠ zc S 1 + 1 → zi (zput S x it kd t w cr) f i = zi S f i := fun f i hf => zput_i (Or.inl hf)
  refine ⟨⟨a0.1, (show zc S 1 + 1 ≤ 200 by omega), a0.2.2.1, fun j hj => ?_⟩, fun m h1 h2 => ?_, ⟨?_, (show zc S 1 + 1 ≤ 200 by omega)⟩, fun i hi => ?_, fun i hi => ?_, fun m h1 h2 h3 => ?_, fun i j h1 h2 h3 h4 => ?_, a7.k (fun f i hf => q f i (by omega)), a8.k rfl (fun f i hf => q f i (by omega)), a9.k (fun f i hf => q f i (by omega)) (fun m => ?_) (fun m => ?_) (fun m => ?_) (Or.inl (zput_l (Or.inr (by decide)))), fun i hi => ?_⟩
  · obtain ⟨n, h1, h2⟩ := a0.2.2.2 j hj
    exact ⟨n, (show n ≤ zc S 1 + 1 by omega), by rw [q 22 j (by decide)]; exact h2⟩
  · have h2 : m ≤ zc S 1 + 1 := h2
    by_cases c : m = zc S 1 + 1
    · subst c
      rw [v10, v12]
      obtain ⟨c, e1, e2, e3⟩ := hx
      obtain ⟨k, e4, e5⟩ := hk
      exact ⟨c, k, e1, e2, e3, e4, e5⟩
    · rw [qn 10 m c, qn 12 m c]; exact a2 m h1 (by omega)
  · have e := zwc_eq (S := S) (S' := zput S x it kd t w cr) (n := zc S 1) (fun i _ h2 => qn 15 i (by omega))
    have := a3.1
    show zc S 3 + zc S 4 + (zwc (zput S x it kd t w cr) (zc S 1) + _) ≤ zc S 1 + 1
    rw [e]
    split <;> omega
  · obtain ⟨n, h1, h2, h3⟩ := a4 i hi
    exact ⟨n, by rw [q 24 i (by decide)]; exact h1, h2, (show n ≤ zc S 1 + 1 by omega)⟩
  · obtain ⟨n, h1, h2, h3⟩ := a4f i hi
    exact ⟨n, by rw [q 29 i (by decide)]; exact h1, h2, (show n ≤ zc S 1 + 1 by omega)⟩
  · have h2 : m ≤ zc S 1 + 1 := h2
    show ∃ j, zpf (zput S x it kd t w cr) _ _ (zc S 2) = some j
    rw [zpf_put]
    by_cases c : m = zc S 1 + 1
    · subst c
      rw [v12] at h3
      rw [v10, v11]
      exact hE h3
    · rw [qn 12 m c] at h3
      rw [qn 10 m c, qn 11 m c]
      exact a5 m h1 (by omega) h3
  · rw [q 19 i (by decide), q 19 j (by decide)] at h3
    rw [q 20 i (by decide), q 20 j (by decide)] at h4
    exact a6 i j h1 h2 h3 h4
  · by_cases c : m = zc S 1 + 1
    · subst c; exact Or.inr (Or.inl v15)
    · exact Or.inl (qn 15 m c)
  · by_cases c : m = zc S 1 + 1
    · subst c; rw [zput_14]; exact Or.inr hw
    · exact Or.inl (zput_l (Or.inl c))
  · by_cases c : m = zc S 1 + 1
    · subst c; rw [v13]; exact Or.inr ht
    · exact Or.inl (zput_l (Or.inl c))
  · obtain ⟨n, h1, h2, h3⟩ := a4 i hi
    have as := as i hi
    rw [q 24 i (by decide)]
    rw [h1, zn_nI (by omega)] at as ⊢
    rw [qn 15 n (by omega)]
    exact as
theorem zInv.adK {S : zS} (h : zInv S) {a b : Int32} (hn : zc S 0 ≤ 39) (hb : zIn b (-12) 14) : zInv (zadK S a b) := by
  obtain ⟨a0, a2, a3, a4, a4f, a5, a6, a7, a8, a9, as⟩ := h
  have q : ∀ f i, f ≠ 4 → f ≠ 5 → zi (zadK S a b) f i = zi S f i := fun f i h4 h5 => by
    unfold zadK
    rw [zi_ui, if_neg h5, zi_ui, if_neg h4, zi_uc]
  refine ⟨⟨(show zc S 0 + 1 ≤ 40 by omega), a0.2.1, a0.2.2.1, fun j hj => ?_⟩, fun m h1 h2 => ?_, ⟨?_, a3.2⟩, a4.k rfl rfl (fun j => q 24 j (by decide) (by decide)), a4f.k rfl rfl (fun j => q 29 j (by decide) (by decide)), fun m h1 h2 h3 => ?_, fun i j h1 h2 h3 h4 => ?_, a7.k (fun f i hf => q f i (by omega) (by omega)), fun j hj => ?_, ?_, fun i hi => ?_⟩
  · rw [q 22 j (by decide) (by decide)]; exact a0.2.2.2 j hj
  · obtain ⟨c, k, e1, e2, e3, e4, e5⟩ := a2 m h1 h2
    rw [q 10 m (by decide) (by decide), q 12 m (by decide) (by decide)]
    exact ⟨c, k, e1, e2, (show c ≤ zc S 0 + 1 by omega), e4, e5⟩
  · have := zwc_le (S := S) (S' := zadK S a b) (fun m hm => by rw [q 15 m (by decide) (by decide)] at hm; exact hm) (zc S 1)
    have := a3.1
    show zc S 3 + zc S 4 + zwc (zadK S a b) (zc S 1) ≤ zc S 1
    omega
  · rw [q 12 m (by decide) (by decide)] at h3
    rw [q 10 m (by decide) (by decide), q 11 m (by decide) (by decide), zpf_same (fun i => q 19 i (by decide) (by decide)) (fun i => q 20 i (by decide) (by decide))]
    exact a5 m h1 h2 h3
  · rw [q 19 i (by decide) (by decide), q 19 j (by decide) (by decide)] at h3
    rw [q 20 i (by decide) (by decide), q 20 j (by decide) (by decide)] at h4
    exact a6 i j h1 h2 h3 h4
  · have hj : zc S 0 + 1 < j := hj
    obtain ⟨h1, h2, h3⟩ := a8 j (by omega)
    exact ⟨by rw [q 6 j (by decide) (by decide)]; exact h1, by rw [q 7 j (by decide) (by decide)]; exact h2, fun i hi => by rw [q 8 _ (by decide) (by decide)]; exact h3 i hi⟩
  · obtain ⟨b1, b2, b3, b4, b5, b6, b7⟩ := a9
    refine ⟨b1, b2, b3, fun j => ?_, fun j => ?_, ?_, fun n => ?_⟩
    · unfold zadK
      rw [zi_ui, if_pos rfl]
      split
      · exact hb
      · rw [zi_ui, if_neg (by decide)]; exact b4 j
    · rw [q 6 j (by decide) (by decide), q 7 j (by decide) (by decide)]; exact b5 j
    · rw [q 1 0 (by decide) (by decide)]; exact b6
    · rw [q 15 n (by decide) (by decide)]; exact b7 n
  · rw [q 24 i (by decide) (by decide), q 15 _ (by decide) (by decide)]
    exact as i hi
