/-- all that holds of the state between two calls -/
def zInv (S : zS) : Prop := zB S ∧ zB2 S ∧ zB3 S ∧ zB4 S ∧ zB4f S ∧ zB5 S ∧ zB6 S ∧ zB7 S ∧ zB8 S ∧ zB9 S ∧ zBs S
theorem zpf_same {S S' : zS} {a b : Int32} (h19 : ∀ i, zi S' 19 i = zi S 19 i) (h20 : ∀ i, zi S' 20 i = zi S 20 i) : ∀ n, zpf S' a b n = zpf S a b n := by
  intro n
  induction n with
  | zero => rfl
  | succ n ih => unfold zpf; rw [ih, h19, h20]
theorem zwc_le {S S' : zS} (h : ∀ n, zi S' 15 n = 0 → zi S 15 n = 0) : ∀ n, zwc S' n ≤ zwc S n := by
  intro n
  induction n with
  | zero => exact Nat.le_refl _
  | succ n ih =>
    unfold zwc
    by_cases c : zi S' 15 (n + 1) = 0
    · rw [if_pos c, if_pos (h _ c)]; omega
    · rw [if_neg c]; omega
theorem zInv.gen {S S' : zS} (h : zInv S) (hc : ∀ i, zc S' i = zc S i) (hi : ∀ f i, f ≠ 1 → f ≠ 2 → f ≠ 6 → f ≠ 7 → f ≠ 8 → f ≠ 15 → f ≠ 16 → f ≠ 17 → f ≠ 21 → f ≠ 31 → zi S' f i = zi S f i) (h15 : ∀ n, zi S' 15 n = 0 → zi S 15 n = 0) (h7 : zB7 S') (h8 : zB8 S') (h9 : zB9 S') : zInv S' := by
  obtain ⟨a0, a2, a3, a4, a4f, a5, a6, -, -, -, as⟩ := h
  have q : ∀ f i, f = 10 ∨ f = 11 ∨ f = 12 ∨ f = 19 ∨ f = 20 ∨ f = 22 ∨ f = 24 ∨ f = 29 → zi S' f i = zi S f i := fun f i hf => hi f i (by omega) (by omega) (by omega) (by omega) (by omega) (by omega) (by omega) (by omega) (by omega) (by omega)
  have hp : ∀ a b n, zpf S' a b n = zpf S a b n := fun a b n => zpf_same (fun i => q 19 i (by decide)) (fun i => q 20 i (by decide)) n
  refine ⟨a0.k (hc 0) (hc 1) (hc 2) (fun j => q 22 j (by decide)), fun n h1 h2 => ?_, ⟨?_, by rw [hc 1]; exact a3.2⟩, a4.k (hc 1) (hc 3) (fun j => q 24 j (by decide)), a4f.k (hc 1) (hc 4) (fun j => q 29 j (by decide)), fun n h1 h2 h3 => ?_, fun i j h1 h2 h3 h4 => ?_, h7, h8, h9, fun i h1 h2 => ?_⟩
  · rw [hc 0, q 10 n (by decide), q 12 n (by decide)]; rw [hc 1] at h2; exact a2 n h1 h2
  · have := zwc_le h15 (zc S 1)
    rw [hc 3, hc 4, hc 1]
    have := a3.1
    omega
  · rw [q 12 n (by decide)] at h3
    rw [hc 1] at h2
    rw [q 10 n (by decide), q 11 n (by decide), hp, hc 2]
    exact a5 n h1 h2 h3
  · rw [hc 2] at h1 h2
    rw [q 19 i (by decide), q 19 j (by decide)] at h3
    rw [q 20 i (by decide), q 20 j (by decide)] at h4
    exact a6 i j h1 h2 h3 h4
  · rw [hc 3] at h1
    rw [q 24 i (by decide)] at h2
    exact as i h1 (h15 _ h2)
theorem zB8.k {S S' : zS} (h : zB8 S) (hc : zc S' 0 = zc S 0) (hi : ∀ f i, f = 6 ∨ f = 7 ∨ f = 8 → zi S' f i = zi S f i) : zB8 S' := fun j hj => by
  rw [hi 6 j (by decide), hi 7 j (by decide)]
  rw [hc] at hj
  obtain ⟨h1, h2, h3⟩ := h j hj
  exact ⟨h1, h2, fun i hi32 => by rw [hi 8 _ (by decide)]; exact h3 i hi32⟩
theorem zB7.k {S S' : zS} (h : zB7 S) (hi : ∀ f i, f = 2 ∨ f = 8 → zi S' f i = zi S f i) : zB7 S' := ⟨fun i => by rw [hi 8 i (by decide)]; exact h.1 i, fun j => by rw [hi 2 j (by decide)]; exact h.2 j⟩
/-- the ranges, when all but some fields are as before -/
theorem zB9.k {S S' : zS} (h : zB9 S) (hi : ∀ f i, f = 5 ∨ f = 6 ∨ f = 7 ∨ f = 1 → zi S' f i = zi S f i) (h15 : ∀ n, zi S' 15 n = zi S 15 n ∨ zi S' 15 n = 0 ∨ zi S' 15 n = 1 ∨ zi S' 15 n = 2 ∨ zi S' 15 n = 3) (h14 : ∀ n, zl S' 14 n = zl S 14 n ∨ (-1 ≤ (zl S' 14 n).toInt ∧ (zl S' 14 n).toInt ≤ 1000000000)) (h13 : ∀ n, zl S' 13 n = zl S 13 n ∨ (0 ≤ (zl S' 13 n).toInt ∧ (zl S' 13 n).toInt ≤ 1000000000)) (h0 : zl S' 0 0 = zl S 0 0 ∨ (0 ≤ (zl S' 0 0).toInt ∧ (zl S' 0 0).toInt ≤ 1000000000)) : zB9 S' := by
  obtain ⟨a1, a2, a3, a4, a5, a6, a7⟩ := h
  refine ⟨fun n => ?_, fun n => ?_, ?_, fun n => ?_, fun n => ?_, ?_, fun n => ?_⟩
  · rcases h14 n with q | q
    · rw [q]; exact a1 n
    · exact q
  · rcases h13 n with q | q
    · rw [q]; exact a2 n
    · exact q
  · rcases h0 with q | q
    · rw [q]; exact a3
    · exact q
  · rw [hi 5 n (by decide)]; exact a4 n
  · rw [hi 6 n (by decide), hi 7 n (by decide)]; exact a5 n
  · rw [hi 1 0 (by decide)]; exact a6
  · rcases h15 n with q | q
    · rw [q]; exact a7 n
    · exact q
theorem zInv.fail {S : zS} (h : zInv S) {n : Nat} (h1 : 1 ≤ n) (h2 : n ≤ zc S 1) (h0 : zi S 15 n = 0) : zInv (zfail S n) := by
  obtain ⟨a0, a2, a3, a4, a4f, a5, a6, a7, a8, a9, as⟩ := h
  have q : ∀ f i, f ≠ 15 → f ≠ 29 → zi (zfail S n) f i = zi S f i := fun f i => zfail_i
  have hc : ∀ i, i ≠ 4 → zc (zfail S n) i = zc S i := fun i hh => by unfold zfail; rw [zc_uc, if_neg hh]; rfl
  have hc4 : zc (zfail S n) 4 = zc S 4 + 1 := by unfold zfail; rw [zc_uc, if_pos rfl]
  have hp : ∀ a b m, zpf (zfail S n) a b m = zpf S a b m := fun a b m => zpf_same (fun i => q 19 i (by decide) (by decide)) (fun i => q 20 i (by decide) (by decide)) m
  refine ⟨a0.k (hc 0 (by decide)) (hc 1 (by decide)) (hc 2 (by decide)) (fun j => q 22 j (by decide) (by decide)), fun m h1 h2 => ?_, ⟨?_, a3.2⟩, a4.k (hc 1 (by decide)) (hc 3 (by decide)) (fun j => q 24 j (by decide) (by decide)), fun i hi => ?_, fun m h1 h2 h3 => ?_, a6, a7.k (fun f i hf => q f i (by omega) (by omega)), a8.k (hc 0 (by decide)) (fun f i hf => q f i (by omega) (by omega)), a9.k (fun f i hf => q f i (by omega) (by omega)) (fun m => by rw [zfail_15]; split; exact Or.inr (Or.inr (Or.inr (Or.inl rfl))); exact Or.inl rfl) (fun _ => Or.inl rfl) (fun _ => Or.inl rfl) (Or.inl rfl), fun i hi => ?_⟩
  · rw [hc 0 (by decide), q 10 m (by decide) (by decide), q 12 m (by decide) (by decide)]; exact a2 m h1 h2
  · have e := zwc_set (S := S) (S' := zfail S n) (m := n) (x := 2) (by decide) h0 (fun i => zfail_15) (zc S 1) h1 h2
    have := a3.1
    rw [hc4, hc 3 (by decide), hc 1 (by decide)]
    omega
  · rw [hc4] at hi
    rw [zfail_29, hc 1 (by decide)]
    split
    · exact ⟨n, rfl, h1, h2⟩
    · exact a4f i (by omega)
  · rw [q 12 m (by decide) (by decide)] at h3
    rw [q 10 m (by decide) (by decide), q 11 m (by decide) (by decide), hp, hc 2 (by decide)]
    exact a5 m h1 h2 h3
  · rw [q 24 i (by decide) (by decide), zfail_15]
    split
    · decide
    · exact as i hi
theorem zInv.snd {S : zS} (h : zInv S) {n m : Nat} (h1 : 1 ≤ n) (h2 : n ≤ zc S 1) (h0 : zi S 15 n = 0) : zInv (zsnd S n m) := by
  obtain ⟨a0, a2, a3, a4, a4f, a5, a6, a7, a8, a9, as⟩ := h
  have q : ∀ f i, f ≠ 15 → f ≠ 31 → f ≠ 24 → f ≠ 25 → f ≠ 26 → zi (zsnd S n m) f i = zi S f i := fun f i => zsnd_i
  have hc : ∀ i, i ≠ 3 → zc (zsnd S n m) i = zc S i := fun i hh => by unfold zsnd; rw [zc_uc, if_neg hh]; rfl
  have hc4 : zc (zsnd S n m) 3 = zc S 3 + 1 := by unfold zsnd; rw [zc_uc, if_pos rfl]
  have hp : ∀ a b k, zpf (zsnd S n m) a b k = zpf S a b k := fun a b k => zpf_same (fun i => q 19 i (by decide) (by decide) (by decide) (by decide) (by decide)) (fun i => q 20 i (by decide) (by decide) (by decide) (by decide) (by decide)) k
  have hl : n < 2 ^ 31 := by have := a0.2.1; omega
  refine ⟨a0.k (hc 0 (by decide)) (hc 1 (by decide)) (hc 2 (by decide)) (fun j => q 22 j (by decide) (by decide) (by decide) (by decide) (by decide)), fun k h1 h2 => ?_, ⟨?_, a3.2⟩, fun i hi => ?_, a4f.k (hc 1 (by decide)) (hc 4 (by decide)) (fun j => q 29 j (by decide) (by decide) (by decide) (by decide) (by decide)), fun k h1 h2 h3 => ?_, a6, a7.k (fun f i hf => q f i (by omega) (by omega) (by omega) (by omega) (by omega)), a8.k (hc 0 (by decide)) (fun f i hf => q f i (by omega) (by omega) (by omega) (by omega) (by omega)), a9.k (fun f i hf => q f i (by omega) (by omega) (by omega) (by omega) (by omega)) (fun k => by rw [zsnd_15]; split; exact Or.inr (Or.inr (Or.inl rfl)); exact Or.inl rfl) (fun _ => Or.inl (zsnd_l (by decide))) (fun _ => Or.inl (zsnd_l (by decide))) (Or.inl (zsnd_l (by decide))), fun i hi => ?_⟩
  · rw [hc 0 (by decide), q 10 k (by decide) (by decide) (by decide) (by decide) (by decide), q 12 k (by decide) (by decide) (by decide) (by decide) (by decide)]; exact a2 k h1 h2
  · have e := zwc_set (S := S) (S' := zsnd S n m) (m := n) (x := 1) (by decide) h0 (fun i => zsnd_15) (zc S 1) h1 h2
    have := a3.1
    rw [hc4, hc 4 (by decide), hc 1 (by decide)]
    omega
  · rw [hc4] at hi
    rw [zsnd_24, hc 1 (by decide)]
    split
    · exact ⟨n, rfl, h1, h2⟩
    · exact a4 i (by omega)
  · rw [q 12 k (by decide) (by decide) (by decide) (by decide) (by decide)] at h3
    rw [q 10 k (by decide) (by decide) (by decide) (by decide) (by decide), q 11 k (by decide) (by decide) (by decide) (by decide) (by decide), hp, hc 2 (by decide)]
    exact a5 k h1 h2 h3
  · rw [hc4] at hi
    rw [zsnd_24, zsnd_15]
    by_cases c : i = zc S 3
    · rw [if_pos c, zn_nI hl, if_pos rfl]; decide
    · rw [if_neg c]
      split
      · decide
      · exact as i (by omega)
theorem zInv.step {S : zS} (h : zInv S) {n : Nat} (h1 : 1 ≤ n) (h2 : n ≤ zc S 1) : zInv (zstep S n) := by
  unfold zstep
  split
  · rename_i hw
    split
    · exact h.fail h1 h2 hw.1
    · exact h.snd h1 h2 hw.1
  · exact h
theorem zInv.r3 {S : zS} (h : zInv S) : ∀ j, j ≤ zc S 1 → zInv (zr3 S j) := by
  intro j
  induction j with
  | zero => intro _; exact h
  | succ j ih =>
    intro hj
    exact (ih (by omega)).step (by omega) (by rw [(zr3_k S j).1 1 (by decide) (by decide)]; omega)
theorem zInv.r12 {S : zS} (h : zInv S) {t : Int64} (ht : zTm S t) : zInv (ztick S t) := by
  obtain ⟨-, -, -, -, -, -, -, a7, a8, a9, -⟩ := id h
  have q : ∀ f i, f ≠ 31 → zi (ztick S t) f i = zi S f i := fun f i hf => by unfold ztick; rw [zr2_i, zr1_i _ _ _ _ hf]; rfl
  have hl : ∀ f i, f ≠ 30 → f ≠ 0 → zl (ztick S t) f i = zl S f i := fun f i hf h0 => by unfold ztick; rw [zr2_l _ _ _ _ hf, zr1_l _ _ _ _ hf, zl_ul, if_neg h0]
  have h00 : zl (ztick S t) 0 0 = t := by unfold ztick; rw [zr2_l _ _ _ _ (by decide), zr1_l _ _ _ _ (by decide), zl_ul, if_pos rfl, if_pos rfl]
  refine h.gen (fun i => by unfold ztick; rw [zr2_c, zr1_c]; rfl) (fun f i _ _ _ _ _ _ _ _ _ hf => q f i hf) (fun n hn => by rw [q 15 n (by decide)] at hn; exact hn) (a7.k (fun f i hf => q f i (by omega))) (a8.k (by unfold ztick; rw [zr2_c, zr1_c]; rfl) (fun f i hf => q f i (by omega))) (a9.k (fun f i hf => q f i (by omega)) (fun n => Or.inl (q 15 n (by decide))) (fun n => Or.inl (hl 14 n (by decide) (by decide))) (fun n => Or.inl (hl 13 n (by decide) (by decide))) (Or.inr ?_))
  rw [h00]
  have := a9.2.2.1
  obtain ⟨t1, t2⟩ := ht
  omega
theorem zr3_15 (S : zS) : ∀ j n, j < n → zi (zr3 S j) 15 n = zi S 15 n := by
  intro j
  induction j with
  | zero => intro n _; rfl
  | succ j ih =>
    intro n hn
    show zi (zstep (zr3 S j) (j + 1)) 15 n = _
    unfold zstep
    split
    · split
      · rw [zfail_15, if_neg (by omega)]; exact ih n (by omega)
      · rw [zsnd_15, if_neg (by omega)]; exact ih n (by omega)
    · exact ih n (by omega)
theorem zstep_dlv {S : zS} {n : Nat} (h : zi S 15 n = 0 ∧ zdue S n) : zstep S n = zdlv S n := by
  unfold zstep; rw [if_pos h]; rfl
theorem tX_Y {S : zS} {cw : Nat} {oa : Nat → Nat} (k x : Nat) (h : tX k x) : cYY S cw oa k x := by
  unfold tX at h
  unfold cYY
  omega
