theorem inv_z0 : zInv z0 := by
  refine ⟨⟨by decide, by decide, by decide, fun j hj => absurd hj (Nat.not_lt_zero _)⟩, fun n h1 h2 => absurd h2 (Nat.not_le.mpr h1), ⟨by decide, by decide⟩, fun i hi => absurd hi (Nat.not_lt_zero _), fun i hi => absurd hi (Nat.not_lt_zero _), fun n h1 h2 => absurd h2 (Nat.not_le.mpr h1), fun i j hi => absurd hi (Nat.not_lt_zero _), ⟨fun _ => Or.inl rfl, fun _ => Or.inl rfl⟩, fun j _ => ⟨rfl, rfl, fun _ _ => rfl⟩, ⟨fun _ => (by decide : -1 ≤ (0 : Int64).toInt ∧ (0 : Int64).toInt ≤ 1000000000), fun _ => (by decide : 0 ≤ (0 : Int64).toInt ∧ (0 : Int64).toInt ≤ 1000000000), (by decide : 0 ≤ (0 : Int64).toInt ∧ (0 : Int64).toInt ≤ 1000000000), fun _ => (by decide : zIn 0 (-12) 14), fun _ => (by decide : zIn 0 0 1439 ∧ zIn 0 0 1439), (by decide : zIn 0 0 1440), fun _ => Or.inl rfl⟩, fun i hi => absurd hi (Nat.not_lt_zero _)⟩
theorem inv_cust {S : zS} (h : zInv S) (a b : Int32) : zInv (oCust S a b).2 := by
  unfold oCust
  split
  · rename_i hz
    split
    · exact h
    · exact h.adK (by have := h.1.1; omega) hz.2
  · exact h
theorem zI_n {x : Int32} {N : Nat} (h : zIn x 1 N) : 1 ≤ zn x ∧ zn x ≤ N ∧ x = nI (zn x) := by
  obtain ⟨n, rfl, h1, h2, h3⟩ := zIn_nI (a := 1) (b := N) h
  rw [zn_nI h3]
  exact ⟨h1, h2, rfl⟩
theorem zI_0 {x : Int32} {N : Nat} (h : zIn x 0 N) : zn x ≤ N ∧ x = nI (zn x) := by
  obtain ⟨n, rfl, h1, h2, h3⟩ := zIn_nI (a := 0) (b := N) h
  rw [zn_nI h3]
  exact ⟨h2, rfl⟩
theorem inv_8 {S : zS} (h : zInv S) {c i : Nat} {x : Int32} (hc : c ≤ zc S 0) (hi : 32 * c ≤ i ∧ i < 32 * c + 32) (hx : x = 0 ∨ ∃ n : Nat, n ≤ 9 ∧ x = nI (n + 1)) : zInv (zui S 8 i x) := by
  obtain ⟨-, -, -, -, -, -, -, a7, a8, a9, -⟩ := id h
  have q : ∀ f i', f ≠ 8 → zi (zui S 8 i x) f i' = zi S f i' := fun f i' hf => by rw [zi_ui, if_neg hf]
  refine h.gen (fun _ => rfl) (fun f i' _ _ _ _ h8 _ _ _ _ _ => q f i' h8) (fun n hn => by rw [q 15 n (by decide)] at hn; exact hn) ⟨fun j => ?_, fun j => by rw [q 2 j (by decide)]; exact a7.2 j⟩ (fun j hj => ?_) (a9.k (fun f i hf => q f i (by omega)) (fun n => Or.inl (q 15 n (by decide))) (fun _ => Or.inl rfl) (fun _ => Or.inl rfl) (Or.inl rfl))
  · rw [zi_ui, if_pos rfl]
    split
    · exact hx
    · exact a7.1 j
  · have hj : zc S 0 < j := hj
    obtain ⟨h1, h2, h3⟩ := a8 j hj
    exact ⟨by rw [q 6 j (by decide)]; exact h1, by rw [q 7 j (by decide)]; exact h2, fun k hk => by rw [zi_ui, if_pos rfl, if_neg (by omega)]; exact h3 k hk⟩
theorem inv_wish {S : zS} (h : zInv S) (x k ch od : Int32) : zInv (oWish S x k ch od).2 := by
  unfold oWish
  split
  · rename_i hx
    split
    · rename_i hz
      obtain ⟨x1, x2, -⟩ := zI_n hx
      obtain ⟨k2, -⟩ := zI_0 (N := 7) hz.1
      obtain ⟨c2, -⟩ := zI_0 (N := 3) hz.2.1
      obtain ⟨o2, oe⟩ := zI_0 (N := 9) hz.2.2
      exact inv_8 h (c := zn x) x2 (by omega) (Or.inr ⟨zn od, o2, by rw [← nI_1 (zn od), ← oe]⟩)
    · exact h
  · exact h
theorem inv_quiet {S : zS} (h : zInv S) (x a b : Int32) : zInv (oQuiet S x a b).2 := by
  unfold oQuiet
  split
  · rename_i hx
    split
    · rename_i hz
      obtain ⟨x1, x2, -⟩ := zI_n hx
      obtain ⟨-, -, -, -, -, -, -, a7, a8, a9, -⟩ := id h
      have q : ∀ f i, f ≠ 6 → f ≠ 7 → zi (zui (zui S 6 (zn x) a) 7 (zn x) b) f i = zi S f i := fun f i h6 h7 => by rw [zi_ui, if_neg h7, zi_ui, if_neg h6]
      have q6 : ∀ i, zi (zui (zui S 6 (zn x) a) 7 (zn x) b) 6 i = if i = zn x then a else zi S 6 i := fun i => by rw [zi_ui, if_neg (by decide), zi_ui, if_pos rfl]
      have q7 : ∀ i, zi (zui (zui S 6 (zn x) a) 7 (zn x) b) 7 i = if i = zn x then b else zi S 7 i := fun i => by rw [zi_ui, if_pos rfl]; rfl
      refine h.gen (fun _ => rfl) (fun f i _ _ h6 h7 _ _ _ _ _ _ => q f i h6 h7) (fun n hn => by rw [q 15 n (by decide) (by decide)] at hn; exact hn) (a7.k (fun f i hf => q f i (by omega) (by omega))) (fun j hj => ?_) ?_
      · have hj : zc S 0 < j := hj
        obtain ⟨h1, h2, h3⟩ := a8 j hj
        exact ⟨by rw [q6, if_neg (by omega)]; exact h1, by rw [q7, if_neg (by omega)]; exact h2, fun k hk => by rw [q 8 _ (by decide) (by decide)]; exact h3 k hk⟩
      · obtain ⟨b1, b2, b3, b4, b5, b6, b7⟩ := a9
        refine ⟨b1, b2, b3, fun j => ?_, fun j => ?_, ?_, fun n => ?_⟩
        · rw [q 5 j (by decide) (by decide)]; exact b4 j
        · rw [q6, q7]
          split
          · exact hz
          · exact b5 j
        · rw [q 1 0 (by decide) (by decide)]; exact b6
        · rw [q 15 n (by decide) (by decide)]; exact b7 n
    · exact h
  · exact h
theorem inv_join {S : zS} (h : zInv S) (a : Int32) : zInv (oJoin S a).2 := by
  unfold oJoin
  split
  · rename_i hz
    obtain ⟨-, -, -, -, -, -, -, a7, a8, a9, -⟩ := id h
    have q : ∀ f i, f ≠ 1 → zi (zui S 1 0 a) f i = zi S f i := fun f i hf => by rw [zi_ui, if_neg hf]
    refine h.gen (fun _ => rfl) (fun f i h1 _ _ _ _ _ _ _ _ _ => q f i h1) (fun n hn => by rw [q 15 n (by decide)] at hn; exact hn) (a7.k (fun f i hf => q f i (by omega))) (a8.k rfl (fun f i hf => q f i (by omega))) ?_
    obtain ⟨b1, b2, b3, b4, b5, b6, b7⟩ := a9
    refine ⟨b1, b2, b3, fun j => ?_, fun j => ?_, ?_, fun n => ?_⟩
    · rw [q 5 j (by decide)]; exact b4 j
    · rw [q 6 j (by decide), q 7 j (by decide)]; exact b5 j
    · rw [zi_ui, if_pos rfl, if_pos rfl]; exact hz
    · rw [q 15 n (by decide)]; exact b7 n
  · exact h
theorem inv_works {S : zS} (h : zInv S) (ch on : Int32) (hon : on = 0 ∨ on = 1) : zInv (oWorks S ch on).2 := by
  unfold oWorks
  split
  · obtain ⟨-, -, -, -, -, -, -, a7, a8, a9, -⟩ := id h
    have q : ∀ f i, f ≠ 2 → zi (zui S 2 (zn ch) (1 - on)) f i = zi S f i := fun f i hf => by rw [zi_ui, if_neg hf]
    refine h.gen (fun _ => rfl) (fun f i _ h2 _ _ _ _ _ _ _ _ => q f i h2) (fun n hn => by rw [q 15 n (by decide)] at hn; exact hn) ⟨fun i => by rw [q 8 i (by decide)]; exact a7.1 i, fun j => ?_⟩ (a8.k rfl (fun f i hf => q f i (by omega))) (a9.k (fun f i hf => q f i (by omega)) (fun n => Or.inl (q 15 n (by decide))) (fun _ => Or.inl rfl) (fun _ => Or.inl rfl) (Or.inl rfl))
    rw [zi_ui, if_pos rfl]
    split
    · rcases hon with rfl | rfl <;> decide
    · exact a7.2 j
  · exact h
theorem inv_tick {S : zS} (h : zInv S) (t : Int64) : zInv (oTick S t).2 := by
  unfold oTick
  split
  · rename_i ht
    exact (h.r12 ht).r3 _ (by unfold ztick; rw [zr2_c, zr1_c]; exact Nat.le_refl _)
  · exact h
/-- 15, 16, 17, 21 written -/
theorem inv_s {S : zS} (h : zInv S) {f i : Nat} {x : Int32} (hf : f = 17 ∨ f = 21 ∨ (f = 15 ∧ x = 3)) : zInv (zui S f i x) := by
  obtain ⟨-, -, -, -, -, -, -, a7, a8, a9, -⟩ := id h
  have q : ∀ g i', g ≠ f → zi (zui S f i x) g i' = zi S g i' := fun g i' hg => by rw [zi_ui, if_neg hg]
  have q15 : ∀ n, zi (zui S f i x) 15 n = zi S 15 n ∨ zi (zui S f i x) 15 n = 3 := fun n => by
    by_cases c : f = 15
    · rcases hf with e | e | ⟨-, e⟩
      · omega
      · omega
      · subst c; subst e
        rw [zi_ui, if_pos rfl]
        split
        · exact Or.inr rfl
        · exact Or.inl rfl
    · exact Or.inl (q 15 n (fun z => c z.symm))
  refine h.gen (fun _ => rfl) (fun g i' _ _ _ _ _ h15 _ h17 h21 _ => q g i' (by omega)) (fun n hn => ?_) (a7.k (fun g i' hg => q g i' (by omega))) (a8.k rfl (fun g i' hg => q g i' (by omega))) (a9.k (fun g i' hg => q g i' (by omega)) (fun n => (q15 n).imp id (fun z => Or.inr (Or.inr (Or.inr z)))) (fun _ => Or.inl rfl) (fun _ => Or.inl rfl) (Or.inl rfl))
  rcases q15 n with e | e
  · rw [e] at hn; exact hn
  · rw [e] at hn; exact absurd hn (by decide)
theorem inv_undo {S : zS} (h : zInv S) (n : Nat) : zInv (zundo S n) := by
  unfold zundo
  split
  · split
    · exact inv_s h (Or.inr (Or.inl rfl))
    · exact h
  · exact h
theorem inv_o1 {S : zS} (h : zInv S) {c b : Nat} (hc : c ≤ zc S 0) (hb : 32 * c ≤ b) : ∀ j, b + j ≤ 32 * c + 32 → zInv (zo1 S b j) := by
  intro j
  induction j with
  | zero => intro _; exact h
  | succ j ih =>
    intro hj
    exact inv_8 (ih (by omega)) (c := c) (by rw [zo1_c]; exact hc) (by omega) (Or.inl rfl)
theorem inv_o2 {S : zS} (h : zInv S) (x k : Int32) : ∀ j, zInv (zo2 S x k j) := by
  intro j
  induction j with
  | zero => exact h
  | succ j ih =>
    unfold zo2
    split
    · exact inv_s ih (Or.inr (Or.inr ⟨rfl, rfl⟩))
    · exact ih
theorem inv_out {S : zS} (h : zInv S) (x k : Int32) : zInv (oOut S x k).2 := by
  unfold oOut
  split
  · rename_i hx
    split
    · rename_i hz
      obtain ⟨x1, x2, -⟩ := zI_n hx
      obtain ⟨k2, -⟩ := zI_0 (N := 7) hz
      exact inv_o2 (inv_o1 h (c := zn x) x2 (by omega) 4 (by omega)) x k _
    · exact h
  · exact h
theorem zt_r {S : zS} (h : zInv S) {t : Int64} (ht : zTm S t) : 0 ≤ t.toInt ∧ t.toInt ≤ 1000000000 := by
  have := h.2.2.2.2.2.2.2.2.2.1.2.2.1
  obtain ⟨t1, t2⟩ := ht
  omega
theorem inv_corr {S : zS} (h : zInv S) (x : Int32) (t : Int64) : zInv (oCorr S x t).2 := by
  unfold oCorr
  split
  · rename_i hx
    obtain ⟨x1, x2, -⟩ := zI_n hx
    split
    · rename_i ht
      split
      · exact h
      · split
        · exact inv_undo (inv_s h (Or.inr (Or.inr ⟨rfl, rfl⟩))) _
        · split
          · exact h
          · rename_i hfull
            split
            · rename_i hw
              obtain ⟨c, k, e10, h1, h2, e12, h7⟩ := h.2.1 (zn x) x1 x2
              have hu := inv_undo (inv_s h (f := 17) (i := zn x) (x := 1) (Or.inl rfl)) (zn x)
              have hc : ∀ i, zc (zundo (zui S 17 (zn x) 1) (zn x)) i = zc S i := fun i => by rw [zundo_c]; rfl
              refine hu.put ⟨c, e10, h1, by rw [hc]; exact h2⟩ ⟨k, e12, h7⟩ (by rw [hc]; have := h.1.2.1; omega) (zt_r h ht) (by decide) (fun hE => ?_)
              obtain ⟨j, hj⟩ := h.2.2.2.2.2.1 (zn x) x1 x2 hE
              refine ⟨j, ?_⟩
              rw [hc, ← hj]
              exact zpf_same (fun i => by rw [zundo_i _ _ _ _ (by decide), zi_ui, if_neg (by decide)]) (fun i => by rw [zundo_i _ _ _ _ (by decide), zi_ui, if_neg (by decide)]) _
            · exact inv_undo (inv_s h (Or.inl rfl)) _
    · exact h
  · exact h
theorem zpf_adI {S : zS} {x it : Int32} (hp : zpf S x it (zc S 2) = none) : zpf (zadI S x it) x it (zc S 2 + 1) = some (zc S 2) := by
  have e19 : zi (zadI S x it) 19 (zc S 2) = x := by unfold zadI; simp [zi_uc, zi_ui]
  have e20 : zi (zadI S x it) 20 (zc S 2) = it := by unfold zadI; simp [zi_uc, zi_ui]
  unfold zpf
  rw [if_pos ⟨e19, e20⟩]
theorem inv_event {S : zS} (h : zInv S) (x it k : Int32) (t : Int64) : zInv (oEvent S x it k t).2 := by
  unfold oEvent
  split
  · rename_i hx
    obtain ⟨x1, x2, xe⟩ := zI_n hx
    split
    · rename_i hz
      obtain ⟨k2, ke⟩ := zI_0 (N := 7) hz.2.1
      split
      · split
        · exact h
        · rename_i hfull
          have hend : zInv (zendS S x it k) ∧ zc (zendS S x it k) 0 = zc S 0 ∧ zc (zendS S x it k) 1 = zc S 1 ∧ (zE k → ∃ j, zpf (zendS S x it k) x it (zc (zendS S x it k) 2) = some j) := by
            unfold zendS
            by_cases hE : zE k
            · rw [if_pos hE]
              cases hp : zpf S x it (zc S 2) with
              | none =>
                rw [zkeep_n hp, zkix_n hp]
                refine ⟨inv_s (h.adI ?_ hp) (Or.inr (Or.inl rfl)), rfl, rfl, fun _ => ⟨zc S 2, ?_⟩⟩
                · have := h.1.2.2.1
                  have : ¬ zc S 2 = 60 := fun z => hfull (Or.inr ⟨hE, hp, z⟩)
                  omega
                · rw [zpf_ui (by decide) (by decide)]; exact zpf_adI hp
              | some j =>
                rw [zkeep_s hp, zkix_s hp]
                exact ⟨inv_s h (Or.inr (Or.inl rfl)), rfl, rfl, fun _ => ⟨j, by rw [zpf_ui (by decide) (by decide)]; exact hp⟩⟩
            · rw [if_neg hE]
              exact ⟨h, rfl, rfl, fun z => absurd z hE⟩
          obtain ⟨h1, h2, h3, h4⟩ := hend
          split
          · rename_i hw
            refine h1.put ⟨zn x, xe, x1, by rw [h2]; exact x2⟩ ⟨zn k, ke, k2⟩ ?_ (zt_r h hz.2.2) (by decide) h4
            have := h.1.2.1
            have : ¬ zc S 1 = 200 := fun z => hfull (Or.inl ⟨hw, z⟩)
            omega
          · exact h1
      · exact h
    · exact h
  · exact h
theorem inv_prom {S : zS} (h : zInv S) (x it : Int32) (w b : Int64) : zInv (oProm S x it w b).2 := by
  unfold oProm
  split
  · rename_i hx
    obtain ⟨x1, x2, xe⟩ := zI_n hx
    split
    · rename_i hz
      split
      · split
        · exact h
        · split
          · obtain ⟨-, -, -, -, -, -, -, a7, a8, a9, -⟩ := id h
            refine h.gen (fun _ => rfl) (fun _ _ _ _ _ _ _ _ _ _ _ _ => rfl) (fun n hn => hn) a7 a8 (a9.k (fun _ _ _ => rfl) (fun _ => Or.inl rfl) (fun n => ?_) (fun n => Or.inl (by rw [zl_ul, if_neg (by decide)])) (Or.inl (by rw [zl_ul, if_neg (by decide)])))
            rw [zl_ul, if_pos rfl]
            split
            · exact Or.inr ⟨by omega, hz.2.1.2⟩
            · exact Or.inl rfl
          · split
            · exact h
            · rename_i hfull
              have c1 := h.1.2.1
              have c2 := h.1.2.2.1
              have n200 : ¬ zc S 1 = 200 := fun z => hfull (Or.inl z)
              have hp1 : zInv (zput S x it 3 (zl S 0 0) w 0) := h.put ⟨zn x, xe, x1, x2⟩ ⟨3, rfl, by decide⟩ (by omega) h.2.2.2.2.2.2.2.2.2.1.2.2.1 ⟨by omega, hz.2.1.2⟩ (fun hE => absurd hE (by decide))
              have hpf : zpf (zput S x it 3 (zl S 0 0) w 0) x it (zc S 2) = zpf S x it (zc S 2) := zpf_put _ _ _ _ _ _ _ _ _ _
              cases hp : zpf S x it (zc S 2) with
              | none =>
                have hp2 : zpf (zput S x it 3 (zl S 0 0) w 0) x it (zc (zput S x it 3 (zl S 0 0) w 0) 2) = none := hpf.trans hp
                rw [zkeep_n hp2]
                refine zInv.u22 (hp1.adI (show zc S 2 ≤ 59 from ?_) hp2) (Nat.le_refl _)
                have : ¬ zc S 2 = 60 := fun z => hfull (Or.inr ⟨hp, z⟩)
                omega
              | some j =>
                have hp2 : zpf (zput S x it 3 (zl S 0 0) w 0) x it (zc (zput S x it 3 (zl S 0 0) w 0) 2) = some j := hpf.trans hp
                rw [zkeep_s hp2]
                exact zInv.u22 hp1 (Nat.le_refl _)
      · exact h
    · exact h
  · exact h
