theorem LA.keep {G : vv_G} {v v' : vv_V} {a arr n e : Nat} {f f' : Nat → Nat} (h : LA G v a arr n e f) (hk : ∀ (k x : Nat) (y : va_E), k = 5 ∨ k = 53 ∨ k = 99 → v k x = some y → v' k x = some y) (hf : ∀ j, j < n → f' j = f j) : LA G v' a arr n e f' := by
  obtain ⟨⟨mo, h0⟩, h1, h2, h3⟩ := h
  refine ⟨⟨mo, hk _ _ _ (Or.inl rfl) h0⟩, h1, h2, ?_⟩
  rcases h3 with ⟨r1, r2, g, hg⟩ | ⟨r1, g, hg, hgf⟩
  · exact Or.inl ⟨r1, r2, g, hk _ _ _ (Or.inr (Or.inr rfl)) hg⟩
  · exact Or.inr ⟨r1, g, hk _ _ _ (Or.inr (Or.inl rfl)) hg, fun j hj => by rw [hf j hj]; exact hgf j hj⟩
theorem RC.gen {G : vv_G} {v v' : vv_V} {o : Nat} {la : Nat → Nat} {cw : Nat} {S S' : zS} {ra ea ca oa na ia : Nat → Nat} (h : RC G v o la cw S ra ea ca oa na ia) (hc : ∀ i, zc S' i = zc S i) (hA : v' 3 o = some (vc la cw S')) (hW : ∃ g, v' 51 cw = some (vaZ G 4 g) ∧ ∀ j, j < 4 → g j = 1 - zi S' 2 j)
    (hL : ∀ (k x : Nat) (y : va_E), k = 5 ∨ k = 53 ∨ k = 99 → v k x = some y → v' k x = some y) (hF : ∀ i, zi S' 24 i = zi S 24 i ∧ zi S' 29 i = zi S 29 i) (hK : ∀ j, j < zc S 0 → RCk G v' S' ca oa j) (hN : ∀ j, j < zc S 1 → RCn v' S' ca na j) (hI : ∀ k, k < zc S 2 → RCi v' S' na ia k) : RC G v' o la cw S' ra ea ca oa na ia := by
  obtain ⟨-, -, g3, -, -, -, d1, d2, d3, d4⟩ := h
  refine ⟨hA, hW, fun i hi => ?_, fun j hj => hK j (by rw [← hc 0]; exact hj), fun j hj => hN j (by rw [← hc 1]; exact hj), fun k hk => hI k (by rw [← hc 2]; exact hk), d1, d2, ?_, ?_⟩
  · rw [hc i]
    refine (g3 i hi).keep hL (fun j hj => ?_)
    have h24 : ∀ i, zi S' 24 i = zi S 24 i := fun i => (hF i).1
    have h29 : ∀ i, zi S' 29 i = zi S 29 i := fun i => (hF i).2
    unfold cF
    simp only [h24, h29]
  · rw [hc 0]; exact d3
  · rw [hc 2]; exact d4
/-- the orders of customer j0 are written -/
theorem RC.ords {G : vv_G} {v : vv_V} {o : Nat} {la : Nat → Nat} {cw : Nat} {S S' : zS} {ra ea ca oa na ia : Nat → Nat} (h : RC G v o la cw S ra ea ca oa na ia) {j0 : Nat} (hj0 : j0 < zc S 0) {g : Nat → Int32} {v' : vv_V} (hk : vkp (fun k x => k = 50 ∧ x = oa j0) v v') (hg : v' 50 (oa j0) = some (va32 G 32 g)) (hS8 : ∀ i, i < 32 → g i = zi S' 8 (32 * (j0 + 1) + i) - 1) (hSo : ∀ j i, j ≠ j0 → i < 32 → zi S' 8 (32 * (j + 1) + i) = zi S 8 (32 * (j + 1) + i))
    (hc : ∀ i, zc S' i = zc S i) (hi : ∀ f i, f ≠ 8 → zi S' f i = zi S f i) (hl : ∀ f i, zl S' f i = zl S f i) : RC G v' o la cw S' ra ea ca oa na ia := by
  have kp : ∀ (k x : Nat) (y : va_E), k ≠ 50 → v k x = some y → v' k x = some y := fun k x y hk5 h1 => hk k x y (fun z => hk5 z.1) h1
  obtain ⟨hA, ⟨gw, hW, hWj⟩, hLs, hKs, hNs, hIs, hD1, hD2, hD3, hD4⟩ := id h
  refine h.gen hc ?_ ⟨gw, kp _ _ _ (by decide) hW, fun j hj => by rw [hi 2 j (by decide)]; exact hWj j hj⟩ (fun k x y hz h1 => kp k x y (by omega) h1) (fun i => ⟨hi _ _ (by decide), hi _ _ (by decide)⟩) (fun j hj => ?_) (fun j hj => ?_) (fun k hkk => ?_)
  · rw [kp _ _ _ (by decide) hA]; simp only [vc, hl, hi 1 0 (by decide)]
  · obtain ⟨⟨lw, mt0, a1⟩, g1, a2, a3⟩ := hKs j hj
    refine ⟨⟨lw, mt0, ?_⟩, ?_⟩
    · rw [kp _ _ _ (by decide) a1, hi 4 _ (by decide), hi 5 _ (by decide), hi 6 _ (by decide), hi 7 _ (by decide)]
    · by_cases c : j = j0
      · subst c; exact ⟨g, hg, hS8⟩
      · exact ⟨g1, hk _ _ _ (fun z => c (hD3 j j0 hj hj0 z.2)) a2, fun i hi32 => by rw [hSo j i c hi32]; exact a3 i hi32⟩
  · obtain ⟨ch, ms, st, a1, a2⟩ := hNs j hj
    refine ⟨ch, ms, st, ?_, fun i h1 h2 => ?_⟩
    · rw [kp _ _ _ (by decide) a1, hi 10 _ (by decide), hi 11 _ (by decide), hi 12 _ (by decide), hi 15 _ (by decide), hi 16 _ (by decide), hi 17 _ (by decide), hl, hl]
    · rw [hc] at h1; rw [hi 24 _ (by decide)] at h2; rw [hi 25 _ (by decide), hi 26 _ (by decide), hl]; exact a2 i h1 h2
  · have a1 := hIs k hkk
    unfold RCi at a1 ⊢
    rw [kp _ _ _ (by decide) a1, hi 19 _ (by decide), hi 20 _ (by decide), hi 21 _ (by decide), hi 22 _ (by decide)]
theorem nI_inj1 {i j : Nat} (hi : i < 2 ^ 30) (hj : j < 2 ^ 30) (h : nI (i + 1) = nI (j + 1)) : i = j := by
  have := (nI_eq (a := i + 1) (b := j + 1) (by omega) (by omega)).mp h
  omega
/-- customer j0's object is written -/
theorem RC.cust {G : vv_G} {v : vv_V} {o : Nat} {la : Nat → Nat} {cw : Nat} {S S' : zS} {ra ea ca oa na ia : Nat → Nat} (h : RC G v o la cw S ra ea ca oa na ia) (hB : zc S 0 ≤ 40) {j0 : Nat} (hj0 : j0 < zc S 0) {v' : vv_V} (hk : vkp (fun k x => k = 0 ∧ x = ca j0) v v') (hg : ∃ lw mt0, v' 0 (ca j0) = some (vk (nI (j0 + 1)) (zi S' 4 (j0 + 1)) (zi S' 5 (j0 + 1)) (zi S' 6 (j0 + 1)) (zi S' 7 (j0 + 1)) lw mt0 (oa j0)))
    (hc : ∀ i, zc S' i = zc S i) (hi : ∀ f i, f ≠ 6 → f ≠ 7 → zi S' f i = zi S f i) (h67 : ∀ j, j ≠ j0 → zi S' 6 (j + 1) = zi S 6 (j + 1) ∧ zi S' 7 (j + 1) = zi S 7 (j + 1)) (hl : ∀ f i, zl S' f i = zl S f i) : RC G v' o la cw S' ra ea ca oa na ia := by
  have kp : ∀ (k x : Nat) (y : va_E), k ≠ 0 → v k x = some y → v' k x = some y := fun k x y hk5 h1 => hk k x y (fun z => hk5 z.1) h1
  obtain ⟨hA, ⟨gw, hW, hWj⟩, hLs, hKs, hNs, hIs, hD1, hD2, hD3, hD4⟩ := id h
  have caI : ∀ j, j < zc S 0 → ca j = ca j0 → j = j0 := fun j hj e => by
    obtain ⟨⟨l1, m1, a1⟩, -⟩ := hKs j hj
    obtain ⟨⟨l2, m2, a2⟩, -⟩ := hKs j0 hj0
    rw [e, a2] at a1
    simp only [Option.some.injEq, Sum.inr.injEq, Prod.mk.injEq, List.cons.injEq, Value.int.injEq] at a1
    exact nI_inj1 (by omega) (by omega) a1.2.1.symm
  refine h.gen hc ?_ ⟨gw, kp _ _ _ (by decide) hW, fun j hj => by rw [hi 2 j (by decide) (by decide)]; exact hWj j hj⟩ (fun k x y hz h1 => kp k x y (by omega) h1) (fun i => ⟨hi _ _ (by decide) (by decide), hi _ _ (by decide) (by decide)⟩) (fun j hj => ?_) (fun j hj => ?_) (fun k hkk => ?_)
  · rw [kp _ _ _ (by decide) hA]; simp only [vc, hl, hi 1 0 (by decide) (by decide)]
  · obtain ⟨⟨lw, mt0, a1⟩, g1, a2, a3⟩ := hKs j hj
    refine ⟨?_, g1, kp _ _ _ (by decide) a2, fun i hi32 => by rw [hi 8 _ (by decide) (by decide)]; exact a3 i hi32⟩
    by_cases c : j = j0
    · subst c; exact hg
    · refine ⟨lw, mt0, ?_⟩
      rw [hk _ _ _ (fun z => c (caI j hj z.2)) a1, hi 4 _ (by decide) (by decide), hi 5 _ (by decide) (by decide), (h67 j c).1, (h67 j c).2]
  · obtain ⟨ch, ms, st, a1, a2⟩ := hNs j hj
    refine ⟨ch, ms, st, ?_, fun i h1 h2 => ?_⟩
    · rw [kp _ _ _ (by decide) a1, hi 10 _ (by decide) (by decide), hi 11 _ (by decide) (by decide), hi 12 _ (by decide) (by decide), hi 15 _ (by decide) (by decide), hi 16 _ (by decide) (by decide), hi 17 _ (by decide) (by decide), hl, hl]
    · rw [hc] at h1; rw [hi 24 _ (by decide) (by decide)] at h2; rw [hi 25 _ (by decide) (by decide), hi 26 _ (by decide) (by decide), hl]; exact a2 i h1 h2
  · have a1 := hIs k hkk
    unfold RCi at a1 ⊢
    rw [kp _ _ _ (by decide) a1, hi 19 _ (by decide) (by decide), hi 20 _ (by decide) (by decide), hi 21 _ (by decide) (by decide), hi 22 _ (by decide) (by decide)]
/-- the channels, or a number of the object itself, are written -/
theorem RC.own {G : vv_G} {v : vv_V} {o : Nat} {la : Nat → Nat} {cw : Nat} {S S' : zS} {ra ea ca oa na ia : Nat → Nat} (h : RC G v o la cw S ra ea ca oa na ia) {v' : vv_V} (hk : vkp (fun k x => (k = 3 ∧ x = o) ∨ (k = 51 ∧ x = cw)) v v') (hA : v' 3 o = some (vc la cw S')) (hW : ∃ g, v' 51 cw = some (vaZ G 4 g) ∧ ∀ j, j < 4 → g j = 1 - zi S' 2 j)
    (hc : ∀ i, zc S' i = zc S i) (hi : ∀ f i, f ≠ 1 → f ≠ 2 → zi S' f i = zi S f i) (hl : ∀ f i, f ≠ 0 → zl S' f i = zl S f i) : RC G v' o la cw S' ra ea ca oa na ia := by
  have kp : ∀ (k x : Nat) (y : va_E), k ≠ 3 → k ≠ 51 → v k x = some y → v' k x = some y := fun k x y h3 h51 h1 => hk k x y (fun z => z.elim (fun q => h3 q.1) (fun q => h51 q.1)) h1
  obtain ⟨-, -, hLs, hKs, hNs, hIs, hD1, hD2, hD3, hD4⟩ := id h
  refine h.gen hc hA hW (fun k x y hz h1 => kp k x y (by omega) (by omega) h1) (fun i => ⟨hi _ _ (by decide) (by decide), hi _ _ (by decide) (by decide)⟩) (fun j hj => ?_) (fun j hj => ?_) (fun k hkk => ?_)
  · obtain ⟨⟨lw, mt0, a1⟩, g1, a2, a3⟩ := hKs j hj
    refine ⟨⟨lw, mt0, ?_⟩, g1, kp _ _ _ (by decide) (by decide) a2, fun i hi32 => by rw [hi 8 _ (by decide) (by decide)]; exact a3 i hi32⟩
    rw [kp _ _ _ (by decide) (by decide) a1, hi 4 _ (by decide) (by decide), hi 5 _ (by decide) (by decide), hi 6 _ (by decide) (by decide), hi 7 _ (by decide) (by decide)]
  · obtain ⟨ch, ms, st, a1, a2⟩ := hNs j hj
    refine ⟨ch, ms, st, ?_, fun i h1 h2 => ?_⟩
    · rw [kp _ _ _ (by decide) (by decide) a1, hi 10 _ (by decide) (by decide), hi 11 _ (by decide) (by decide), hi 12 _ (by decide) (by decide), hi 15 _ (by decide) (by decide), hi 16 _ (by decide) (by decide), hi 17 _ (by decide) (by decide), hl _ _ (by decide), hl _ _ (by decide)]
    · rw [hc] at h1; rw [hi 24 _ (by decide) (by decide)] at h2; rw [hi 25 _ (by decide) (by decide), hi 26 _ (by decide) (by decide), hl _ _ (by decide)]; exact a2 i h1 h2
  · have a1 := hIs k hkk
    unfold RCi at a1 ⊢
    rw [kp _ _ _ (by decide) (by decide) a1, hi 19 _ (by decide) (by decide), hi 20 _ (by decide) (by decide), hi 21 _ (by decide) (by decide), hi 22 _ (by decide) (by decide)]
