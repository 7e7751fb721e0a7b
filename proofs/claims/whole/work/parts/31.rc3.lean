theorem zde_le (n e : Nat) : zde n e ≤ 1 := by unfold zde; split <;> omega
theorem LA.keep2 {G : vv_G} {v v' : vv_V} {a arr n e : Nat} {f f' : Nat → Nat} (h : LA G v a arr n e f) (h5 : ∀ y, v 5 a = some y → v' 5 a = some y) (h53 : 0 < e → ∀ y, v 53 arr = some y → v' 53 arr = some y) (h99 : ∀ y, v 99 arr = some y → v' 99 arr = some y) (hf : ∀ j, j < n → f' j = f j) : LA G v' a arr n e f' := by
  obtain ⟨⟨mo, h0⟩, h1, h2, h3⟩ := h
  refine ⟨⟨mo, h5 _ h0⟩, h1, h2, ?_⟩
  rcases h3 with ⟨r1, r2, g, hg⟩ | ⟨r1, g, hg, hgf⟩
  · exact Or.inl ⟨r1, r2, g, h99 _ hg⟩
  · exact Or.inr ⟨r1, g, h53 r1 _ hg, fun j hj => by rw [hf j hj]; exact hgf j hj⟩
theorem LA.a53 {G : vv_G} {v : vv_V} {a arr n e : Nat} {f : Nat → Nat} (h : LA G v a arr n e f) (he : 0 < e) : ∃ y, v 53 arr = some y := by
  obtain ⟨-, -, -, h3⟩ := h
  rcases h3 with ⟨r1, -⟩ | ⟨-, g, hg, -⟩
  · omega
  · exact ⟨_, hg⟩
/-- one list has grown by an element: the lists behind it -/
theorem RC.lists {G : vv_G} {v v' : vv_V} {la ra ea : Nat → Nat} {S S' : zS} {ca na ia ca' na' ia' : Nat → Nat} {i0 arr' e' : Nat} (h3 : ∀ i, i < 5 → LA G v (la i) (ra i) (zc S i) (ea i) (cF S ca na ia i)) (d1 : ∀ i j, i < 5 → j < 5 → la i = la j → i = j) (d2 : ∀ i j, i < 5 → j < 5 → 0 < ea i → 0 < ea j → ra i = ra j → i = j) (hi0 : i0 < 5)
    (hk : vkp (fun k x => (k = 5 ∧ x = la i0) ∨ (k = 53 ∧ x = ra i0 ∧ 0 < ea i0)) v v') (hL : LA G v' (la i0) arr' (zc S' i0) e' (cF S' ca' na' ia' i0)) (harr : (arr' = ra i0 ∧ 0 < ea i0) ∨ ∀ k, v k arr' = none) (hc : ∀ i, i ≠ i0 → i < 5 → zc S' i = zc S i) (hf : ∀ i j, i ≠ i0 → i < 5 → j < zc S i → cF S' ca' na' ia' i j = cF S ca na ia i j) :
    (∀ i, i < 5 → LA G v' (la i) (va_up ra i0 arr' i) (zc S' i) (va_up ea i0 e' i) (cF S' ca' na' ia' i)) ∧ ∀ i j, i < 5 → j < 5 → 0 < va_up ea i0 e' i → 0 < va_up ea i0 e' j → va_up ra i0 arr' i = va_up ra i0 arr' j → i = j := by
  refine ⟨fun i hi => ?_, fun i j hi hj e1 e2 er => ?_⟩
  · by_cases c : i = i0
    · subst c; rw [va_up_self, va_up_self]; exact hL
    · rw [va_up_ne _ _ c, va_up_ne _ _ c, hc i c hi]
      refine (h3 i hi).keep2 (fun y hy => hk _ _ _ ?_ hy) (fun hp y hy => hk _ _ _ ?_ hy) (fun y hy => hk _ _ _ ?_ hy) (fun j hj => hf i j c hi hj)
      · rintro (⟨-, z⟩ | ⟨z, -⟩)
        · exact c (d1 i i0 hi hi0 z)
        · exact absurd z (by decide)
      · rintro (⟨z, -⟩ | ⟨-, z, z2⟩)
        · exact absurd z (by decide)
        · exact c (d2 i i0 hi hi0 hp z2 z)
      · rintro (⟨z, -⟩ | ⟨z, -⟩) <;> exact absurd z (by decide)
  · have key : ∀ j, j < 5 → j ≠ i0 → 0 < ea j → ra j ≠ arr' := fun j hj c hp er => by
      rcases harr with ⟨q, q2⟩ | q
      · exact c (d2 j i0 hj hi0 hp q2 (by rw [er, q]))
      · obtain ⟨y, hy⟩ := (h3 j hj).a53 hp
        rw [er, q 53] at hy
        cases hy
    by_cases c1 : i = i0
    · by_cases c2 : j = i0
      · rw [c1, c2]
      · rw [c1, va_up_self, va_up_ne _ _ c2] at er
        rw [va_up_ne _ _ c2] at e2
        exact absurd er.symm (key j hj c2 e2)
    · by_cases c2 : j = i0
      · rw [c2, va_up_self, va_up_ne _ _ c1] at er
        rw [va_up_ne _ _ c1] at e1
        exact absurd er (key i hi c1 e1)
      · rw [va_up_ne _ _ c1, va_up_ne _ _ c2] at er
        rw [va_up_ne _ _ c1] at e1
        rw [va_up_ne _ _ c2] at e2
        exact d2 i j hi hj e1 e2 er
theorem zn_lt {x : Int32} {n N : Nat} (h : x = nI n) (h1 : 1 ≤ n) (h2 : n ≤ N) (hN : N ≤ 1000) : zn x - 1 < N := by
  rw [h, zn_nI (by omega)]; omega
theorem zlp_up {na : Nat → Nat} {x : Int32} {N q : Nat} (h : ∃ n, n ≤ N ∧ x = nI n) (hN : N ≤ 1000) : zlp (va_up na N q) x = zlp na x := by
  obtain ⟨n, h1, rfl⟩ := h
  unfold zlp
  by_cases c : nI n = 0
  · rw [if_pos c, if_pos c]
  · rw [if_neg c, if_neg c, zn_nI (by omega)]
    have hn : n ≠ 0 := fun z => c (by rw [z]; rfl)
    rw [va_up_ne _ _ (by omega)]
/-- one more notice -/
theorem RC.addN {G : vv_G} {v v' : vv_V} {o : Nat} {la : Nat → Nat} {cw : Nat} {S : zS} {ra ea ca oa na ia : Nat → Nat} (h : RC G v o la cw S ra ea ca oa na ia) (hB : zB S) (hB4 : zB4 S) (hB4f : zB4f S) {q arr' e' : Nat} {x it kd : Int32} {t w : Int64} {cr : Int32}
    (hL : LA G v' (la 1) arr' (zc S 1 + 1) e' (va_up na (zc S 1) q)) (harr : (arr' = ra 1 ∧ 0 < ea 1) ∨ ∀ k, v k arr' = none) (hq : v' 2 q = some (vn (nI (zc S 1 + 1)) (ca (zn x - 1)) it kd t 0 w cr 0 0 0 0)) (hk : vkp (fun k y => (k = 5 ∧ y = la 1) ∨ (k = 53 ∧ y = ra 1 ∧ 0 < ea 1)) v v') :
    RC G v' o la cw (zput S x it kd t w cr) (va_up ra 1 arr') (va_up ea 1 e') ca oa (va_up na (zc S 1) q) ia := by
  obtain ⟨hA, ⟨gw, hW, hWj⟩, hLs, hKs, hNs, hIs, hD1, hD2, hD3, hD4⟩ := id h
  obtain ⟨b0, b1, b2, b3⟩ := hB
  have kp : ∀ (k y : Nat) (z : va_E), k ≠ 5 → k ≠ 53 → v k y = some z → v' k y = some z := fun k y z h5 h53 h1 => hk k y z (fun c => c.elim (fun c => h5 c.1) (fun c => h53 c.1)) h1
  have hls := RC.lists (S' := zput S x it kd t w cr) (ca' := ca) (na' := va_up na (zc S 1) q) (ia' := ia) hLs hD1 hD2 (by decide) hk hL harr (fun i h1 _ => by show zc (zuc S 1 (zc S 1 + 1)) i = _; rw [zc_uc, if_neg h1]) (fun i j h1 h2 hj => ?_)
  · refine ⟨kp _ _ _ (by decide) (by decide) hA, ⟨gw, kp _ _ _ (by decide) (by decide) hW, hWj⟩, hls.1, fun j hj => ?_, fun j hj => ?_, fun k hkk => ?_, hD1, hls.2, hD3, hD4⟩
    · obtain ⟨⟨lw, mt0, a1⟩, g1, a2, a3⟩ := hKs j hj
      exact ⟨⟨lw, mt0, kp _ _ _ (by decide) (by decide) a1⟩, g1, kp _ _ _ (by decide) (by decide) a2, a3⟩
    · have hj : j < zc S 1 + 1 := hj
      by_cases c : j = zc S 1
      · subst c
        refine ⟨0, 0, 0, ?_, fun i h1 h2 => ?_⟩
        · rw [va_up_self]
          have e : ∀ (α : Type) (a b : α), (if zc S 1 + 1 = zc S 1 + 1 then a else b) = a := fun _ _ _ => if_pos rfl
          show v' 2 q = some (vn _ (ca (zn (if zc S 1 + 1 = zc S 1 + 1 then x else zi S 10 (zc S 1 + 1)) - 1)) (if zc S 1 + 1 = zc S 1 + 1 then it else zi S 11 (zc S 1 + 1)) (if zc S 1 + 1 = zc S 1 + 1 then kd else zi S 12 (zc S 1 + 1)) (if zc S 1 + 1 = zc S 1 + 1 then t else zl S 13 (zc S 1 + 1)) (if zc S 1 + 1 = zc S 1 + 1 then 0 else zi S 15 (zc S 1 + 1)) (if zc S 1 + 1 = zc S 1 + 1 then w else zl S 14 (zc S 1 + 1)) (if zc S 1 + 1 = zc S 1 + 1 then cr else zi S 16 (zc S 1 + 1)) (if zc S 1 + 1 = zc S 1 + 1 then 0 else zi S 17 (zc S 1 + 1)) _ _ _)
          rw [e, e, e, e, e, e, e, e]
          exact hq
        · obtain ⟨n, hn1, hn2, hn3⟩ := hB4 i h1
          have h2 : zi S 24 i = nI (zc S 1 + 1) := h2
          rw [hn1] at h2
          have := (nI_eq (a := n) (b := zc S 1 + 1) (by omega) (by omega)).mp h2
          omega
      · obtain ⟨ch, ms, st, a1, a2⟩ := hNs j (by omega)
        refine ⟨ch, ms, st, ?_, a2⟩
        rw [va_up_ne _ _ c]
        have e : ∀ (α : Type) (a b : α), (if j + 1 = zc S 1 + 1 then a else b) = b := fun _ _ _ => if_neg (by omega)
        show v' 2 (na j) = some (vn _ (ca (zn (if j + 1 = zc S 1 + 1 then x else zi S 10 (j + 1)) - 1)) (if j + 1 = zc S 1 + 1 then it else zi S 11 (j + 1)) (if j + 1 = zc S 1 + 1 then kd else zi S 12 (j + 1)) (if j + 1 = zc S 1 + 1 then t else zl S 13 (j + 1)) (if j + 1 = zc S 1 + 1 then 0 else zi S 15 (j + 1)) (if j + 1 = zc S 1 + 1 then w else zl S 14 (j + 1)) (if j + 1 = zc S 1 + 1 then cr else zi S 16 (j + 1)) (if j + 1 = zc S 1 + 1 then 0 else zi S 17 (j + 1)) _ _ _)
        rw [e, e, e, e, e, e, e, e]
        exact kp _ _ _ (by decide) (by decide) a1
    · have a1 : v 1 (ia k) = some (vi (zi S 19 k) (zi S 20 k) (zi S 21 k) (zlp na (zi S 22 k))) := hIs k hkk
      have hz : zlp (va_up na (zc S 1) q) (zi S 22 k) = zlp na (zi S 22 k) := zlp_up (b3 k hkk) (by omega)
      show v' 1 (ia k) = some (vi (zi S 19 k) (zi S 20 k) (zi S 21 k) (zlp (va_up na (zc S 1) q) (zi S 22 k)))
      rw [hz]
      exact kp _ _ _ (by decide) (by decide) a1
  · rcases (show i = 0 ∨ i = 2 ∨ i = 3 ∨ i = 4 by omega) with rfl | rfl | rfl | rfl
    · rfl
    · rfl
    · obtain ⟨n, hn1, hn2, hn3⟩ := hB4 j hj
      have := zn_lt hn1 hn2 hn3 (by omega)
      show va_up na (zc S 1) q (zn (zi S 24 j) - 1) = na (zn (zi S 24 j) - 1)
      rw [va_up_ne _ _ (by omega)]
    · obtain ⟨n, hn1, hn2, hn3⟩ := hB4f j hj
      have := zn_lt hn1 hn2 hn3 (by omega)
      show va_up na (zc S 1) q (zn (zi S 29 j) - 1) = na (zn (zi S 29 j) - 1)
      rw [va_up_ne _ _ (by omega)]
