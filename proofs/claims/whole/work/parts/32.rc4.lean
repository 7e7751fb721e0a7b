theorem RCk.tr {G : vv_G} {v v' : vv_V} {S S' : zS} {ca oa ca' oa' : Nat → Nat} {j : Nat} (h : RCk G v S ca oa j) (h0 : ∀ y, v 0 (ca j) = some y → v' 0 (ca j) = some y) (h5 : ∀ y, v 50 (oa j) = some y → v' 50 (oa j) = some y) (hi : ∀ f, f = 4 ∨ f = 5 ∨ f = 6 ∨ f = 7 → zi S' f (j + 1) = zi S f (j + 1)) (h8 : ∀ i, i < 32 → zi S' 8 (32 * (j + 1) + i) = zi S 8 (32 * (j + 1) + i)) (hca : ca' j = ca j) (hoa : oa' j = oa j) : RCk G v' S' ca' oa' j := by
  obtain ⟨⟨lw, mt0, a1⟩, g1, a2, a3⟩ := h
  refine ⟨⟨lw, mt0, ?_⟩, g1, ?_, fun i hi32 => by rw [h8 i hi32]; exact a3 i hi32⟩
  · rw [hca, hoa, h0 _ a1, hi 4 (by decide), hi 5 (by decide), hi 6 (by decide), hi 7 (by decide)]
  · rw [hoa, h5 _ a2]
theorem RCn.tr {v v' : vv_V} {S S' : zS} {ca na ca' na' : Nat → Nat} {j : Nat} (h : RCn v S ca na j) (h2 : ∀ y, v 2 (na j) = some y → v' 2 (na j) = some y) (hi : ∀ f, f = 10 ∨ f = 11 ∨ f = 12 ∨ f = 15 ∨ f = 16 ∨ f = 17 → zi S' f (j + 1) = zi S f (j + 1)) (hl : zl S' 13 (j + 1) = zl S 13 (j + 1) ∧ zl S' 14 (j + 1) = zl S 14 (j + 1)) (hca : ca' (zn (zi S 10 (j + 1)) - 1) = ca (zn (zi S 10 (j + 1)) - 1)) (hna : na' j = na j)
    (hs : zc S' 3 = zc S 3) (hs2 : ∀ i, i < zc S 3 → zi S' 24 i = zi S 24 i ∧ zi S' 25 i = zi S 25 i ∧ zi S' 26 i = zi S 26 i ∧ zl S' 27 i = zl S 27 i) : RCn v' S' ca' na' j := by
  obtain ⟨ch, ms, st, a1, a2⟩ := h
  refine ⟨ch, ms, st, ?_, fun i h1 h3 => ?_⟩
  · rw [hna, h2 _ a1, hi 10 (by decide), hi 11 (by decide), hi 12 (by decide), hi 15 (by decide), hi 16 (by decide), hi 17 (by decide), hl.1, hl.2, hca]
  · rw [hs] at h1
    obtain ⟨q1, q2, q3, q4⟩ := hs2 i h1
    rw [q1] at h3
    rw [q2, q3, q4]
    exact a2 i h1 h3
theorem RCi.tr {v v' : vv_V} {S S' : zS} {na ia na' ia' : Nat → Nat} {k : Nat} (h : RCi v S na ia k) (h1 : ∀ y, v 1 (ia k) = some y → v' 1 (ia k) = some y) (hi : ∀ f, f = 19 ∨ f = 20 ∨ f = 21 ∨ f = 22 → zi S' f k = zi S f k) (hna : zlp na' (zi S 22 k) = zlp na (zi S 22 k)) (hia : ia' k = ia k) : RCi v' S' na' ia' k := by
  unfold RCi at h ⊢
  rw [hia, h1 _ h, hi 19 (by decide), hi 20 (by decide), hi 21 (by decide), hi 22 (by decide), hna]
theorem RC.naI {G : vv_G} {v : vv_V} {o : Nat} {la : Nat → Nat} {cw : Nat} {S : zS} {ra ea ca oa na ia : Nat → Nat} (h : RC G v o la cw S ra ea ca oa na ia) (hB : zc S 1 ≤ 200) {j j0 : Nat} (hj : j < zc S 1) (hj0 : j0 < zc S 1) (e : na j = na j0) : j = j0 := by
  obtain ⟨c1, m1, s1, a1, -⟩ := h.2.2.2.2.1 j hj
  obtain ⟨c2, m2, s2, a2, -⟩ := h.2.2.2.2.1 j0 hj0
  rw [e, a2] at a1
  simp only [Option.some.injEq, Sum.inr.injEq, Prod.mk.injEq, List.cons.injEq, Value.int.injEq] at a1
  exact nI_inj1 (by omega) (by omega) a1.2.1.symm
theorem RC.caI {G : vv_G} {v : vv_V} {o : Nat} {la : Nat → Nat} {cw : Nat} {S : zS} {ra ea ca oa na ia : Nat → Nat} (h : RC G v o la cw S ra ea ca oa na ia) (hB : zc S 0 ≤ 40) {j j0 : Nat} (hj : j < zc S 0) (hj0 : j0 < zc S 0) (e : ca j = ca j0) : j = j0 := by
  obtain ⟨⟨l1, m1, a1⟩, -⟩ := h.2.2.2.1 j hj
  obtain ⟨⟨l2, m2, a2⟩, -⟩ := h.2.2.2.1 j0 hj0
  rw [e, a2] at a1
  simp only [Option.some.injEq, Sum.inr.injEq, Prod.mk.injEq, List.cons.injEq, Value.int.injEq] at a1
  exact nI_inj1 (by omega) (by omega) a1.2.1.symm
/-- item k0 is written -/
theorem RC.itm {G : vv_G} {v v' : vv_V} {o : Nat} {la : Nat → Nat} {cw : Nat} {S S' : zS} {ra ea ca oa na ia : Nat → Nat} (h : RC G v o la cw S ra ea ca oa na ia) {k0 : Nat} (hk0 : k0 < zc S 2) (hk : vkp (fun k x => k = 1 ∧ x = ia k0) v v') (hg : RCi v' S' na ia k0) (hc : ∀ i, zc S' i = zc S i) (hi : ∀ f i, f ≠ 21 → f ≠ 22 → zi S' f i = zi S f i) (h2 : ∀ k, k ≠ k0 → zi S' 21 k = zi S 21 k ∧ zi S' 22 k = zi S 22 k) (hl : ∀ f i, zl S' f i = zl S f i) : RC G v' o la cw S' ra ea ca oa na ia := by
  have kp : ∀ (k x : Nat) (y : va_E), k ≠ 1 → v k x = some y → v' k x = some y := fun k x y hk5 h1 => hk k x y (fun z => hk5 z.1) h1
  obtain ⟨hA, ⟨gw, hW, hWj⟩, hLs, hKs, hNs, hIs, hD1, hD2, hD3, hD4⟩ := id h
  refine h.gen hc ?_ ⟨gw, kp _ _ _ (by decide) hW, fun j hj => by rw [hi 2 j (by decide) (by decide)]; exact hWj j hj⟩ (fun k x y hz h1 => kp k x y (by omega) h1) (fun i => ⟨hi _ _ (by decide) (by decide), hi _ _ (by decide) (by decide)⟩) (fun j hj => ?_) (fun j hj => ?_) (fun k hkk => ?_)
  · rw [kp _ _ _ (by decide) hA]; simp only [vc, hl, hi 1 0 (by decide) (by decide)]
  · exact (hKs j hj).tr (fun y => kp _ _ _ (by decide)) (fun y => kp _ _ _ (by decide)) (fun f hf => hi f _ (by omega) (by omega)) (fun i _ => hi 8 _ (by decide) (by decide)) rfl rfl
  · exact (hNs j hj).tr (fun y => kp _ _ _ (by decide)) (fun f hf => hi f _ (by omega) (by omega)) ⟨hl _ _, hl _ _⟩ rfl rfl (hc 3) (fun i _ => ⟨hi _ _ (by decide) (by decide), hi _ _ (by decide) (by decide), hi _ _ (by decide) (by decide), hl _ _⟩)
  · by_cases c : k = k0
    · subst c; exact hg
    · refine (hIs k hkk).tr (fun y => hk _ _ _ (fun z => c (hD4 k k0 hkk hk0 z.2))) (fun f hf => ?_) rfl rfl
      rcases hf with rfl | rfl | rfl | rfl
      · exact hi _ _ (by decide) (by decide)
      · exact hi _ _ (by decide) (by decide)
      · exact (h2 k c).1
      · exact (h2 k c).2
/-- notice j0 is written -/
theorem RC.noti {G : vv_G} {v v' : vv_V} {o : Nat} {la : Nat → Nat} {cw : Nat} {S S' : zS} {ra ea ca oa na ia : Nat → Nat} (h : RC G v o la cw S ra ea ca oa na ia) (hB : zc S 1 ≤ 200) {j0 : Nat} (hj0 : j0 < zc S 1) (hk : vkp (fun k x => k = 2 ∧ x = na j0) v v') (hg : RCn v' S' ca na j0) (hc : ∀ i, zc S' i = zc S i) (hi : ∀ f i, f ≠ 15 → f ≠ 16 → f ≠ 17 → zi S' f i = zi S f i) (h2 : ∀ f j, j ≠ j0 → zi S' f (j + 1) = zi S f (j + 1)) (hl : ∀ f i, f ≠ 14 → zl S' f i = zl S f i) (hl2 : ∀ j, j ≠ j0 → zl S' 14 (j + 1) = zl S 14 (j + 1)) : RC G v' o la cw S' ra ea ca oa na ia := by
  have kp : ∀ (k x : Nat) (y : va_E), k ≠ 2 → v k x = some y → v' k x = some y := fun k x y hk5 h1 => hk k x y (fun z => hk5 z.1) h1
  obtain ⟨hA, ⟨gw, hW, hWj⟩, hLs, hKs, hNs, hIs, hD1, hD2, hD3, hD4⟩ := id h
  refine h.gen hc ?_ ⟨gw, kp _ _ _ (by decide) hW, fun j hj => by rw [hi 2 j (by decide) (by decide) (by decide)]; exact hWj j hj⟩ (fun k x y hz h1 => kp k x y (by omega) h1) (fun i => ⟨hi _ _ (by decide) (by decide) (by decide), hi _ _ (by decide) (by decide) (by decide)⟩) (fun j hj => ?_) (fun j hj => ?_) (fun k hkk => ?_)
  · rw [kp _ _ _ (by decide) hA]; simp only [vc, hl 0 0 (by decide), hi 1 0 (by decide) (by decide) (by decide)]
  · exact (hKs j hj).tr (fun y => kp _ _ _ (by decide)) (fun y => kp _ _ _ (by decide)) (fun f hf => hi f _ (by omega) (by omega) (by omega)) (fun i _ => hi 8 _ (by decide) (by decide) (by decide)) rfl rfl
  · by_cases c : j = j0
    · subst c; exact hg
    · exact (hNs j hj).tr (fun y => hk _ _ _ (fun z => c (h.naI hB hj hj0 z.2))) (fun f hf => h2 f j c) ⟨hl _ _ (by decide), hl2 j c⟩ rfl rfl (hc 3) (fun i _ => ⟨hi _ _ (by decide) (by decide) (by decide), hi _ _ (by decide) (by decide) (by decide), hi _ _ (by decide) (by decide) (by decide), hl _ _ (by decide)⟩)
  · exact (hIs k hkk).tr (fun y => kp _ _ _ (by decide)) (fun f hf => hi f _ (by omega) (by omega) (by omega)) rfl rfl
def zadI (S : zS) (x it : Int32) : zS := zuc (zui (zui (zui (zui S 19 (zc S 2) x) 20 (zc S 2) it) 21 (zc S 2) 0) 22 (zc S 2) 0) 2 (zc S 2 + 1)
theorem zkeep_n {S : zS} {x it : Int32} (h : zpf S x it (zc S 2) = none) : zkeep S x it = zadI S x it := by unfold zkeep; rw [h]; rfl
theorem zkeep_s {S : zS} {x it : Int32} {k : Nat} (h : zpf S x it (zc S 2) = some k) : zkeep S x it = S := by unfold zkeep; rw [h]
theorem zadI_i {S : zS} {x it : Int32} {f i : Nat} (h : i ≠ zc S 2 ∨ (f ≠ 19 ∧ f ≠ 20 ∧ f ≠ 21 ∧ f ≠ 22)) : zi (zadI S x it) f i = zi S f i := by
  unfold zadI
  rw [zi_uc, zi_ui, zi_ui, zi_ui, zi_ui]
  rcases h with h | ⟨h1, h2, h3, h4⟩
  · simp only [if_neg h, ite_self]
  · rw [if_neg h4, if_neg h3, if_neg h2, if_neg h1]
/-- one more item -/
theorem RC.addI {G : vv_G} {v v' : vv_V} {o : Nat} {la : Nat → Nat} {cw : Nat} {S : zS} {ra ea ca oa na ia : Nat → Nat} (h : RC G v o la cw S ra ea ca oa na ia) {q arr' e' : Nat} {x it : Int32}
    (hL : LA G v' (la 2) arr' (zc S 2 + 1) e' (va_up ia (zc S 2) q)) (harr : (arr' = ra 2 ∧ 0 < ea 2) ∨ ∀ k, v k arr' = none) (hq : v' 1 q = some (vi x it 0 none)) (hqf : ∀ k, v k q = none) (hk : vkp (fun k y => (k = 5 ∧ y = la 2) ∨ (k = 53 ∧ y = ra 2 ∧ 0 < ea 2)) v v') :
    RC G v' o la cw (zadI S x it) (va_up ra 2 arr') (va_up ea 2 e') ca oa na (va_up ia (zc S 2) q) := by
  obtain ⟨hA, ⟨gw, hW, hWj⟩, hLs, hKs, hNs, hIs, hD1, hD2, hD3, hD4⟩ := id h
  have kp : ∀ (k y : Nat) (z : va_E), k ≠ 5 → k ≠ 53 → v k y = some z → v' k y = some z := fun k y z h5 h53 h1 => hk k y z (fun c => c.elim (fun c => h5 c.1) (fun c => h53 c.1)) h1
  have hF : ∀ f i, f ≠ 19 ∧ f ≠ 20 ∧ f ≠ 21 ∧ f ≠ 22 → zi (zadI S x it) f i = zi S f i := fun f i hf => zadI_i (Or.inr hf)
  have hiq : ∀ i, i < zc S 2 → ia i ≠ q := fun i hi e => by
    have a1 : v 1 (ia i) = some (vi (zi S 19 i) (zi S 20 i) (zi S 21 i) (zlp na (zi S 22 i))) := hIs i hi
    rw [e, hqf 1] at a1
    cases a1
  have hls := RC.lists (S' := zadI S x it) (ca' := ca) (na' := na) (ia' := va_up ia (zc S 2) q) hLs hD1 hD2 (by decide) hk hL harr (fun i h1 _ => by show zc (zuc S 2 (zc S 2 + 1)) i = _; rw [zc_uc, if_neg h1]) (fun i j h1 h2 hj => ?_)
  · refine ⟨kp _ _ _ (by decide) (by decide) hA, ⟨gw, kp _ _ _ (by decide) (by decide) hW, fun j hj => by rw [hF 2 j (by decide)]; exact hWj j hj⟩, hls.1, fun j hj => ?_, fun j hj => ?_, fun k hkk => ?_, hD1, hls.2, hD3, fun i j hi hj e => ?_⟩
    · exact (hKs j hj).tr (fun y => kp _ _ _ (by decide) (by decide)) (fun y => kp _ _ _ (by decide) (by decide)) (fun f hf => hF f _ (by omega)) (fun i _ => hF 8 _ (by decide)) rfl rfl
    · exact (hNs j hj).tr (fun y => kp _ _ _ (by decide) (by decide)) (fun f hf => hF f _ (by omega)) ⟨rfl, rfl⟩ rfl rfl rfl (fun i _ => ⟨hF _ _ (by decide), hF _ _ (by decide), hF _ _ (by decide), rfl⟩)
    · have hkk : k < zc S 2 + 1 := hkk
      by_cases c : k = zc S 2
      · subst c
        unfold RCi
        rw [va_up_self, hq]
        have e : ∀ (α : Type) (a b : α), (if zc S 2 = zc S 2 then a else b) = a := fun _ _ _ => if_pos rfl
        have e19 : zi (zadI S x it) 19 (zc S 2) = x := by unfold zadI; simp [zi_uc, zi_ui]
        have e20 : zi (zadI S x it) 20 (zc S 2) = it := by unfold zadI; simp [zi_uc, zi_ui]
        have e21 : zi (zadI S x it) 21 (zc S 2) = 0 := by unfold zadI; simp [zi_uc, zi_ui]
        have e22 : zi (zadI S x it) 22 (zc S 2) = 0 := by unfold zadI; simp [zi_uc, zi_ui]
        rw [e19, e20, e21, e22]
        rfl
      · exact (hIs k (by omega)).tr (fun y => kp _ _ _ (by decide) (by decide)) (fun f _ => zadI_i (Or.inl c)) rfl (va_up_ne _ _ c)
    · have hi : i < zc S 2 + 1 := hi
      have hj : j < zc S 2 + 1 := hj
      by_cases c1 : i = zc S 2
      · by_cases c2 : j = zc S 2
        · rw [c1, c2]
        · rw [c1, va_up_self, va_up_ne _ _ c2] at e
          exact absurd e.symm (hiq j (by omega))
      · by_cases c2 : j = zc S 2
        · rw [c2, va_up_self, va_up_ne _ _ c1] at e
          exact absurd e (hiq i (by omega))
        · rw [va_up_ne _ _ c1, va_up_ne _ _ c2] at e
          exact hD4 i j (by omega) (by omega) e
  · rcases (show i = 0 ∨ i = 1 ∨ i = 3 ∨ i = 4 by omega) with rfl | rfl | rfl | rfl
    · rfl
    · rfl
    · show na (zn (zi (zadI S x it) 24 j) - 1) = na (zn (zi S 24 j) - 1)
      rw [hF 24 j (by decide)]
    · show na (zn (zi (zadI S x it) 29 j) - 1) = na (zn (zi S 29 j) - 1)
      rw [hF 29 j (by decide)]
/-- what no customer has is as at the start -/
def zB8 (S : zS) : Prop := ∀ j, zc S 0 < j → zi S 6 j = 0 ∧ zi S 7 j = 0 ∧ ∀ i, i < 32 → zi S 8 (32 * j + i) = 0
def zadK (S : zS) (a b : Int32) : zS := zui (zui (zuc S 0 (zc S 0 + 1)) 4 (zc S 0 + 1) a) 5 (zc S 0 + 1) b
theorem kfil_v : ∀ (n i : Nat), i < n → kfil (fun _ => 0) n i = -1 := by
  intro n
  induction n with
  | zero => intro i h; omega
  | succ n ih =>
    intro i h
    unfold kfil
    by_cases c : i = n
    · subst c; simp [upd]
    · simp only [upd, if_neg c]; exact ih i (by omega)
/-- one more customer -/
theorem RC.addK {G : vv_G} {v v' : vv_V} {o : Nat} {la : Nat → Nat} {cw : Nat} {S : zS} {ra ea ca oa na ia : Nat → Nat} (h : RC G v o la cw S ra ea ca oa na ia) (hB0 : zc S 0 ≤ 40) (hB2 : zB2 S) (hB8 : zB8 S) {q q2 arr' e' : Nat} {a b : Int32} {g : Nat → Int32}
    (hL : LA G v' (la 0) arr' (zc S 0 + 1) e' (va_up ca (zc S 0) q)) (harr : (arr' = ra 0 ∧ 0 < ea 0) ∨ ∀ k, v k arr' = none) (hq : v' 0 q = some (vk (nI (zc S 0 + 1)) a b 0 0 0 0 q2)) (hq2 : v' 50 q2 = some (va32 G 32 g)) (hg : ∀ i, i < 32 → g i = -1) (hqf : ∀ k, v k q2 = none) (hk : vkp (fun k y => (k = 5 ∧ y = la 0) ∨ (k = 53 ∧ y = ra 0 ∧ 0 < ea 0)) v v') :
    RC G v' o la cw (zadK S a b) (va_up ra 0 arr') (va_up ea 0 e') (va_up ca (zc S 0) q) (va_up oa (zc S 0) q2) na ia := by
  obtain ⟨hA, ⟨gw, hW, hWj⟩, hLs, hKs, hNs, hIs, hD1, hD2, hD3, hD4⟩ := id h
  have kp : ∀ (k y : Nat) (z : va_E), k ≠ 5 → k ≠ 53 → v k y = some z → v' k y = some z := fun k y z h5 h53 h1 => hk k y z (fun c => c.elim (fun c => h5 c.1) (fun c => h53 c.1)) h1
  have hF : ∀ f i, f ≠ 4 ∧ f ≠ 5 ∨ i ≠ zc S 0 + 1 → zi (zadK S a b) f i = zi S f i := fun f i hf => by
    unfold zadK
    rw [zi_ui, zi_ui, zi_uc]
    rcases hf with ⟨h1, h2⟩ | h1
    · rw [if_neg h2, if_neg h1]
    · simp only [if_neg h1, ite_self]
  have hiq : ∀ i, i < zc S 0 → oa i ≠ q2 := fun i hi e => by
    obtain ⟨-, g1, a2, -⟩ := hKs i hi
    rw [e, hqf 50] at a2
    cases a2
  have hls := RC.lists (S' := zadK S a b) (ca' := va_up ca (zc S 0) q) (na' := na) (ia' := ia) hLs hD1 hD2 (by decide) hk hL harr (fun i h1 _ => by show zc (zuc S 0 (zc S 0 + 1)) i = _; rw [zc_uc, if_neg h1]) (fun i j h1 h2 hj => ?_)
  · refine ⟨kp _ _ _ (by decide) (by decide) hA, ⟨gw, kp _ _ _ (by decide) (by decide) hW, fun j hj => by rw [hF 2 j (Or.inl (by decide))]; exact hWj j hj⟩, hls.1, fun j hj => ?_, fun j hj => ?_, fun k hkk => ?_, hD1, hls.2, fun i j hi hj e => ?_, hD4⟩
    · have hj : j < zc S 0 + 1 := hj
      by_cases c : j = zc S 0
      · subst c
        obtain ⟨b6, b7, b8⟩ := hB8 (zc S 0 + 1) (Nat.lt_succ_self _)
        have e4 : zi (zadK S a b) 4 (zc S 0 + 1) = a := by unfold zadK; simp [zi_uc, zi_ui]
        have e5 : zi (zadK S a b) 5 (zc S 0 + 1) = b := by unfold zadK; simp [zi_uc, zi_ui]
        refine ⟨⟨0, 0, ?_⟩, g, ?_, fun i hi => ?_⟩
        · rw [va_up_self, va_up_self, hq, e4, e5, hF 6 _ (Or.inl (by decide)), hF 7 _ (Or.inl (by decide)), b6, b7]
        · rw [va_up_self, hq2]
        · rw [hg i hi, hF 8 _ (Or.inl (by decide)), b8 i hi]; rfl
      · exact (hKs j (by omega)).tr (fun y => kp _ _ _ (by decide) (by decide)) (fun y => kp _ _ _ (by decide) (by decide)) (fun f hf => hF f _ (Or.inr (by omega))) (fun i _ => hF 8 _ (Or.inl (by decide))) (va_up_ne _ _ c) (va_up_ne _ _ c)
    · have hj : j < zc S 1 := hj
      obtain ⟨cn, kd, e10, hc1, hc2, -⟩ := hB2 (j + 1) (by omega) (by omega)
      exact (hNs j hj).tr (fun y => kp _ _ _ (by decide) (by decide)) (fun f hf => hF f _ (Or.inl (by omega))) ⟨rfl, rfl⟩ (va_up_ne _ _ (by rw [e10, zn_nI (by omega)]; omega)) rfl rfl (fun i _ => ⟨hF _ _ (Or.inl (by decide)), hF _ _ (Or.inl (by decide)), hF _ _ (Or.inl (by decide)), rfl⟩)
    · exact (hIs k hkk).tr (fun y => kp _ _ _ (by decide) (by decide)) (fun f hf => hF f _ (Or.inl (by omega))) rfl rfl
    · have hi : i < zc S 0 + 1 := hi
      have hj : j < zc S 0 + 1 := hj
      by_cases c1 : i = zc S 0
      · by_cases c2 : j = zc S 0
        · rw [c1, c2]
        · rw [c1, va_up_self, va_up_ne _ _ c2] at e
          exact absurd e.symm (hiq j (by omega))
      · by_cases c2 : j = zc S 0
        · rw [c2, va_up_self, va_up_ne _ _ c1] at e
          exact absurd e (hiq i (by omega))
        · rw [va_up_ne _ _ c1, va_up_ne _ _ c2] at e
          exact hD3 i j (by omega) (by omega) e
  · rcases (show i = 1 ∨ i = 2 ∨ i = 3 ∨ i = 4 by omega) with rfl | rfl | rfl | rfl
    · rfl
    · rfl
    · show na (zn (zi (zadK S a b) 24 j) - 1) = na (zn (zi S 24 j) - 1)
      rw [hF 24 j (Or.inl (by decide))]
    · show na (zn (zi (zadK S a b) 29 j) - 1) = na (zn (zi S 29 j) - 1)
      rw [hF 29 j (Or.inl (by decide))]
/-- the kinds that a call of the class writes besides its own -/
def cX (k _x : Nat) : Prop := k = 1 ∨ k = 2 ∨ k = 5 ∨ k = 53
theorem cX_Y {S : zS} {cw : Nat} {oa : Nat → Nat} (k x : Nat) (h : cX k x) : cYY S cw oa k x := by
  unfold cX at h
  unfold cYY
  omega
theorem cX_1 {a : Nat} (k x : Nat) (h : k = 1 ∧ x = a) : cX k x := Or.inl h.1
theorem cX_2 {a : Nat} (k x : Nat) (h : k = 2 ∧ x = a) : cX k x := Or.inr (Or.inl h.1)
theorem cX_l {a b c : Nat} (k x : Nat) (h : (k = 5 ∧ x = a) ∨ (k = 53 ∧ x = b ∧ 0 < c)) : cX k x := by unfold cX; omega
