/-- what the reference keeps for a tick alone may change -/
theorem RC.scr {G : vv_G} {v : vv_V} {o : Nat} {la : Nat → Nat} {cw : Nat} {S S' : zS} {ra ea ca oa na ia : Nat → Nat} (h : RC G v o la cw S ra ea ca oa na ia) (hc : ∀ i, zc S' i = zc S i) (hi : ∀ f i, f ≠ 31 → zi S' f i = zi S f i) (hl : ∀ f i, f ≠ 30 → zl S' f i = zl S f i) : RC G v o la cw S' ra ea ca oa na ia := by
  obtain ⟨hA, ⟨gw, hW, hWj⟩, hLs, hKs, hNs, hIs, hD1, hD2, hD3, hD4⟩ := id h
  refine h.gen hc ?_ ⟨gw, hW, fun j hj => by rw [hi 2 j (by decide)]; exact hWj j hj⟩ (fun k x y hz h1 => h1) (fun i => ⟨hi _ _ (by decide), hi _ _ (by decide)⟩) (fun j hj => ?_) (fun j hj => ?_) (fun k hkk => ?_)
  · rw [hA]; simp only [vc, hl 0 0 (by decide), hi 1 0 (by decide)]
  · exact (hKs j hj).tr (fun y h => h) (fun y h => h) (fun f hf => hi f _ (by omega)) (fun i _ => hi 8 _ (by decide)) rfl rfl
  · exact (hNs j hj).tr (fun y h => h) (fun f hf => hi f _ (by omega)) ⟨hl _ _ (by decide), hl _ _ (by decide)⟩ rfl rfl (hc 3) (fun i _ => ⟨hi _ _ (by decide), hi _ _ (by decide), hi _ _ (by decide), hl _ _ (by decide)⟩)
  · exact (hIs k hkk).tr (fun y h => h) (fun f hf => hi f _ (by omega)) rfl rfl
theorem dlv_F3 {S' : zS} {ca na ia : Nat → Nat} {j0 m : Nat} (hj : j0 ≤ 200) (h3n : zi S' 24 m = nI (j0 + 1)) : cF S' ca na ia 3 m = na j0 := by
  have e : cF S' ca na ia 3 m = na (zn (zi S' 24 m) - 1) := rfl
  rw [e, h3n, zn_nI (by omega), Nat.add_sub_cancel]
theorem dlv_F4 {S' : zS} {ca na ia : Nat → Nat} {j0 m : Nat} (hj : j0 ≤ 200) (h3n : zi S' 29 m = nI (j0 + 1)) : cF S' ca na ia 4 m = na j0 := by
  have e : cF S' ca na ia 4 m = na (zn (zi S' 29 m) - 1) := rfl
  rw [e, h3n, zn_nI (by omega), Nat.add_sub_cancel]
theorem dlv_G3 {S S' : zS} {ca na ia : Nat → Nat} {m : Nat} (h : zi S' 24 m = zi S 24 m) : cF S' ca na ia 3 m = cF S ca na ia 3 m := by
  have e : ∀ S, cF S ca na ia 3 m = na (zn (zi S 24 m) - 1) := fun _ => rfl
  rw [e, e, h]
theorem dlv_G4 {S S' : zS} {ca na ia : Nat → Nat} {m : Nat} (h : zi S' 29 m = zi S 29 m) : cF S' ca na ia 4 m = cF S ca na ia 4 m := by
  have e : ∀ S, cF S ca na ia 4 m = na (zn (zi S 29 m) - 1) := fun _ => rfl
  rw [e, e, h]
theorem dlv_N {v v' : vv_V} {S S' : zS} {ca na : Nat → Nat} {j j0 i0 : Nat} (hN : RCn v S ca na j) (hB1 : zc S 1 ≤ 200) (hj : j < zc S 1) (hj0 : j0 < zc S 1) (c : j ≠ j0) (hi0 : i0 = 3 ∨ i0 = 4) (hv : ∀ y, v 2 (na j) = some y → v' 2 (na j) = some y) (hc : ∀ i, i ≠ i0 → zc S' i = zc S i) (hc0 : zc S' i0 = zc S i0 + 1) (hi : ∀ f i, f ≠ 15 → f ≠ 24 → f ≠ 25 → f ≠ 26 → f ≠ 29 → f ≠ 31 → zi S' f i = zi S f i) (h15 : ∀ j, j ≠ j0 → zi S' 15 (j + 1) = zi S 15 (j + 1))
    (h3 : ∀ f i, i < zc S 3 → f = 24 ∨ f = 25 ∨ f = 26 → zi S' f i = zi S f i) (h3n : i0 = 3 → zi S' 24 (zc S 3) = nI (j0 + 1)) (hl : ∀ f i, f ≠ 27 → zl S' f i = zl S f i) (hl3 : ∀ i, i < zc S 3 → zl S' 27 i = zl S 27 i) : RCn v' S' ca na j := by
  obtain ⟨ch, ms, st, a1, a2⟩ := hN
  refine ⟨ch, ms, st, ?_, fun i h1 h2 => ?_⟩
  · rw [hv _ a1]
    rw [hi 10 _ (by decide) (by decide) (by decide) (by decide) (by decide) (by decide), hi 11 _ (by decide) (by decide) (by decide) (by decide) (by decide) (by decide), hi 12 _ (by decide) (by decide) (by decide) (by decide) (by decide) (by decide), hi 16 _ (by decide) (by decide) (by decide) (by decide) (by decide) (by decide), hi 17 _ (by decide) (by decide) (by decide) (by decide) (by decide) (by decide), h15 j c, hl 13 _ (by decide), hl 14 _ (by decide)]
  · by_cases c3 : i < zc S 3
    · rw [h3 24 i c3 (by decide)] at h2
      rw [h3 25 i c3 (by decide), h3 26 i c3 (by decide), hl3 i c3]
      exact a2 i c3 h2
    · have e3 : i0 = 3 := by
        rcases hi0 with q | q
        · exact q
        · have z := hc 3 (by omega)
          omega
      have ei : i = zc S 3 := by
        rw [e3] at hc0
        omega
      rw [ei, h3n e3] at h2
      exact absurd (nI_inj1 (by omega) (by omega) h2).symm c
/-- notice j0 is sent (list 3) or fails (list 4) -/
theorem RC.dlv {G : vv_G} {v v1 v' : vv_V} {o : Nat} {la : Nat → Nat} {cw : Nat} {S S' : zS} {ra ea ca oa na ia : Nat → Nat} (h : RC G v o la cw S ra ea ca oa na ia) (hB0 : zc S 0 ≤ 40) (hB1 : zc S 1 ≤ 200) {j0 c9 i0 arr' e' : Nat} (hj0 : j0 < zc S 1) (hc9 : c9 < zc S 0) (hi0 : i0 = 3 ∨ i0 = 4)
    (hk1 : vkp (fun k y => (k = 2 ∧ y = na j0) ∨ (k = 0 ∧ y = ca c9)) v v1) (hk3 : vkp (fun k x => (k = 5 ∧ x = la i0) ∨ (k = 53 ∧ x = ra i0 ∧ 0 < ea i0)) v1 v') (hL : LA G v' (la i0) arr' (zc S i0 + 1) e' (va_up (cF S ca na ia i0) (zc S i0) (na j0))) (harr : (arr' = ra i0 ∧ 0 < ea i0) ∨ ∀ k, v1 k arr' = none)
    (hn' : RCn v' S' ca na j0) (hk' : RCk G v' S' ca oa c9) (hc : ∀ i, i ≠ i0 → zc S' i = zc S i) (hc0 : zc S' i0 = zc S i0 + 1) (hi : ∀ f i, f ≠ 15 → f ≠ 24 → f ≠ 25 → f ≠ 26 → f ≠ 29 → f ≠ 31 → zi S' f i = zi S f i) (h15 : ∀ j, j ≠ j0 → zi S' 15 (j + 1) = zi S 15 (j + 1))
    (h3 : ∀ f i, i < zc S 3 → f = 24 ∨ f = 25 ∨ f = 26 → zi S' f i = zi S f i) (h3n : i0 = 3 → zi S' 24 (zc S 3) = nI (j0 + 1)) (h4 : ∀ i, i < zc S 4 → zi S' 29 i = zi S 29 i) (h4n : i0 = 4 → zi S' 29 (zc S 4) = nI (j0 + 1)) (hl : ∀ f i, f ≠ 27 → zl S' f i = zl S f i) (hl3 : ∀ i, i < zc S 3 → zl S' 27 i = zl S 27 i) :
    RC G v' o la cw S' (va_up ra i0 arr') (va_up ea i0 e') ca oa na ia := by
  obtain ⟨hA, ⟨gw, hW, hWj⟩, hLs, hKs, hNs, hIs, hD1, hD2, hD3, hD4⟩ := id h
  have kp : ∀ (k y : Nat) (z : va_E), k ≠ 5 → k ≠ 53 → k ≠ 2 → k ≠ 0 → v k y = some z → v' k y = some z := fun k y z h5 h53 h2 h0 hv => hk3 k y z (fun c => c.elim (fun c => h5 c.1) (fun c => h53 c.1)) (hk1 k y z (fun c => c.elim (fun c => h2 c.1) (fun c => h0 c.1)) hv)
  have h3' : ∀ i, i < 5 → LA G v1 (la i) (ra i) (zc S i) (ea i) (cF S ca na ia i) := fun i hi => (hLs i hi).keep (fun k x y hz h1 => hk1 k x y (by omega) h1) (fun _ _ => rfl)
  have hcF : cF S' ca na ia i0 (zc S i0) = na j0 ∧ ∀ j, j < zc S i0 → cF S' ca na ia i0 j = cF S ca na ia i0 j := by
    rcases hi0 with rfl | rfl
    · exact ⟨dlv_F3 (by omega) (h3n rfl), fun j hj => dlv_G3 (h3 24 j hj (by decide))⟩
    · exact ⟨dlv_F4 (by omega) (h4n rfl), fun j hj => dlv_G4 (h4 j hj)⟩
  have hL' : LA G v' (la i0) arr' (zc S' i0) e' (cF S' ca na ia i0) := by
    rw [hc0]
    refine hL.keep (fun k x y _ hh => hh) (fun j hj => ?_)
    by_cases c : j = zc S i0
    · subst c; rw [va_up_self]; exact hcF.1
    · rw [va_up_ne _ _ c]; exact hcF.2 j (by omega)
  have hls := RC.lists (S' := S') (ca' := ca) (na' := na) (ia' := ia) h3' hD1 hD2 (by omega) hk3 hL' harr (fun i h1 _ => hc i h1) (fun i j h1 h2 hj => ?_)
  · have hcc : ∀ i, i < 3 → zc S' i = zc S i := fun i hh => hc i (by omega)
    refine ⟨?_, ⟨gw, kp _ _ _ (by decide) (by decide) (by decide) (by decide) hW, fun j hj => by rw [hi 2 j (by decide) (by decide) (by decide) (by decide) (by decide) (by decide)]; exact hWj j hj⟩, hls.1, fun j hj => ?_, fun j hj => ?_, fun k hkk => ?_, hD1, hls.2, (by rw [hcc 0 (by decide)]; exact hD3), (by rw [hcc 2 (by decide)]; exact hD4)⟩
    · rw [kp _ _ _ (by decide) (by decide) (by decide) (by decide) hA]; simp only [vc, hl 0 0 (by decide), hi 1 0 (by decide) (by decide) (by decide) (by decide) (by decide) (by decide)]
    · rw [hcc 0 (by decide)] at hj
      by_cases c : j = c9
      · subst c; exact hk'
      · exact (hKs j hj).tr (fun y hy => hk3 _ _ _ (by intro z; omega) (hk1 _ _ _ (by rintro (z | z); exact absurd z.1 (by decide); exact c (h.caI hB0 hj hc9 z.2)) hy)) (fun y => kp _ _ _ (by decide) (by decide) (by decide) (by decide)) (fun f hf => hi f _ (by omega) (by omega) (by omega) (by omega) (by omega) (by omega)) (fun i _ => hi 8 _ (by decide) (by decide) (by decide) (by decide) (by decide) (by decide)) rfl rfl
    · rw [hcc 1 (by decide)] at hj
      by_cases c : j = j0
      · subst c; exact hn'
      · exact dlv_N (hNs j hj) hB1 hj hj0 c hi0 (fun y hy => hk3 _ _ _ (by intro z; omega) (hk1 _ _ _ (by rintro (z | z); exact c (h.naI hB1 hj hj0 z.2); exact absurd z.1 (by decide)) hy)) hc hc0 hi h15 h3 h3n hl hl3
    · rw [hcc 2 (by decide)] at hkk
      exact (hIs k hkk).tr (fun y => kp _ _ _ (by decide) (by decide) (by decide) (by decide)) (fun f hf => hi f _ (by omega) (by omega) (by omega) (by omega) (by omega) (by omega)) rfl rfl
  · rcases (show i = 0 ∨ i = 1 ∨ i = 2 ∨ i = 3 ∨ i = 4 by omega) with rfl | rfl | rfl | rfl | rfl
    · have e : ∀ S, cF S ca na ia 0 j = ca j := fun _ => rfl
      rw [e, e]
    · have e : ∀ S, cF S ca na ia 1 j = na j := fun _ => rfl
      rw [e, e]
    · have e : ∀ S, cF S ca na ia 2 j = ia j := fun _ => rfl
      rw [e, e]
    · exact dlv_G3 (h3 24 j hj (by decide))
    · exact dlv_G4 (h4 j hj)
/-- what the customers keep for a tick -/
def RTr (v : vv_V) (S : zS) (ca oa : Nat → Nat) (j : Nat) : Prop := ∃ lw : Int64, v 0 (ca j) = some (vk (nI (j + 1)) (zi S 4 (j + 1)) (zi S 5 (j + 1)) (zi S 6 (j + 1)) (zi S 7 (j + 1)) lw (zi S 31 (j + 1)) (oa j)) ∧ lw.toInt = min 1000000000 (zl S 30 (j + 1)).toInt
def RT (v : vv_V) (S : zS) (ca oa : Nat → Nat) : Prop := ∀ j, j < zc S 0 → RTr v S ca oa j
theorem RTr.tr {v v' : vv_V} {S S' : zS} {ca oa : Nat → Nat} {j : Nat} (h : RTr v S ca oa j) (h0 : ∀ y, v 0 (ca j) = some y → v' 0 (ca j) = some y) (hi : ∀ f, f = 4 ∨ f = 5 ∨ f = 6 ∨ f = 7 ∨ f = 31 → zi S' f (j + 1) = zi S f (j + 1)) (hl : zl S' 30 (j + 1) = zl S 30 (j + 1)) : RTr v' S' ca oa j := by
  obtain ⟨lw, a1, a2⟩ := h
  refine ⟨lw, ?_, by rw [hl]; exact a2⟩
  rw [h0 _ a1, hi 4 (by decide), hi 5 (by decide), hi 6 (by decide), hi 7 (by decide), hi 31 (by decide)]
theorem m60 {z : Int32} (h : zIn z (-12) 14) : (60 * z : Int32).toInt = 60 * z.toInt := by
  obtain ⟨h1, h2⟩ := h
  have e : (60 : Int32).toInt = 60 := rfl
  rw [Int32.toInt_mul, e, Int.bmod_eq_of_le (by omega) (by omega)]
theorem t60 {t : Int64} {z : Int32} (h : zIn z (-12) 14) (ht : 0 ≤ t.toInt ∧ t.toInt ≤ 1000000000) : (t + (60 * z).toInt64).toInt = t.toInt + 60 * z.toInt := by
  have := m60 h
  obtain ⟨h1, h2⟩ := h
  rw [Int64.toInt_add, i64_toInt, this, Int.bmod_eq_of_le (by omega) (by omega)]
theorem zloc_v {S : zS} (hB : zB9 S) (c : Nat) : (zloc S c).toInt = (zl S 0 0 + (60 * zi S 5 c).toInt64).toInt % 1440 := by
  obtain ⟨-, -, h0, h5, -⟩ := hB
  have h5 := h5 c
  have e1 := t60 h5 h0
  have e2 : (zT0 S c).toInt = (zl S 0 0).toInt + 60 * (zi S 5 c).toInt + 1440 := by
    unfold zT0
    have e : (1440 : Int64).toInt = 1440 := rfl
    obtain ⟨q1, q2⟩ := h5
    rw [Int64.toInt_add, e1, e, Int.bmod_eq_of_le (by omega) (by omega)]
  have e3 := fm_b (x := zT0 S c) (Or.inl (by obtain ⟨q1, q2⟩ := h5; omega))
  unfold zloc
  rw [Int64.toInt_toInt32, e3, e1, e2, Int.bmod_eq_of_le (by omega) (by omega)]
  omega
theorem kqu_zqu {S : zS} (hB : zB9 S) (c : Nat) : kqu (zi S 5 c) (zi S 6 c) (zi S 7 c) (zl S 0 0) ↔ zqu S c := by
  unfold kqu zqu
  rw [Int32.le_iff_toInt_le, Int32.le_iff_toInt_le, Int32.lt_iff_toInt_lt, zloc_v hB c]
theorem i_m1 {x : Int32} : x - 1 = -1 ↔ x = 0 := by
  constructor
  · intro h
    have := congrArg (· + 1) h
    simpa using this
  · rintro rfl; rfl
theorem kcho {S : zS} {g wf : Nat → Int32} {n c kd : Nat} (hB : zB7 S) (hkd : kd ≤ 7) (hg : ∀ i, i < 32 → g i = zi S 8 (32 * c + i) - 1) (hw : ∀ j, j < 4 → wf j = 1 - zi S 2 j) (h12 : zi S 12 n = nI kd) (h10 : zn (zi S 10 n) = c) : kbo g wf (kd * 4) (if kd = 4 then 1 else 4) = zcho S n := by
  unfold zcho
  by_cases c4 : kd = 4
  · subst c4
    rw [if_pos rfl, h12, if_pos (by decide), h10]
    unfold kbo
    have w2 : ¬ wf 0 = 0 ↔ zi S 2 0 = 0 := by
      rw [hw 0 (by decide)]
      rcases hB.2 0 with q | q <;> rw [q] <;> decide
    have w1 : ¬ g (4 * 4 + 0) = -1 ↔ ¬ zi S 8 (32 * c + 16) = 0 := by
      rw [hg 16 (by decide), i_m1]
    by_cases cc : zi S 2 0 = 0 ∧ ¬ zi S 8 (32 * c + 16) = 0
    · rw [if_pos cc, if_pos ⟨w1.mpr cc.2, w2.mpr cc.1, rfl⟩]
    · rw [if_neg cc, if_neg (fun z => cc ⟨w2.mp z.2.1, w1.mp z.1⟩)]; rfl
  · have h4 : ¬ nI kd = 4 := fun z => c4 ((nI_eq (a := kd) (b := 4) (by omega) (by omega)).mp z)
    rw [if_neg c4, h12, if_neg h4, h10, zn_nI (by omega)]
    exact kbo_zbo hB 4 (by decide) (fun i hi => by rw [hg (kd * 4 + i) (by omega)]; congr 2; omega) hw
/-- the least time is at most that of a notice that waits -/
theorem zr2_le (S : zS) : ∀ j n, 1 ≤ n → n ≤ j → zi S 15 n = 0 → ¬ zi S 12 n = 7 → (zl (zr2 S j) 30 (zn (zi S 10 n))).toInt ≤ (zl S 13 n).toInt := by
  intro j
  induction j with
  | zero => intro n h1 h2; omega
  | succ j ih =>
    intro n h1 h2 h15 h12
    unfold zr2
    rw [zr2_i, zr2_i, zr2_i, zr2_l _ _ _ _ (by decide)]
    by_cases c : n = j + 1
    · subst c
      by_cases cc : (zl S 13 (j + 1)).toInt < (zl (zr2 S j) 30 (zn (zi S 10 (j + 1)))).toInt
      · rw [if_pos ⟨h15, h12, cc⟩, zl_ul, if_pos rfl, if_pos rfl]; exact Int.le_refl _
      · rw [if_neg (fun z => cc z.2.2)]; omega
    · have hh := ih n h1 (by omega) h15 h12
      split
      · rename_i q
        rw [zl_ul, if_pos rfl]
        split
        · rename_i e
          rw [e] at hh
          omega
        · exact hh
      · exact hh
