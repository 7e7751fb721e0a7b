/-- numbers lie in their ranges -/
def zB7 (S : zS) : Prop := (∀ i, zi S 8 i = 0 ∨ ∃ n : Nat, n ≤ 9 ∧ zi S 8 i = nI (n + 1)) ∧ (∀ j, zi S 2 j = 0 ∨ zi S 2 j = 1)
theorem w_m1 {x : Int32} (h : x = 0 ∨ ∃ n : Nat, n ≤ 9 ∧ x = nI (n + 1)) : (x - 1 = -1 ↔ ¬ 0 < x.toInt) := by
  rcases h with rfl | ⟨n, hn, rfl⟩
  · decide
  · rw [nI_pred, nI_toInt (by omega)]
    constructor
    · intro z
      have := congrArg Int32.toInt z
      rw [nI_toInt (by omega)] at this
      have e : (-1 : Int32).toInt = -1 := rfl
      omega
    · intro z; omega
theorem kwn_zwn {S : zS} {g : Nat → Int32} {b B : Nat} (hB : zB7 S) : ∀ n, (∀ i, i < n → g (b + i) = zi S 8 (B + i) - 1) → kwn g b n = zwn S B n := by
  intro n
  induction n with
  | zero => intro _; rfl
  | succ n ih =>
    intro h
    unfold kwn zwn
    rw [ih (fun i hi => h i (by omega)), h n (Nat.lt_succ_self _)]
    have := w_m1 (hB.1 (B + n))
    by_cases c : 0 < (zi S 8 (B + n)).toInt
    · rw [if_pos c, if_neg (fun z => this.mp z c)]
    · rw [if_neg c, if_pos (this.mpr c)]
theorem i_sub1 {x y : Int32} (hx : x = 0 ∨ ∃ n : Nat, n ≤ 9 ∧ x = nI (n + 1)) (hy : y = 0 ∨ ∃ n : Nat, n ≤ 9 ∧ y = nI (n + 1)) : x - 1 < y - 1 ↔ x < y := by
  rcases hx with rfl | ⟨n, hn, rfl⟩ <;> rcases hy with rfl | ⟨m, hm, rfl⟩
  · simp
  · rw [nI_pred, Int32.lt_iff_toInt_lt, Int32.lt_iff_toInt_lt, nI_toInt (by omega), nI_toInt (by omega)]
    have e : ((0 : Int32) - 1).toInt = -1 := rfl
    have e0 : (0 : Int32).toInt = 0 := rfl
    omega
  · rw [nI_pred, Int32.lt_iff_toInt_lt, Int32.lt_iff_toInt_lt, nI_toInt (by omega), nI_toInt (by omega)]
    have e : ((0 : Int32) - 1).toInt = -1 := rfl
    have e0 : (0 : Int32).toInt = 0 := rfl
    omega
  · rw [nI_pred, nI_pred, Int32.lt_iff_toInt_lt, Int32.lt_iff_toInt_lt, nI_toInt (by omega), nI_toInt (by omega), nI_toInt (by omega), nI_toInt (by omega)]
    omega
theorem kbo_zbo {S : zS} {g wf : Nat → Int32} {b B : Nat} (hB : zB7 S) : ∀ n, n ≤ 4 → (∀ i, i < 4 → g (b + i) = zi S 8 (B + i) - 1) → (∀ j, j < 4 → wf j = 1 - zi S 2 j) → kbo g wf b n = zbo S B n := by
  intro n
  induction n with
  | zero => intro _ _ _; rfl
  | succ n ih =>
    intro hn h hw
    have e := ih (by omega) h hw
    unfold kbo zbo
    rw [e, h n (by omega)]
    have w1 := w_m1 (hB.1 (B + n))
    have w2 : ¬ wf n = 0 ↔ zi S 2 n = 0 := by
      rw [hw n (by omega)]
      rcases hB.2 n with q | q <;> rw [q] <;> decide
    have w3 : kltb g b (zbo S B n) n = zltb S B (zbo S B n) n := by
      unfold kltb zltb
      cases hz : zbo S B n with
      | none => rfl
      | some q =>
        have hq := zbo_lt hz
        show decide (g (b + n) < g (b + q)) = decide (zi S 8 (B + n) < zi S 8 (B + q))
        rw [h n (by omega), h q (by omega)]
        exact decide_eq_decide.mpr (i_sub1 (hB.1 _) (hB.1 _))
    rw [w3]
    by_cases c : 0 < (zi S 8 (B + n)).toInt ∧ zi S 2 n = 0 ∧ zltb S B (zbo S B n) n = true
    · rw [if_pos c, if_pos ⟨fun z => w1.mp z c.1, w2.mpr c.2.1, c.2.2⟩]
    · rw [if_neg c, if_neg (fun z => c ⟨Decidable.not_not.mp (fun y => z.1 (w1.mpr y)), w2.mp z.2.1, z.2.2⟩)]
theorem i_addsub (x : Int32) : x + 1 - 1 = x := by simp
theorem i_1sub {x : Int32} (h : x = 0 ∨ x = 1) : 1 - (1 - x) = x := by rcases h with rfl | rfl <;> decide
