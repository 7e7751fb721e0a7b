theorem tm_c (x : Int) : (0 ≤ x ∧ x.tmod 1440 = x % 1440) ∨ (x < 0 ∧ x.tmod 1440 = -((-x) % 1440)) := by
  rcases (show x < 0 ∨ 0 ≤ x by omega) with h | h
  · refine Or.inr ⟨h, ?_⟩
    have e : (-x).tmod 1440 = (-x) % 1440 := Int.tmod_eq_emod_of_nonneg (by omega)
    rw [Int.neg_tmod] at e
    omega
  · exact Or.inl ⟨h, Int.tmod_eq_emod_of_nonneg h⟩
theorem lm_rem (x : Int64) : (x - x / 1440 * 1440).toInt = x.toInt.tmod 1440 := by
  have h1 := Int64.le_toInt x
  have h2 := Int64.toInt_lt x
  have e0 : (1440 : Int64).toInt = 1440 := rfl
  have d1 : (x / 1440).toInt = x.toInt.tdiv 1440 := by
    rw [Int64.toInt_div_of_ne_right _ _ (by decide), e0]
  rw [Int64.toInt_sub, Int64.toInt_mul, d1, e0]
  have h3 : x.toInt.tdiv 1440 * 1440 + x.toInt.tmod 1440 = x.toInt := Int.tdiv_mul_add_tmod _ _
  have h4 := tm_c x.toInt
  rw [Int.bmod_eq_of_le (n := x.toInt.tdiv 1440 * 1440) (by omega) (by omega), Int.bmod_eq_of_le (by omega) (by omega)]
  omega
theorem im_rem (x : Int32) : (x - x / 1440 * 1440).toInt = x.toInt.tmod 1440 := by
  have h1 := Int32.le_toInt x
  have h2 := Int32.toInt_lt x
  have e0 : (1440 : Int32).toInt = 1440 := rfl
  have d1 : (x / 1440).toInt = x.toInt.tdiv 1440 := by
    rw [Int32.toInt_div_of_ne_right _ _ (by decide), e0]
  rw [Int32.toInt_sub, Int32.toInt_mul, d1, e0]
  have h3 : x.toInt.tdiv 1440 * 1440 + x.toInt.tmod 1440 = x.toInt := Int.tdiv_mul_add_tmod _ _
  have h4 := tm_c x.toInt
  rw [Int.bmod_eq_of_le (n := x.toInt.tdiv 1440 * 1440) (by omega) (by omega), Int.bmod_eq_of_le (by omega) (by omega)]
  omega
theorem lx_neg (x : Int64) : (x ^^^ 1440).toInt < 0 ↔ x.toInt < 0 := by
  have h : ∀ y : Int64, y.toInt < 0 ↔ y.toBitVec.msb = true := fun y => by
    show y.toBitVec.toInt < 0 ↔ _
    rw [BitVec.msb_eq_toInt]; simp
  rw [h, h, Int64.toBitVec_xor, BitVec.msb_xor]
  have e1 : (1440 : Int64).toBitVec.msb = false := by decide
  rw [e1]; simp
theorem ix_neg (x : Int32) : (x ^^^ 1440).toInt < 0 ↔ x.toInt < 0 := by
  have h : ∀ y : Int32, y.toInt < 0 ↔ y.toBitVec.msb = true := fun y => by
    show y.toBitVec.toInt < 0 ↔ _
    rw [BitVec.msb_eq_toInt]; simp
  rw [h, h, Int32.toBitVec_xor, BitVec.msb_xor]
  have e1 : (1440 : Int32).toBitVec.msb = false := by decide
  rw [e1]; simp
