def zT0 (S : zS) (c : Nat) : Int64 := zl S 0 0 + (60 * zi S 5 c).toInt64 + 1440
def zloc (S : zS) (c : Nat) : Int32 := (zT0 S c - zT0 S c / 1440 * 1440).toInt32
abbrev zqu (S : zS) (c : Nat) : Prop := (zi S 6 c ≤ zi S 7 c ∧ zi S 6 c ≤ zloc S c ∧ zloc S c < zi S 7 c) ∨ (¬ zi S 6 c ≤ zi S 7 c ∧ (zi S 6 c ≤ zloc S c ∨ zloc S c < zi S 7 c))
abbrev zdue (S : zS) (n : Nat) : Prop := (zl S 13 n).toInt ≤ (zl S 0 0).toInt ∧ (zi S 12 n = 7 ∨ ((zl S 30 (zn (zi S 10 n)) + (zi S 1 0).toInt64).toInt ≤ (zl S 0 0).toInt ∧ ¬ zqu S (zn (zi S 10 n))))
def zltb (S : zS) (b : Nat) (o : Option Nat) (j : Nat) : Bool := match o with
  | none => true
  | some q => decide (zi S 8 (b + j) < zi S 8 (b + q))
/-- the best of the first j channels -/
def zbo (S : zS) (b : Nat) : Nat → Option Nat
  | 0 => none
  | j + 1 => if 0 < (zi S 8 (b + j)).toInt ∧ zi S 2 j = 0 ∧ zltb S b (zbo S b j) j = true then some j else zbo S b j
theorem zbo_lt {S : zS} {b j q : Nat} (h : zbo S b j = some q) : q < j := by
  induction j with
  | zero => cases h
  | succ j ih =>
    unfold zbo at h
    split at h
    · cases h; exact Nat.lt_succ_self _
    · exact Nat.lt_succ_of_lt (ih h)
def zcho (S : zS) (n : Nat) : Option Nat := if zi S 12 n = 4 then (if zi S 2 0 = 0 ∧ ¬ zi S 8 (32 * zn (zi S 10 n) + 16) = 0 then some 0 else none) else zbo S (32 * zn (zi S 10 n) + 4 * zn (zi S 12 n)) 4
/-- owners and kinds of notices -/
def zB2 (S : zS) : Prop := ∀ n, 1 ≤ n → n ≤ zc S 1 → ∃ c k : Nat, zi S 10 n = nI c ∧ 1 ≤ c ∧ c ≤ zc S 0 ∧ zi S 12 n = nI k ∧ k ≤ 7
def zr1 (S : zS) : Nat → zS
  | 0 => S
  | j + 1 => zui (zul (zr1 S j) 30 (j + 1) 1000000001) 31 (j + 1) 0
def zr2 (S : zS) : Nat → zS
  | 0 => S
  | j + 1 => if zi (zr2 S j) 15 (j + 1) = 0 ∧ ¬ zi (zr2 S j) 12 (j + 1) = 7 ∧ (zl (zr2 S j) 13 (j + 1)).toInt < (zl (zr2 S j) 30 (zn (zi (zr2 S j) 10 (j + 1)))).toInt then zul (zr2 S j) 30 (zn (zi (zr2 S j) 10 (j + 1))) (zl (zr2 S j) 13 (j + 1)) else zr2 S j
def zfail (S : zS) (n : Nat) : zS := zuc (zui (zui S 15 n 2) 29 (zc S 4) (nI n)) 4 (zc S 4 + 1)
def zsnd (S : zS) (n q : Nat) : zS :=
  zuc (zul (zui (zui (zui (zui (zui S 15 n 1) 31 (zn (zi S 10 n)) (if zi S 31 (zn (zi S 10 n)) = 0 then nI n else zi S 31 (zn (zi S 10 n)))) 24 (zc S 3) (nI n)) 25 (zc S 3) (nI q)) 26 (zc S 3) (if zi S 31 (zn (zi S 10 n)) = 0 then nI n else zi S 31 (zn (zi S 10 n)))) 27 (zc S 3) (zl S 0 0)) 3 (zc S 3 + 1)
def zstep (S : zS) (n : Nat) : zS := if zi S 15 n = 0 ∧ zdue S n then (match zcho S n with
  | none => zfail S n
  | some q => zsnd S n q) else S
def zr3 (S : zS) : Nat → zS
  | 0 => S
  | j + 1 => zstep (zr3 S j) (j + 1)
def ztick (S : zS) (t : Int64) : zS := zr2 (zr1 (zul S 0 0 t) (zc S 0)) (zc S 1)
def oTick (S : zS) (t : Int64) : Int32 × zS := if zTm S t then (nI (zc (zr3 (ztick S t) (zc S 1)) 3 - zc S 3), zr3 (ztick S t) (zc S 1)) else (-12, S)
theorem zr1_c (S : zS) (j i : Nat) : zc (zr1 S j) i = zc S i := by
  induction j with
  | zero => rfl
  | succ j ih => exact ih
theorem zr1_i (S : zS) (j f i : Nat) (h : f ≠ 31) : zi (zr1 S j) f i = zi S f i := by
  induction j with
  | zero => rfl
  | succ j ih => unfold zr1; rw [zi_ui, if_neg h, zi_ul, ih]
theorem zr1_l (S : zS) (j f i : Nat) (h : f ≠ 30) : zl (zr1 S j) f i = zl S f i := by
  induction j with
  | zero => rfl
  | succ j ih => unfold zr1; rw [zl_ui, zl_ul, if_neg h, ih]
theorem zr2_c (S : zS) (j i : Nat) : zc (zr2 S j) i = zc S i := by
  induction j with
  | zero => rfl
  | succ j ih => unfold zr2; split <;> exact ih
theorem zr2_i (S : zS) (j f i : Nat) : zi (zr2 S j) f i = zi S f i := by
  induction j with
  | zero => rfl
  | succ j ih => unfold zr2; split <;> exact ih
theorem zr2_l (S : zS) (j f i : Nat) (h : f ≠ 30) : zl (zr2 S j) f i = zl S f i := by
  induction j with
  | zero => rfl
  | succ j ih =>
    unfold zr2
    split
    · rw [zl_ul, if_neg h, ih]
    · exact ih
/-- what a turn of the third loop leaves -/
theorem zstep_k (S : zS) (n : Nat) : (∀ i, i ≠ 3 → i ≠ 4 → zc (zstep S n) i = zc S i) ∧ (∀ f i, f ≠ 15 → f ≠ 24 → f ≠ 25 → f ≠ 26 → f ≠ 29 → f ≠ 31 → zi (zstep S n) f i = zi S f i) ∧ (∀ f i, f ≠ 27 → zl (zstep S n) f i = zl S f i) := by
  unfold zstep
  split
  · split
    · refine ⟨fun i h1 h2 => ?_, fun f i h1 h2 h3 h4 h5 h6 => ?_, fun f i h => rfl⟩
      · unfold zfail; rw [zc_uc, if_neg h2]; rfl
      · unfold zfail; rw [zi_uc, zi_ui, if_neg h5, zi_ui, if_neg h1]
    · refine ⟨fun i h1 h2 => ?_, fun f i h1 h2 h3 h4 h5 h6 => ?_, fun f i h => ?_⟩
      · unfold zsnd; rw [zc_uc, if_neg h1]; rfl
      · unfold zsnd; rw [zi_uc, zi_ul, zi_ui, if_neg h4, zi_ui, if_neg h3, zi_ui, if_neg h2, zi_ui, if_neg h6, zi_ui, if_neg h1]
      · unfold zsnd; rw [zl_uc, zl_ul, if_neg h]; rfl
  · exact ⟨fun _ _ _ => rfl, fun _ _ _ _ _ _ _ _ => rfl, fun _ _ _ => rfl⟩
theorem zr3_k (S : zS) (j : Nat) : (∀ i, i ≠ 3 → i ≠ 4 → zc (zr3 S j) i = zc S i) ∧ (∀ f i, f ≠ 15 → f ≠ 24 → f ≠ 25 → f ≠ 26 → f ≠ 29 → f ≠ 31 → zi (zr3 S j) f i = zi S f i) ∧ (∀ f i, f ≠ 27 → zl (zr3 S j) f i = zl S f i) := by
  induction j with
  | zero => exact ⟨fun _ _ _ => rfl, fun _ _ _ _ _ _ _ _ => rfl, fun _ _ _ => rfl⟩
  | succ j ih =>
    obtain ⟨a1, a2, a3⟩ := ih
    obtain ⟨b1, b2, b3⟩ := zstep_k (zr3 S j) (j + 1)
    exact ⟨fun i h1 h2 => (b1 i h1 h2).trans (a1 i h1 h2), fun f i h1 h2 h3 h4 h5 h6 => (b2 f i h1 h2 h3 h4 h5 h6).trans (a2 f i h1 h2 h3 h4 h5 h6), fun f i h => (b3 f i h).trans (a3 f i h)⟩
/-- how many of the first n notices wait -/
def zwc (S : zS) : Nat → Nat
  | 0 => 0
  | n + 1 => zwc S n + (if zi S 15 (n + 1) = 0 then 1 else 0)
theorem zwc_eq {S S' : zS} {n : Nat} (h : ∀ i, 1 ≤ i → i ≤ n → zi S' 15 i = zi S 15 i) : zwc S' n = zwc S n := by
  induction n with
  | zero => rfl
  | succ n ih =>
    unfold zwc
    rw [ih (fun i h1 h2 => h i h1 (by omega)), h (n + 1) (by omega) (Nat.le_refl _)]
theorem zwc_set {S S' : zS} {m : Nat} {x : Int32} (hx : ¬ x = 0) (h0 : zi S 15 m = 0) (hS : ∀ i, zi S' 15 i = if i = m then x else zi S 15 i) : ∀ n, 1 ≤ m → m ≤ n → zwc S' n + 1 = zwc S n := by
  intro n
  induction n with
  | zero => intro h1 h2; omega
  | succ n ih =>
    intro h1 h2
    unfold zwc
    by_cases c : m = n + 1
    · subst c
      have e := zwc_eq (S := S) (S' := S') (n := n) (fun i hi1 hi2 => by rw [hS i, if_neg (by omega)])
      have e2 : zi S' 15 (n + 1) = x := by rw [hS (n + 1), if_pos rfl]
      rw [e2, if_neg hx, if_pos h0, e]
    · have := ih h1 (by omega)
      have e2 : zi S' 15 (n + 1) = zi S 15 (n + 1) := by rw [hS (n + 1), if_neg (fun z => c z.symm)]
      rw [e2]
      omega
theorem zwc_pos {S : zS} {m n : Nat} (h0 : zi S 15 m = 0) (h1 : 1 ≤ m) (h2 : m ≤ n) : 1 ≤ zwc S n := by
  induction n with
  | zero => omega
  | succ n ih =>
    unfold zwc
    by_cases c : m = n + 1
    · subst c; rw [if_pos h0]; omega
    · have := ih (by omega); omega
/-- room for what is sent and what fails -/
def zB3 (S : zS) : Prop := zc S 3 + zc S 4 + zwc S (zc S 1) ≤ zc S 1 ∧ zc S 1 ≤ 200
theorem zstep_B3 {S : zS} {n : Nat} (h : zB3 S) (h1 : 1 ≤ n) (h2 : n ≤ zc S 1) : zB3 (zstep S n) ∧ zc S 3 ≤ zc (zstep S n) 3 := by
  obtain ⟨g1, g2⟩ := h
  unfold zstep
  split
  · rename_i hw
    split
    · refine ⟨⟨?_, g2⟩, Nat.le_refl _⟩
      have e := zwc_set (S := S) (S' := zfail S n) (m := n) (x := 2) (by decide) hw.1 (fun i => by unfold zfail; rw [zi_uc, zi_ui, if_neg (by decide), zi_ui, if_pos rfl]) (zc S 1) h1 h2
      show zc S 3 + (zc S 4 + 1) + zwc (zfail S n) (zc S 1) ≤ zc S 1
      omega
    · rename_i q hq
      refine ⟨⟨?_, g2⟩, Nat.le_succ _⟩
      have e := zwc_set (S := S) (S' := zsnd S n q) (m := n) (x := 1) (by decide) hw.1 (fun i => by unfold zsnd; rw [zi_uc, zi_ul, zi_ui, if_neg (by decide), zi_ui, if_neg (by decide), zi_ui, if_neg (by decide), zi_ui, if_neg (by decide), zi_ui, if_pos rfl]) (zc S 1) h1 h2
      show zc S 3 + 1 + zc S 4 + zwc (zsnd S n q) (zc S 1) ≤ zc S 1
      omega
  · exact ⟨⟨g1, g2⟩, Nat.le_refl _⟩
theorem zr3_B3 {S : zS} (h : zB3 S) : ∀ j, j ≤ zc S 1 → zB3 (zr3 S j) ∧ zc S 3 ≤ zc (zr3 S j) 3 := by
  intro j
  induction j with
  | zero => intro _; exact ⟨h, Nat.le_refl _⟩
  | succ j ih =>
    intro hj
    obtain ⟨a1, a2⟩ := ih (by omega)
    obtain ⟨b1, b2⟩ := zstep_B3 (n := j + 1) a1 (by omega) (by rw [(zr3_k S j).1 1 (by decide) (by decide)]; omega)
    exact ⟨b1, Nat.le_trans a2 b2⟩
