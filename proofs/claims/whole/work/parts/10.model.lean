/-! THE STATE that both sides hold: counts c (0 customers, 1 notices, 2 pairs, 3 sent, 4 failed), ints and longs by the number of the reference's field and a place. -/
abbrev zS : Type := (Nat → Nat) × (Nat → Nat → Int32) × (Nat → Nat → Int64)
def zc (S : zS) (i : Nat) : Nat := S.1 i
def zi (S : zS) (f i : Nat) : Int32 := S.2.1 f i
def zl (S : zS) (f i : Nat) : Int64 := S.2.2 f i
def zuc (S : zS) (i n : Nat) : zS := (fun i' => if i' = i then n else S.1 i', S.2.1, S.2.2)
def zui (S : zS) (f i : Nat) (x : Int32) : zS := (S.1, fun f' i' => if f' = f then (if i' = i then x else S.2.1 f' i') else S.2.1 f' i', S.2.2)
def zul (S : zS) (f i : Nat) (x : Int64) : zS := (S.1, S.2.1, fun f' i' => if f' = f then (if i' = i then x else S.2.2 f' i') else S.2.2 f' i')
theorem zc_uc (S : zS) (i n j : Nat) : zc (zuc S i n) j = if j = i then n else zc S j := rfl
theorem zc_ui (S : zS) (f i j : Nat) (x : Int32) : zc (zui S f i x) j = zc S j := rfl
theorem zc_ul (S : zS) (f i j : Nat) (x : Int64) : zc (zul S f i x) j = zc S j := rfl
theorem zi_uc (S : zS) (i n f j : Nat) : zi (zuc S i n) f j = zi S f j := rfl
theorem zi_ui (S : zS) (f i g j : Nat) (x : Int32) : zi (zui S f i x) g j = if g = f then (if j = i then x else zi S g j) else zi S g j := rfl
theorem zi_ul (S : zS) (f i g j : Nat) (x : Int64) : zi (zul S f i x) g j = zi S g j := rfl
theorem zl_uc (S : zS) (i n f j : Nat) : zl (zuc S i n) f j = zl S f j := rfl
theorem zl_ui (S : zS) (f i g j : Nat) (x : Int32) : zl (zui S f i x) g j = zl S g j := rfl
theorem zl_ul (S : zS) (f i g j : Nat) (x : Int64) : zl (zul S f i x) g j = if g = f then (if j = i then x else zl S g j) else zl S g j := rfl
/-- the reference's arrays: ints, booleans, longs; their lengths -/
def mI (f : Nat) : Bool := [4, 5, 6, 7, 8, 10, 11, 12, 15, 19, 20, 22, 24, 25, 26, 29, 31].contains f
def mZ (f : Nat) : Bool := [2, 16, 17, 21].contains f
def mL (f : Nat) : Bool := [13, 14, 27, 30].contains f
def mN (f : Nat) : Nat := if f = 2 then 4 else if f = 8 then 1312 else if f < 8 ∨ f = 30 ∨ f = 31 then 41 else if f < 18 then 201 else if f < 23 then 60 else 200
def mA (f : Nat) : Bool := mI f || mZ f || mL f
def mFs (ad : Nat → Nat) (S : zS) : List Value := [.long (zl S 0 0), .int (zi S 1 0), .ref (ad 2), .int (nI (zc S 0)), .ref (ad 4), .ref (ad 5), .ref (ad 6), .ref (ad 7), .ref (ad 8), .int (nI (zc S 1)), .ref (ad 10), .ref (ad 11), .ref (ad 12), .ref (ad 13), .ref (ad 14), .ref (ad 15), .ref (ad 16), .ref (ad 17), .int (nI (zc S 2)), .ref (ad 19), .ref (ad 20), .ref (ad 21), .ref (ad 22), .int (nI (zc S 3)), .ref (ad 24), .ref (ad 25), .ref (ad 26), .ref (ad 27), .int (nI (zc S 4)), .ref (ad 29), .ref (ad 30), .ref (ad 31)]
/-- the reference's object at o, its arrays at ad: it holds S -/
def RM (G : vv_G) (v : vv_V) (o : Nat) (ad : Nat → Nat) (S : zS) : Prop :=
  v 4 o = some (.inr (4, mFs ad S)) ∧ (∀ f, mI f = true → v 50 (ad f) = some (.inl (G.2.2.2.2 0, mN f, .inl (zi S f)))) ∧ (∀ f, mZ f = true → v 51 (ad f) = some (.inl (G.2.2.2.2 1, mN f, .inl (zi S f)))) ∧ (∀ f, mL f = true → v 52 (ad f) = some (.inl (G.2.2.2.2 2, mN f, .inr (.inl (zl S f))))) ∧ ∀ f g, mA f = true → mA g = true → ad f = ad g → f = g
def mX (o : Nat) (ad : Nat → Nat) (a : Nat) : Prop := a = o ∨ ∃ f, mA f = true ∧ a = ad f
/-- what isn't in X stays -/
def vkeep (X : Nat → Prop) (v v' : vv_V) : Prop := ∀ (k a : Nat) (e : va_E), ¬ X a → v k a = some e → v' k a = some e
theorem vkeep.rf {X : Nat → Prop} {v : vv_V} : vkeep X v v := fun _ _ _ _ h => h
theorem vkeep.tr {X : Nat → Prop} {v v1 v2 : vv_V} (h1 : vkeep X v v1) (h2 : vkeep X v1 v2) : vkeep X v v2 := fun k a e hx h => h2 k a e hx (h1 k a e hx h)
theorem vkeep.up {X : Nat → Prop} {v v1 : vv_V} {k a : Nat} {e : va_E} (h : vkeep X v v1) (ha : X a) : vkeep X v (vv_up v1 k a e) := fun k' a' e' hx h' => by
  rw [vv_up_a _ _ _ _ (fun z => hx (by rw [z]; exact ha))]
  exact h k' a' e' hx h'
theorem RM.oi {G : vv_G} {v : vv_V} {o : Nat} {ad : Nat → Nat} {S : zS} (h : RM G v o ad S) {f : Nat} (hf : mI f = true) : v 50 (ad f) = some (.inl (G.2.2.2.2 0, mN f, .inl (zi S f))) := h.2.1 f hf
theorem RM.oz {G : vv_G} {v : vv_V} {o : Nat} {ad : Nat → Nat} {S : zS} (h : RM G v o ad S) {f : Nat} (hf : mZ f = true) : v 51 (ad f) = some (.inl (G.2.2.2.2 1, mN f, .inl (zi S f))) := h.2.2.1 f hf
theorem RM.ol {G : vv_G} {v : vv_V} {o : Nat} {ad : Nat → Nat} {S : zS} (h : RM G v o ad S) {f : Nat} (hf : mL f = true) : v 52 (ad f) = some (.inl (G.2.2.2.2 2, mN f, .inr (.inl (zl S f)))) := h.2.2.2.1 f hf
theorem m_iz {f : Nat} (h : mI f = true) : mZ f = false ∧ mL f = false ∧ mA f = true := by
  simp only [mI, List.contains_eq_mem, List.mem_cons, List.not_mem_nil, or_false, decide_eq_true_eq] at h
  rcases h with rfl | rfl | rfl | rfl | rfl | rfl | rfl | rfl | rfl | rfl | rfl | rfl | rfl | rfl | rfl | rfl | rfl <;> decide
theorem m_zz {f : Nat} (h : mZ f = true) : mI f = false ∧ mL f = false ∧ mA f = true := by
  simp only [mZ, List.contains_eq_mem, List.mem_cons, List.not_mem_nil, or_false, decide_eq_true_eq] at h
  rcases h with rfl | rfl | rfl | rfl <;> decide
theorem m_lz {f : Nat} (h : mL f = true) : mI f = false ∧ mZ f = false ∧ mA f = true := by
  simp only [mL, List.contains_eq_mem, List.mem_cons, List.not_mem_nil, or_false, decide_eq_true_eq] at h
  rcases h with rfl | rfl | rfl | rfl <;> decide
theorem mFs_i {ad : Nat → Nat} {S : zS} {f i : Nat} {x : Int32} (h : f ≠ 1) : mFs ad (zui S f i x) = mFs ad S := by
  unfold mFs
  rw [zi_ui, if_neg (Ne.symm h)]
  rfl
theorem mFs_l {ad : Nat → Nat} {S : zS} {f i : Nat} {x : Int64} (h : f ≠ 0) : mFs ad (zul S f i x) = mFs ad S := by
  unfold mFs
  rw [zl_ul, if_neg (Ne.symm h)]
  rfl
theorem zi_upd {S : zS} {f i : Nat} {x : Int32} : zi (zui S f i x) f = upd (zi S f) i x := by
  funext j
  rw [zi_ui, if_pos rfl]
  rfl
theorem zi_updn {S : zS} {f g i : Nat} {x : Int32} (h : g ≠ f) : zi (zui S f i x) g = zi S g := by
  funext j
  rw [zi_ui, if_neg h]
theorem zl_upd {S : zS} {f i : Nat} {x : Int64} : zl (zul S f i x) f = vp_updL (zl S f) i x := by
  funext j
  rw [zl_ul, if_pos rfl]
  rfl
theorem zl_updn {S : zS} {f g i : Nat} {x : Int64} (h : g ≠ f) : zl (zul S f i x) g = zl S g := by
  funext j
  rw [zl_ul, if_neg h]
theorem RM.puti {G : vv_G} {v : vv_V} {o : Nat} {ad : Nat → Nat} {S : zS} (h : RM G v o ad S) (f : Nat) (hf : mI f = true) (i : Nat) (x : Int32) : RM G (vv_up v 50 (ad f) (.inl (G.2.2.2.2 0, mN f, .inl (upd (zi S f) i x)))) o ad (zui S f i x) := by
  obtain ⟨h0, h1, h2, h3, h4⟩ := h
  obtain ⟨z1, z2, z3⟩ := m_iz hf
  have hf1 : f ≠ 1 := fun z => by rw [z] at hf; exact absurd hf (by decide)
  refine ⟨?_, fun g hg => ?_, fun g hg => ?_, fun g hg => ?_, h4⟩
  · rw [vv_up_k _ _ _ _ (by decide), mFs_i hf1]; exact h0
  · by_cases c : g = f
    · subst c
      rw [vv_up_s, zi_upd]
    · rw [vv_up_a _ _ _ _ (fun z => c (h4 g f (m_iz hg).2.2 z3 z)), zi_updn c]; exact h1 g hg
  · rw [vv_up_k _ _ _ _ (by decide), zi_updn (fun z => by rw [z] at hg; rw [hg] at z1; cases z1)]; exact h2 g hg
  · rw [vv_up_k _ _ _ _ (by decide)]; exact h3 g hg
theorem RM.putz {G : vv_G} {v : vv_V} {o : Nat} {ad : Nat → Nat} {S : zS} (h : RM G v o ad S) (f : Nat) (hf : mZ f = true) (i : Nat) (x y : Int32) (hx : vp_nar .boolean y = x) : RM G (vv_up v 51 (ad f) (.inl (G.2.2.2.2 1, mN f, .inl (upd (zi S f) i (vp_nar .boolean y))))) o ad (zui S f i x) := by
  rw [hx]
  obtain ⟨h0, h1, h2, h3, h4⟩ := h
  obtain ⟨z1, z2, z3⟩ := m_zz hf
  have hf1 : f ≠ 1 := fun z => by rw [z] at hf; exact absurd hf (by decide)
  refine ⟨?_, fun g hg => ?_, fun g hg => ?_, fun g hg => ?_, h4⟩
  · rw [vv_up_k _ _ _ _ (by decide), mFs_i hf1]; exact h0
  · rw [vv_up_k _ _ _ _ (by decide), zi_updn (fun z => by rw [z] at hg; rw [hg] at z1; cases z1)]; exact h1 g hg
  · by_cases c : g = f
    · subst c
      rw [vv_up_s, zi_upd]
    · rw [vv_up_a _ _ _ _ (fun z => c (h4 g f (m_zz hg).2.2 z3 z)), zi_updn c]; exact h2 g hg
  · rw [vv_up_k _ _ _ _ (by decide)]; exact h3 g hg
theorem RM.putl {G : vv_G} {v : vv_V} {o : Nat} {ad : Nat → Nat} {S : zS} (h : RM G v o ad S) (f : Nat) (hf : mL f = true) (i : Nat) (x : Int64) : RM G (vv_up v 52 (ad f) (.inl (G.2.2.2.2 2, mN f, .inr (.inl (vp_updL (zl S f) i x))))) o ad (zul S f i x) := by
  obtain ⟨h0, h1, h2, h3, h4⟩ := h
  obtain ⟨z1, z2, z3⟩ := m_lz hf
  have hf1 : f ≠ 0 := fun z => by rw [z] at hf; exact absurd hf (by decide)
  refine ⟨?_, fun g hg => ?_, fun g hg => ?_, fun g hg => ?_, h4⟩
  · rw [vv_up_k _ _ _ _ (by decide), mFs_l hf1]; exact h0
  · rw [vv_up_k _ _ _ _ (by decide)]; exact h1 g hg
  · rw [vv_up_k _ _ _ _ (by decide)]; exact h2 g hg
  · by_cases c : g = f
    · subst c
      rw [vv_up_s, zl_upd]
    · rw [vv_up_a _ _ _ _ (fun z => c (h4 g f (m_lz hg).2.2 z3 z)), zl_updn c]; exact h3 g hg
/-- a scalar field is written: fs are the new fields -/
theorem RM.puts {G : vv_G} {v : vv_V} {o : Nat} {ad : Nat → Nat} {S S' : zS} {fs : List Value} (h : RM G v o ad S) (hs : fs = mFs ad S') (hi : ∀ f, mI f = true ∨ mZ f = true → zi S' f = zi S f) (hl : ∀ f, mL f = true → zl S' f = zl S f) : RM G (vv_up v 4 o (.inr (4, fs))) o ad S' := by
  obtain ⟨h0, h1, h2, h3, h4⟩ := h
  refine ⟨?_, fun g hg => ?_, fun g hg => ?_, fun g hg => ?_, h4⟩
  · rw [vv_up_s, hs]
  · rw [vv_up_k _ _ _ _ (by decide), hi g (Or.inl hg)]; exact h1 g hg
  · rw [vv_up_k _ _ _ _ (by decide), hi g (Or.inr hg)]; exact h2 g hg
  · rw [vv_up_k _ _ _ _ (by decide), hl g hg]; exact h3 g hg
theorem mX_o {o : Nat} {ad : Nat → Nat} : mX o ad o := Or.inl rfl
theorem mX_f {o : Nat} {ad : Nat → Nat} {f : Nat} (h : mA f = true) : mX o ad (ad f) := Or.inr ⟨f, h, rfl⟩
section VN
variable {p : Program} {l : Launch} {e : Env} {R : Room} {s : State} {m : MethodId} {args : Array Value} {below : List Frame} {meth : Method} {c : Code} {Q : State → Prop} {G : vv_G} {cc : ByteArray} {nL : Nat} {ret : Option FieldType} {own : String} {v : vv_V} {kc ks pc : Nat} {lv : List (Nat × Value)} {st : List Value}
theorem v_toi {x y : Int32} (h : x = y) (k : vV p l e R s m args below meth c Q G nL v kc ks pc lv (.int y :: st)) : vV p l e R s m args below meth c Q G nL v kc ks pc lv (.int x :: st) := by rw [h]; exact k
theorem v_tol {x y : Int64} (h : x = y) (k : vV p l e R s m args below meth c Q G nL v kc ks pc lv (.long y :: st)) : vV p l e R s m args below meth c Q G nL v kc ks pc lv (.long x :: st) := by rw [h]; exact k
theorem v_toi2 {a : Value} {x y : Int32} (h : x = y) (k : vV p l e R s m args below meth c Q G nL v kc ks pc lv (a :: .int y :: st)) : vV p l e R s m args below meth c Q G nL v kc ks pc lv (a :: .int x :: st) := by rw [h]; exact k
variable {n i a : Nat} {f : Nat → Int32} {fl : Nat → Int64}
theorem v_ialdN (C : vC p s m args meth c cc nL ret own G) (he : v 50 a = some (.inl (G.2.2.2.2 0, n, .inl f))) (hi : i < n) (hn : n < 2 ^ 31) (hd : decode cc pc = .ok (.iaload, 1)) (k : vV p l e R s m args below meth c Q G nL v kc ks (pc + 1) lv (.int (f i) :: st)) : vV p l e R s m args below meth c Q G nL v kc ks pc lv (.int (nI i) :: .ref a :: st) := v_iald C he (vp_in_nI hi hn) hd (by rw [nI_clamp (Nat.lt_trans hi hn)]; exact k)
theorem v_zaldN (C : vC p s m args meth c cc nL ret own G) (he : v 51 a = some (.inl (G.2.2.2.2 1, n, .inl f))) (hi : i < n) (hn : n < 2 ^ 31) (hd : decode cc pc = .ok (.baload, 1)) (k : vV p l e R s m args below meth c Q G nL v kc ks (pc + 1) lv (.int (f i) :: st)) : vV p l e R s m args below meth c Q G nL v kc ks pc lv (.int (nI i) :: .ref a :: st) := v_zald C he (vp_in_nI hi hn) hd (by rw [nI_clamp (Nat.lt_trans hi hn)]; exact k)
theorem v_laldN (C : vC p s m args meth c cc nL ret own G) (he : v 52 a = some (.inl (G.2.2.2.2 2, n, .inr (.inl fl)))) (hi : i < n) (hn : n < 2 ^ 31) (hd : decode cc pc = .ok (.laload, 1)) (k : vV p l e R s m args below meth c Q G nL v kc ks (pc + 1) lv (.long (fl i) :: st)) : vV p l e R s m args below meth c Q G nL v kc ks pc lv (.int (nI i) :: .ref a :: st) := v_lald C he (vp_in_nI hi hn) hd (by rw [nI_clamp (Nat.lt_trans hi hn)]; exact k)
theorem v_iastN {x : Int32} (C : vC p s m args meth c cc nL ret own G) (he : v 50 a = some (.inl (G.2.2.2.2 0, n, .inl f))) (hi : i < n) (hn : n < 2 ^ 31) (hd : decode cc pc = .ok (.iastore, 1)) (k : vV p l e R s m args below meth c Q G nL (vv_up v 50 a (.inl (G.2.2.2.2 0, n, .inl (upd f i x)))) kc ks (pc + 1) lv st) : vV p l e R s m args below meth c Q G nL v kc ks pc lv (.int x :: .int (nI i) :: .ref a :: st) := v_iast C he (vp_in_nI hi hn) hd (by rw [nI_clamp (Nat.lt_trans hi hn)]; exact k)
theorem v_zastN {x : Int32} (C : vC p s m args meth c cc nL ret own G) (he : v 51 a = some (.inl (G.2.2.2.2 1, n, .inl f))) (hi : i < n) (hn : n < 2 ^ 31) (hd : decode cc pc = .ok (.bastore, 1)) (k : vV p l e R s m args below meth c Q G nL (vv_up v 51 a (.inl (G.2.2.2.2 1, n, .inl (upd f i (vp_nar .boolean x))))) kc ks (pc + 1) lv st) : vV p l e R s m args below meth c Q G nL v kc ks pc lv (.int x :: .int (nI i) :: .ref a :: st) := v_zast C he (vp_in_nI hi hn) hd (by rw [nI_clamp (Nat.lt_trans hi hn)]; exact k)
theorem v_lastN {x : Int64} (C : vC p s m args meth c cc nL ret own G) (he : v 52 a = some (.inl (G.2.2.2.2 2, n, .inr (.inl fl)))) (hi : i < n) (hn : n < 2 ^ 31) (hd : decode cc pc = .ok (.lastore, 1)) (k : vV p l e R s m args below meth c Q G nL (vv_up v 52 a (.inl (G.2.2.2.2 2, n, .inr (.inl (vp_updL fl i x))))) kc ks (pc + 1) lv st) : vV p l e R s m args below meth c Q G nL v kc ks pc lv (.long x :: .int (nI i) :: .ref a :: st) := v_last C he (vp_in_nI hi hn) hd (by rw [nI_clamp (Nat.lt_trans hi hn)]; exact k)
end VN
-- numbers
abbrev zIn (x : Int32) (a b : Int) : Prop := a ≤ x.toInt ∧ x.toInt ≤ b
theorem zIn_nI {x : Int32} {a b : Nat} (h : zIn x a b) : ∃ n : Nat, x = nI n ∧ a ≤ n ∧ n ≤ b ∧ n < 2 ^ 31 := by
  obtain ⟨h1, h2⟩ := h
  have h0 : ¬ x < 0 := fun z => by have := Int32.lt_iff_toInt_lt.mp z; simp at this; omega
  obtain ⟨n, hn, rfl⟩ := nI_of h0
  rw [nI_toInt hn] at h1 h2
  exact ⟨n, rfl, by omega, by omega, hn⟩
theorem zIn_of {n a b : Nat} (h1 : a ≤ n) (h2 : n ≤ b) (h : n < 2 ^ 31) : zIn (nI n) a b := by
  unfold zIn
  rw [nI_toInt h]
  omega
def zn (x : Int32) : Nat := x.toNatClampNeg
theorem zn_nI {n : Nat} (h : n < 2 ^ 31) : zn (nI n) = n := nI_clamp h
abbrev zTm (S : zS) (t : Int64) : Prop := (zl S 0 0).toInt ≤ t.toInt ∧ t.toInt ≤ 1000000000
