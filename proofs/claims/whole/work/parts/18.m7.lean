theorem vkeep.nu {X : Nat → Prop} {v v1 : vv_V} {k q : Nat} {e : va_E} (h : vkeep X v v1) (hf : ∀ k', v1 k' q = none) : vkeep X v (vv_up v1 k q e) := fun k' a' e' hx h' => by
  have h2 := h k' a' e' hx h'
  rw [vv_up_a _ _ _ _ (fun z => by subst z; rw [hf k'] at h2; cases h2)]
  exact h2
theorem vkeep.fr {v v1 : vv_V} {o q ko : Nat} {eo : va_E} (h : vkeep (fun a => a = o) v v1) (ho : v1 ko o = some eo) (hf : ∀ k', v1 k' q = none) (k : Nat) : v k q = none := by
  cases hv : v k q with
  | none => rfl
  | some e =>
    have hq : ¬ q = o := fun z => by subst z; rw [hf ko] at ho; cases ho
    have := h k q e hq hv
    rw [hf k] at this
    cases this
def z0 : zS := (fun _ => 0, fun _ _ => 0, fun _ _ => 0)
theorem vdom.up {v : vv_V} {L : List Nat} {k a : Nat} {e : va_E} (h : ∀ x ∈ L, ∃ (k : Nat) (e : va_E), v k x = some e) : ∀ x ∈ L, ∃ (k' : Nat) (e' : va_E), vv_up v k a e k' x = some e' := by
  intro x hx
  obtain ⟨k1, e1, h1⟩ := h x hx
  by_cases c1 : k1 = k
  · by_cases c2 : x = a
    · exact ⟨k, e, by rw [c2]; exact vv_up_s _ _ _ _⟩
    · exact ⟨k1, e1, by rw [vv_up_a _ _ _ _ c2]; exact h1⟩
  · exact ⟨k1, e1, by rw [vv_up_k _ _ _ _ c1]; exact h1⟩
theorem vdom.cons {v : vv_V} {L : List Nat} {k a : Nat} {e : va_E} (h : ∀ x ∈ L, ∃ (k : Nat) (e : va_E), v k x = some e) : ∀ x ∈ a :: L, ∃ (k' : Nat) (e' : va_E), vv_up v k a e k' x = some e' :=
  List.forall_mem_cons.mpr ⟨⟨k, e, vv_up_s _ _ _ _⟩, vdom.up h⟩
theorem vdom.new {v : vv_V} {L : List Nat} {q : Nat} (h : ∀ x ∈ L, ∃ (k : Nat) (e : va_E), v k x = some e) (hf : ∀ k, v k q = none) (hn : L.Nodup) : (q :: L).Nodup :=
  List.nodup_cons.mpr ⟨fun hq => (by obtain ⟨k, e, h1⟩ := h q hq; rw [hf k] at h1; cases h1), hn⟩
def aR : List Nat := [31, 30, 29, 27, 26, 25, 24, 22, 21, 20, 19, 17, 16, 15, 14, 13, 12, 11, 10, 8, 7, 6, 5, 4, 2]
theorem aR_in {f : Nat} (h : mA f = true) : f ∈ aR := by
  simp only [mA, mI, mZ, mL, Bool.or_eq_true, List.contains_eq_mem, List.mem_cons, List.not_mem_nil, or_false, decide_eq_true_eq] at h
  simp only [aR, List.mem_cons, List.not_mem_nil, or_false]
  omega
theorem aR_at : ∀ f ∈ aR, aR.getD (aR.idxOf f) 0 = f ∧ aR.idxOf f < 25 := by decide
theorem nodup_getD : ∀ {L : List Nat}, L.Nodup → ∀ {i j : Nat}, i < L.length → j < L.length → L.getD i 0 = L.getD j 0 → i = j
  | [], _, i, j, hi, _, _ => absurd hi (Nat.not_lt_zero _)
  | a :: L, h, i, j, hi, hj, e => by
    obtain ⟨h1, h2⟩ := List.nodup_cons.mp h
    have mem : ∀ k, k < L.length → L.getD k 0 ∈ L := fun k hk => by
      have ek : L.getD k 0 = L[k] := by simp [List.getD_eq_getElem?_getD, hk]
      rw [ek]
      exact List.getElem_mem _
    cases i with
    | zero =>
      cases j with
      | zero => rfl
      | succ j =>
        have e : a = L.getD j 0 := e
        exact absurd (e ▸ mem j (Nat.lt_of_succ_lt_succ hj)) h1
    | succ i =>
      cases j with
      | zero =>
        have e : L.getD i 0 = a := e
        exact absurd (e ▸ mem i (Nat.lt_of_succ_lt_succ hi)) h1
      | succ j =>
        have e : L.getD i 0 = L.getD j 0 := e
        rw [nodup_getD h2 (Nat.lt_of_succ_lt_succ hi) (Nat.lt_of_succ_lt_succ hj) e]
theorem aR_inj {L : List Nat} (h : L.Nodup) (hl : L.length = 25) : ∀ f g, mA f = true → mA g = true → L.getD (aR.idxOf f) 0 = L.getD (aR.idxOf g) 0 → f = g := by
  intro f g hf hg e
  obtain ⟨f1, f2⟩ := aR_at f (aR_in hf)
  obtain ⟨g1, g2⟩ := aR_at g (aR_in hg)
  have := nodup_getD h (by omega) (by omega) e
  rw [← f1, ← g1, this]
theorem aR_fr {v : vv_V} {L : List Nat} (h : ∀ x ∈ L, ∀ k, v k x = none) (hl : L.length = 25) : ∀ f, mA f = true → ∀ k, v k (L.getD (aR.idxOf f) 0) = none := by
  intro f hf
  obtain ⟨f1, f2⟩ := aR_at f (aR_in hf)
  apply h
  have hi : aR.idxOf f < L.length := by omega
  have ei : L.getD (aR.idxOf f) 0 = L[aR.idxOf f] := by simp [List.getD_eq_getElem?_getD, hi]
  rw [ei]
  exact List.getElem_mem _
