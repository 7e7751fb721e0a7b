/-! A TYPED VIEW OF THE HEAP. A view v says of a kind k and an address a what stands there: objects of class k of the list (k below 50), arrays of type t (k = 50 + t), 99: arrays of the start that nobody writes. A method's contract speaks of the whole view that its caller has: so the frame is in the words of the new view. -/
abbrev vv_V : Type := Nat → Nat → Option va_E
def vv_up (v : vv_V) (k a : Nat) (e : va_E) : vv_V := fun k' a' => if k' = k then (if a' = a then some e else v k' a') else v k' a'
theorem vv_up_s (v : vv_V) (k a : Nat) (e : va_E) : vv_up v k a e k a = some e := by simp [vv_up]
theorem vv_up_k (v : vv_V) {k k' : Nat} (a a' : Nat) (e : va_E) (h : k' ≠ k) : vv_up v k a e k' a' = v k' a' := by simp [vv_up, h]
theorem vv_up_a (v : vv_V) (k k' : Nat) {a a' : Nat} (e : va_E) (h : a' ≠ a) : vv_up v k a e k' a' = v k' a' := by simp [vv_up, h]
theorem vv_up_uu (v : vv_V) (k a : Nat) (e e' : va_E) : vv_up (vv_up v k a e) k a e' = vv_up v k a e' := by
  funext k' a'
  unfold vv_up
  by_cases h1 : k' = k
  · by_cases h2 : a' = a
    · simp [h1, h2]
    · simp [h1, h2]
  · simp [h1]
/-- D (classes, slots), b0 (the heap's size at the law's start), the empty array of ArrayList, the mirror of Object[], the array classes -/
abbrev vv_G : Type := va_G × Nat × Nat × Nat × (Nat → ClassId)
def vv_tys (G : vv_G) : List (ClassId × FieldType) := [(G.2.2.2.2 0, .int), (G.2.2.2.2 1, .boolean), (G.2.2.2.2 2, .long), (G.2.2.2.2 3, .object "java/lang/Object")]
def vv_P (G : vv_G) (v : vv_V) (H : Heap) : Prop := (∀ (k a : Nat) (e : va_E), v k a = some e → (k ≠ 99 → va_at G.1 vwCl (a, e) H) ∧ (k ≠ 99 → G.2.1 ≤ a) ∧ (k = 99 → a < G.2.1)) ∧ ∀ (k k' a : Nat) (e e' : va_E), v k a = some e → v k' a = some e' → k = k'
theorem vv_P.lt {G : vv_G} {v : vv_V} {H : Heap} {k a : Nat} {e : va_E} (h : vv_P G v H) (h99 : k ≠ 99) (hk : v k a = some e) : a < H.size := ((h.1 k a e hk).1 h99).lt
/-- the view as a list of cells, the old ones left out -/
def vv_L (v : vv_V) (ws : va_W) : Prop := (∀ (k a : Nat) (e : va_E), k ≠ 99 → v k a = some e → ∃ i : Nat, ws[i]? = some (a, e)) ∧ (∀ (i a : Nat) (e : va_E), ws[i]? = some (a, e) → ∃ k, k ≠ 99 ∧ v k a = some e) ∧ ∀ (i j : Nat) (x y : Nat × va_E), ws[i]? = some x → ws[j]? = some y → x.1 = y.1 → i = j
theorem vv_ls {G : vv_G} {v : vv_V} {H : Heap} (h : vv_P G v H) : ∃ ws, vv_L v ws := by
  have key : ∀ n : Nat, ∃ ws : va_W, (∀ (k a : Nat) (e : va_E), a < n → k ≠ 99 → v k a = some e → ∃ i : Nat, ws[i]? = some (a, e)) ∧ (∀ (i a : Nat) (e : va_E), ws[i]? = some (a, e) → a < n ∧ ∃ k, k ≠ 99 ∧ v k a = some e) ∧ ∀ (i j : Nat) (x y : Nat × va_E), ws[i]? = some x → ws[j]? = some y → x.1 = y.1 → i = j := by
    intro n
    induction n with
    | zero => exact ⟨[], fun k a e h1 => absurd h1 (Nat.not_lt_zero _), fun i a e h1 => by simp at h1, fun i j x y h1 => by simp at h1⟩
    | succ n ih =>
      obtain ⟨ws, g1, g2, g3⟩ := ih
      by_cases hx : ∃ (k : Nat) (e : va_E), k ≠ 99 ∧ v k n = some e
      · obtain ⟨k0, e0, hk0, hv0⟩ := hx
        have split : ∀ (i : Nat) (x : Nat × va_E), (ws ++ [(n, e0)])[i]? = some x → (i < ws.length ∧ ws[i]? = some x) ∨ (i = ws.length ∧ x = (n, e0)) := by
          intro i x hi
          by_cases hl : i < ws.length
          · rw [List.getElem?_append_left hl] at hi
            exact Or.inl ⟨hl, hi⟩
          · rw [List.getElem?_append_right (by omega)] at hi
            have hz : i - ws.length < 1 := (List.getElem?_eq_some_iff.mp hi).1
            have h0 : i = ws.length := by omega
            subst h0
            rw [Nat.sub_self] at hi
            exact Or.inr ⟨rfl, (Option.some.inj hi).symm⟩
        refine ⟨ws ++ [(n, e0)], fun k a e h1 h2 h3 => ?_, fun i a e hi => ?_, fun i j x y hi hj hxy => ?_⟩
        · by_cases ha : a = n
          · subst ha
            have hkk := h.2 k k0 a e e0 h3 hv0
            subst hkk
            rw [h3] at hv0
            cases hv0
            exact ⟨ws.length, by simp⟩
          · obtain ⟨i, hi⟩ := g1 k a e (by omega) h2 h3
            exact ⟨i, by rw [List.getElem?_append_left (List.getElem?_eq_some_iff.mp hi).1]; exact hi⟩
        · rcases split i _ hi with ⟨-, r⟩ | ⟨-, r⟩
          · obtain ⟨r1, r2⟩ := g2 i a e r
            exact ⟨by omega, r2⟩
          · cases r
            exact ⟨by omega, k0, hk0, hv0⟩
        · rcases split i _ hi with ⟨l1, r⟩ | ⟨l1, r⟩ <;> rcases split j _ hj with ⟨l2, r'⟩ | ⟨l2, r'⟩
          · exact g3 i j x y r r' hxy
          · have := (g2 i x.1 x.2 r).1
            rw [r'] at hxy
            simp only at hxy
            omega
          · have := (g2 j y.1 y.2 r').1
            rw [r] at hxy
            simp only at hxy
            omega
          · omega
      · refine ⟨ws, fun k a e h1 h2 h3 => ?_, fun i a e hi => ⟨Nat.lt_succ_of_lt (g2 i a e hi).1, (g2 i a e hi).2⟩, g3⟩
        by_cases ha : a = n
        · subst ha
          exact absurd ⟨k, e, h2, h3⟩ hx
        · exact g1 k a e (by omega) h2 h3
  obtain ⟨ws, g1, g2, g3⟩ := key H.size
  exact ⟨ws, fun k a e h1 h2 => g1 k a e (h.lt h1 h2) h1 h2, fun i a e hi => (g2 i a e hi).2, g3⟩
theorem vv_L.P {G : vv_G} {v : vv_V} {H : Heap} {ws : va_W} (hL : vv_L v ws) (h : vv_P G v H) : va_P G.1 vwCl ws H := by
  intro i x hi
  obtain ⟨k, h9, hk⟩ := hL.2.1 i x.1 x.2 hi
  exact (h.1 k x.1 x.2 hk).1 h9
theorem vv_L.D {G : vv_G} {v : vv_V} {H : Heap} {ws : va_W} (hL : vv_L v ws) (h : vv_P G v H) : va_D (fun q => G.2.1 ≤ q) ws :=
  ⟨hL.2.2, fun i x hi => by
    obtain ⟨k, h1, hk⟩ := hL.2.1 i x.1 x.2 hi
    exact (h.1 k x.1 x.2 hk).2.1 h1⟩
theorem vv_set {G : vv_G} {v : vv_V} {H0 H H1 : Heap} {l0 l1 : List Loc} {ws : va_W} {k a q0 : Nat} {e e' : va_E} (h : vv_P G v H) (hL : vv_L v ws) (h99 : k ≠ 99) (hk : v k a = some e) (hq : ws[q0]? = some (a, e)) (hb : G.2.1 ≤ H0.size) (hS : va_S (fun q => G.2.1 ≤ q) H0 H l0) (hS1 : va_S (fun q => G.2.1 ≤ q) H0 H1 l1) (hP1 : va_P G.1 vwCl (ws.set q0 (a, e')) H1) : vv_P G (vv_up v k a e') H1 := by
  have hl := (List.getElem?_eq_some_iff.mp hq).1
  have key : ∀ (k1 a1 : Nat) (e1 : va_E), vv_up v k a e' k1 a1 = some e1 → (k1 = k ∧ a1 = a ∧ e1 = e') ∨ (¬ (k1 = k ∧ a1 = a) ∧ v k1 a1 = some e1) := by
    intro k1 a1 e1 h1
    unfold vv_up at h1
    by_cases c1 : k1 = k
    · by_cases c2 : a1 = a
      · rw [if_pos c1, if_pos c2] at h1
        exact Or.inl ⟨c1, c2, (Option.some.inj h1).symm⟩
      · rw [if_pos c1, if_neg c2] at h1
        exact Or.inr ⟨fun z => c2 z.2, h1⟩
    · rw [if_neg c1] at h1
      exact Or.inr ⟨fun z => c1 z.1, h1⟩
  have dom : ∀ (k1 a1 : Nat) (e1 : va_E), vv_up v k a e' k1 a1 = some e1 → ∃ e2, v k1 a1 = some e2 := by
    intro k1 a1 e1 h1
    rcases key k1 a1 e1 h1 with ⟨r1, r2, -⟩ | ⟨-, r⟩
    · exact ⟨e, by rw [r1, r2]; exact hk⟩
    · exact ⟨e1, r⟩
  refine ⟨fun k1 a1 e1 h1 => ?_, fun k1 k2 a1 e1 e2 h1 h2 => ?_⟩
  · rcases key k1 a1 e1 h1 with ⟨r1, r2, r3⟩ | ⟨r0, r⟩
    · subst r1 r2 r3
      exact ⟨fun _ => hP1 q0 _ (List.getElem?_set_self hl), (h.1 _ _ _ hk).2⟩
    · refine ⟨fun c9 => ?_, (h.1 _ _ _ r).2⟩
      · obtain ⟨i, hi⟩ := hL.1 k1 a1 e1 c9 r
        have hne : q0 ≠ i := fun z => by
          subst z
          rw [hq] at hi
          cases hi
          exact r0 ⟨h.2 k1 k a e e r hk, rfl⟩
        exact hP1 i _ (by rw [List.getElem?_set_ne hne]; exact hi)
  · obtain ⟨x1, g1⟩ := dom k1 a1 e1 h1
    obtain ⟨x2, g2⟩ := dom k2 a1 e2 h2
    exact h.2 k1 k2 a1 x1 x2 g1 g2
theorem vv_push {G : vv_G} {v : vv_V} {H0 H H1 : Heap} {l0 l1 : List Loc} {ws : va_W} {k q : Nat} {e : va_E} (h : vv_P G v H) (hL : vv_L v ws) (h99 : k ≠ 99) (hb : G.2.1 ≤ H0.size) (hS : va_S (fun q => G.2.1 ≤ q) H0 H l0) (hS1 : va_S (fun q => G.2.1 ≤ q) H0 H1 l1) (hP1 : va_P G.1 vwCl (ws ++ [(q, e)]) H1) (hD1 : va_D (fun q => G.2.1 ≤ q) (ws ++ [(q, e)])) : (∀ k', v k' q = none) ∧ vv_P G (vv_up v k q e) H1 := by
  have hend : (ws ++ [(q, e)])[ws.length]? = some (q, e) := by simp
  have hfr : ∀ k', v k' q = none := by
    intro k'
    cases hv : v k' q with
    | none => rfl
    | some e1 =>
      exfalso
      by_cases c9 : k' = 99
      · have h1 := (h.1 k' q e1 hv).2.2 c9
        have h2 : G.2.1 ≤ q := hD1.2 _ _ hend
        omega
      · obtain ⟨i, hi⟩ := hL.1 k' q e1 c9 hv
        have hlt := (List.getElem?_eq_some_iff.mp hi).1
        have := hD1.1 i ws.length (q, e1) (q, e) (by rw [List.getElem?_append_left hlt]; exact hi) hend rfl
        omega
  have key : ∀ (k1 a1 : Nat) (e1 : va_E), vv_up v k q e k1 a1 = some e1 → (k1 = k ∧ a1 = q ∧ e1 = e) ∨ (a1 ≠ q ∧ v k1 a1 = some e1) := by
    intro k1 a1 e1 h1
    by_cases c2 : a1 = q
    · subst c2
      unfold vv_up at h1
      by_cases c1 : k1 = k
      · rw [if_pos c1, if_pos rfl] at h1
        exact Or.inl ⟨c1, rfl, (Option.some.inj h1).symm⟩
      · rw [if_neg c1, hfr k1] at h1
        cases h1
    · rw [vv_up_a _ _ _ _ c2] at h1
      exact Or.inr ⟨c2, h1⟩
  refine ⟨hfr, fun k1 a1 e1 h1 => ?_, fun k1 k2 a1 e1 e2 h1 h2 => ?_⟩
  · rcases key k1 a1 e1 h1 with ⟨r1, r2, r3⟩ | ⟨r0, r⟩
    · subst r1 r2 r3
      exact ⟨fun _ => hP1 _ _ hend, fun _ => hD1.2 _ _ hend, fun z => absurd z h99⟩
    · refine ⟨fun c9 => ?_, (h.1 _ _ _ r).2⟩
      · obtain ⟨i, hi⟩ := hL.1 k1 a1 e1 c9 r
        exact hP1 i _ (by rw [List.getElem?_append_left (List.getElem?_eq_some_iff.mp hi).1]; exact hi)
  · rcases key k1 a1 e1 h1 with ⟨r1, r2, -⟩ | ⟨r0, r⟩ <;> rcases key k2 a1 e2 h2 with ⟨s1, s2, -⟩ | ⟨s0, s⟩
    · rw [r1, s1]
    · exact absurd r2 s0
    · exact absurd s2 r0
    · exact h.2 k1 k2 a1 e1 e2 r s
theorem vv_P.one {G : vv_G} {v : vv_V} {H : Heap} {k a : Nat} {e : va_E} (h : vv_P G v H) (hk : v k a = some e) (h99 : k ≠ 99 := by decide) : va_P G.1 vwCl [(a, e)] H := by
  intro i q hq
  cases i with
  | zero => cases hq; exact (h.1 k a e hk).1 h99
  | succ i => simp at hq
/-- words of the tables that stay true as the machine warms up -/
def vv_okW : Cond → Bool
  | .arrayClass _ => true
  | .fieldLinkNest _ _ _ _ _ _ => true
  | .methodLinkNest _ _ _ _ => true
  | .declares _ => true
  | .castable _ _ => true
  | w => w.onTables && w.keeps
def vv_wds : List Cond := lw_tbl.filter (fun w => vv_okW w && w.onTables)
theorem vv_warm {w : Cond} {s U : State} (hw : (vv_okW w && w.onTables) = true) (hW : s.WarmedH U.vm) (h : va_Nw w s) : va_Nw w U := by
  obtain ⟨h1, h2⟩ := Bool.and_eq_true_iff.mp hw
  cases w <;> first
    | exact va_Nw.warmF hW h
    | exact va_Nw.warmM hW h
    | exact va_Nw.warmD hW h
    | exact va_Nw.warmC hW h
    | exact word_at hW (Or.inr ⟨_, rfl⟩) h
    | exact word_at hW (Or.inl h1) h
/-- what a method finds of the machine: tables, classes, the statics of ArrayList -/
def vv_E (G : vv_G) (U : State) : Prop := va_K G.1 vwCl (vv_tys G) U ∧ (∀ w ∈ vv_wds, va_Nw w U) ∧ (va_Z "java/util/ArrayList" "DEFAULTCAPACITY_EMPTY_ELEMENTDATA" "[Ljava/lang/Object;" (.ref G.2.2.1) (fun q => G.2.1 ≤ q) U U.heap ∧ va_T (.object "java/lang/Object") G.2.2.1 0 (fun _ => .null) (fun q => G.2.1 ≤ q) U U.heap) ∧ (va_Mi "[Ljava/lang/Object;" G.2.2.2.1 U ∧ va_AO "java/lang/Object" U ∧ ∀ ty : FieldType, (ty = .int ∨ ty = .boolean ∨ ty = .long) → (Cond.arrayClass ty).before #[] U = true) ∧ G.2.1 ≤ U.heap.size
theorem vv_E.at {G : vv_G} {s U : State} {H : Heap} {locs : List Loc} (h : vv_E G s) (hS : va_S (fun q => G.2.1 ≤ q) s.heap H locs) (hU : U.heap = H) (hW : s.WarmedH U.vm) : vv_E G U := by
  obtain ⟨h1, h2, h3, h4, h5⟩ := h
  refine ⟨va_K.moved hW.alike h1, fun w hw => vv_warm (List.mem_filter.mp hw).2 hW (h2 w hw), ?_, ⟨va_Mi.moved hW.alike h4.1, va_AO.moved hW.alike h4.2.1, fun ty hty => word_at hW (Or.inr ⟨_, rfl⟩) (h4.2.2 ty hty)⟩, ?_⟩
  · rw [hU]
    exact ⟨(h3.1.kept (fun a ha hn => hS.2.1 a ha hn)).moved hW.alike, (h3.2.kept (fun a ha hn => hS.2.1 a ha hn)).moved hW.alike⟩
  · rw [hU]
    exact Nat.le_trans h5 hS.1
theorem vv_E.calling {G : vv_G} {U : State} {g : JFrame} {mk : MethodId} {a : Array Value} (h : vv_E G U) : vv_E G (U.calling g mk a) := by
  obtain ⟨h1, h2, h3, h4, h5⟩ := h
  exact ⟨va_K.moved (u := U) (U := U.calling g mk a) (Vm.Alike.refl U.vm) h1, fun w hw => va_Nw.same (u := U) (U := U.calling g mk a) (Bool.and_eq_true_iff.mp (List.mem_filter.mp hw).2).2 rfl (h2 w hw), ⟨va_Z.moved (u := U) (U := U.calling g mk a) (Vm.Alike.refl U.vm) h3.1, va_T.moved (u := U) (U := U.calling g mk a) (Vm.Alike.refl U.vm) h3.2⟩, ⟨va_Mi.moved (u := U) (U := U.calling g mk a) (Vm.Alike.refl U.vm) h4.1, va_AO.moved (u := U) (U := U.calling g mk a) (Vm.Alike.refl U.vm) h4.2.1, fun ty hty => word_at (s := U) (U := U.calling g mk a) (State.WarmedH.refl U) (Or.inr ⟨_, rfl⟩) (h4.2.2 ty hty)⟩, h5⟩
def vv_pre (G : vv_G) (v : vv_V) (U : State) : Prop := vv_P G v U.heap ∧ vv_E G U
def vv_Q (G : vv_G) (post : Option Value → vv_V → Prop) : Array Value → State → Outcome → State → Prop := fun _ st oc t => (∃ (r : Option Value) (v' : vv_V), oc = .returned r ∧ post r v' ∧ vv_P G v' t.heap) ∧ va_F (fun q => G.2.1 ≤ q) st t
/-- A CONTRACT: on a heap with view v, called with As, the method returns, and 'post answer newview'; mc cells of ms slots at most are made; frames f, locals lo -/
abbrev Mv (l : Launch) (y : MethodName) (cc : ByteArray) (maxL : Nat) (ret : Option FieldType) (f lo : Nat) (G : vv_G) (v : vv_V) (As : List Value) (post : Option Value → vv_V → Prop) (mc ms : Nat) : Prop :=
  Met l y [Cond.code y cc maxL ret] { frames := f, cells := mc, slots := ms, locals := lo } (va_Pc As (vv_pre G v)) (vv_Q G post) mc ms (fun q => G.2.1 ≤ q)
/-- what stays fixed in a method's walk -/
def vC (p : Program) (s : State) (m : MethodId) (args : Array Value) (meth : Method) (c : Code) (cc : ByteArray) (nL : Nat) (ret : Option FieldType) (own : String) (G : vv_G) : Prop :=
  p.tables.exec = Jvm.exec ∧ c.code = cc ∧ c.maxLocals = nL ∧ s.vm.findClass own = some m.cls ∧ vv_E G s ∧ meth.sig.returnType = ret ∧ meth.locks = false
theorem vC.w {p : Program} {s : State} {m : MethodId} {args : Array Value} {meth : Method} {c : Code} {cc : ByteArray} {nL : Nat} {ret : Option FieldType} {own : String} {G : vv_G} (C : vC p s m args meth c cc nL ret own G) : ∀ w ∈ vv_wds, w.before args s = true := fun w hw => va_Nw.use (Bool.and_eq_true_iff.mp (List.mem_filter.mp hw).2).2 (C.2.2.2.2.1.2.1 w hw)
/-- THE WALK'S JUDGEMENT: at pc, with locals lv, operands st, view v, kc cells and ks slots made so far, the machine comes to Q -/
def vV (p : Program) (l : Launch) (e : Env) (R : Room) (s : State) (m : MethodId) (args : Array Value) (below : List Frame) (meth : Method) (c : Code) (Q : State → Prop) (G : vv_G) (nL : Nat) (v : vv_V) (kc ks pc : Nat) (lv : List (Nat × Value)) (st : List Value) : Prop :=
  ∀ (H : Heap) (locs : List Loc) (ls : Array Slot), vv_P G v H → va_S (fun q => G.2.1 ≤ q) s.heap H locs → lv_has ls nL lv → W p l e R s m args below meth c H locs kc ks Q (F0 m pc ls st)
theorem vv_met {l : Launch} {y : MethodName} {cc : ByteArray} {maxL : Nat} {ret : Option FieldType} {f lo : Nat} {G : vv_G} {v : vv_V} {As : List Value} {post : Option Value → vv_V → Prop} {mc ms : Nat} {own nm : String} (hy : plainName y.cls = true) (hown : y.cls = own) (hnm : y.name = nm) (hlen : (lg_sl As).length ≤ maxL)
    (body : ∀ (p : Program) (e : Env) (s : State) (m : MethodId) (below : List Frame) (meth : Method) (c : Code), vC p s m As.toArray meth c cc maxL ret own G → meth.name = nm →
      vV p l e { frames := f, cells := mc, slots := ms, locals := lo } s m As.toArray below meth c (MQ below (vv_Q G post) As.toArray s mc ms (fun q => G.2.1 ≤ q)) G maxL v 0 0 0 (lv_args 0 As) []) : Mv l y cc maxL ret f lo G v As post mc ms := by
  refine Met.ofW (cc := cc) (maxL := maxL) (ret := ret) hy rfl ?_
  intro p e s m args below meth c s₁ B hml hv
  obtain ⟨rfl, hP, hE⟩ := hv
  rw [lg_entry_eq]
  exact body p e s m below meth c ⟨B.exec, B.bytes, hml, by rw [← hown]; exact findClass_of_methodNamed B.named, hE, B.returns, B.notSynchronized⟩ (by rw [← hnm]; exact (name_of_methodNamed B.named B.method).1) s.heap [] _ hP va_S.rf (lv_entry As hlen)
theorem vv_blind {G : vv_G} {v : vv_V} {As : List Value} : FrameBlind (va_Pc As (vv_pre G v)) := fun a U g mk q => ⟨q.1, q.2.1, q.2.2.calling⟩
section VV
variable {p : Program} {l : Launch} {e : Env} {R : Room} {s : State} {m : MethodId} {args : Array Value} {below : List Frame} {meth : Method} {c : Code} {Q : State → Prop} {G : vv_G} {cc : ByteArray} {nL : Nat} {ret : Option FieldType} {own : String} {v : vv_V} {kc ks pc : Nat} {lv : List (Nat × Value)} {st : List Value}
theorem v_iconst (C : vC p s m args meth c cc nL ret own G) {n : Int} {x : Int32} (hd : decode cc pc = .ok (.iconst n, 1)) (hx : Int32.ofInt n = x) (k : vV p l e R s m args below meth c Q G nL v kc ks (pc + 1) lv (.int x :: st)) : vV p l e R s m args below meth c Q G nL v kc ks pc lv (st) := fun H locs ls hP hS hl => lv_iconst C.1 C.2.1 hd hx (k H locs ls hP hS hl)
theorem v_bipush (C : vC p s m args meth c cc nL ret own G) {n : Int} {x : Int32} (hd : decode cc pc = .ok (.bipush n, 2)) (hx : (Int8.ofInt n).toInt32 = x) (k : vV p l e R s m args below meth c Q G nL v kc ks (pc + 2) lv (.int x :: st)) : vV p l e R s m args below meth c Q G nL v kc ks pc lv (st) := fun H locs ls hP hS hl => lv_bipush C.1 C.2.1 hd hx (k H locs ls hP hS hl)
theorem v_sipush (C : vC p s m args meth c cc nL ret own G) {n : Int} {x : Int32} (hd : decode cc pc = .ok (.sipush n, 3)) (hx : (Int16.ofInt n).toInt32 = x) (k : vV p l e R s m args below meth c Q G nL v kc ks (pc + 3) lv (.int x :: st)) : vV p l e R s m args below meth c Q G nL v kc ks pc lv (st) := fun H locs ls hP hS hl => lv_sipush C.1 C.2.1 hd hx (k H locs ls hP hS hl)
theorem v_lconst (C : vC p s m args meth c cc nL ret own G) {n : Fin 2} {x : Int64} (hd : decode cc pc = .ok (.lconst n, 1)) (hx : Int64.ofNat (n : Nat) = x) (k : vV p l e R s m args below meth c Q G nL v kc ks (pc + 1) lv (.long x :: st)) : vV p l e R s m args below meth c Q G nL v kc ks pc lv (st) := fun H locs ls hP hS hl => lv_lconst C.1 C.2.1 hd hx (k H locs ls hP hS hl)
theorem v_null (C : vC p s m args meth c cc nL ret own G)  (hd : decode cc pc = .ok (.aconst_null, 1)) (k : vV p l e R s m args below meth c Q G nL v kc ks (pc + 1) lv (.null :: st)) : vV p l e R s m args below meth c Q G nL v kc ks pc lv (st) := fun H locs ls hP hS hl => lv_null C.1 C.2.1 hd (k H locs ls hP hS hl)
theorem v_ldc (C : vC p s m args meth c cc nL ret own G) {index : Nat} {x : Int32} (hd : decode cc pc = .ok (.ldc index, 2)) (hc : (Cond.constant own index x) ∈ vv_wds) (k : vV p l e R s m args below meth c Q G nL v kc ks (pc + 2) lv (.int x :: st)) : vV p l e R s m args below meth c Q G nL v kc ks pc lv (st) := fun H locs ls hP hS hl => lv_ldc C.1 C.2.1 C.2.2.2.1 (C.w _ hc) hd (k H locs ls hP hS hl)
theorem v_ldc2 (C : vC p s m args meth c cc nL ret own G) {index : Nat} {x : Int64} (hd : decode cc pc = .ok (.ldc2_w index, 3)) (hc : (Cond.constantLong own index x) ∈ vv_wds) (k : vV p l e R s m args below meth c Q G nL v kc ks (pc + 3) lv (.long x :: st)) : vV p l e R s m args below meth c Q G nL v kc ks pc lv (st) := fun H locs ls hP hS hl => lv_ldc2 C.1 C.2.1 C.2.2.2.1 (C.w _ hc) hd (k H locs ls hP hS hl)
theorem v_iload_n (C : vC p s m args meth c cc nL ret own G) {j : Fin 4} {i : Nat} {x : Int32} (q : Nat) (hd : decode cc pc = .ok (.iload_n j, 1)) (hi : (j : Nat) = i) (hq : lv[q]? = some (i, .int x)) (k : vV p l e R s m args below meth c Q G nL v kc ks (pc + 1) lv (.int x :: st)) : vV p l e R s m args below meth c Q G nL v kc ks pc lv (st) := fun H locs ls hP hS hl => lv_iload_n C.1 C.2.1 hd hi (lv_at hl q hq) (k H locs ls hP hS hl)
theorem v_iload (C : vC p s m args meth c cc nL ret own G) {i : Nat} {x : Int32} (q : Nat) (hd : decode cc pc = .ok (.iload i, 2)) (hq : lv[q]? = some (i, .int x)) (k : vV p l e R s m args below meth c Q G nL v kc ks (pc + 2) lv (.int x :: st)) : vV p l e R s m args below meth c Q G nL v kc ks pc lv (st) := fun H locs ls hP hS hl => lv_iload C.1 C.2.1 hd (lv_at hl q hq) (k H locs ls hP hS hl)
theorem v_lload_n (C : vC p s m args meth c cc nL ret own G) {j : Fin 4} {i : Nat} {x : Int64} (q : Nat) (hd : decode cc pc = .ok (.lload_n j, 1)) (hi : (j : Nat) = i) (hq : lv[q]? = some (i, .long x)) (k : vV p l e R s m args below meth c Q G nL v kc ks (pc + 1) lv (.long x :: st)) : vV p l e R s m args below meth c Q G nL v kc ks pc lv (st) := fun H locs ls hP hS hl => lv_lload_n C.1 C.2.1 hd hi (lv_at hl q hq) (k H locs ls hP hS hl)
theorem v_lload (C : vC p s m args meth c cc nL ret own G) {i : Nat} {x : Int64} (q : Nat) (hd : decode cc pc = .ok (.lload i, 2)) (hq : lv[q]? = some (i, .long x)) (k : vV p l e R s m args below meth c Q G nL v kc ks (pc + 2) lv (.long x :: st)) : vV p l e R s m args below meth c Q G nL v kc ks pc lv (st) := fun H locs ls hP hS hl => lv_lload C.1 C.2.1 hd (lv_at hl q hq) (k H locs ls hP hS hl)
theorem v_aload_n (C : vC p s m args meth c cc nL ret own G) {j : Fin 4} {i : Nat} {x : Nat} (q : Nat) (hd : decode cc pc = .ok (.aload_n j, 1)) (hi : (j : Nat) = i) (hq : lv[q]? = some (i, .ref x)) (k : vV p l e R s m args below meth c Q G nL v kc ks (pc + 1) lv (.ref x :: st)) : vV p l e R s m args below meth c Q G nL v kc ks pc lv (st) := fun H locs ls hP hS hl => lv_aload_n C.1 C.2.1 hd hi (lv_at hl q hq) (k H locs ls hP hS hl)
theorem v_aload (C : vC p s m args meth c cc nL ret own G) {i : Nat} {x : Nat} (q : Nat) (hd : decode cc pc = .ok (.aload i, 2)) (hq : lv[q]? = some (i, .ref x)) (k : vV p l e R s m args below meth c Q G nL v kc ks (pc + 2) lv (.ref x :: st)) : vV p l e R s m args below meth c Q G nL v kc ks pc lv (st) := fun H locs ls hP hS hl => lv_aload C.1 C.2.1 hd (lv_at hl q hq) (k H locs ls hP hS hl)
theorem v_aload_nN (C : vC p s m args meth c cc nL ret own G) {j : Fin 4} {i : Nat} (q : Nat) (hd : decode cc pc = .ok (.aload_n j, 1)) (hi : (j : Nat) = i) (hq : lv[q]? = some (i, .null)) (k : vV p l e R s m args below meth c Q G nL v kc ks (pc + 1) lv (.null :: st)) : vV p l e R s m args below meth c Q G nL v kc ks pc lv (st) := fun H locs ls hP hS hl => lv_aload_nN C.1 C.2.1 hd hi (lv_at hl q hq) (k H locs ls hP hS hl)
theorem v_aloadN (C : vC p s m args meth c cc nL ret own G) {i : Nat} (q : Nat) (hd : decode cc pc = .ok (.aload i, 2)) (hq : lv[q]? = some (i, .null)) (k : vV p l e R s m args below meth c Q G nL v kc ks (pc + 2) lv (.null :: st)) : vV p l e R s m args below meth c Q G nL v kc ks pc lv (st) := fun H locs ls hP hS hl => lv_aloadN C.1 C.2.1 hd (lv_at hl q hq) (k H locs ls hP hS hl)
theorem v_istore_n (C : vC p s m args meth c cc nL ret own G) {j : Fin 4} {i : Nat} {x : Int32} {lv' : List (Nat × Value)} (hd : decode cc pc = .ok (.istore_n j, 1)) (hi : (j : Nat) = i) (hn : i < nL) (hv : (i, Value.int x) :: lv.filter (fun q => !(q.1 == i) && !(q.1 + 1 == i && q.2.category == 2)) = lv') (k : vV p l e R s m args below meth c Q G nL v kc ks (pc + 1) lv' st) : vV p l e R s m args below meth c Q G nL v kc ks pc lv (Value.int x :: st) := fun H locs ls hP hS hl => lv_istore_n C.1 C.2.1 hd hi hl hn hv (fun ls' hl' => k H locs ls' hP hS hl')
theorem v_istore (C : vC p s m args meth c cc nL ret own G) {i : Nat} {x : Int32} {lv' : List (Nat × Value)} (hd : decode cc pc = .ok (.istore i, 2)) (hn : i < nL) (hv : (i, Value.int x) :: lv.filter (fun q => !(q.1 == i) && !(q.1 + 1 == i && q.2.category == 2)) = lv') (k : vV p l e R s m args below meth c Q G nL v kc ks (pc + 2) lv' st) : vV p l e R s m args below meth c Q G nL v kc ks pc lv (Value.int x :: st) := fun H locs ls hP hS hl => lv_istore C.1 C.2.1 hd hl hn hv (fun ls' hl' => k H locs ls' hP hS hl')
theorem v_lstore_n (C : vC p s m args meth c cc nL ret own G) {j : Fin 4} {i : Nat} {x : Int64} {lv' : List (Nat × Value)} (hd : decode cc pc = .ok (.lstore_n j, 1)) (hi : (j : Nat) = i) (hn : i + 1 < nL) (hv : (i, Value.long x) :: lv.filter (fun q => !(q.1 == i) && (!(q.1 == i + 1) && !(q.1 + 1 == i && q.2.category == 2))) = lv') (k : vV p l e R s m args below meth c Q G nL v kc ks (pc + 1) lv' st) : vV p l e R s m args below meth c Q G nL v kc ks pc lv (Value.long x :: st) := fun H locs ls hP hS hl => lv_lstore_n C.1 C.2.1 hd hi hl hn hv (fun ls' hl' => k H locs ls' hP hS hl')
theorem v_lstore (C : vC p s m args meth c cc nL ret own G) {i : Nat} {x : Int64} {lv' : List (Nat × Value)} (hd : decode cc pc = .ok (.lstore i, 2)) (hn : i + 1 < nL) (hv : (i, Value.long x) :: lv.filter (fun q => !(q.1 == i) && (!(q.1 == i + 1) && !(q.1 + 1 == i && q.2.category == 2))) = lv') (k : vV p l e R s m args below meth c Q G nL v kc ks (pc + 2) lv' st) : vV p l e R s m args below meth c Q G nL v kc ks pc lv (Value.long x :: st) := fun H locs ls hP hS hl => lv_lstore C.1 C.2.1 hd hl hn hv (fun ls' hl' => k H locs ls' hP hS hl')
theorem v_astore_n (C : vC p s m args meth c cc nL ret own G) {j : Fin 4} {i : Nat} {x : Nat} {lv' : List (Nat × Value)} (hd : decode cc pc = .ok (.astore_n j, 1)) (hi : (j : Nat) = i) (hn : i < nL) (hv : (i, Value.ref x) :: lv.filter (fun q => !(q.1 == i) && !(q.1 + 1 == i && q.2.category == 2)) = lv') (k : vV p l e R s m args below meth c Q G nL v kc ks (pc + 1) lv' st) : vV p l e R s m args below meth c Q G nL v kc ks pc lv (Value.ref x :: st) := fun H locs ls hP hS hl => lv_astore_n C.1 C.2.1 hd hi hl hn hv (fun ls' hl' => k H locs ls' hP hS hl')
theorem v_astore (C : vC p s m args meth c cc nL ret own G) {i : Nat} {x : Nat} {lv' : List (Nat × Value)} (hd : decode cc pc = .ok (.astore i, 2)) (hn : i < nL) (hv : (i, Value.ref x) :: lv.filter (fun q => !(q.1 == i) && !(q.1 + 1 == i && q.2.category == 2)) = lv') (k : vV p l e R s m args below meth c Q G nL v kc ks (pc + 2) lv' st) : vV p l e R s m args below meth c Q G nL v kc ks pc lv (Value.ref x :: st) := fun H locs ls hP hS hl => lv_astore C.1 C.2.1 hd hl hn hv (fun ls' hl' => k H locs ls' hP hS hl')
theorem v_astore_nN (C : vC p s m args meth c cc nL ret own G) {j : Fin 4} {i : Nat} {lv' : List (Nat × Value)} (hd : decode cc pc = .ok (.astore_n j, 1)) (hi : (j : Nat) = i) (hn : i < nL) (hv : (i, Value.null) :: lv.filter (fun q => !(q.1 == i) && !(q.1 + 1 == i && q.2.category == 2)) = lv') (k : vV p l e R s m args below meth c Q G nL v kc ks (pc + 1) lv' st) : vV p l e R s m args below meth c Q G nL v kc ks pc lv (Value.null :: st) := fun H locs ls hP hS hl => lv_astore_nN C.1 C.2.1 hd hi hl hn hv (fun ls' hl' => k H locs ls' hP hS hl')
theorem v_astoreN (C : vC p s m args meth c cc nL ret own G) {i : Nat} {lv' : List (Nat × Value)} (hd : decode cc pc = .ok (.astore i, 2)) (hn : i < nL) (hv : (i, Value.null) :: lv.filter (fun q => !(q.1 == i) && !(q.1 + 1 == i && q.2.category == 2)) = lv') (k : vV p l e R s m args below meth c Q G nL v kc ks (pc + 2) lv' st) : vV p l e R s m args below meth c Q G nL v kc ks pc lv (Value.null :: st) := fun H locs ls hP hS hl => lv_astoreN C.1 C.2.1 hd hl hn hv (fun ls' hl' => k H locs ls' hP hS hl')
theorem v_iinc (C : vC p s m args meth c cc nL ret own G) {i : Nat} {n : Int} {x y : Int32} (q : Nat) {lv' : List (Nat × Value)} (hd : decode cc pc = .ok (.iinc i n, 3)) (hq : lv[q]? = some (i, .int x)) (hy : x + Int32.ofInt n = y) (hn : i < nL) (hv : (i, Value.int y) :: lv.filter (fun q => !(q.1 == i) && !(q.1 + 1 == i && q.2.category == 2)) = lv') (k : vV p l e R s m args below meth c Q G nL v kc ks (pc + 3) lv' st) : vV p l e R s m args below meth c Q G nL v kc ks pc lv st := fun H locs ls hP hS hl => lv_iinc C.1 C.2.1 hd hl hq hy hn hv (fun ls' hl' => k H locs ls' hP hS hl')
theorem v_iadd (C : vC p s m args meth c cc nL ret own G) {x y : Int32} (hd : decode cc pc = .ok (.iadd, 1)) (k : vV p l e R s m args below meth c Q G nL v kc ks (pc + 1) lv (.int (x + y) :: st)) : vV p l e R s m args below meth c Q G nL v kc ks pc lv (.int y :: .int x :: st) := fun H locs ls hP hS hl => lv_iadd C.1 C.2.1 hd (k H locs ls hP hS hl)
theorem v_isub (C : vC p s m args meth c cc nL ret own G) {x y : Int32} (hd : decode cc pc = .ok (.isub, 1)) (k : vV p l e R s m args below meth c Q G nL v kc ks (pc + 1) lv (.int (x - y) :: st)) : vV p l e R s m args below meth c Q G nL v kc ks pc lv (.int y :: .int x :: st) := fun H locs ls hP hS hl => lv_isub C.1 C.2.1 hd (k H locs ls hP hS hl)
theorem v_imul (C : vC p s m args meth c cc nL ret own G) {x y : Int32} (hd : decode cc pc = .ok (.imul, 1)) (k : vV p l e R s m args below meth c Q G nL v kc ks (pc + 1) lv (.int (x * y) :: st)) : vV p l e R s m args below meth c Q G nL v kc ks pc lv (.int y :: .int x :: st) := fun H locs ls hP hS hl => lv_imul C.1 C.2.1 hd (k H locs ls hP hS hl)
theorem v_iand (C : vC p s m args meth c cc nL ret own G) {x y : Int32} (hd : decode cc pc = .ok (.iand, 1)) (k : vV p l e R s m args below meth c Q G nL v kc ks (pc + 1) lv (.int (x &&& y) :: st)) : vV p l e R s m args below meth c Q G nL v kc ks pc lv (.int y :: .int x :: st) := fun H locs ls hP hS hl => lv_iand C.1 C.2.1 hd (k H locs ls hP hS hl)
theorem v_ior (C : vC p s m args meth c cc nL ret own G) {x y : Int32} (hd : decode cc pc = .ok (.ior, 1)) (k : vV p l e R s m args below meth c Q G nL v kc ks (pc + 1) lv (.int (x ||| y) :: st)) : vV p l e R s m args below meth c Q G nL v kc ks pc lv (.int y :: .int x :: st) := fun H locs ls hP hS hl => lv_ior C.1 C.2.1 hd (k H locs ls hP hS hl)
theorem v_ixor (C : vC p s m args meth c cc nL ret own G) {x y : Int32} (hd : decode cc pc = .ok (.ixor, 1)) (k : vV p l e R s m args below meth c Q G nL v kc ks (pc + 1) lv (.int (x ^^^ y) :: st)) : vV p l e R s m args below meth c Q G nL v kc ks pc lv (.int y :: .int x :: st) := fun H locs ls hP hS hl => lv_ixor C.1 C.2.1 hd (k H locs ls hP hS hl)
theorem v_ladd (C : vC p s m args meth c cc nL ret own G) {x y : Int64} (hd : decode cc pc = .ok (.ladd, 1)) (k : vV p l e R s m args below meth c Q G nL v kc ks (pc + 1) lv (.long (x + y) :: st)) : vV p l e R s m args below meth c Q G nL v kc ks pc lv (.long y :: .long x :: st) := fun H locs ls hP hS hl => lv_ladd C.1 C.2.1 hd (k H locs ls hP hS hl)
theorem v_lsub (C : vC p s m args meth c cc nL ret own G) {x y : Int64} (hd : decode cc pc = .ok (.lsub, 1)) (k : vV p l e R s m args below meth c Q G nL v kc ks (pc + 1) lv (.long (x - y) :: st)) : vV p l e R s m args below meth c Q G nL v kc ks pc lv (.long y :: .long x :: st) := fun H locs ls hP hS hl => lv_lsub C.1 C.2.1 hd (k H locs ls hP hS hl)
theorem v_lmul (C : vC p s m args meth c cc nL ret own G) {x y : Int64} (hd : decode cc pc = .ok (.lmul, 1)) (k : vV p l e R s m args below meth c Q G nL v kc ks (pc + 1) lv (.long (x * y) :: st)) : vV p l e R s m args below meth c Q G nL v kc ks pc lv (.long y :: .long x :: st) := fun H locs ls hP hS hl => lv_lmul C.1 C.2.1 hd (k H locs ls hP hS hl)
theorem v_land (C : vC p s m args meth c cc nL ret own G) {x y : Int64} (hd : decode cc pc = .ok (.land, 1)) (k : vV p l e R s m args below meth c Q G nL v kc ks (pc + 1) lv (.long (x &&& y) :: st)) : vV p l e R s m args below meth c Q G nL v kc ks pc lv (.long y :: .long x :: st) := fun H locs ls hP hS hl => lv_land C.1 C.2.1 hd (k H locs ls hP hS hl)
theorem v_lor (C : vC p s m args meth c cc nL ret own G) {x y : Int64} (hd : decode cc pc = .ok (.lor, 1)) (k : vV p l e R s m args below meth c Q G nL v kc ks (pc + 1) lv (.long (x ||| y) :: st)) : vV p l e R s m args below meth c Q G nL v kc ks pc lv (.long y :: .long x :: st) := fun H locs ls hP hS hl => lv_lor C.1 C.2.1 hd (k H locs ls hP hS hl)
theorem v_lxor (C : vC p s m args meth c cc nL ret own G) {x y : Int64} (hd : decode cc pc = .ok (.lxor, 1)) (k : vV p l e R s m args below meth c Q G nL v kc ks (pc + 1) lv (.long (x ^^^ y) :: st)) : vV p l e R s m args below meth c Q G nL v kc ks pc lv (.long y :: .long x :: st) := fun H locs ls hP hS hl => lv_lxor C.1 C.2.1 hd (k H locs ls hP hS hl)
theorem v_ineg (C : vC p s m args meth c cc nL ret own G) {x : Int32} (hd : decode cc pc = .ok (.ineg, 1)) (k : vV p l e R s m args below meth c Q G nL v kc ks (pc + 1) lv (.int (-x) :: st)) : vV p l e R s m args below meth c Q G nL v kc ks pc lv (.int x :: st) := fun H locs ls hP hS hl => lv_ineg C.1 C.2.1 hd (k H locs ls hP hS hl)
theorem v_lneg (C : vC p s m args meth c cc nL ret own G) {x : Int64} (hd : decode cc pc = .ok (.lneg, 1)) (k : vV p l e R s m args below meth c Q G nL v kc ks (pc + 1) lv (.long (-x) :: st)) : vV p l e R s m args below meth c Q G nL v kc ks pc lv (.long x :: st) := fun H locs ls hP hS hl => lv_lneg C.1 C.2.1 hd (k H locs ls hP hS hl)
theorem v_i2l (C : vC p s m args meth c cc nL ret own G) {x : Int32} {y : Int64} (hd : decode cc pc = .ok (.i2l, 1)) (hx : x.toInt64 = y) (k : vV p l e R s m args below meth c Q G nL v kc ks (pc + 1) lv (.long y :: st)) : vV p l e R s m args below meth c Q G nL v kc ks pc lv (.int x :: st) := fun H locs ls hP hS hl => lv_i2l C.1 C.2.1 hd hx (k H locs ls hP hS hl)
theorem v_l2i (C : vC p s m args meth c cc nL ret own G) {x : Int64} {y : Int32} (hd : decode cc pc = .ok (.l2i, 1)) (hx : x.toInt32 = y) (k : vV p l e R s m args below meth c Q G nL v kc ks (pc + 1) lv (.int y :: st)) : vV p l e R s m args below meth c Q G nL v kc ks pc lv (.long x :: st) := fun H locs ls hP hS hl => lv_l2i C.1 C.2.1 hd hx (k H locs ls hP hS hl)
theorem v_lcmp (C : vC p s m args meth c cc nL ret own G) {x y : Int64} (hd : decode cc pc = .ok (.lcmp, 1)) (k : vV p l e R s m args below meth c Q G nL v kc ks (pc + 1) lv (.int (lg_cmp x y) :: st)) : vV p l e R s m args below meth c Q G nL v kc ks pc lv (.long y :: .long x :: st) := fun H locs ls hP hS hl => W.lcmp C.1 C.2.1 hd (k H locs ls hP hS hl)
theorem v_dup (C : vC p s m args meth c cc nL ret own G) {x : Value} (hd : decode cc pc = .ok (.dup, 1)) (hx : x.category = 1) (k : vV p l e R s m args below meth c Q G nL v kc ks (pc + 1) lv (x :: x :: st)) : vV p l e R s m args below meth c Q G nL v kc ks pc lv (x :: st) := fun H locs ls hP hS hl => lv_dup C.1 C.2.1 hd hx (k H locs ls hP hS hl)
theorem v_pop (C : vC p s m args meth c cc nL ret own G) {x : Value} (hd : decode cc pc = .ok (.pop, 1)) (hx : x.category = 1) (k : vV p l e R s m args below meth c Q G nL v kc ks (pc + 1) lv (st)) : vV p l e R s m args below meth c Q G nL v kc ks pc lv (x :: st) := fun H locs ls hP hS hl => lv_pop C.1 C.2.1 hd hx (k H locs ls hP hS hl)
theorem v_dup_x1 (C : vC p s m args meth c cc nL ret own G) {x y : Value} (hd : decode cc pc = .ok (.dup_x1, 1)) (hx : x.category = 1) (hy : y.category = 1) (k : vV p l e R s m args below meth c Q G nL v kc ks (pc + 1) lv (x :: y :: x :: st)) : vV p l e R s m args below meth c Q G nL v kc ks pc lv (x :: y :: st) := fun H locs ls hP hS hl => lv_dup_x1 C.1 C.2.1 hd hx hy (k H locs ls hP hS hl)
theorem v_dup2_11 (C : vC p s m args meth c cc nL ret own G) {x y : Value} (hd : decode cc pc = .ok (.dup2, 1)) (hx : x.category = 1) (hy : y.category = 1) (k : vV p l e R s m args below meth c Q G nL v kc ks (pc + 1) lv (x :: y :: x :: y :: st)) : vV p l e R s m args below meth c Q G nL v kc ks pc lv (x :: y :: st) := fun H locs ls hP hS hl => lv_dup2_11 C.1 C.2.1 hd hx hy (k H locs ls hP hS hl)
theorem v_dup2_2 (C : vC p s m args meth c cc nL ret own G) {x : Value} (hd : decode cc pc = .ok (.dup2, 1)) (hx : x.category = 2) (k : vV p l e R s m args below meth c Q G nL v kc ks (pc + 1) lv (x :: x :: st)) : vV p l e R s m args below meth c Q G nL v kc ks pc lv (x :: st) := fun H locs ls hP hS hl => lv_dup2_2 C.1 C.2.1 hd hx (k H locs ls hP hS hl)
theorem v_dup_x2 (C : vC p s m args meth c cc nL ret own G) {x y z : Value} (hd : decode cc pc = .ok (.dup_x2, 1)) (hx : x.category = 1) (hy : y.category = 1) (hz : z.category = 1) (k : vV p l e R s m args below meth c Q G nL v kc ks (pc + 1) lv (x :: y :: z :: x :: st)) : vV p l e R s m args below meth c Q G nL v kc ks pc lv (x :: y :: z :: st) := fun H locs ls hP hS hl => lv_dup_x2 C.1 C.2.1 hd hx hy hz (k H locs ls hP hS hl)
theorem v_pop2_2 (C : vC p s m args meth c cc nL ret own G) {x : Value} (hd : decode cc pc = .ok (.pop2, 1)) (hx : x.category = 2) (k : vV p l e R s m args below meth c Q G nL v kc ks (pc + 1) lv (st)) : vV p l e R s m args below meth c Q G nL v kc ks pc lv (x :: st) := fun H locs ls hP hS hl => lv_pop2_2 C.1 C.2.1 hd hx (k H locs ls hP hS hl)
theorem v_dup2_x1_2 (C : vC p s m args meth c cc nL ret own G) {x y : Value} (hd : decode cc pc = .ok (.dup2_x1, 1)) (hx : x.category = 2) (hy : y.category = 1) (k : vV p l e R s m args below meth c Q G nL v kc ks (pc + 1) lv (x :: y :: x :: st)) : vV p l e R s m args below meth c Q G nL v kc ks pc lv (x :: y :: st) := fun H locs ls hP hS hl => lv_dup2_x1_2 C.1 C.2.1 hd hx hy (k H locs ls hP hS hl)
theorem v_if_eq (C : vC p s m args meth c cc nL ret own G) {x : Int32} {off : Int} (tgt : Nat) (hd : decode cc pc = .ok (.ifCond .eq off, 3)) (ht : (pc : Int) + off = (tgt : Int)) (kt : x = 0 → vV p l e R s m args below meth c Q G nL v kc ks tgt lv st) (kf : ¬ x = 0 → vV p l e R s m args below meth c Q G nL v kc ks (pc + 3) lv st) : vV p l e R s m args below meth c Q G nL v kc ks pc lv (.int x :: st) := fun H locs ls hP hS hl => lv_if_eq C.1 C.2.1 hd ht (fun z => kt z H locs ls hP hS hl) (fun z => kf z H locs ls hP hS hl)
theorem v_icmp_eq (C : vC p s m args meth c cc nL ret own G) {x y : Int32} {off : Int} (tgt : Nat) (hd : decode cc pc = .ok (.if_icmp .eq off, 3)) (ht : (pc : Int) + off = (tgt : Int)) (kt : x = y → vV p l e R s m args below meth c Q G nL v kc ks tgt lv st) (kf : ¬ x = y → vV p l e R s m args below meth c Q G nL v kc ks (pc + 3) lv st) : vV p l e R s m args below meth c Q G nL v kc ks pc lv (.int y :: .int x :: st) := fun H locs ls hP hS hl => lv_icmp_eq C.1 C.2.1 hd ht (fun z => kt z H locs ls hP hS hl) (fun z => kf z H locs ls hP hS hl)
theorem v_if_ne (C : vC p s m args meth c cc nL ret own G) {x : Int32} {off : Int} (tgt : Nat) (hd : decode cc pc = .ok (.ifCond .ne off, 3)) (ht : (pc : Int) + off = (tgt : Int)) (kt : ¬ x = 0 → vV p l e R s m args below meth c Q G nL v kc ks tgt lv st) (kf : x = 0 → vV p l e R s m args below meth c Q G nL v kc ks (pc + 3) lv st) : vV p l e R s m args below meth c Q G nL v kc ks pc lv (.int x :: st) := fun H locs ls hP hS hl => lv_if_ne C.1 C.2.1 hd ht (fun z => kt z H locs ls hP hS hl) (fun z => kf z H locs ls hP hS hl)
theorem v_icmp_ne (C : vC p s m args meth c cc nL ret own G) {x y : Int32} {off : Int} (tgt : Nat) (hd : decode cc pc = .ok (.if_icmp .ne off, 3)) (ht : (pc : Int) + off = (tgt : Int)) (kt : ¬ x = y → vV p l e R s m args below meth c Q G nL v kc ks tgt lv st) (kf : x = y → vV p l e R s m args below meth c Q G nL v kc ks (pc + 3) lv st) : vV p l e R s m args below meth c Q G nL v kc ks pc lv (.int y :: .int x :: st) := fun H locs ls hP hS hl => lv_icmp_ne C.1 C.2.1 hd ht (fun z => kt z H locs ls hP hS hl) (fun z => kf z H locs ls hP hS hl)
theorem v_if_lt (C : vC p s m args meth c cc nL ret own G) {x : Int32} {off : Int} (tgt : Nat) (hd : decode cc pc = .ok (.ifCond .lt off, 3)) (ht : (pc : Int) + off = (tgt : Int)) (kt : x < 0 → vV p l e R s m args below meth c Q G nL v kc ks tgt lv st) (kf : ¬ x < 0 → vV p l e R s m args below meth c Q G nL v kc ks (pc + 3) lv st) : vV p l e R s m args below meth c Q G nL v kc ks pc lv (.int x :: st) := fun H locs ls hP hS hl => lv_if_lt C.1 C.2.1 hd ht (fun z => kt z H locs ls hP hS hl) (fun z => kf z H locs ls hP hS hl)
theorem v_icmp_lt (C : vC p s m args meth c cc nL ret own G) {x y : Int32} {off : Int} (tgt : Nat) (hd : decode cc pc = .ok (.if_icmp .lt off, 3)) (ht : (pc : Int) + off = (tgt : Int)) (kt : x < y → vV p l e R s m args below meth c Q G nL v kc ks tgt lv st) (kf : ¬ x < y → vV p l e R s m args below meth c Q G nL v kc ks (pc + 3) lv st) : vV p l e R s m args below meth c Q G nL v kc ks pc lv (.int y :: .int x :: st) := fun H locs ls hP hS hl => lv_icmp_lt C.1 C.2.1 hd ht (fun z => kt z H locs ls hP hS hl) (fun z => kf z H locs ls hP hS hl)
theorem v_if_ge (C : vC p s m args meth c cc nL ret own G) {x : Int32} {off : Int} (tgt : Nat) (hd : decode cc pc = .ok (.ifCond .ge off, 3)) (ht : (pc : Int) + off = (tgt : Int)) (kt : 0 ≤ x → vV p l e R s m args below meth c Q G nL v kc ks tgt lv st) (kf : ¬ 0 ≤ x → vV p l e R s m args below meth c Q G nL v kc ks (pc + 3) lv st) : vV p l e R s m args below meth c Q G nL v kc ks pc lv (.int x :: st) := fun H locs ls hP hS hl => lv_if_ge C.1 C.2.1 hd ht (fun z => kt z H locs ls hP hS hl) (fun z => kf z H locs ls hP hS hl)
theorem v_icmp_ge (C : vC p s m args meth c cc nL ret own G) {x y : Int32} {off : Int} (tgt : Nat) (hd : decode cc pc = .ok (.if_icmp .ge off, 3)) (ht : (pc : Int) + off = (tgt : Int)) (kt : y ≤ x → vV p l e R s m args below meth c Q G nL v kc ks tgt lv st) (kf : ¬ y ≤ x → vV p l e R s m args below meth c Q G nL v kc ks (pc + 3) lv st) : vV p l e R s m args below meth c Q G nL v kc ks pc lv (.int y :: .int x :: st) := fun H locs ls hP hS hl => lv_icmp_ge C.1 C.2.1 hd ht (fun z => kt z H locs ls hP hS hl) (fun z => kf z H locs ls hP hS hl)
theorem v_if_gt (C : vC p s m args meth c cc nL ret own G) {x : Int32} {off : Int} (tgt : Nat) (hd : decode cc pc = .ok (.ifCond .gt off, 3)) (ht : (pc : Int) + off = (tgt : Int)) (kt : 0 < x → vV p l e R s m args below meth c Q G nL v kc ks tgt lv st) (kf : ¬ 0 < x → vV p l e R s m args below meth c Q G nL v kc ks (pc + 3) lv st) : vV p l e R s m args below meth c Q G nL v kc ks pc lv (.int x :: st) := fun H locs ls hP hS hl => lv_if_gt C.1 C.2.1 hd ht (fun z => kt z H locs ls hP hS hl) (fun z => kf z H locs ls hP hS hl)
theorem v_icmp_gt (C : vC p s m args meth c cc nL ret own G) {x y : Int32} {off : Int} (tgt : Nat) (hd : decode cc pc = .ok (.if_icmp .gt off, 3)) (ht : (pc : Int) + off = (tgt : Int)) (kt : y < x → vV p l e R s m args below meth c Q G nL v kc ks tgt lv st) (kf : ¬ y < x → vV p l e R s m args below meth c Q G nL v kc ks (pc + 3) lv st) : vV p l e R s m args below meth c Q G nL v kc ks pc lv (.int y :: .int x :: st) := fun H locs ls hP hS hl => lv_icmp_gt C.1 C.2.1 hd ht (fun z => kt z H locs ls hP hS hl) (fun z => kf z H locs ls hP hS hl)
theorem v_if_le (C : vC p s m args meth c cc nL ret own G) {x : Int32} {off : Int} (tgt : Nat) (hd : decode cc pc = .ok (.ifCond .le off, 3)) (ht : (pc : Int) + off = (tgt : Int)) (kt : x ≤ 0 → vV p l e R s m args below meth c Q G nL v kc ks tgt lv st) (kf : ¬ x ≤ 0 → vV p l e R s m args below meth c Q G nL v kc ks (pc + 3) lv st) : vV p l e R s m args below meth c Q G nL v kc ks pc lv (.int x :: st) := fun H locs ls hP hS hl => lv_if_le C.1 C.2.1 hd ht (fun z => kt z H locs ls hP hS hl) (fun z => kf z H locs ls hP hS hl)
theorem v_icmp_le (C : vC p s m args meth c cc nL ret own G) {x y : Int32} {off : Int} (tgt : Nat) (hd : decode cc pc = .ok (.if_icmp .le off, 3)) (ht : (pc : Int) + off = (tgt : Int)) (kt : x ≤ y → vV p l e R s m args below meth c Q G nL v kc ks tgt lv st) (kf : ¬ x ≤ y → vV p l e R s m args below meth c Q G nL v kc ks (pc + 3) lv st) : vV p l e R s m args below meth c Q G nL v kc ks pc lv (.int y :: .int x :: st) := fun H locs ls hP hS hl => lv_icmp_le C.1 C.2.1 hd ht (fun z => kt z H locs ls hP hS hl) (fun z => kf z H locs ls hP hS hl)
theorem v_goto (C : vC p s m args meth c cc nL ret own G) {off : Int} (tgt : Nat) (hd : decode cc pc = .ok (.goto off, 3)) (ht : (pc : Int) + off = (tgt : Int)) (k : vV p l e R s m args below meth c Q G nL v kc ks tgt lv st) : vV p l e R s m args below meth c Q G nL v kc ks pc lv st := fun H locs ls hP hS hl => lv_goto C.1 C.2.1 hd ht (k H locs ls hP hS hl)
theorem v_ifnull (C : vC p s m args meth c cc nL ret own G) {x : Nat} {off : Int} (hd : decode cc pc = .ok (.ifnull off, 3)) (k : vV p l e R s m args below meth c Q G nL v kc ks (pc + 3) lv st) : vV p l e R s m args below meth c Q G nL v kc ks pc lv (.ref x :: st) := fun H locs ls hP hS hl => lv_ifnull C.1 C.2.1 hd (k H locs ls hP hS hl)
theorem v_ifnullN (C : vC p s m args meth c cc nL ret own G) {off : Int} (tgt : Nat) (hd : decode cc pc = .ok (.ifnull off, 3)) (ht : (pc : Int) + off = (tgt : Int)) (k : vV p l e R s m args below meth c Q G nL v kc ks tgt lv st) : vV p l e R s m args below meth c Q G nL v kc ks pc lv (.null :: st) := fun H locs ls hP hS hl => lv_ifnullN C.1 C.2.1 hd ht (k H locs ls hP hS hl)
theorem v_ifnonnull (C : vC p s m args meth c cc nL ret own G) {x : Nat} {off : Int} (tgt : Nat) (hd : decode cc pc = .ok (.ifnonnull off, 3)) (ht : (pc : Int) + off = (tgt : Int)) (k : vV p l e R s m args below meth c Q G nL v kc ks tgt lv st) : vV p l e R s m args below meth c Q G nL v kc ks pc lv (.ref x :: st) := fun H locs ls hP hS hl => lv_ifnonnull C.1 C.2.1 hd ht (k H locs ls hP hS hl)
theorem v_ifnonnullN (C : vC p s m args meth c cc nL ret own G) {off : Int} (hd : decode cc pc = .ok (.ifnonnull off, 3)) (k : vV p l e R s m args below meth c Q G nL v kc ks (pc + 3) lv st) : vV p l e R s m args below meth c Q G nL v kc ks pc lv (.null :: st) := fun H locs ls hP hS hl => lv_ifnonnullN C.1 C.2.1 hd (k H locs ls hP hS hl)
theorem v_topi {x : Int32} (k : ∀ y : Int32, y = x → vV p l e R s m args below meth c Q G nL v kc ks pc lv (.int y :: st)) : vV p l e R s m args below meth c Q G nL v kc ks pc lv (.int x :: st) := k x rfl
theorem v_topl {x : Int64} (k : ∀ y : Int64, y = x → vV p l e R s m args below meth c Q G nL v kc ks pc lv (.long y :: st)) : vV p l e R s m args below meth c Q G nL v kc ks pc lv (.long x :: st) := k x rfl
theorem v_sub (is : List Nat) {lv' : List (Nat × Value)} (hv : lv_pick lv is = lv') (k : vV p l e R s m args below meth c Q G nL v kc ks pc lv' st) : vV p l e R s m args below meth c Q G nL v kc ks pc lv st := fun H locs ls hP hS hl => k H locs ls hP hS (lv_sub hl is hv)
theorem v_widen {kc' ks' : Nat} (h1 : kc ≤ kc') (h2 : ks ≤ ks') (k : vV p l e R s m args below meth c Q G nL v kc' ks' pc lv st) : vV p l e R s m args below meth c Q G nL v kc ks pc lv st := fun H locs ls hP hS hl => W.widen h1 h2 (k H locs ls hP hS hl)
end VV
section VH
variable {p : Program} {l : Launch} {e : Env} {R : Room} {s : State} {m : MethodId} {args : Array Value} {below : List Frame} {meth : Method} {c : Code} {Q : State → Prop} {G : vv_G} {cc : ByteArray} {nL : Nat} {ret : Option FieldType} {own : String} {v : vv_V} {kc ks pc : Nat} {lv : List (Nat × Value)} {st : List Value}
-- answers
variable {post : Option Value → vv_V → Prop} {mc ms : Nat}
theorem v_iret {x : Int32} (C : vC p s m args meth c cc nL (some .int) own G) (hd : decode cc pc = .ok (.ireturn, 1)) (hc : kc ≤ mc) (hs : ks ≤ ms) (hp : post (some (.int x)) v) : vV p l e R s m args below meth c (MQ below (vv_Q G post) args s mc ms (fun q => G.2.1 ≤ q)) G nL v kc ks pc lv [.int x] :=
  fun H locs ls hP hS hl => W.widen hc hs (W.iret C.1 C.2.1 C.2.2.2.2.2.1 (fun t ht hW => ⟨⟨_, v, rfl, hp, by rw [ht]; exact hP⟩, hS.F ht⟩) hS.2.2 hd (hlocks := C.2.2.2.2.2.2))
theorem v_zret {x : Int32} (C : vC p s m args meth c cc nL (some .boolean) own G) (hd : decode cc pc = .ok (.ireturn, 1)) (hc : kc ≤ mc) (hs : ks ≤ ms) (hn : narrow .boolean (.int x) = .int x) (hp : post (some (.int x)) v) : vV p l e R s m args below meth c (MQ below (vv_Q G post) args s mc ms (fun q => G.2.1 ≤ q)) G nL v kc ks pc lv [.int x] :=
  fun H locs ls hP hS hl => W.widen hc hs (W.zret C.1 C.2.1 C.2.2.2.2.2.1 hn (fun t ht hW => ⟨⟨_, v, rfl, hp, by rw [ht]; exact hP⟩, hS.F ht⟩) hS.2.2 hd (hlocks := C.2.2.2.2.2.2))
theorem v_lret {x : Int64} (C : vC p s m args meth c cc nL (some .long) own G) (hd : decode cc pc = .ok (.lreturn, 1)) (hc : kc ≤ mc) (hs : ks ≤ ms) (hp : post (some (.long x)) v) : vV p l e R s m args below meth c (MQ below (vv_Q G post) args s mc ms (fun q => G.2.1 ≤ q)) G nL v kc ks pc lv [.long x] :=
  fun H locs ls hP hS hl => W.widen hc hs (W.lret C.1 C.2.1 C.2.2.2.2.2.1 (fun t ht hW => ⟨⟨_, v, rfl, hp, by rw [ht]; exact hP⟩, hS.F ht⟩) hS.2.2 hd (hlocks := C.2.2.2.2.2.2))
theorem v_vret (C : vC p s m args meth c cc nL none own G) (hd : decode cc pc = .ok (.return_, 1)) (hc : kc ≤ mc) (hs : ks ≤ ms) (hp : post none v) : vV p l e R s m args below meth c (MQ below (vv_Q G post) args s mc ms (fun q => G.2.1 ≤ q)) G nL v kc ks pc lv [] :=
  fun H locs ls hP hS hl => W.widen hc hs (W.vret C.1 C.2.1 C.2.2.2.2.2.1 (fun t ht hW => ⟨⟨_, v, rfl, hp, by rw [ht]; exact hP⟩, hS.F ht⟩) hS.2.2 hd (hlocks := C.2.2.2.2.2.2))
theorem v_aret {x : Value} {rt : FieldType} (C : vC p s m args meth c cc nL (some rt) own G) (hrt : (∃ n, rt = .object n) ∨ ∃ t, rt = .array t) (hx : x = .null ∨ ∃ a, x = .ref a) (hd : decode cc pc = .ok (.areturn, 1)) (hc : kc ≤ mc) (hs : ks ≤ ms) (hp : post (some x) v) : vV p l e R s m args below meth c (MQ below (vv_Q G post) args s mc ms (fun q => G.2.1 ≤ q)) G nL v kc ks pc lv [x] :=
  fun H locs ls hP hS hl => W.widen hc hs (W.aret C.1 C.2.1 C.2.2.2.2.2.1 hrt hx (fun t ht hW => ⟨⟨_, v, rfl, hp, by rw [ht]; exact hP⟩, hS.F ht⟩) hS.2.2 hd (hlocks := C.2.2.2.2.2.2))
-- fields
variable {ref Cn : String} {T : u_T} {N ci index a : Nat} {fs : List Value} {x : Value}
/-- what the tables say of class ci: its fields are laid out; their names differ; their types -/
def vv_cl (ci : Nat) (Cn : String) (T : u_T) (N : Nat) (ty : Nat → FieldType) : Prop := vwCl[ci]? = some (Cn, T, N) ∧ ci ≠ 99 ∧ (∀ w ∈ u_ws Cn T N, w ∈ vv_wds) ∧ (∀ k, k < N → parseFieldDescriptor (T k).2.2.1 = some (ty k)) ∧ (∀ a, a < N → ∀ b, b < N → a ≠ b → (T a).2.1 ≠ (T b).2.1)
theorem v_get {ty : Nat → FieldType} (C : vC p s m args meth c cc nL ret own G) (hcl : vv_cl ci Cn T N ty) (he : v ci a = some (.inr (ci, fs))) (k0 : Nat) (hk : k0 < N) (hlink : Cond.fieldLink own index ref (T k0).2.1 (T k0).2.2.1 ∈ vv_wds) (hsame : ∀ x, s.fieldFound? (T k0).1 (T k0).2.1 (T k0).2.2.1 = some x → s.fieldFound? ref (T k0).2.1 (T k0).2.2.1 = some x) (hx : fs[k0]? = some x) (hd : decode cc pc = .ok (.getfield index, 3))
    (k : vV p l e R s m args below meth c Q G nL v kc ks (pc + 3) lv (x :: st)) : vV p l e R s m args below meth c Q G nL v kc ks pc lv (.ref a :: st) :=
  fun H locs ls hP hS hl => va_get C.1 C.2.1 C.w hcl.2.2.1 C.2.2.2.1 C.2.2.2.2.1.1 (hP.one he hcl.2.1) 0 rfl hcl.1 k0 hk (C.w _ hlink) hsame hx hd (k H locs ls hP hS hl)
theorem v_getN {ty : Nat → FieldType} {host : String} (C : vC p s m args meth c cc nL ret own G) (hcl : vv_cl ci Cn T N ty) (he : v ci a = some (.inr (ci, fs))) (k0 : Nat) (hk : k0 < N) (hlink : Cond.fieldLinkNest own index ref (T k0).2.1 (T k0).2.2.1 host ∈ vv_wds) (hsame : ∀ x, s.fieldFound? (T k0).1 (T k0).2.1 (T k0).2.2.1 = some x → s.fieldFound? ref (T k0).2.1 (T k0).2.2.1 = some x) (hx : fs[k0]? = some x) (hd : decode cc pc = .ok (.getfield index, 3))
    (k : vV p l e R s m args below meth c Q G nL v kc ks (pc + 3) lv (x :: st)) : vV p l e R s m args below meth c Q G nL v kc ks pc lv (.ref a :: st) :=
  fun H locs ls hP hS hl => va_getN C.1 C.2.1 C.w hcl.2.2.1 C.2.2.2.1 C.2.2.2.2.1.1 (hP.one he hcl.2.1) 0 rfl hcl.1 k0 hk (C.w _ hlink) hsame hx hd (k H locs ls hP hS hl)
theorem v_put {ty : Nat → FieldType} (C : vC p s m args meth c cc nL ret own G) (hcl : vv_cl ci Cn T N ty) (he : v ci a = some (.inr (ci, fs))) (k0 : Nat) (hk : k0 < N) (hlink : Cond.fieldLink own index ref (T k0).2.1 (T k0).2.2.1 ∈ vv_wds) (hsame : ∀ x, s.fieldFound? (T k0).1 (T k0).2.1 (T k0).2.2.1 = some x → s.fieldFound? ref (T k0).2.1 (T k0).2.2.1 = some x) (hfin : (T k0).2.2.2 = false) (hn : narrow (ty k0) x = x) (hfit : fits (ty k0) x = true) (hl0 : k0 < fs.length) (hd : decode cc pc = .ok (.putfield index, 3))
    (k : vV p l e R s m args below meth c Q G nL (vv_up v ci a (.inr (ci, fs.set k0 x))) kc ks (pc + 3) lv st) : vV p l e R s m args below meth c Q G nL v kc ks pc lv (x :: .ref a :: st) := by
  intro H locs ls hP hS hl
  obtain ⟨ws, hL⟩ := vv_ls hP
  obtain ⟨q0, hq⟩ := hL.1 ci a _ hcl.2.1 he
  exact va_put C.1 C.2.1 C.w hcl.2.2.1 ty hcl.2.2.2.1 hcl.2.2.2.2 C.2.2.2.1 C.2.2.2.2.1.1 (hL.P hP) (hL.D hP) hS q0 hq hcl.1 k0 hk (C.w _ hlink) hsame hfin (hcl.2.2.2.1 k0 hk) hn hfit hl0 hd (fun H1 locs1 hP1 _ hS1 => k H1 locs1 ls (vv_set hP hL hcl.2.1 he hq C.2.2.2.2.1.2.2.2.2 hS hS1 hP1) hS1 hl)
theorem v_putN {ty : Nat → FieldType} {host : String} (C : vC p s m args meth c cc nL ret own G) (hcl : vv_cl ci Cn T N ty) (he : v ci a = some (.inr (ci, fs))) (k0 : Nat) (hk : k0 < N) (hlink : Cond.fieldLinkNest own index ref (T k0).2.1 (T k0).2.2.1 host ∈ vv_wds) (hsame : ∀ x, s.fieldFound? (T k0).1 (T k0).2.1 (T k0).2.2.1 = some x → s.fieldFound? ref (T k0).2.1 (T k0).2.2.1 = some x) (hfin : (T k0).2.2.2 = false) (hn : narrow (ty k0) x = x) (hfit : fits (ty k0) x = true) (hl0 : k0 < fs.length) (hd : decode cc pc = .ok (.putfield index, 3))
    (k : vV p l e R s m args below meth c Q G nL (vv_up v ci a (.inr (ci, fs.set k0 x))) kc ks (pc + 3) lv st) : vV p l e R s m args below meth c Q G nL v kc ks pc lv (x :: .ref a :: st) := by
  intro H locs ls hP hS hl
  obtain ⟨ws, hL⟩ := vv_ls hP
  obtain ⟨q0, hq⟩ := hL.1 ci a _ hcl.2.1 he
  exact va_putN C.1 C.2.1 C.w hcl.2.2.1 ty hcl.2.2.2.1 hcl.2.2.2.2 C.2.2.2.1 C.2.2.2.2.1.1 (hL.P hP) (hL.D hP) hS q0 hq hcl.1 k0 hk (C.w _ hlink) hsame hfin (hcl.2.2.2.1 k0 hk) hn hfit hl0 hd (fun H1 locs1 hP1 _ hS1 => k H1 locs1 ls (vv_set hP hL hcl.2.1 he hq C.2.2.2.2.1.2.2.2.2 hS hS1 hP1) hS1 hl)
theorem v_putF {ty : Nat → FieldType} (C : vC p s m args meth c cc nL ret own G) (hin2 : meth.name = "<init>") (hcl : vv_cl ci Cn T N ty) (he : v ci a = some (.inr (ci, fs))) (k0 : Nat) (hk : k0 < N) (hlink : Cond.fieldLink own index ref (T k0).2.1 (T k0).2.2.1 ∈ vv_wds) (hsame : ∀ x, s.fieldFound? (T k0).1 (T k0).2.1 (T k0).2.2.1 = some x → s.fieldFound? ref (T k0).2.1 (T k0).2.2.1 = some x) (hfin : (T k0).2.2.2 = true) (hdecl : (T k0).1 = own) (hn : narrow (ty k0) x = x) (hfit : fits (ty k0) x = true) (hl0 : k0 < fs.length) (hd : decode cc pc = .ok (.putfield index, 3))
    (k : vV p l e R s m args below meth c Q G nL (vv_up v ci a (.inr (ci, fs.set k0 x))) kc ks (pc + 3) lv st) : vV p l e R s m args below meth c Q G nL v kc ks pc lv (x :: .ref a :: st) := by
  intro H locs ls hP hS hl
  obtain ⟨ws, hL⟩ := vv_ls hP
  obtain ⟨q0, hq⟩ := hL.1 ci a _ hcl.2.1 he
  exact va_putF C.1 C.2.1 C.w hcl.2.2.1 ty hcl.2.2.2.1 hcl.2.2.2.2 C.2.2.2.1 C.2.2.2.2.1.1 (hL.P hP) (hL.D hP) hS q0 hq hcl.1 k0 hk (C.w _ hlink) hsame hfin hin2 hdecl (hcl.2.2.2.1 k0 hk) hn hfit hl0 hd (fun H1 locs1 hP1 _ hS1 => k H1 locs1 ls (vv_set hP hL hcl.2.1 he hq C.2.2.2.2.1.2.2.2.2 hS hS1 hP1) hS1 hl)
-- arrays
variable {n : Nat} {f : Nat → Int32} {fl : Nat → Int64} {fq : Nat → Option Nat} {i : Int32}
theorem v_iald (C : vC p s m args meth c cc nL ret own G) (he : v 50 a = some (.inl (G.2.2.2.2 0, n, .inl f))) (hi : vp_in i n) (hd : decode cc pc = .ok (.iaload, 1))
    (k : vV p l e R s m args below meth c Q G nL v kc ks (pc + 1) lv (.int (f i.toNatClampNeg) :: st)) : vV p l e R s m args below meth c Q G nL v kc ks pc lv (.int i :: .ref a :: st) :=
  fun H locs ls hP hS hl => va_iald C.1 C.2.1 C.2.2.2.2.1.1 (hP.one he) 0 0 rfl rfl hi hd (k H locs ls hP hS hl)
theorem v_zald (C : vC p s m args meth c cc nL ret own G) (he : v 51 a = some (.inl (G.2.2.2.2 1, n, .inl f))) (hi : vp_in i n) (hd : decode cc pc = .ok (.baload, 1))
    (k : vV p l e R s m args below meth c Q G nL v kc ks (pc + 1) lv (.int (f i.toNatClampNeg) :: st)) : vV p l e R s m args below meth c Q G nL v kc ks pc lv (.int i :: .ref a :: st) :=
  fun H locs ls hP hS hl => va_zald C.1 C.2.1 C.2.2.2.2.1.1 (hP.one he) 0 1 rfl rfl hi hd (k H locs ls hP hS hl)
theorem v_lald (C : vC p s m args meth c cc nL ret own G) (he : v 52 a = some (.inl (G.2.2.2.2 2, n, .inr (.inl fl)))) (hi : vp_in i n) (hd : decode cc pc = .ok (.laload, 1))
    (k : vV p l e R s m args below meth c Q G nL v kc ks (pc + 1) lv (.long (fl i.toNatClampNeg) :: st)) : vV p l e R s m args below meth c Q G nL v kc ks pc lv (.int i :: .ref a :: st) :=
  fun H locs ls hP hS hl => va_lald C.1 C.2.1 C.2.2.2.2.1.1 (hP.one he) 0 2 rfl rfl hi hd (k H locs ls hP hS hl)
theorem v_aald (C : vC p s m args meth c cc nL ret own G) (he : v 53 a = some (.inl (G.2.2.2.2 3, n, .inr (.inr (.inr (.inr fq)))))) (hi : vp_in i n) (hd : decode cc pc = .ok (.aaload, 1))
    (k : vV p l e R s m args below meth c Q G nL v kc ks (pc + 1) lv (va_rf (fq i.toNatClampNeg) :: st)) : vV p l e R s m args below meth c Q G nL v kc ks pc lv (.int i :: .ref a :: st) :=
  fun H locs ls hP hS hl => va_aldq C.1 C.2.1 C.2.2.2.2.1.1 (hP.one he) 0 3 rfl rfl hi hd (k H locs ls hP hS hl)
theorem v_alen (C : vC p s m args meth c cc nL ret own G) (K t0 : Nat) {y : vp_A} {ty : FieldType} {z : Int32} (he : v K a = some (.inl (G.2.2.2.2 t0, y))) (ht : (vv_tys G)[t0]? = some (G.2.2.2.2 t0, ty)) (hz : Int32.ofNat y.1 = z) (hd : decode cc pc = .ok (.arraylength, 1))
    (k : vV p l e R s m args below meth c Q G nL v kc ks (pc + 1) lv (.int z :: st)) (h99 : K ≠ 99 := by decide) : vV p l e R s m args below meth c Q G nL v kc ks pc lv (.ref a :: st) :=
  fun H locs ls hP hS hl => va_alen C.1 C.2.1 C.2.2.2.2.1.1 (hP.one he h99) 0 t0 rfl ht hz hd (k H locs ls hP hS hl)
theorem v_alen9 (C : vC p s m args meth c cc nL ret own G) {z : Int32} (hz : Int32.ofNat 0 = z) (hd : decode cc pc = .ok (.arraylength, 1)) (k : vV p l e R s m args below meth c Q G nL v kc ks (pc + 1) lv (.int z :: st)) : vV p l e R s m args below meth c Q G nL v kc ks pc lv (.ref G.2.2.1 :: st) :=
  fun H locs ls hP hS hl => va_tlen C.1 C.2.1 C.2.2.2.2.1.2.2.1.2 hS hz hd (k H locs ls hP hS hl)
theorem v_iast {x : Int32} (C : vC p s m args meth c cc nL ret own G) (he : v 50 a = some (.inl (G.2.2.2.2 0, n, .inl f))) (hi : vp_in i n) (hd : decode cc pc = .ok (.iastore, 1))
    (k : vV p l e R s m args below meth c Q G nL (vv_up v 50 a (.inl (G.2.2.2.2 0, n, .inl (upd f i.toNatClampNeg x)))) kc ks (pc + 1) lv st) : vV p l e R s m args below meth c Q G nL v kc ks pc lv (.int x :: .int i :: .ref a :: st) := by
  intro H locs ls hP hS hl
  obtain ⟨ws, hL⟩ := vv_ls hP
  obtain ⟨q0, hq⟩ := hL.1 50 a _ (by decide) he
  exact va_iast C.1 C.2.1 C.2.2.2.2.1.1 (hL.P hP) (hL.D hP) hS q0 0 hq rfl hi hd (fun H1 locs1 hP1 _ hS1 => k H1 locs1 ls (vv_set hP hL (by decide) he hq C.2.2.2.2.1.2.2.2.2 hS hS1 hP1) hS1 hl)
theorem v_zast {x : Int32} (C : vC p s m args meth c cc nL ret own G) (he : v 51 a = some (.inl (G.2.2.2.2 1, n, .inl f))) (hi : vp_in i n) (hd : decode cc pc = .ok (.bastore, 1))
    (k : vV p l e R s m args below meth c Q G nL (vv_up v 51 a (.inl (G.2.2.2.2 1, n, .inl (upd f i.toNatClampNeg (vp_nar .boolean x))))) kc ks (pc + 1) lv st) : vV p l e R s m args below meth c Q G nL v kc ks pc lv (.int x :: .int i :: .ref a :: st) := by
  intro H locs ls hP hS hl
  obtain ⟨ws, hL⟩ := vv_ls hP
  obtain ⟨q0, hq⟩ := hL.1 51 a _ (by decide) he
  exact va_zast C.1 C.2.1 C.2.2.2.2.1.1 (hL.P hP) (hL.D hP) hS q0 1 hq rfl hi hd (fun H1 locs1 hP1 _ hS1 => k H1 locs1 ls (vv_set hP hL (by decide) he hq C.2.2.2.2.1.2.2.2.2 hS hS1 hP1) hS1 hl)
theorem v_last {x : Int64} (C : vC p s m args meth c cc nL ret own G) (he : v 52 a = some (.inl (G.2.2.2.2 2, n, .inr (.inl fl)))) (hi : vp_in i n) (hd : decode cc pc = .ok (.lastore, 1))
    (k : vV p l e R s m args below meth c Q G nL (vv_up v 52 a (.inl (G.2.2.2.2 2, n, .inr (.inl (vp_updL fl i.toNatClampNeg x))))) kc ks (pc + 1) lv st) : vV p l e R s m args below meth c Q G nL v kc ks pc lv (.long x :: .int i :: .ref a :: st) := by
  intro H locs ls hP hS hl
  obtain ⟨ws, hL⟩ := vv_ls hP
  obtain ⟨q0, hq⟩ := hL.1 52 a _ (by decide) he
  exact va_last C.1 C.2.1 C.2.2.2.2.1.1 (hL.P hP) (hL.D hP) hS q0 2 hq rfl hi hd (fun H1 locs1 hP1 _ hS1 => k H1 locs1 ls (vv_set hP hL (by decide) he hq C.2.2.2.2.1.2.2.2.2 hS hS1 hP1) hS1 hl)
/-- an object of class ci laid into an Object[] -/
theorem v_aast {b cj : Nat} {vs : List Value} {Cj : String} {Tj : u_T} {Nj : Nat} (C : vC p s m args meth c cc nL ret own G) (he : v 53 a = some (.inl (G.2.2.2.2 3, n, .inr (.inr (.inr (.inr fq)))))) (h9 : cj ≠ 99) (hj : v cj b = some (.inr (cj, vs))) (hcj : vwCl[cj]? = some (Cj, Tj, Nj)) (hca : Cond.castable Cj "java/lang/Object" ∈ vv_wds) (hi : vp_in i n) (hd : decode cc pc = .ok (.aastore, 1))
    (k : vV p l e R s m args below meth c Q G nL (vv_up v 53 a (.inl (G.2.2.2.2 3, n, .inr (.inr (.inr (.inr (va_up fq i.toNatClampNeg (some b)))))))) kc ks (pc + 1) lv st) : vV p l e R s m args below meth c Q G nL v kc ks pc lv (.ref b :: .int i :: .ref a :: st) := by
  intro H locs ls hP hS hl
  obtain ⟨ws, hL⟩ := vv_ls hP
  obtain ⟨q0, hq⟩ := hL.1 53 a _ (by decide) he
  obtain ⟨q1, hq1⟩ := hL.1 cj b _ h9 hj
  exact va_astqO C.1 C.2.1 C.2.2.2.2.1.1 (hL.P hP) (hL.D hP) hS q0 3 q1 cj (r := (Cj, Tj, Nj)) hq rfl (va_Nw.of rfl (C.w _ hca)) hq1 hcj hi hd (fun H1 locs1 hP1 _ hS1 => k H1 locs1 ls (vv_set hP hL (by decide) he hq C.2.2.2.2.1.2.2.2.2 hS hS1 hP1) hS1 hl)
-- new cells
theorem v_new {ty : Nat → FieldType} {fs : List Value} (C : vC p s m args meth c cc nL ret own G) (hcl : vv_cl ci Cn T N ty) (hlink : Cond.classLink own index Cn ∈ vv_wds) (hinst : Cond.instantiable Cn N ∈ vv_wds) (hini : Cond.initialized Cn ∈ vv_wds) (hfs : ∀ j, j < N → defaultValue (ty j) = vp_V fs j) (hcells : kc + 1 ≤ R.cells) (hslots : ks + N ≤ R.slots) (hd : decode cc pc = .ok (.new index, 3))
    (k : ∀ q : Nat, (∀ k', v k' q = none) → vV p l e R s m args below meth c Q G nL (vv_up v ci q (.inr (ci, fs))) (kc + 1) (ks + N) (pc + 3) lv (.ref q :: st)) : vV p l e R s m args below meth c Q G nL v kc ks pc lv st := by
  intro H locs ls hP hS hl
  obtain ⟨ws, hL⟩ := vv_ls hP
  refine va_new C.1 C.2.1 C.w hcl.2.2.1 ty hcl.2.2.2.1 C.2.2.2.1 (C.w _ hlink) (C.w _ hinst) (C.w _ hini) C.2.2.2.2.1.1 (hL.P hP) (hL.D hP) hS (fun q h => Nat.le_trans C.2.2.2.2.1.2.2.2.2 h) hcl.1 hfs hcells hslots hd (fun q H1 hP1 hD1 hS1 => ?_)
  obtain ⟨g1, g2⟩ := vv_push hP hL hcl.2.1 C.2.2.2.2.1.2.2.2.2 hS hS1 hP1 hD1
  exact k q g1 H1 locs ls g2 hS1 hl
theorem v_newai {z : Int32} (C : vC p s m args meth c cc nL ret own G) (hz : ¬ z < 0) (hn : z.toNatClampNeg = n) (hby : n ≤ 100000) (hcells : kc + 1 ≤ R.cells) (hslots : ks + n ≤ R.slots) (hd : decode cc pc = .ok (.newarray .int, 2))
    (k : ∀ q : Nat, (∀ k', v k' q = none) → vV p l e R s m args below meth c Q G nL (vv_up v 50 q (.inl (G.2.2.2.2 0, n, .inl (fun _ => 0)))) (kc + 1) (ks + n) (pc + 2) lv (.ref q :: st)) : vV p l e R s m args below meth c Q G nL v kc ks pc lv (.int z :: st) := by
  intro H locs ls hP hS hl
  obtain ⟨ws, hL⟩ := vv_ls hP
  refine va_newa C.1 C.2.1 (atype := .int) (ty := .int) (a0 := (n, .inl (fun _ => 0))) (word_at (State.WarmedH.refl s) (Or.inr ⟨_, rfl⟩) (C.2.2.2.2.1.2.2.2.1.2.2 .int (by simp))) rfl C.2.2.2.2.1.1 (hL.P hP) (hL.D hP) hS (fun q h => Nat.le_trans C.2.2.2.2.1.2.2.2.2 h) (fun cA => rfl) hz hn (by show n * 4 ≤ _; omega) hcells hslots hd (fun q cA H1 hK1 hP1 hD1 hS1 => ?_)
  have hcA : cA = G.2.2.2.2 0 := Option.some.inj ((hK1.2 4 (cA, .int) rfl).2.symm.trans (C.2.2.2.2.1.1.2 0 _ rfl).2)
  subst hcA
  obtain ⟨g1, g2⟩ := vv_push (k := 50) hP hL (by decide) C.2.2.2.2.1.2.2.2.2 hS hS1 hP1 hD1
  exact k q g1 H1 locs ls g2 hS1 hl
theorem v_newaz {z : Int32} (C : vC p s m args meth c cc nL ret own G) (hz : ¬ z < 0) (hn : z.toNatClampNeg = n) (hby : n ≤ 100000) (hcells : kc + 1 ≤ R.cells) (hslots : ks + n ≤ R.slots) (hd : decode cc pc = .ok (.newarray .boolean, 2))
    (k : ∀ q : Nat, (∀ k', v k' q = none) → vV p l e R s m args below meth c Q G nL (vv_up v 51 q (.inl (G.2.2.2.2 1, n, .inl (fun _ => 0)))) (kc + 1) (ks + n) (pc + 2) lv (.ref q :: st)) : vV p l e R s m args below meth c Q G nL v kc ks pc lv (.int z :: st) := by
  intro H locs ls hP hS hl
  obtain ⟨ws, hL⟩ := vv_ls hP
  refine va_newa C.1 C.2.1 (atype := .boolean) (ty := .boolean) (a0 := (n, .inl (fun _ => 0))) (word_at (State.WarmedH.refl s) (Or.inr ⟨_, rfl⟩) (C.2.2.2.2.1.2.2.2.1.2.2 .boolean (by simp))) rfl C.2.2.2.2.1.1 (hL.P hP) (hL.D hP) hS (fun q h => Nat.le_trans C.2.2.2.2.1.2.2.2.2 h) (fun cA => rfl) hz hn (by show n * 1 ≤ _; omega) hcells hslots hd (fun q cA H1 hK1 hP1 hD1 hS1 => ?_)
  have hcA : cA = G.2.2.2.2 1 := Option.some.inj ((hK1.2 4 (cA, .boolean) rfl).2.symm.trans (C.2.2.2.2.1.1.2 1 _ rfl).2)
  subst hcA
  obtain ⟨g1, g2⟩ := vv_push (k := 51) hP hL (by decide) C.2.2.2.2.1.2.2.2.2 hS hS1 hP1 hD1
  exact k q g1 H1 locs ls g2 hS1 hl
theorem v_newal {z : Int32} (C : vC p s m args meth c cc nL ret own G) (hz : ¬ z < 0) (hn : z.toNatClampNeg = n) (hby : n ≤ 100000) (hcells : kc + 1 ≤ R.cells) (hslots : ks + n ≤ R.slots) (hd : decode cc pc = .ok (.newarray .long, 2))
    (k : ∀ q : Nat, (∀ k', v k' q = none) → vV p l e R s m args below meth c Q G nL (vv_up v 52 q (.inl (G.2.2.2.2 2, n, .inr (.inl (fun _ => 0))))) (kc + 1) (ks + n) (pc + 2) lv (.ref q :: st)) : vV p l e R s m args below meth c Q G nL v kc ks pc lv (.int z :: st) := by
  intro H locs ls hP hS hl
  obtain ⟨ws, hL⟩ := vv_ls hP
  refine va_newa C.1 C.2.1 (atype := .long) (ty := .long) (a0 := (n, .inr (.inl (fun _ => 0)))) (word_at (State.WarmedH.refl s) (Or.inr ⟨_, rfl⟩) (C.2.2.2.2.1.2.2.2.1.2.2 .long (by simp))) rfl C.2.2.2.2.1.1 (hL.P hP) (hL.D hP) hS (fun q h => Nat.le_trans C.2.2.2.2.1.2.2.2.2 h) (fun cA => rfl) hz hn (by show n * 8 ≤ _; omega) hcells hslots hd (fun q cA H1 hK1 hP1 hD1 hS1 => ?_)
  have hcA : cA = G.2.2.2.2 2 := Option.some.inj ((hK1.2 4 (cA, .long) rfl).2.symm.trans (C.2.2.2.2.1.1.2 2 _ rfl).2)
  subst hcA
  obtain ⟨g1, g2⟩ := vv_push (k := 52) hP hL (by decide) C.2.2.2.2.1.2.2.2.2 hS hS1 hP1 hD1
  exact k q g1 H1 locs ls g2 hS1 hl
theorem v_newaq {z : Int32} (C : vC p s m args meth c cc nL ret own G) (hlink : Cond.classLink own index "java/lang/Object" ∈ vv_wds) (hz : ¬ z < 0) (hn : z.toNatClampNeg = n) (hby : n ≤ 100000) (hcells : kc + 1 ≤ R.cells) (hslots : ks + n ≤ R.slots) (hd : decode cc pc = .ok (.anewarray index, 3))
    (k : ∀ q : Nat, (∀ k', v k' q = none) → vV p l e R s m args below meth c Q G nL (vv_up v 53 q (.inl (G.2.2.2.2 3, n, .inr (.inr (.inr (.inr (fun _ => none))))))) (kc + 1) (ks + n) (pc + 3) lv (.ref q :: st)) : vV p l e R s m args below meth c Q G nL v kc ks pc lv (.int z :: st) := by
  intro H locs ls hP hS hl
  obtain ⟨ws, hL⟩ := vv_ls hP
  refine va_newq C.1 C.2.1 C.2.2.2.1 (C.w _ hlink) C.2.2.2.2.1.2.2.2.1.2.1 C.2.2.2.2.1.1 (hL.P hP) (hL.D hP) hS (fun q h => Nat.le_trans C.2.2.2.2.1.2.2.2.2 h) hz hn (by omega) hcells hslots hd (fun q cA H1 hK1 hP1 hD1 hS1 => ?_)
  have hcA : cA = G.2.2.2.2 3 := Option.some.inj ((va_nmO (hK1.2 4 (cA, .object "java/lang/Object") rfl).2 rfl).symm.trans (va_nmO (C.2.2.2.2.1.1.2 3 _ rfl).2 rfl))
  subst hcA
  obtain ⟨g1, g2⟩ := vv_push (k := 53) hP hL (by decide) C.2.2.2.2.1.2.2.2.2 hS hS1 hP1 hD1
  exact k q g1 H1 locs ls g2 hS1 hl
theorem v_objInit (C : vC p s m args meth c cc nL ret own G) (hlink : Cond.methodLink own index objectInit ∈ vv_wds) (hinst : Cond.instanceMethod objectInit ∈ vv_wds) (hcode : Cond.code objectInit ⟨#[0xb1]⟩ 1 none ∈ vv_wds) (hd : decode cc pc = .ok (.invokespecial index, 3)) (hfr : 1 ≤ R.frames) (hlo : (st.map fun v => v.category).sum + 12 ≤ R.locals)
    (k : vV p l e R s m args below meth c Q G nL v kc ks (pc + 3) lv st) : vV p l e R s m args below meth c Q G nL v kc ks pc lv (.ref a :: st) :=
  fun H locs ls hP hS hl => W.objInit C.1 C.2.1 C.2.2.2.1 (C.w _ hlink) (C.w _ hinst) (C.w _ hcode) rfl (hl.1.trans C.2.2.1.symm) rfl hd hfr (by show 2 * 0 + _ + 12 ≤ _; omega) (k H locs ls hP hS hl)
-- calls
variable {y : MethodName} {bytes : ByteArray} {maxL f0 lo0 np mc0 ms0 : Nat} {ret0 : Option FieldType} {As rest : List Value} {post0 : Option Value → vv_V → Prop} {b : Nat}
theorem vv_cb (ht : ∀ w ∈ vv_wds, w.before args s = true) (hcode : Cond.code y bytes maxL ret0 ∈ vv_wds) (hini : Cond.initialized y.cls ∈ vv_wds) (hl : Cond.methodLink own index y ∈ vv_wds) (hd : y.cls ≠ "java/lang/invoke/MethodHandle" ∧ y.cls ≠ "java/lang/invoke/VarHandle" ∧ (parseMethodDescriptor y.desc).map (fun d => d.parameters.length) = some np) (hR : f0 + 1 ≤ R.frames ∧ 8 + (maxL + 11) + lo0 ≤ R.locals) :
    CallB R s args own index y bytes maxL ret0 [Cond.code y bytes maxL ret0] { frames := f0, cells := mc0, slots := ms0, locals := lo0 } mc0 ms0 np :=
  callB_of np ht (fun w h => by rw [List.mem_singleton] at h; subst h; exact ⟨hcode, good_of_word rfl⟩) rfl rfl rfl (ht _ hini) (ht _ hl) hd hR
/-- what comes behind a call -/
theorem vv_back {free : Addr → Prop} (hE : vv_E G s) {H : Heap} {locs : List Loc} {ls : Array Slot} (hS : va_S (fun q => G.2.1 ≤ q) s.heap H locs) (hl : lv_has ls nL lv) {a0 : Array Value} (hr : va_Run p l e R s m args below meth c H locs kc ks mc0 ms0 (F0 m pc ls st) rest (vv_Q G post0 a0) free) (hf : ∀ q, free q → G.2.1 ≤ q)
    (k : ∀ (r : Option Value) (v' : vv_V), post0 r v' → vV p l e R s m args below meth c Q G nL v' (kc + mc0) (ks + ms0) (pc + 3) lv (r.toList ++ rest)) : W p l e R s m args below meth c H locs kc ks Q (F0 m pc ls st) := by
  intro T hT X
  obtain ⟨w, st₀, t, T', L, h0, X', hL, e1, e2, ⟨⟨r, v', hv, hp, hPv⟩, hz, hk⟩, stp⟩ := hr T hT X
  cases hv
  rw [h0] at hz hk
  obtain ⟨t2, a1, b1⟩ := k w v' hp T'.heap (locs ++ L) ls (by rw [e1]; exact hPv)
    ⟨Nat.le_trans hS.1 (by rw [e1]; exact hz), fun q h1 h2 => by rw [e1, hk q (Nat.lt_of_lt_of_le h1 hS.1) h2]; exact hS.2.1 q h1 h2, fun q hq => by
      rcases List.mem_append.mp hq with h | h
      · exact hS.2.2 q h
      · exact hf _ (hL q h)⟩ hl T' rfl X'
  exact ⟨t2, stp t2 a1, b1⟩
theorem vv_recv {H : Heap} (hE : vv_E G s) (hP : vv_P G v H) (he : v ci b = some (.inr (ci, fs))) (hc : vwCl[ci]? = some (Cn, T, N)) : ∃ cell : Cell, H[b]? = some cell ∧ cell.vm.isStatics = false ∧ s.vm.findClass Cn = some cell.cls :=
  va_recv (q := (Cn, T, N)) hE.1 (hP.one he (fun z => by subst z; simp [vwCl] at hc)) hc (q0 := 0) rfl
theorem vv_preS {H : Heap} {locs : List Loc} (hE : vv_E G s) (hP : vv_P G v H) (hS : va_S (fun q => G.2.1 ≤ q) s.heap H locs) : PreS s H (va_Pc As (vv_pre G v)) As :=
  ⟨vv_blind, fun U hU hW => ⟨rfl, by rw [hU]; exact hP, hE.at hS hU hW⟩⟩
/-- invokevirtual -/
theorem v_callV (C : vC p s m args meth c cc nL ret own G) (hM : Mv l y bytes maxL ret0 f0 lo0 G v (.ref b :: As) post0 mc0 ms0) (hcode : Cond.code y bytes maxL ret0 ∈ vv_wds) (hini : Cond.initialized y.cls ∈ vv_wds) (hlink : Cond.methodLink own index y ∈ vv_wds) (hinst : Cond.instanceMethod y ∈ vv_wds) (hsel : Cond.selects Cn y y ∈ vv_wds) (hmn : y.cls ≠ "java/lang/invoke/MethodHandle" ∧ y.cls ≠ "java/lang/invoke/VarHandle" ∧ (parseMethodDescriptor y.desc).map (fun d => d.parameters.length) = some np) (he : v ci b = some (.inr (ci, fs))) (hc : vwCl[ci]? = some (Cn, T, N))
    (hR : f0 + 1 ≤ R.frames ∧ 8 + (maxL + 11) + lo0 ≤ R.locals) (hn : As.length = np) (hst : st = As.reverse ++ .ref b :: rest) (hW : (rest.map fun v => v.category).sum ≤ 8) (hd : decode cc pc = .ok (.invokevirtual index, 3)) (hf : kc + mc0 ≤ R.cells ∧ ks + ms0 ≤ R.slots)
    (k : ∀ (r : Option Value) (v' : vv_V), post0 r v' → vV p l e R s m args below meth c Q G nL v' (kc + mc0) (ks + ms0) (pc + 3) lv (r.toList ++ rest)) : vV p l e R s m args below meth c Q G nL v kc ks pc lv st :=
  fun H locs ls hP hS hl => vv_back C.2.2.2.2.1 hS hl (va_runV (C := Cn) ⟨C.1, C.2.1, C.2.2.1, C.2.2.2.1, C.w⟩ hM ⟨vv_cb C.w hcode hini hlink hmn hR, C.w _ hinst, C.w _ hsel⟩ ⟨vv_blind, vv_recv C.2.2.2.2.1 hP he hc, (vv_preS C.2.2.2.2.1 hP hS).2⟩ rfl hn hl.1 hst (lv_room hW) hd hf) (fun _ h => h) k
/-- invokestatic -/
theorem v_callS (C : vC p s m args meth c cc nL ret own G) (hM : Mv l y bytes maxL ret0 f0 lo0 G v As post0 mc0 ms0) (hcode : Cond.code y bytes maxL ret0 ∈ vv_wds) (hini : Cond.initialized y.cls ∈ vv_wds) (hlink : Cond.methodLink own index y ∈ vv_wds) (hstat : Cond.static y ∈ vv_wds) (hmn : y.cls ≠ "java/lang/invoke/MethodHandle" ∧ y.cls ≠ "java/lang/invoke/VarHandle" ∧ (parseMethodDescriptor y.desc).map (fun d => d.parameters.length) = some np)
    (hR : f0 + 1 ≤ R.frames ∧ 8 + (maxL + 11) + lo0 ≤ R.locals) (hn : As.length = np) (hst : st = As.reverse ++ rest) (hW : (rest.map fun v => v.category).sum ≤ 8) (hd : decode cc pc = .ok (.invokestatic index, 3)) (hf : kc + mc0 ≤ R.cells ∧ ks + ms0 ≤ R.slots)
    (k : ∀ (r : Option Value) (v' : vv_V), post0 r v' → vV p l e R s m args below meth c Q G nL v' (kc + mc0) (ks + ms0) (pc + 3) lv (r.toList ++ rest)) : vV p l e R s m args below meth c Q G nL v kc ks pc lv st :=
  fun H locs ls hP hS hl => vv_back C.2.2.2.2.1 hS hl (va_runS ⟨C.1, C.2.1, C.2.2.1, C.2.2.2.1, C.w⟩ hM ⟨vv_cb C.w hcode hini hlink hmn hR, C.w _ hstat⟩ (vv_preS C.2.2.2.2.1 hP hS) rfl hn hl.1 hst (lv_room hW) hd hf) (fun _ h => h) k
/-- invokespecial <init> -/
theorem v_callI (C : vC p s m args meth c cc nL ret own G) (hM : Mv l y bytes maxL none f0 lo0 G v (.ref b :: As) post0 mc0 ms0) (hcode : Cond.code y bytes maxL none ∈ vv_wds) (hini : Cond.initialized y.cls ∈ vv_wds) (hlink : Cond.methodLink own index y ∈ vv_wds) (hinst : Cond.instanceMethod y ∈ vv_wds) (hy1 : y.name = "<init>") (hmn : y.cls ≠ "java/lang/invoke/MethodHandle" ∧ y.cls ≠ "java/lang/invoke/VarHandle" ∧ (parseMethodDescriptor y.desc).map (fun d => d.parameters.length) = some np)
    (hR : f0 + 1 ≤ R.frames ∧ 8 + (maxL + 11) + lo0 ≤ R.locals) (hn : As.length = np) (hst : st = As.reverse ++ .ref b :: rest) (hW : (rest.map fun v => v.category).sum ≤ 8) (hd : decode cc pc = .ok (.invokespecial index, 3)) (hf : kc + mc0 ≤ R.cells ∧ ks + ms0 ≤ R.slots)
    (k : ∀ (r : Option Value) (v' : vv_V), post0 r v' → vV p l e R s m args below meth c Q G nL v' (kc + mc0) (ks + ms0) (pc + 3) lv (r.toList ++ rest)) : vV p l e R s m args below meth c Q G nL v kc ks pc lv st :=
  fun H locs ls hP hS hl => vv_back C.2.2.2.2.1 hS hl (va_runI ⟨C.1, C.2.1, C.2.2.1, C.2.2.2.1, C.w⟩ hM ⟨vv_cb C.w hcode hini hlink hmn hR, hy1, C.w _ hinst⟩ (vv_preS C.2.2.2.2.1 hP hS) rfl hn hl.1 hst (lv_room hW) hd hf) (fun _ h => h) k
theorem vv_cn {host : String} (ht : ∀ w ∈ vv_wds, w.before args s = true) (hcode : Cond.code y bytes maxL ret0 ∈ vv_wds) (hini : Cond.initialized y.cls ∈ vv_wds) (hl : Cond.methodLinkNest own index y host ∈ vv_wds) (hd : y.cls ≠ "java/lang/invoke/MethodHandle" ∧ y.cls ≠ "java/lang/invoke/VarHandle" ∧ (parseMethodDescriptor y.desc).map (fun d => d.parameters.length) = some np) (hR : f0 + 1 ≤ R.frames ∧ 8 + (maxL + 11) + lo0 ≤ R.locals) :
    va_CN R s args own index y host bytes maxL ret0 [Cond.code y bytes maxL ret0] { frames := f0, cells := mc0, slots := ms0, locals := lo0 } mc0 ms0 np :=
  va_cnB np ht (fun w h => by rw [List.mem_singleton] at h; subst h; exact ⟨hcode, good_of_word rfl⟩) rfl rfl rfl (va_Nw.of rfl (ht _ hl)) (ht _ hini) hd hR
/-- invokestatic of a nest mate's private method -/
theorem v_callSN {host : String} (C : vC p s m args meth c cc nL ret own G) (hM : Mv l y bytes maxL ret0 f0 lo0 G v As post0 mc0 ms0) (hcode : Cond.code y bytes maxL ret0 ∈ vv_wds) (hini : Cond.initialized y.cls ∈ vv_wds) (hlink : Cond.methodLinkNest own index y host ∈ vv_wds) (hstat : Cond.static y ∈ vv_wds) (hmn : y.cls ≠ "java/lang/invoke/MethodHandle" ∧ y.cls ≠ "java/lang/invoke/VarHandle" ∧ (parseMethodDescriptor y.desc).map (fun d => d.parameters.length) = some np)
    (hR : f0 + 1 ≤ R.frames ∧ 8 + (maxL + 11) + lo0 ≤ R.locals) (hn : As.length = np) (hst : st = As.reverse ++ rest) (hW : (rest.map fun v => v.category).sum ≤ 8) (hd : decode cc pc = .ok (.invokestatic index, 3)) (hf : kc + mc0 ≤ R.cells ∧ ks + ms0 ≤ R.slots)
    (k : ∀ (r : Option Value) (v' : vv_V), post0 r v' → vV p l e R s m args below meth c Q G nL v' (kc + mc0) (ks + ms0) (pc + 3) lv (r.toList ++ rest)) : vV p l e R s m args below meth c Q G nL v kc ks pc lv st :=
  fun H locs ls hP hS hl => vv_back C.2.2.2.2.1 hS hl (va_runSN ⟨C.1, C.2.1, C.2.2.1, C.2.2.2.1, C.w⟩ hM ⟨vv_cn C.w hcode hini hlink hmn hR, C.w _ hstat, trivial⟩ (vv_preS C.2.2.2.2.1 hP hS) rfl hn hl.1 hst (lv_room hW) hd hf) (fun _ h => h) k
theorem v_callVN {host : String} (C : vC p s m args meth c cc nL ret own G) (hM : Mv l y bytes maxL ret0 f0 lo0 G v (.ref b :: As) post0 mc0 ms0) (hcode : Cond.code y bytes maxL ret0 ∈ vv_wds) (hini : Cond.initialized y.cls ∈ vv_wds) (hlink : Cond.methodLinkNest own index y host ∈ vv_wds) (hinst : Cond.instanceMethod y ∈ vv_wds) (hsel : Cond.selects Cn y y ∈ vv_wds) (hmn : y.cls ≠ "java/lang/invoke/MethodHandle" ∧ y.cls ≠ "java/lang/invoke/VarHandle" ∧ (parseMethodDescriptor y.desc).map (fun d => d.parameters.length) = some np) (he : v ci b = some (.inr (ci, fs))) (hc : vwCl[ci]? = some (Cn, T, N))
    (hR : f0 + 1 ≤ R.frames ∧ 8 + (maxL + 11) + lo0 ≤ R.locals) (hn : As.length = np) (hst : st = As.reverse ++ .ref b :: rest) (hW : (rest.map fun v => v.category).sum ≤ 8) (hd : decode cc pc = .ok (.invokevirtual index, 3)) (hf : kc + mc0 ≤ R.cells ∧ ks + ms0 ≤ R.slots)
    (k : ∀ (r : Option Value) (v' : vv_V), post0 r v' → vV p l e R s m args below meth c Q G nL v' (kc + mc0) (ks + ms0) (pc + 3) lv (r.toList ++ rest)) : vV p l e R s m args below meth c Q G nL v kc ks pc lv st :=
  fun H locs ls hP hS hl => vv_back C.2.2.2.2.1 hS hl (va_runVN (C := Cn) ⟨C.1, C.2.1, C.2.2.1, C.2.2.2.1, C.w⟩ hM ⟨vv_cn C.w hcode hini hlink hmn hR, C.w _ hinst, C.w _ hsel⟩ ⟨vv_blind, vv_recv C.2.2.2.2.1 hP he hc, (vv_preS C.2.2.2.2.1 hP hS).2⟩ rfl hn hl.1 hst (lv_room hW) hd hf) (fun _ h => h) k
end VH
