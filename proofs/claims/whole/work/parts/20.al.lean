section VP
variable {p : Program} {l : Launch} {e : Env} {R : Room} {s : State} {m : MethodId} {args : Array Value} {below : List Frame} {meth : Method} {c : Code} {Q : State → Prop} {G : vv_G} {cc : ByteArray} {nL : Nat} {ret : Option FieldType} {own : String} {v : vv_V} {kc ks pc : Nat} {lv : List (Nat × Value)} {st : List Value}
theorem v_tov {x y : Value} (h : x = y) (k : vV p l e R s m args below meth c Q G nL v kc ks pc lv (y :: st)) : vV p l e R s m args below meth c Q G nL v kc ks pc lv (x :: st) := by rw [h]; exact k
theorem v_aaldN {n i a : Nat} {fq : Nat → Option Nat} (C : vC p s m args meth c cc nL ret own G) (he : v 53 a = some (.inl (G.2.2.2.2 3, n, .inr (.inr (.inr (.inr fq)))))) (hi : i < n) (hn : n < 2 ^ 31) (hd : decode cc pc = .ok (.aaload, 1)) (k : vV p l e R s m args below meth c Q G nL v kc ks (pc + 1) lv (va_rf (fq i) :: st)) : vV p l e R s m args below meth c Q G nL v kc ks pc lv (.int (nI i) :: .ref a :: st) := v_aald C he (vp_in_nI hi hn) hd (by rw [nI_clamp (Nat.lt_trans hi hn)]; exact k)
theorem v_aastN {n i a b cj : Nat} {fq : Nat → Option Nat} {vs : List Value} {Cj : String} {Tj : u_T} {Nj : Nat} (C : vC p s m args meth c cc nL ret own G) (he : v 53 a = some (.inl (G.2.2.2.2 3, n, .inr (.inr (.inr (.inr fq)))))) (h9 : cj ≠ 99) (hj : v cj b = some (.inr (cj, vs))) (hcj : vwCl[cj]? = some (Cj, Tj, Nj)) (hca : Cond.castable Cj "java/lang/Object" ∈ vv_wds) (hi : i < n) (hn : n < 2 ^ 31) (hd : decode cc pc = .ok (.aastore, 1))
    (k : vV p l e R s m args below meth c Q G nL (vv_up v 53 a (.inl (G.2.2.2.2 3, n, .inr (.inr (.inr (.inr (va_up fq i (some b)))))))) kc ks (pc + 1) lv st) : vV p l e R s m args below meth c Q G nL v kc ks pc lv (.ref b :: .int (nI i) :: .ref a :: st) := v_aast C he h9 hj hcj hca (vp_in_nI hi hn) hd (by rw [nI_clamp (Nat.lt_trans hi hn)]; exact k)
end VP
/-- the capacities of a list -/
def zcp : Nat → Nat
  | 0 => 0
  | 1 => 10
  | e + 2 => zcp (e + 1) + zcp (e + 1) / 2
theorem zcp_pos (e : Nat) : 10 ≤ zcp (e + 1) := by
  induction e with
  | zero => decide
  | succ e ih => unfold zcp; omega
theorem zcp_9 : ∀ e, e ≤ 9 → zcp e ≤ 244 := by decide
theorem zcp_full {e n : Nat} (he : e ≤ 9) (h : zcp e ≤ n) (hn : n ≤ 199) : e ≤ 8 := by
  rcases Nat.lt_or_ge e 9 with q | q
  · omega
  · have : e = 9 := by omega
    subst this
    have : zcp 9 = 244 := by decide
    omega
def zde (n e : Nat) : Nat := if n < zcp e then 0 else 1
abbrev vq (G : vv_G) (n : Nat) (f : Nat → Option Nat) : va_E := .inl (G.2.2.2.2 3, n, .inr (.inr (.inr (.inr f))))
abbrev vl (arr n : Nat) (m : Int32) : va_E := .inr (5, [.ref arr, .int (nI n), .int m])
/-- what isn't at (k, a) for which X stays -/
def vkp (X : Nat → Nat → Prop) (v v' : vv_V) : Prop := ∀ (k a : Nat) (e : va_E), ¬ X k a → v k a = some e → v' k a = some e
theorem vkp.rf {X : Nat → Nat → Prop} {v : vv_V} : vkp X v v := fun _ _ _ _ h => h
theorem vkp.tr {X : Nat → Nat → Prop} {v v1 v2 : vv_V} (h1 : vkp X v v1) (h2 : vkp X v1 v2) : vkp X v v2 := fun k a e hx h => h2 k a e hx (h1 k a e hx h)
theorem vkp.mono {X Y : Nat → Nat → Prop} {v v1 : vv_V} (h : vkp X v v1) (hXY : ∀ k a, X k a → Y k a) : vkp Y v v1 := fun k a e hx h' => h k a e (fun z => hx (hXY k a z)) h'
theorem vkp.up {X : Nat → Nat → Prop} {v v1 : vv_V} {k a : Nat} {e : va_E} (h : vkp X v v1) (ha : X k a) : vkp X v (vv_up v1 k a e) := fun k' a' e' hx h' => by
  have h2 := h k' a' e' hx h'
  by_cases c1 : k' = k
  · by_cases c2 : a' = a
    · exact absurd (by rw [c1, c2]; exact ha) hx
    · rw [vv_up_a _ _ _ _ c2]; exact h2
  · rw [vv_up_k _ _ _ _ c1]; exact h2
theorem vkp.nu {X : Nat → Nat → Prop} {v v1 : vv_V} {k q : Nat} {e : va_E} (h : vkp X v v1) (hf : ∀ k', v1 k' q = none) : vkp X v (vv_up v1 k q e) := fun k' a' e' hx h' => by
  have h2 := h k' a' e' hx h'
  rw [vv_up_a _ _ _ _ (fun z => by subst z; rw [hf k'] at h2; cases h2)]
  exact h2
set_option maxHeartbeats 4000000 in
set_option maxRecDepth 100000 in
theorem c_AbC_init (l : Launch) (G : vv_G) (v : vv_V) (a : Nat)  : Mv l y_AbC_init b_AbC_init 1 none 1 12 G v [.ref a] (fun r v' => r = none ∧ v' = v) 0 0 := by
  refine vv_metF (own := "java/util/AbstractCollection") (nm := "<init>") pf_AbC_init rfl rfl (Nat.le_of_ble_eq_true rfl) ?_
  intro p e s m below meth c C hin
  show vV _ _ _ _ _ _ _ _ _ _ _ _ _ v 0 0 0 [(0, .ref a)] []
  refine v_aload_n C 0 d_AbC_init_0 rfl rfl ?_
  refine v_objInit C tw_63 tw_50 tw_obj d_AbC_init_1 (Nat.le_of_ble_eq_true rfl) (Nat.le_of_ble_eq_true rfl) ?_
  exact v_vret C d_AbC_init_4 (by first | exact Nat.le_of_ble_eq_true rfl | (show _ ≤ _; omega)) (by first | exact Nat.le_of_ble_eq_true rfl | (show _ ≤ _; omega)) ⟨rfl, rfl⟩
set_option maxHeartbeats 4000000 in
set_option maxRecDepth 100000 in
theorem c_AbL_init (l : Launch) (G : vv_G) (v : vv_V) (a : Nat) (h0 : v 5 a = some (.inr (5, [.null, .int 0, .int 0]))) : Mv l y_AbL_init b_AbL_init 1 none 2 32 G v [.ref a] (fun r v' => r = none ∧ v' 5 a = some (.inr (5, [.null, .int 0, .int 0])) ∧ vkp (fun k x => k = 5 ∧ x = a) v v') 0 0 := by
  refine vv_metF (own := "java/util/AbstractList") (nm := "<init>") pf_AbL_init rfl rfl (Nat.le_of_ble_eq_true rfl) ?_
  intro p e s m below meth c C hin
  have hk : vkp (fun k x => k = 5 ∧ x = a) v v := vkp.rf
  show vV _ _ _ _ _ _ _ _ _ _ _ _ _ v 0 0 0 [(0, .ref a)] []
  refine v_aload_n C 0 d_AbL_init_0 rfl rfl ?_
  refine v_callI (rest := []) C (c_AbC_init l G v a) tw_62 tw_31 tw_60 tw_61 rfl mn_AbC_init ⟨Nat.le_of_ble_eq_true rfl, Nat.le_of_ble_eq_true rfl⟩ rfl rfl (Nat.le_of_ble_eq_true rfl) d_AbL_init_1 ⟨(by first | exact Nat.le_of_ble_eq_true rfl | (dsimp only; omega)), (by first | exact Nat.le_of_ble_eq_true rfl | (dsimp only; omega))⟩ (fun r_1 v_2 hp_3 => ?_)
  obtain ⟨rfl, hv9⟩ := hp_3
  obtain rfl := hv9.symm
  show vV _ _ _ _ _ _ _ _ _ _ _ _ _ v 0 0 4 [(0, .ref a)] []
  refine v_aload_n C 0 d_AbL_init_4 rfl rfl ?_
  refine v_iconst (x := 0) C d_AbL_init_5 (by decide) ?_
  refine v_put C k_AL h0 2 (by decide) tw_68 (fun _ h => h) rfl rfl rfl (Nat.le_of_ble_eq_true rfl) d_AbL_init_6 ?_
  refine v_view (fun v1 ev1 => ?_)
  have he_4 : v1 5 a = some (.inr (5, [.null, .int 0, .int 0])) := by rw [ev1]; exact vv_up_s _ _ _ _
  have hkv1 : vkp (fun k x => k = 5 ∧ x = a) v v1 := by rw [ev1]; exact hk.up (⟨rfl, rfl⟩)
  exact v_vret C d_AbL_init_9 (by first | exact Nat.le_of_ble_eq_true rfl | (show _ ≤ _; omega)) (by first | exact Nat.le_of_ble_eq_true rfl | (show _ ≤ _; omega)) ⟨rfl, he_4, hkv1⟩
set_option maxHeartbeats 4000000 in
set_option maxRecDepth 100000 in
theorem c_AL_init (l : Launch) (G : vv_G) (v : vv_V) (a : Nat) (h0 : v 5 a = some (.inr (5, [.null, .int 0, .int 0]))) : Mv l y_AL_init b_AL_init 1 none 3 52 G v [.ref a] (fun r v' => r = none ∧ v' 5 a = some (.inr (5, [.ref G.2.2.1, .int 0, .int 0])) ∧ vkp (fun k x => k = 5 ∧ x = a) v v') 0 0 := by
  refine vv_metF (own := "java/util/ArrayList") (nm := "<init>") pf_AL_init rfl rfl (Nat.le_of_ble_eq_true rfl) ?_
  intro p e s m below meth c C hin
  have hk : vkp (fun k x => k = 5 ∧ x = a) v v := vkp.rf
  show vV _ _ _ _ _ _ _ _ _ _ _ _ _ v 0 0 0 [(0, .ref a)] []
  refine v_aload_n C 0 d_AL_init_0 rfl rfl ?_
  refine v_callI (rest := []) C (c_AbL_init l G v a h0) tw_59 tw_32 tw_57 tw_58 rfl mn_AbL_init ⟨Nat.le_of_ble_eq_true rfl, Nat.le_of_ble_eq_true rfl⟩ rfl rfl (Nat.le_of_ble_eq_true rfl) d_AL_init_1 ⟨(by first | exact Nat.le_of_ble_eq_true rfl | (dsimp only; omega)), (by first | exact Nat.le_of_ble_eq_true rfl | (dsimp only; omega))⟩ (fun r_1 v_2 hp_3 => ?_)
  obtain ⟨rfl, h5_hp_3, hkk_hp_3⟩ := hp_3
  have he_4 : v_2 5 a = some (.inr (5, [.null, .int 0, .int 0])) := h5_hp_3
  have hkv_2 := hk.tr hkk_hp_3
  show vV _ _ _ _ _ _ _ _ _ _ _ _ _ v_2 0 0 4 [(0, .ref a)] []
  refine v_aload_n C 0 d_AL_init_4 rfl rfl ?_
  refine v_gets C tw_64 d_AL_init_5 ?_
  refine v_put C k_AL he_4 0 (by decide) tw_66 (fun _ h => h) rfl rfl rfl (Nat.le_of_ble_eq_true rfl) d_AL_init_8 ?_
  refine v_view (fun v1 ev1 => ?_)
  have he_5 : v1 5 a = some (.inr (5, [.ref G.2.2.1, .int 0, .int 0])) := by rw [ev1]; exact vv_up_s _ _ _ _
  have hkv1 : vkp (fun k x => k = 5 ∧ x = a) v v1 := by rw [ev1]; exact hkv_2.up (⟨rfl, rfl⟩)
  exact v_vret C d_AL_init_11 (by first | exact Nat.le_of_ble_eq_true rfl | (show _ ≤ _; omega)) (by first | exact Nat.le_of_ble_eq_true rfl | (show _ ≤ _; omega)) ⟨rfl, he_5, hkv1⟩
set_option maxHeartbeats 4000000 in
set_option maxRecDepth 100000 in
theorem c_AL_size (l : Launch) (G : vv_G) (v : vv_V) (a arr n : Nat) (mo : Int32) (h0 : v 5 a = some (vl arr n mo)) : Mv l y_AL_size b_AL_size 1 (some FieldType.int) 0 0 G v [.ref a] (fun r v' => r = some (.int (nI n)) ∧ v' = v) 0 0 := by
  refine vv_metF (own := "java/util/ArrayList") (nm := "size") pf_AL_size rfl rfl (Nat.le_of_ble_eq_true rfl) ?_
  intro p e s m below meth c C hin
  show vV _ _ _ _ _ _ _ _ _ _ _ _ _ v 0 0 0 [(0, .ref a)] []
  refine v_aload_n C 0 d_AL_size_0 rfl rfl ?_
  refine v_get C k_AL h0 1 (by decide) tw_67 (fun _ h => h) rfl d_AL_size_1 ?_
  exact v_iret C d_AL_size_4 (by first | exact Nat.le_of_ble_eq_true rfl | (show _ ≤ _; omega)) (by first | exact Nat.le_of_ble_eq_true rfl | (show _ ≤ _; omega)) ⟨rfl, rfl⟩
set_option maxHeartbeats 4000000 in
set_option maxRecDepth 100000 in
theorem c_AL_elementData (l : Launch) (G : vv_G) (v : vv_V) (a arr n cap i b : Nat) (mo : Int32) (f : Nat → Option Nat) (h0 : v 5 a = some (vl arr n mo)) (h1 : v 53 arr = some (vq G cap f)) (hn : i < n) (hc : n ≤ cap) (hcap : cap ≤ 1000) (hf : f i = some b) : Mv l y_AL_elementData b_AL_elementData 2 (some (FieldType.object "java/lang/Object")) 0 0 G v [.ref a, .int (nI i)] (fun r v' => r = some (.ref b) ∧ v' = v) 0 0 := by
  refine vv_metF (own := "java/util/ArrayList") (nm := "elementData") pf_AL_elementData rfl rfl (Nat.le_of_ble_eq_true rfl) ?_
  intro p e s m below meth c C hin
  show vV _ _ _ _ _ _ _ _ _ _ _ _ _ v 0 0 0 [(0, .ref a), (1, .int (nI i))] []
  refine v_aload_n C 0 d_AL_elementData_0 rfl rfl ?_
  refine v_get C k_AL h0 0 (by decide) tw_66 (fun _ h => h) rfl d_AL_elementData_1 ?_
  refine v_iload_n C 1 d_AL_elementData_4 rfl rfl ?_
  refine v_aaldN C h1 (by omega) (by omega) d_AL_elementData_5 ?_
  refine v_tov (y := .ref b) (by rw [hf]; rfl) ?_
  exact v_aret C (Or.inl ⟨_, rfl⟩) (Or.inr ⟨_, rfl⟩) d_AL_elementData_6 (by first | exact Nat.le_of_ble_eq_true rfl | (show _ ≤ _; omega)) (by first | exact Nat.le_of_ble_eq_true rfl | (show _ ≤ _; omega)) ⟨rfl, rfl⟩
set_option maxHeartbeats 4000000 in
set_option maxRecDepth 100000 in
theorem c_Pr_checkIndex (l : Launch) (G : vv_G) (v : vv_V) (i n : Nat) (hn : i < n) (hc : n ≤ 1000) : Mv l y_Pr_checkIndex b_Pr_checkIndex 3 (some FieldType.int) 0 0 G v [.int (nI i), .int (nI n), .null] (fun r v' => r = some (.int (nI i)) ∧ v' = v) 0 0 := by
  refine vv_metF (own := "jdk/internal/util/Preconditions") (nm := "checkIndex") pf_Pr_checkIndex rfl rfl (Nat.le_of_ble_eq_true rfl) ?_
  intro p e s m below meth c C hin
  show vV _ _ _ _ _ _ _ _ _ _ _ _ _ v 0 0 0 [(0, .int (nI i)), (1, .int (nI n)), (2, .null)] []
  refine v_iload_n C 0 d_Pr_checkIndex_0 rfl rfl ?_
  refine v_if_lt C 9 d_Pr_checkIndex_1 (by decide) (fun z => absurd z (nI_pos (by omega))) (fun _ => ?_)
  refine v_iload_n C 0 d_Pr_checkIndex_4 rfl rfl ?_
  refine v_iload_n C 1 d_Pr_checkIndex_5 rfl rfl ?_
  refine v_icmp_lt C 16 d_Pr_checkIndex_6 (by decide) (fun c_6 => ?_) (fun c_6 => absurd (nI_lt hn (by omega)) c_6)
  refine v_iload_n C 0 d_Pr_checkIndex_16 rfl rfl ?_
  exact v_iret C d_Pr_checkIndex_17 (by first | exact Nat.le_of_ble_eq_true rfl | (show _ ≤ _; omega)) (by first | exact Nat.le_of_ble_eq_true rfl | (show _ ≤ _; omega)) ⟨rfl, rfl⟩
set_option maxHeartbeats 4000000 in
set_option maxRecDepth 100000 in
theorem c_Ob_checkIndex (l : Launch) (G : vv_G) (v : vv_V) (i n : Nat) (hn : i < n) (hc : n ≤ 1000) : Mv l y_Ob_checkIndex b_Ob_checkIndex 2 (some FieldType.int) 1 22 G v [.int (nI i), .int (nI n)] (fun r v' => r = some (.int (nI i)) ∧ v' = v) 0 0 := by
  refine vv_metF (own := "java/util/Objects") (nm := "checkIndex") pf_Ob_checkIndex rfl rfl (Nat.le_of_ble_eq_true rfl) ?_
  intro p e s m below meth c C hin
  show vV _ _ _ _ _ _ _ _ _ _ _ _ _ v 0 0 0 [(0, .int (nI i)), (1, .int (nI n))] []
  refine v_iload_n C 0 d_Ob_checkIndex_0 rfl rfl ?_
  refine v_iload_n C 1 d_Ob_checkIndex_1 rfl rfl ?_
  refine v_null C d_Ob_checkIndex_2 ?_
  refine v_callS (rest := []) C (c_Pr_checkIndex l G v i n hn hc) tw_224 tw_41 tw_222 tw_223 mn_Pr_checkIndex ⟨Nat.le_of_ble_eq_true rfl, Nat.le_of_ble_eq_true rfl⟩ rfl rfl (Nat.le_of_ble_eq_true rfl) d_Ob_checkIndex_3 ⟨(by first | exact Nat.le_of_ble_eq_true rfl | (dsimp only; omega)), (by first | exact Nat.le_of_ble_eq_true rfl | (dsimp only; omega))⟩ (fun r_1 v_2 hp_3 => ?_)
  obtain ⟨rfl, hv9⟩ := hp_3
  obtain rfl := hv9.symm
  show vV _ _ _ _ _ _ _ _ _ _ _ _ _ v 0 0 6 [(0, .int (nI i)), (1, .int (nI n))] [.int (nI i)]
  exact v_iret C d_Ob_checkIndex_6 (by first | exact Nat.le_of_ble_eq_true rfl | (show _ ≤ _; omega)) (by first | exact Nat.le_of_ble_eq_true rfl | (show _ ≤ _; omega)) ⟨rfl, rfl⟩
set_option maxHeartbeats 4000000 in
set_option maxRecDepth 100000 in
theorem c_AL_get (l : Launch) (G : vv_G) (v : vv_V) (a arr n cap i b : Nat) (mo : Int32) (f : Nat → Option Nat) (h0 : v 5 a = some (vl arr n mo)) (h1 : v 53 arr = some (vq G cap f)) (hn : i < n) (hc : n ≤ cap) (hcap : cap ≤ 1000) (hf : f i = some b) : Mv l y_AL_get b_AL_get 2 (some (FieldType.object "java/lang/Object")) 2 43 G v [.ref a, .int (nI i)] (fun r v' => r = some (.ref b) ∧ v' = v) 0 0 := by
  refine vv_metF (own := "java/util/ArrayList") (nm := "get") pf_AL_get rfl rfl (Nat.le_of_ble_eq_true rfl) ?_
  intro p e s m below meth c C hin
  show vV _ _ _ _ _ _ _ _ _ _ _ _ _ v 0 0 0 [(0, .ref a), (1, .int (nI i))] []
  refine v_iload_n C 1 d_AL_get_0 rfl rfl ?_
  refine v_aload_n C 0 d_AL_get_1 rfl rfl ?_
  refine v_get C k_AL h0 1 (by decide) tw_67 (fun _ h => h) rfl d_AL_get_2 ?_
  refine v_callS (rest := []) C (c_Ob_checkIndex l G v i n hn (by omega)) tw_221 tw_40 tw_219 tw_220 mn_Ob_checkIndex ⟨Nat.le_of_ble_eq_true rfl, Nat.le_of_ble_eq_true rfl⟩ rfl rfl (Nat.le_of_ble_eq_true rfl) d_AL_get_5 ⟨(by first | exact Nat.le_of_ble_eq_true rfl | (dsimp only; omega)), (by first | exact Nat.le_of_ble_eq_true rfl | (dsimp only; omega))⟩ (fun r_1 v_2 hp_3 => ?_)
  obtain ⟨rfl, hv9⟩ := hp_3
  obtain rfl := hv9.symm
  show vV _ _ _ _ _ _ _ _ _ _ _ _ _ v 0 0 8 [(0, .ref a), (1, .int (nI i))] [.int (nI i)]
  refine v_pop C d_AL_get_8 rfl ?_
  refine v_aload_n C 0 d_AL_get_9 rfl rfl ?_
  refine v_iload_n C 1 d_AL_get_10 rfl rfl ?_
  refine v_callV (rest := []) C (c_AL_elementData l G v a arr n cap i b mo f h0 h1 hn hc hcap hf) tw_228 tw_33 tw_225 tw_226 tw_227 mn_AL_elementData h0 k_AL.1 ⟨Nat.le_of_ble_eq_true rfl, Nat.le_of_ble_eq_true rfl⟩ rfl rfl (Nat.le_of_ble_eq_true rfl) d_AL_get_11 ⟨(by first | exact Nat.le_of_ble_eq_true rfl | (dsimp only; omega)), (by first | exact Nat.le_of_ble_eq_true rfl | (dsimp only; omega))⟩ (fun r_4 v_5 hp_6 => ?_)
  obtain ⟨rfl, hv9⟩ := hp_6
  obtain rfl := hv9.symm
  show vV _ _ _ _ _ _ _ _ _ _ _ _ _ v 0 0 14 [(0, .ref a), (1, .int (nI i))] [.ref b]
  exact v_aret C (Or.inl ⟨_, rfl⟩) (Or.inr ⟨_, rfl⟩) d_AL_get_14 (by first | exact Nat.le_of_ble_eq_true rfl | (show _ ≤ _; omega)) (by first | exact Nat.le_of_ble_eq_true rfl | (show _ ≤ _; omega)) ⟨rfl, rfl⟩
set_option maxHeartbeats 4000000 in
set_option maxRecDepth 100000 in
theorem c_AS_newLength (l : Launch) (G : vv_G) (v : vv_V) (a b d : Nat) (ha : a ≤ 1000) (hb : b ≤ 1000 ∧ 1 ≤ b) (hd : d ≤ 1000) : Mv l y_AS_newLength b_AS_newLength 4 (some FieldType.int) 1 21 G v [.int (nI a), .int (nI b), .int (nI d)] (fun r v' => r = some (.int (nI (a + max b d))) ∧ v' = v) 0 0 := by
  refine vv_metF (own := "jdk/internal/util/ArraysSupport") (nm := "newLength") pf_AS_newLength rfl rfl (Nat.le_of_ble_eq_true rfl) ?_
  intro p e s m below meth c C hin
  have hmx : max b d ≤ 1000 := Nat.max_le.mpr ⟨hb.1, hd⟩
  show vV _ _ _ _ _ _ _ _ _ _ _ _ _ v 0 0 0 [(0, .int (nI a)), (1, .int (nI b)), (2, .int (nI d))] []
  refine v_iload_n C 0 d_AS_newLength_0 rfl rfl ?_
  refine v_iload_n C 1 d_AS_newLength_1 rfl rfl ?_
  refine v_iload_n C 2 d_AS_newLength_2 rfl rfl ?_
  refine v_callS (rest := [.int (nI a)]) C (c_Ma_max l G v (nI b) (nI d)) tw_175 tw_37 tw_173 tw_174 mn_Ma_max ⟨Nat.le_of_ble_eq_true rfl, Nat.le_of_ble_eq_true rfl⟩ rfl rfl (Nat.le_of_ble_eq_true rfl) d_AS_newLength_3 ⟨(by first | exact Nat.le_of_ble_eq_true rfl | (dsimp only; omega)), (by first | exact Nat.le_of_ble_eq_true rfl | (dsimp only; omega))⟩ (fun r_1 v_2 hp_3 => ?_)
  obtain ⟨rfl, hv9⟩ := hp_3
  obtain rfl := hv9.symm
  show vV _ _ _ _ _ _ _ _ _ _ _ _ _ v 0 0 6 [(0, .int (nI a)), (1, .int (nI b)), (2, .int (nI d))] [.int (if (nI b) < (nI d) then (nI d) else (nI b)), .int (nI a)]
  refine v_toi (y := nI (max b d)) (by rcases Nat.lt_or_ge b d with q | q; rw [if_pos (nI_lt q (by omega)), Nat.max_eq_right (Nat.le_of_lt q)]; rw [if_neg (nI_nlt q (by omega)), Nat.max_eq_left q]) ?_
  refine v_iadd C d_AS_newLength_6 ?_
  refine v_toi (y := nI (a + (max b d))) (nI_add a (max b d)) ?_
  refine v_istore_n (lv' := [(3, .int (nI (a + (max b d)))), (0, .int (nI a)), (1, .int (nI b)), (2, .int (nI d))]) C d_AS_newLength_7 rfl (by decide) rfl ?_
  refine v_iconst (x := 0) C d_AS_newLength_8 (by decide) ?_
  refine v_iload_n C 0 d_AS_newLength_9 rfl rfl ?_
  refine v_icmp_ge C 21 d_AS_newLength_10 (by decide) (fun c_10 => absurd c_10 (nI_nle (by have := Nat.le_max_left b d; omega) (by omega))) (fun c_10 => ?_)
  refine v_iload_n C 0 d_AS_newLength_13 rfl rfl ?_
  refine v_ldc (x := 2147483639) C d_AS_newLength_14 tw_176 ?_
  refine v_icmp_gt C 21 d_AS_newLength_16 (by decide) (fun c_16 => absurd c_16 (show ¬ nI 2147483639 < nI (a + max b d) from nI_nlt (by omega) (by decide))) (fun c_16 => ?_)
  refine v_iload_n C 0 d_AS_newLength_19 rfl rfl ?_
  exact v_iret C d_AS_newLength_20 (by first | exact Nat.le_of_ble_eq_true rfl | (show _ ≤ _; omega)) (by first | exact Nat.le_of_ble_eq_true rfl | (show _ ≤ _; omega)) ⟨rfl, rfl⟩
set_option maxHeartbeats 4000000 in
set_option maxRecDepth 100000 in
theorem c_Ar_copyOf3 (l : Launch) (G : vv_G) (v : vv_V) (arr n N cj : Nat) (f : Nat → Option Nat) (Cj : String) (Tj : u_T) (Nj : Nat) (h1 : v 53 arr = some (vq G n f)) (hn : n ≤ N) (hN : N ≤ 1000) (hcj : vwCl[cj]? = some (Cj, Tj, Nj)) (hca : Cond.castable Cj "java/lang/Object" ∈ vv_wds) (hel : ∀ i, i < n → ∀ y, f i = some y → ∃ fs, v cj y = some (.inr (cj, fs))) : Mv l y_Ar_copyOf_ALObjectILClassALObject b_Ar_copyOf_ALObjectILClassALObject 4 (some (FieldType.array (FieldType.object "java/lang/Object"))) 1 40 G v [.ref arr, .int (nI N), .ref G.2.2.2.1] (fun r v' => ∃ q, r = some (.ref q) ∧ (∀ k, v k q = none) ∧ v' 53 q = some (vq G N (va_cpy f (fun _ => none) 0 0 n)) ∧ vkp (fun _ _ => False) v v') 1 N := by
  refine vv_metF (own := "java/util/Arrays") (nm := "copyOf") pf_Ar_copyOf_ALObjectILClassALObject rfl rfl (Nat.le_of_ble_eq_true rfl) ?_
  intro p e s m below meth c C hin
  have hk : vkp (fun _ _ => False) v v := vkp.rf
  show vV _ _ _ _ _ _ _ _ _ _ _ _ _ v 0 0 0 [(0, .ref arr), (1, .int (nI N)), (2, .ref G.2.2.2.1)] []
  refine v_aload_n C 2 d_Ar_copyOf_ALObjectILClassALObject_0 rfl rfl ?_
  refine v_ldcM C tw_196 d_Ar_copyOf_ALObjectILClassALObject_1 ?_
  refine v_acmp_ne (rx := some G.2.2.2.1) (ry := some G.2.2.2.1) C 13 d_Ar_copyOf_ALObjectILClassALObject_3 (by decide) (fun z => absurd rfl z) (fun _ => ?_)
  show vV _ _ _ _ _ _ _ _ _ _ _ _ _ v 0 0 6 [(0, .ref arr), (1, .int (nI N)), (2, .ref G.2.2.2.1)] []
  refine v_iload_n C 1 d_Ar_copyOf_ALObjectILClassALObject_6 rfl rfl ?_
  refine v_newaq (n := N) C tw_198 (nI_pos (by omega)) (nI_clamp (by omega)) (by omega) (by first | exact Nat.le_of_ble_eq_true rfl | (dsimp only; omega)) (by first | exact Nat.le_of_ble_eq_true rfl | (dsimp only; omega)) d_Ar_copyOf_ALObjectILClassALObject_7 (fun q_1 hfr_2 => ?_)
  refine v_cs (kc' := 1) (ks' := N) (by omega) (by omega) ?_
  refine v_view (fun v1 ev1 => ?_)
  have he_3 : v1 53 arr = some (.inl (G.2.2.2.2 3, n, .inr (.inr (.inr (.inr f))))) := by rw [ev1]; exact (vv_up_a _ _ _ _ (fun z => by subst z; have y := hfr_2 53; rw [h1] at y; cases y)).trans h1
  have he_4 : v1 53 q_1 = some (.inl (G.2.2.2.2 3, N, .inr (.inr (.inr (.inr (fun _ => none)))))) := by rw [ev1]; exact vv_up_s _ _ _ _
  have hkv1 : vkp (fun _ _ => False) v v1 := by rw [ev1]; exact hk.nu hfr_2
  refine v_goto C 24 d_Ar_copyOf_ALObjectILClassALObject_10 (by decide) ?_
  refine v_astore_n (lv' := [(3, .ref q_1), (0, .ref arr), (1, .int (nI N)), (2, .ref G.2.2.2.1)]) C d_Ar_copyOf_ALObjectILClassALObject_24 rfl (by decide) rfl ?_
  refine v_aload_n C 1 d_Ar_copyOf_ALObjectILClassALObject_25 rfl rfl ?_
  refine v_iconst (x := 0) C d_Ar_copyOf_ALObjectILClassALObject_26 (by decide) ?_
  refine v_aload_n C 0 d_Ar_copyOf_ALObjectILClassALObject_27 rfl rfl ?_
  refine v_iconst (x := 0) C d_Ar_copyOf_ALObjectILClassALObject_28 (by decide) ?_
  refine v_aload_n C 1 d_Ar_copyOf_ALObjectILClassALObject_29 rfl rfl ?_
  refine v_alen (z := (nI n)) C 53 3 he_3 rfl rfl d_Ar_copyOf_ALObjectILClassALObject_30 ?_
  refine v_iload_n C 2 d_Ar_copyOf_ALObjectILClassALObject_31 rfl rfl ?_
  refine v_callS (rest := [.int 0, .ref q_1, .int 0, .ref arr]) C (c_Ma_min l G v1 (nI n) (nI N)) tw_201 tw_37 tw_199 tw_200 mn_Ma_min ⟨Nat.le_of_ble_eq_true rfl, Nat.le_of_ble_eq_true rfl⟩ rfl rfl (Nat.le_of_ble_eq_true rfl) d_Ar_copyOf_ALObjectILClassALObject_32 ⟨(by first | exact Nat.le_of_ble_eq_true rfl | (dsimp only; omega)), (by first | exact Nat.le_of_ble_eq_true rfl | (dsimp only; omega))⟩ (fun r_5 v_6 hp_7 => ?_)
  obtain ⟨rfl, hv9⟩ := hp_7
  obtain rfl := hv9.symm
  show vV _ _ _ _ _ _ _ _ _ _ _ _ _ v1 1 N 35 [(3, .ref q_1), (0, .ref arr), (1, .int (nI N)), (2, .ref G.2.2.2.1)] [.int (if (nI N) < (nI n) then (nI N) else (nI n)), .int 0, .ref q_1, .int 0, .ref arr]
  refine v_toi (y := nI n) (by rw [if_neg (nI_nlt (by omega) (by omega))]) ?_
  refine v_copyq (ci := cj) C he_3 he_4 tw_202 tw_204 tw_203 tw_39 (by decide) (by decide) (nI_pos (by omega)) (by rw [sb_cl0, nI_clamp (by omega)]; omega) (by rw [sb_cl0, nI_clamp (by omega)]; omega) (fun i hi y hy => by rw [nI_clamp (by omega)] at hi; rw [sb_cl0, Nat.zero_add] at hy; obtain ⟨fs, h⟩ := hel i hi y hy; exact ⟨fs, hkv1 _ _ _ id h⟩) hcj hca (Nat.le_of_ble_eq_true rfl) (by show 0 + (nativeFrameWords "java/lang/System" "arraycopy" 5 + 11) ≤ 40; decide +kernel) d_Ar_copyOf_ALObjectILClassALObject_35 ?_
  rw [sb_cl0, nI_clamp (by omega)]
  refine v_view (fun v2 ev9 => ?_)
  have hfin : v2 53 q_1 = some (vq G N (va_cpy f (fun _ => none) 0 0 n)) := by rw [ev9]; exact vv_up_s _ _ _ _
  have hk9 : vkp (fun _ _ => False) v v2 := fun k a e hx h => by rw [ev9, vv_up_a _ _ _ _ (fun z => by subst z; rw [hfr_2 k] at h; cases h)]; exact hkv1 k a e hx h
  refine v_aload_n C 0 d_Ar_copyOf_ALObjectILClassALObject_38 rfl rfl ?_
  exact v_aret C (Or.inr ⟨_, rfl⟩) (Or.inr ⟨_, rfl⟩) d_Ar_copyOf_ALObjectILClassALObject_39 (by first | exact Nat.le_of_ble_eq_true rfl | (show _ ≤ _; omega)) (by first | exact Nat.le_of_ble_eq_true rfl | (show _ ≤ _; omega)) ⟨_, rfl, hfr_2, hfin, hk9⟩
