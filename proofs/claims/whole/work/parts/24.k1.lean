abbrev vk (num lang zone qf qu : Int32) (lw : Int64) (mt : Int32) (oa : Nat) : va_E := .inr (0, [.int num, .int lang, .int zone, .int qf, .int qu, .long lw, .int mt, .ref oa])
abbrev va32 (G : vv_G) (n : Nat) (g : Nat → Int32) : va_E := .inl (G.2.2.2.2 0, n, .inl g)
abbrev vaZ (G : vv_G) (n : Nat) (g : Nat → Int32) : va_E := .inl (G.2.2.2.2 1, n, .inl g)
def kwn (g : Nat → Int32) (b : Nat) : Nat → Nat
  | 0 => 0
  | n + 1 => kwn g b n + (if g (b + n) = -1 then 0 else 1)
theorem kwn_le (g : Nat → Int32) (b n : Nat) : kwn g b n ≤ n := by
  induction n with
  | zero => exact Nat.le_refl _
  | succ n ih => unfold kwn; split <;> omega
def kltb (g : Nat → Int32) (b : Nat) (o : Option Nat) (j : Nat) : Bool := match o with
  | none => true
  | some q => decide (g (b + j) < g (b + q))
def kbo (g wf : Nat → Int32) (b : Nat) : Nat → Option Nat
  | 0 => none
  | j + 1 => if ¬ g (b + j) = -1 ∧ ¬ wf j = 0 ∧ kltb g b (kbo g wf b j) j = true then some j else kbo g wf b j
theorem kbo_lt {g wf : Nat → Int32} {b j q : Nat} (h : kbo g wf b j = some q) : q < j := by
  induction j with
  | zero => cases h
  | succ j ih =>
    unfold kbo at h
    split at h
    · cases h; exact Nat.lt_succ_self _
    · exact Nat.lt_succ_of_lt (ih h)
def kclr (g : Nat → Int32) (b : Nat) : Nat → (Nat → Int32)
  | 0 => g
  | j + 1 => upd (kclr g b j) (b + j) (-1)
def kfil (g : Nat → Int32) : Nat → (Nat → Int32)
  | 0 => g
  | j + 1 => upd (kfil g j) j (-1)
/-- the quiet hours at a time -/
abbrev kqu (zone qf qu : Int32) (t : Int64) : Prop := (qf.toInt ≤ qu.toInt ∧ qf.toInt ≤ (t + (60 * zone).toInt64).toInt % 1440 ∧ (t + (60 * zone).toInt64).toInt % 1440 < qu.toInt) ∨ (¬ qf.toInt ≤ qu.toInt ∧ (qf.toInt ≤ (t + (60 * zone).toInt64).toInt % 1440 ∨ (t + (60 * zone).toInt64).toInt % 1440 < qu.toInt))
set_option maxHeartbeats 4000000 in
set_option maxRecDepth 100000 in
theorem c_K_orderOf (l : Launch) (G : vv_G) (v : vv_V) (a : Nat) (num lang zone qf qu : Int32) (lw : Int64) (mt0 : Int32) (oa : Nat) (g : Nat → Int32) (kd cn : Nat) (h0 : v 0 a = some (vk num lang zone qf qu lw mt0 oa)) (h1 : v 50 oa = some (va32 G 32 g)) (hkd : kd ≤ 7) (hcn : cn ≤ 3) : Mv l y_K_orderOf b_K_orderOf 3 (some FieldType.int) 2 45 G v [.ref a, .int (nI kd), .int (nI cn)] (fun r v' => r = some (.int (g (kd * 4 + cn))) ∧ v' = v) 0 0 := by
  refine vv_metF (own := "CustomerNotices$Customer") (nm := "orderOf") pf_K_orderOf rfl rfl (Nat.le_of_ble_eq_true rfl) ?_
  intro p e s m below meth c C hin
  show vV _ _ _ _ _ _ _ _ _ _ _ _ _ v 0 0 0 [(0, .ref a), (1, .int (nI kd)), (2, .int (nI cn))] []
  refine v_iload_n C 1 d_K_orderOf_0 rfl rfl ?_
  refine v_callSN (rest := []) C (c_C_isKind l G v (nI kd)) tw_231 tw_30 tw_241 tw_230 mn_C_isKind ⟨Nat.le_of_ble_eq_true rfl, Nat.le_of_ble_eq_true rfl⟩ rfl rfl (Nat.le_of_ble_eq_true rfl) d_K_orderOf_1 ⟨(by first | exact Nat.le_of_ble_eq_true rfl | (dsimp only; omega)), (by first | exact Nat.le_of_ble_eq_true rfl | (dsimp only; omega))⟩ (fun r_1 v_2 hp_3 => ?_)
  rcases hp_3 with ⟨rfl, hv9, _⟩ | ⟨_, _, hno⟩
  rotate_left
  · exact absurd (show 0 ≤ ((nI kd) : Int32).toInt ∧ ((nI kd) : Int32).toInt ≤ 7 by rw [nI_toInt (by omega)]; omega) hno
  obtain rfl := hv9.symm
  show vV _ _ _ _ _ _ _ _ _ _ _ _ _ v 0 0 4 [(0, .ref a), (1, .int (nI kd)), (2, .int (nI cn))] [.int 1]
  refine v_if_eq C 27 d_K_orderOf_4 (by decide) (fun z => absurd z (by decide)) (fun _ => ?_)
  refine v_iload_n C 2 d_K_orderOf_7 rfl rfl ?_
  refine v_callSN (rest := []) C (c_C_isChannel l G v (nI cn)) tw_235 tw_30 tw_242 tw_234 mn_C_isChannel ⟨Nat.le_of_ble_eq_true rfl, Nat.le_of_ble_eq_true rfl⟩ rfl rfl (Nat.le_of_ble_eq_true rfl) d_K_orderOf_8 ⟨(by first | exact Nat.le_of_ble_eq_true rfl | (dsimp only; omega)), (by first | exact Nat.le_of_ble_eq_true rfl | (dsimp only; omega))⟩ (fun r_4 v_5 hp_6 => ?_)
  rcases hp_6 with ⟨rfl, hv9, _⟩ | ⟨_, _, hno⟩
  rotate_left
  · exact absurd (show 0 ≤ ((nI cn) : Int32).toInt ∧ ((nI cn) : Int32).toInt ≤ 3 by rw [nI_toInt (by omega)]; omega) hno
  obtain rfl := hv9.symm
  show vV _ _ _ _ _ _ _ _ _ _ _ _ _ v 0 0 11 [(0, .ref a), (1, .int (nI kd)), (2, .int (nI cn))] [.int 1]
  refine v_if_eq C 27 d_K_orderOf_11 (by decide) (fun z => absurd z (by decide)) (fun _ => ?_)
  refine v_aload_n C 0 d_K_orderOf_14 rfl rfl ?_
  refine v_get C k_K h0 7 (by decide) tw_135 (fun _ h => h) rfl d_K_orderOf_15 ?_
  refine v_iload_n C 1 d_K_orderOf_18 rfl rfl ?_
  refine v_iconst (x := 4) C d_K_orderOf_19 (by decide) ?_
  refine v_imul C d_K_orderOf_20 ?_
  refine v_toi (y := nI (kd * 4)) (pk_mul kd 4) ?_
  refine v_iload_n C 2 d_K_orderOf_21 rfl rfl ?_
  refine v_iadd C d_K_orderOf_22 ?_
  refine v_toi (y := nI ((kd * 4) + cn)) (nI_add (kd * 4) cn) ?_
  refine v_ialdN C h1 (by omega) (by omega) d_K_orderOf_23 ?_
  refine v_goto C 28 d_K_orderOf_24 (by decide) ?_
  exact v_iret C d_K_orderOf_28 (by first | exact Nat.le_of_ble_eq_true rfl | (show _ ≤ _; omega)) (by first | exact Nat.le_of_ble_eq_true rfl | (show _ ≤ _; omega)) ⟨rfl, rfl⟩
set_option maxHeartbeats 4000000 in
set_option maxRecDepth 100000 in
theorem c_K_setOrder (l : Launch) (G : vv_G) (v : vv_V) (a : Nat) (num lang zone qf qu : Int32) (lw : Int64) (mt0 : Int32) (oa : Nat) (g : Nat → Int32) (kd cn : Nat) (od : Int32) (h0 : v 0 a = some (vk num lang zone qf qu lw mt0 oa)) (h1 : v 50 oa = some (va32 G 32 g)) (hkd : kd ≤ 7) (hcn : cn ≤ 3) : Mv l y_K_setOrder b_K_setOrder 4 none 2 45 G v [.ref a, .int (nI kd), .int (nI cn), .int od] (fun r v' => r = none ∧ v' = vv_up v 50 oa (va32 G 32 (upd g (kd * 4 + cn) od))) 0 0 := by
  refine vv_metF (own := "CustomerNotices$Customer") (nm := "setOrder") pf_K_setOrder rfl rfl (Nat.le_of_ble_eq_true rfl) ?_
  intro p e s m below meth c C hin
  show vV _ _ _ _ _ _ _ _ _ _ _ _ _ v 0 0 0 [(0, .ref a), (1, .int (nI kd)), (2, .int (nI cn)), (3, .int od)] []
  refine v_iload_n C 1 d_K_setOrder_0 rfl rfl ?_
  refine v_callSN (rest := []) C (c_C_isKind l G v (nI kd)) tw_231 tw_30 tw_241 tw_230 mn_C_isKind ⟨Nat.le_of_ble_eq_true rfl, Nat.le_of_ble_eq_true rfl⟩ rfl rfl (Nat.le_of_ble_eq_true rfl) d_K_setOrder_1 ⟨(by first | exact Nat.le_of_ble_eq_true rfl | (dsimp only; omega)), (by first | exact Nat.le_of_ble_eq_true rfl | (dsimp only; omega))⟩ (fun r_1 v_2 hp_3 => ?_)
  rcases hp_3 with ⟨rfl, hv9, _⟩ | ⟨_, _, hno⟩
  rotate_left
  · exact absurd (show 0 ≤ ((nI kd) : Int32).toInt ∧ ((nI kd) : Int32).toInt ≤ 7 by rw [nI_toInt (by omega)]; omega) hno
  obtain rfl := hv9.symm
  show vV _ _ _ _ _ _ _ _ _ _ _ _ _ v 0 0 4 [(0, .ref a), (1, .int (nI kd)), (2, .int (nI cn)), (3, .int od)] [.int 1]
  refine v_if_eq C 25 d_K_setOrder_4 (by decide) (fun z => absurd z (by decide)) (fun _ => ?_)
  refine v_iload_n C 2 d_K_setOrder_7 rfl rfl ?_
  refine v_callSN (rest := []) C (c_C_isChannel l G v (nI cn)) tw_235 tw_30 tw_242 tw_234 mn_C_isChannel ⟨Nat.le_of_ble_eq_true rfl, Nat.le_of_ble_eq_true rfl⟩ rfl rfl (Nat.le_of_ble_eq_true rfl) d_K_setOrder_8 ⟨(by first | exact Nat.le_of_ble_eq_true rfl | (dsimp only; omega)), (by first | exact Nat.le_of_ble_eq_true rfl | (dsimp only; omega))⟩ (fun r_4 v_5 hp_6 => ?_)
  rcases hp_6 with ⟨rfl, hv9, _⟩ | ⟨_, _, hno⟩
  rotate_left
  · exact absurd (show 0 ≤ ((nI cn) : Int32).toInt ∧ ((nI cn) : Int32).toInt ≤ 3 by rw [nI_toInt (by omega)]; omega) hno
  obtain rfl := hv9.symm
  show vV _ _ _ _ _ _ _ _ _ _ _ _ _ v 0 0 11 [(0, .ref a), (1, .int (nI kd)), (2, .int (nI cn)), (3, .int od)] [.int 1]
  refine v_if_eq C 25 d_K_setOrder_11 (by decide) (fun z => absurd z (by decide)) (fun _ => ?_)
  refine v_aload_n C 0 d_K_setOrder_14 rfl rfl ?_
  refine v_get C k_K h0 7 (by decide) tw_135 (fun _ h => h) rfl d_K_setOrder_15 ?_
  refine v_iload_n C 1 d_K_setOrder_18 rfl rfl ?_
  refine v_iconst (x := 4) C d_K_setOrder_19 (by decide) ?_
  refine v_imul C d_K_setOrder_20 ?_
  refine v_toi (y := nI (kd * 4)) (pk_mul kd 4) ?_
  refine v_iload_n C 2 d_K_setOrder_21 rfl rfl ?_
  refine v_iadd C d_K_setOrder_22 ?_
  refine v_toi (y := nI ((kd * 4) + cn)) (nI_add (kd * 4) cn) ?_
  refine v_iload_n C 3 d_K_setOrder_23 rfl rfl ?_
  refine v_iastN C h1 (by omega) (by omega) d_K_setOrder_24 ?_
  refine v_view (fun v1 ev1 => ?_)
  have he_7 : v1 0 a = some (.inr (0, [.int num, .int lang, .int zone, .int qf, .int qu, .long lw, .int mt0, .ref oa])) := by rw [ev1]; exact (vv_up_k _ _ _ _ (by decide)).trans h0
  have he_8 : v1 50 oa = some (.inl (G.2.2.2.2 0, 32, .inl (upd g ((kd * 4) + cn) od))) := by rw [ev1]; exact vv_up_s _ _ _ _
  exact v_vret C d_K_setOrder_25 (by first | exact Nat.le_of_ble_eq_true rfl | (show _ ≤ _; omega)) (by first | exact Nat.le_of_ble_eq_true rfl | (show _ ≤ _; omega)) ⟨rfl, ev1⟩
set_option maxHeartbeats 4000000 in
set_option maxRecDepth 100000 in
theorem lp_K_count {p : Program} {l : Launch} {e : Env} {R : Room} {s : State} {m : MethodId} {args : Array Value} {below : List Frame} {meth : Method} {c : Code} {Q : State → Prop} {G : vv_G} {v : vv_V} {kc ks : Nat} {a : Nat} {num lang zone qf qu : Int32} {lw : Int64} {mt0 : Int32} {oa : Nat} {g : Nat → Int32} {kd : Nat} (C : vC p s m args meth c b_K_countWishes 4 (some FieldType.int) "CustomerNotices$Customer" G) (h0 : v 0 a = some (vk num lang zone qf qu lw mt0 oa)) (h1 : v 50 oa = some (va32 G 32 g)) (hkd : kd ≤ 7) (hRm : 3 ≤ R.frames ∧ 67 ≤ R.locals) (hRc : kc ≤ R.cells ∧ ks ≤ R.slots) (kx : vV p l e R s m args below meth c Q G 4 v kc ks 28 [(3, .int (nI 4)), (2, .int (nI (kwn g (kd * 4) 4))), (0, .ref a), (1, .int (nI kd))] []) : ∀ (n : Nat) (j : Nat), j ≤ 4 → 5 ≤ j + n → vV p l e R s m args below meth c Q G 4 v kc ks 4 [(3, .int (nI j)), (2, .int (nI (kwn g (kd * 4) j))), (0, .ref a), (1, .int (nI kd))] [] := by
  intro n
  induction n with
  | zero => intro j hj1 hj2; exfalso; omega
  | succ n ih =>
    intro j hj1 hj2
    refine v_iload_n C 0 d_K_countWishes_4 rfl rfl ?_
    refine v_iconst (x := 4) C d_K_countWishes_5 (by decide) ?_
    refine v_icmp_ge C 28 d_K_countWishes_6 (by decide) (fun c_6 => ?_) (fun c_6 => ?_)
    · have n_6 : 4 ≤ j := (nI_leI (a := 4) (b := j) (by omega) (by omega)).mp c_6
      have hj4 : j = 4 := by omega
      subst hj4
      exact kx
    · have n_6 : ¬ 4 ≤ j := mt (nI_leI (a := 4) (b := j) (by omega) (by omega)).mpr c_6
      refine v_aload_n C 2 d_K_countWishes_9 rfl rfl ?_
      refine v_iload_n C 3 d_K_countWishes_10 rfl rfl ?_
      refine v_iload_n C 0 d_K_countWishes_11 rfl rfl ?_
      refine v_callV (rest := []) C (c_K_orderOf l G v a num lang zone qf qu lw mt0 oa g kd j h0 h1 (by omega) (by omega)) tw_250 tw_35 tw_247 tw_249 tw_4 mn_K_orderOf h0 k_K.1 ⟨Nat.le_trans (Nat.le_of_ble_eq_true rfl) hRm.1, Nat.le_trans (Nat.le_of_ble_eq_true rfl) hRm.2⟩ rfl rfl (Nat.le_of_ble_eq_true rfl) d_K_countWishes_12 ⟨hRc.1, hRc.2⟩ (fun r_1 v_2 hp_3 => ?_)
      obtain ⟨rfl, hv9⟩ := hp_3
      obtain rfl := hv9.symm
      show vV _ _ _ _ _ _ _ _ _ _ _ _ _ v kc ks 15 [(3, .int (nI j)), (2, .int (nI (kwn g (kd * 4) j))), (0, .ref a), (1, .int (nI kd))] [.int (g (kd * 4 + j))]
      refine v_iconst (x := -1) C d_K_countWishes_15 (by decide) ?_
      refine v_icmp_eq C 22 d_K_countWishes_16 (by decide) (fun c_16 => ?_) (fun c_16 => ?_)
      · refine v_lv (lv' := [(3, .int (nI j)), (2, .int (nI (kwn g (kd * 4) (j + 1)))), (0, .ref a), (1, .int (nI kd))]) (by rw [kwn, if_pos c_16]; rfl) ?_
        refine v_iinc (y := (nI (j + 1))) (lv' := [(3, .int (nI (j + 1))), (2, .int (nI (kwn g (kd * 4) (j + 1)))), (0, .ref a), (1, .int (nI kd))]) C 0 d_K_countWishes_22 rfl (nI_1 _) (by decide) rfl ?_
        refine v_goto C 4 d_K_countWishes_25 (by decide) ?_
        refine v_sub [0, 1, 2, 3] rfl ?_
        exact ih (j + 1) (by omega) (by omega)
      · refine v_iinc (y := (nI ((kwn g (kd * 4) j) + 1))) (lv' := [(2, .int (nI ((kwn g (kd * 4) j) + 1))), (3, .int (nI j)), (0, .ref a), (1, .int (nI kd))]) C 1 d_K_countWishes_19 rfl (nI_1 _) (by decide) rfl ?_
        refine v_lv (lv' := [(2, .int (nI (kwn g (kd * 4) (j + 1)))), (3, .int (nI j)), (0, .ref a), (1, .int (nI kd))]) (by rw [kwn, if_neg c_16]) ?_
        refine v_iinc (y := (nI (j + 1))) (lv' := [(3, .int (nI (j + 1))), (2, .int (nI (kwn g (kd * 4) (j + 1)))), (0, .ref a), (1, .int (nI kd))]) C 1 d_K_countWishes_22 rfl (nI_1 _) (by decide) rfl ?_
        refine v_goto C 4 d_K_countWishes_25 (by decide) ?_
        refine v_sub [0, 1, 2, 3] rfl ?_
        exact ih (j + 1) (by omega) (by omega)
set_option maxHeartbeats 4000000 in
set_option maxRecDepth 100000 in
theorem c_K_countWishes (l : Launch) (G : vv_G) (v : vv_V) (a : Nat) (num lang zone qf qu : Int32) (lw : Int64) (mt0 : Int32) (oa : Nat) (g : Nat → Int32) (kd : Nat) (h0 : v 0 a = some (vk num lang zone qf qu lw mt0 oa)) (h1 : v 50 oa = some (va32 G 32 g)) (hkd : kd ≤ 7) : Mv l y_K_countWishes b_K_countWishes 4 (some FieldType.int) 3 67 G v [.ref a, .int (nI kd)] (fun r v' => r = some (.int (nI (kwn g (kd * 4) 4))) ∧ v' = v) 0 0 := by
  refine vv_metF (own := "CustomerNotices$Customer") (nm := "countWishes") pf_K_countWishes rfl rfl (Nat.le_of_ble_eq_true rfl) ?_
  intro p e s m below meth c C hin
  show vV _ _ _ _ _ _ _ _ _ _ _ _ _ v 0 0 0 [(0, .ref a), (1, .int (nI kd))] []
  refine v_iconst (x := 0) C d_K_countWishes_0 (by decide) ?_
  refine v_istore_n (lv' := [(2, .int 0), (0, .ref a), (1, .int (nI kd))]) C d_K_countWishes_1 rfl (by decide) rfl ?_
  refine v_iconst (x := 0) C d_K_countWishes_2 (by decide) ?_
  refine v_istore_n (lv' := [(3, .int 0), (2, .int 0), (0, .ref a), (1, .int (nI kd))]) C d_K_countWishes_3 rfl (by decide) rfl ?_
  refine v_sub [0, 1, 2, 3] rfl ?_
  refine lp_K_count C h0 h1 hkd ⟨Nat.le_of_ble_eq_true rfl, Nat.le_of_ble_eq_true rfl⟩ ⟨Nat.le_refl _, Nat.le_refl _⟩ ?_ 5 0 (by omega) (by omega)
  refine v_iload_n C 1 d_K_countWishes_28 rfl rfl ?_
  exact v_iret C d_K_countWishes_29 (by first | exact Nat.le_of_ble_eq_true rfl | (show _ ≤ _; omega)) (by first | exact Nat.le_of_ble_eq_true rfl | (show _ ≤ _; omega)) ⟨rfl, rfl⟩
set_option maxHeartbeats 4000000 in
set_option maxRecDepth 100000 in
theorem lp_K_first {p : Program} {l : Launch} {e : Env} {R : Room} {s : State} {m : MethodId} {args : Array Value} {below : List Frame} {meth : Method} {c : Code} {Q : State → Prop} {G : vv_G} {v : vv_V} {kc ks : Nat} {a : Nat} {num lang zone qf qu : Int32} {lw : Int64} {mt0 : Int32} {oa : Nat} {g wf : Nat → Int32} {kd la cw : Nat} (C : vC p s m args meth c b_K_firstWorkingChannel 7 (some FieldType.int) "CustomerNotices$Customer" G) (h0 : v 0 a = some (vk num lang zone qf qu lw mt0 oa)) (h1 : v 50 oa = some (va32 G 32 g)) (h2 : v 51 cw = some (vaZ G 4 wf)) (hkd : kd ≤ 7) (hla : la ≤ 3) (hRm : 3 ≤ R.frames ∧ 67 ≤ R.locals) (hRc : kc ≤ R.cells ∧ ks ≤ R.slots) (kx : vV p l e R s m args below meth c Q G 7 v kc ks 80 [(5, .int (nI (la + 1))), (4, .int (zix (kbo g wf (kd * 4) (la + 1)))), (3, .int (nI la)), (0, .ref a), (1, .int (nI kd)), (2, .ref cw)] []) : ∀ (n : Nat) (j : Nat), j ≤ la + 1 → la + 2 ≤ j + n → vV p l e R s m args below meth c Q G 7 v kc ks 17 [(5, .int (nI j)), (4, .int (zix (kbo g wf (kd * 4) j))), (3, .int (nI la)), (0, .ref a), (1, .int (nI kd)), (2, .ref cw)] [] := by
  intro n
  induction n with
  | zero => intro j hj1 hj2; exfalso; omega
  | succ n ih =>
    intro j hj1 hj2
    refine v_iload C 0 d_K_firstWorkingChannel_17 rfl ?_
    refine v_iload_n C 2 d_K_firstWorkingChannel_19 rfl rfl ?_
    refine v_icmp_gt C 80 d_K_firstWorkingChannel_20 (by decide) (fun c_20 => ?_) (fun c_20 => ?_)
    · have n_20 : la < j := (nI_ltI (a := la) (b := j) (by omega) (by omega)).mp c_20
      have hj4 : j = la + 1 := by omega
      subst hj4
      exact kx
    · have n_20 : ¬ la < j := mt (nI_ltI (a := la) (b := j) (by omega) (by omega)).mpr c_20
      refine v_iload C 0 d_K_firstWorkingChannel_23 rfl ?_
      refine v_aload_n C 5 d_K_firstWorkingChannel_25 rfl rfl ?_
      refine v_alen (z := 4) C 51 1 h2 rfl rfl d_K_firstWorkingChannel_26 ?_
      refine v_icmp_ge C 80 d_K_firstWorkingChannel_27 (by decide) (fun c_27 => ?_) (fun c_27 => ?_)
      · have n_27 : 4 ≤ j := (nI_leI (a := 4) (b := j) (by omega) (by omega)).mp c_27
        have hj4 : j = la + 1 := by omega
        subst hj4
        exact kx
      · have n_27 : ¬ 4 ≤ j := mt (nI_leI (a := 4) (b := j) (by omega) (by omega)).mpr c_27
        refine v_aload_n C 3 d_K_firstWorkingChannel_30 rfl rfl ?_
        refine v_iload_n C 4 d_K_firstWorkingChannel_31 rfl rfl ?_
        refine v_iload C 0 d_K_firstWorkingChannel_32 rfl ?_
        refine v_callV (rest := []) C (c_K_orderOf l G v a num lang zone qf qu lw mt0 oa g kd j h0 h1 (by omega) (by omega)) tw_250 tw_35 tw_247 tw_249 tw_4 mn_K_orderOf h0 k_K.1 ⟨Nat.le_trans (Nat.le_of_ble_eq_true rfl) hRm.1, Nat.le_trans (Nat.le_of_ble_eq_true rfl) hRm.2⟩ rfl rfl (Nat.le_of_ble_eq_true rfl) d_K_firstWorkingChannel_34 ⟨hRc.1, hRc.2⟩ (fun r_1 v_2 hp_3 => ?_)
        obtain ⟨rfl, hv9⟩ := hp_3
        obtain rfl := hv9.symm
        show vV _ _ _ _ _ _ _ _ _ _ _ _ _ v kc ks 37 [(5, .int (nI j)), (4, .int (zix (kbo g wf (kd * 4) j))), (3, .int (nI la)), (0, .ref a), (1, .int (nI kd)), (2, .ref cw)] [.int (g (kd * 4 + j))]
        refine v_istore (lv' := [(6, .int (g (kd * 4 + j))), (5, .int (nI j)), (4, .int (zix (kbo g wf (kd * 4) j))), (3, .int (nI la)), (0, .ref a), (1, .int (nI kd)), (2, .ref cw)]) C d_K_firstWorkingChannel_37 (by decide) rfl ?_
        refine v_iload C 0 d_K_firstWorkingChannel_39 rfl ?_
        refine v_iconst (x := -1) C d_K_firstWorkingChannel_41 (by decide) ?_
        refine v_icmp_eq C 74 d_K_firstWorkingChannel_42 (by decide) (fun c_42 => ?_) (fun c_42 => ?_)
        · have hbn : kbo g wf (kd * 4) (j + 1) = kbo g wf (kd * 4) j := by rw [kbo, if_neg (fun z => z.1 c_42)]
          refine v_lv (lv' := [(6, .int (g (kd * 4 + j))), (5, .int (nI j)), (4, .int (zix (kbo g wf (kd * 4) (j + 1)))), (3, .int (nI la)), (0, .ref a), (1, .int (nI kd)), (2, .ref cw)]) (by rw [hbn]) ?_
          refine v_iinc (y := (nI (j + 1))) (lv' := [(5, .int (nI (j + 1))), (6, .int (g (kd * 4 + j))), (4, .int (zix (kbo g wf (kd * 4) (j + 1)))), (3, .int (nI la)), (0, .ref a), (1, .int (nI kd)), (2, .ref cw)]) C 1 d_K_firstWorkingChannel_74 rfl (nI_1 _) (by decide) rfl ?_
          refine v_goto C 17 d_K_firstWorkingChannel_77 (by decide) ?_
          refine v_sub [0, 2, 3, 4, 5, 6] rfl ?_
          exact ih (j + 1) (by omega) (by omega)
        · refine v_aload_n C 6 d_K_firstWorkingChannel_45 rfl rfl ?_
          refine v_iload C 1 d_K_firstWorkingChannel_46 rfl ?_
          refine v_zaldN C h2 (by omega) (by omega) d_K_firstWorkingChannel_48 ?_
          refine v_if_eq C 74 d_K_firstWorkingChannel_49 (by decide) (fun c_49 => ?_) (fun c_49 => ?_)
          · have hbn : kbo g wf (kd * 4) (j + 1) = kbo g wf (kd * 4) j := by rw [kbo, if_neg (fun z => z.2.1 c_49)]
            refine v_lv (lv' := [(6, .int (g (kd * 4 + j))), (5, .int (nI j)), (4, .int (zix (kbo g wf (kd * 4) (j + 1)))), (3, .int (nI la)), (0, .ref a), (1, .int (nI kd)), (2, .ref cw)]) (by rw [hbn]) ?_
            refine v_iinc (y := (nI (j + 1))) (lv' := [(5, .int (nI (j + 1))), (6, .int (g (kd * 4 + j))), (4, .int (zix (kbo g wf (kd * 4) (j + 1)))), (3, .int (nI la)), (0, .ref a), (1, .int (nI kd)), (2, .ref cw)]) C 1 d_K_firstWorkingChannel_74 rfl (nI_1 _) (by decide) rfl ?_
            refine v_goto C 17 d_K_firstWorkingChannel_77 (by decide) ?_
            refine v_sub [0, 2, 3, 4, 5, 6] rfl ?_
            exact ih (j + 1) (by omega) (by omega)
          · rcases hbo : kbo g wf (kd * 4) j with _ | q
            · show vV _ _ _ _ _ _ _ _ _ _ _ _ _ v kc ks 52 [(6, .int (g (kd * 4 + j))), (5, .int (nI j)), (4, .int (-1)), (3, .int (nI la)), (0, .ref a), (1, .int (nI kd)), (2, .ref cw)] []
              refine v_iload C 2 d_K_firstWorkingChannel_52 rfl ?_
              refine v_iconst (x := -1) C d_K_firstWorkingChannel_54 (by decide) ?_
              refine v_icmp_eq C 70 d_K_firstWorkingChannel_55 (by decide) (fun _ => ?_) (fun z => absurd (by decide) z)
              refine v_iload C 1 d_K_firstWorkingChannel_70 rfl ?_
              refine v_istore (lv' := [(4, .int (nI j)), (6, .int (g (kd * 4 + j))), (5, .int (nI j)), (3, .int (nI la)), (0, .ref a), (1, .int (nI kd)), (2, .ref cw)]) C d_K_firstWorkingChannel_72 (by decide) rfl ?_
              have hbn : kbo g wf (kd * 4) (j + 1) = some j := by rw [kbo, if_pos ⟨c_42, c_49, (by rw [hbo]; rfl)⟩]
              refine v_lv (lv' := [(4, .int (zix (kbo g wf (kd * 4) (j + 1)))), (6, .int (g (kd * 4 + j))), (5, .int (nI j)), (3, .int (nI la)), (0, .ref a), (1, .int (nI kd)), (2, .ref cw)]) (by rw [hbn]; rfl) ?_
              refine v_iinc (y := (nI (j + 1))) (lv' := [(5, .int (nI (j + 1))), (4, .int (zix (kbo g wf (kd * 4) (j + 1)))), (6, .int (g (kd * 4 + j))), (3, .int (nI la)), (0, .ref a), (1, .int (nI kd)), (2, .ref cw)]) C 2 d_K_firstWorkingChannel_74 rfl (nI_1 _) (by decide) rfl ?_
              refine v_goto C 17 d_K_firstWorkingChannel_77 (by decide) ?_
              refine v_sub [0, 1, 3, 4, 5, 6] rfl ?_
              exact ih (j + 1) (by omega) (by omega)
            · have hql := kbo_lt hbo
              show vV _ _ _ _ _ _ _ _ _ _ _ _ _ v kc ks 52 [(6, .int (g (kd * 4 + j))), (5, .int (nI j)), (4, .int (nI q)), (3, .int (nI la)), (0, .ref a), (1, .int (nI kd)), (2, .ref cw)] []
              refine v_iload C 2 d_K_firstWorkingChannel_52 rfl ?_
              refine v_iconst (x := -1) C d_K_firstWorkingChannel_54 (by decide) ?_
              refine v_icmp_eq C 70 d_K_firstWorkingChannel_55 (by decide) (fun c_55 => absurd c_55 (fun z => absurd ((nI_toInt (by omega)).symm.trans (congrArg Int32.toInt z)) (show ¬ ((q : Int) = -1) by omega))) (fun c_55 => ?_)
              refine v_iload C 0 d_K_firstWorkingChannel_58 rfl ?_
              refine v_aload_n C 4 d_K_firstWorkingChannel_60 rfl rfl ?_
              refine v_iload_n C 5 d_K_firstWorkingChannel_61 rfl rfl ?_
              refine v_iload C 2 d_K_firstWorkingChannel_62 rfl ?_
              refine v_callV (rest := [.int (g (kd * 4 + j))]) C (c_K_orderOf l G v a num lang zone qf qu lw mt0 oa g kd q h0 h1 (by omega) (by omega)) tw_250 tw_35 tw_247 tw_249 tw_4 mn_K_orderOf h0 k_K.1 ⟨Nat.le_trans (Nat.le_of_ble_eq_true rfl) hRm.1, Nat.le_trans (Nat.le_of_ble_eq_true rfl) hRm.2⟩ rfl rfl (Nat.le_of_ble_eq_true rfl) d_K_firstWorkingChannel_64 ⟨hRc.1, hRc.2⟩ (fun r_4 v_5 hp_6 => ?_)
              obtain ⟨rfl, hv9⟩ := hp_6
              obtain rfl := hv9.symm
              show vV _ _ _ _ _ _ _ _ _ _ _ _ _ v kc ks 67 [(6, .int (g (kd * 4 + j))), (5, .int (nI j)), (4, .int (nI q)), (3, .int (nI la)), (0, .ref a), (1, .int (nI kd)), (2, .ref cw)] [.int (g (kd * 4 + q)), .int (g (kd * 4 + j))]
              refine v_icmp_ge C 74 d_K_firstWorkingChannel_67 (by decide) (fun c_67 => ?_) (fun c_67 => ?_)
              · have hbn : kbo g wf (kd * 4) (j + 1) = kbo g wf (kd * 4) j := by rw [kbo, if_neg (fun z => absurd (of_decide_eq_true (by have z3 := z.2.2; rw [hbo] at z3; exact z3)) (Int32.not_lt.mpr c_67))]
                refine v_lv (lv' := [(6, .int (g (kd * 4 + j))), (5, .int (nI j)), (4, .int (zix (kbo g wf (kd * 4) (j + 1)))), (3, .int (nI la)), (0, .ref a), (1, .int (nI kd)), (2, .ref cw)]) (by rw [hbn, hbo]; rfl) ?_
                refine v_iinc (y := (nI (j + 1))) (lv' := [(5, .int (nI (j + 1))), (6, .int (g (kd * 4 + j))), (4, .int (zix (kbo g wf (kd * 4) (j + 1)))), (3, .int (nI la)), (0, .ref a), (1, .int (nI kd)), (2, .ref cw)]) C 1 d_K_firstWorkingChannel_74 rfl (nI_1 _) (by decide) rfl ?_
                refine v_goto C 17 d_K_firstWorkingChannel_77 (by decide) ?_
                refine v_sub [0, 2, 3, 4, 5, 6] rfl ?_
                exact ih (j + 1) (by omega) (by omega)
              · refine v_iload C 1 d_K_firstWorkingChannel_70 rfl ?_
                refine v_istore (lv' := [(4, .int (nI j)), (6, .int (g (kd * 4 + j))), (5, .int (nI j)), (3, .int (nI la)), (0, .ref a), (1, .int (nI kd)), (2, .ref cw)]) C d_K_firstWorkingChannel_72 (by decide) rfl ?_
                have hbn : kbo g wf (kd * 4) (j + 1) = some j := by rw [kbo, if_pos ⟨c_42, c_49, (by rw [hbo]; exact decide_eq_true (Int32.not_le.mp c_67))⟩]
                refine v_lv (lv' := [(4, .int (zix (kbo g wf (kd * 4) (j + 1)))), (6, .int (g (kd * 4 + j))), (5, .int (nI j)), (3, .int (nI la)), (0, .ref a), (1, .int (nI kd)), (2, .ref cw)]) (by rw [hbn]; rfl) ?_
                refine v_iinc (y := (nI (j + 1))) (lv' := [(5, .int (nI (j + 1))), (4, .int (zix (kbo g wf (kd * 4) (j + 1)))), (6, .int (g (kd * 4 + j))), (3, .int (nI la)), (0, .ref a), (1, .int (nI kd)), (2, .ref cw)]) C 2 d_K_firstWorkingChannel_74 rfl (nI_1 _) (by decide) rfl ?_
                refine v_goto C 17 d_K_firstWorkingChannel_77 (by decide) ?_
                refine v_sub [0, 1, 3, 4, 5, 6] rfl ?_
                exact ih (j + 1) (by omega) (by omega)
set_option maxHeartbeats 4000000 in
set_option maxRecDepth 100000 in
theorem c_K_first (l : Launch) (G : vv_G) (v : vv_V) (a : Nat) (num lang zone qf qu : Int32) (lw : Int64) (mt0 : Int32) (oa : Nat) (g wf : Nat → Int32) (kd cw : Nat) (h0 : v 0 a = some (vk num lang zone qf qu lw mt0 oa)) (h1 : v 50 oa = some (va32 G 32 g)) (h2 : v 51 cw = some (vaZ G 4 wf)) (hkd : kd ≤ 7) : Mv l y_K_firstWorkingChannel b_K_firstWorkingChannel 7 (some FieldType.int) 3 67 G v [.ref a, .int (nI kd), .ref cw] (fun r v' => r = some (.int (zix (kbo g wf (kd * 4) (if kd = 4 then 1 else 4)))) ∧ v' = v) 0 0 := by
  refine vv_metF (own := "CustomerNotices$Customer") (nm := "firstWorkingChannel") pf_K_firstWorkingChannel rfl rfl (Nat.le_of_ble_eq_true rfl) ?_
  intro p e s m below meth c C hin
  show vV _ _ _ _ _ _ _ _ _ _ _ _ _ v 0 0 0 [(0, .ref a), (1, .int (nI kd)), (2, .ref cw)] []
  refine v_iload_n C 1 d_K_firstWorkingChannel_0 rfl rfl ?_
  refine v_iconst (x := 4) C d_K_firstWorkingChannel_1 (by decide) ?_
  refine v_icmp_ne C 9 d_K_firstWorkingChannel_2 (by decide) (fun c_2 => ?_) (fun c_2 => ?_)
  · have n_2 : ¬ kd = 4 := mt (nI_eq (a := kd) (b := 4) (by omega) (by omega)).mpr c_2
    refine v_iconst (x := 3) C d_K_firstWorkingChannel_9 (by decide) ?_
    refine v_istore_n (lv' := [(3, .int 3), (0, .ref a), (1, .int (nI kd)), (2, .ref cw)]) C d_K_firstWorkingChannel_10 rfl (by decide) rfl ?_
    refine v_iconst (x := -1) C d_K_firstWorkingChannel_11 (by decide) ?_
    refine v_istore (lv' := [(4, .int (-1)), (3, .int 3), (0, .ref a), (1, .int (nI kd)), (2, .ref cw)]) C d_K_firstWorkingChannel_12 (by decide) rfl ?_
    refine v_iconst (x := 0) C d_K_firstWorkingChannel_14 (by decide) ?_
    refine v_istore (lv' := [(5, .int 0), (4, .int (-1)), (3, .int 3), (0, .ref a), (1, .int (nI kd)), (2, .ref cw)]) C d_K_firstWorkingChannel_15 (by decide) rfl ?_
    refine v_lv (lv' := [(5, .int (nI 0)), (4, .int (zix (kbo g wf (kd * 4) 0))), (3, .int (nI 3)), (0, .ref a), (1, .int (nI kd)), (2, .ref cw)]) rfl ?_
    refine v_sub [0, 1, 2, 3, 4, 5] rfl ?_
    refine lp_K_first C h0 h1 h2 hkd (by omega) ⟨Nat.le_of_ble_eq_true rfl, Nat.le_of_ble_eq_true rfl⟩ ⟨Nat.le_refl _, Nat.le_refl _⟩ ?_ 5 0 (by omega) (by omega)
    refine v_iload C 1 d_K_firstWorkingChannel_80 rfl ?_
    exact v_iret C d_K_firstWorkingChannel_82 (by first | exact Nat.le_of_ble_eq_true rfl | (show _ ≤ _; omega)) (by first | exact Nat.le_of_ble_eq_true rfl | (show _ ≤ _; omega)) ⟨(by rw [if_neg n_2]), rfl⟩
  · have n_2 : kd = 4 := (nI_eq (a := kd) (b := 4) (by omega) (by omega)).mp c_2
    refine v_iconst (x := 0) C d_K_firstWorkingChannel_5 (by decide) ?_
    refine v_goto C 10 d_K_firstWorkingChannel_6 (by decide) ?_
    refine v_istore_n (lv' := [(3, .int 0), (0, .ref a), (1, .int (nI kd)), (2, .ref cw)]) C d_K_firstWorkingChannel_10 rfl (by decide) rfl ?_
    refine v_iconst (x := -1) C d_K_firstWorkingChannel_11 (by decide) ?_
    refine v_istore (lv' := [(4, .int (-1)), (3, .int 0), (0, .ref a), (1, .int (nI kd)), (2, .ref cw)]) C d_K_firstWorkingChannel_12 (by decide) rfl ?_
    refine v_iconst (x := 0) C d_K_firstWorkingChannel_14 (by decide) ?_
    refine v_istore (lv' := [(5, .int 0), (4, .int (-1)), (3, .int 0), (0, .ref a), (1, .int (nI kd)), (2, .ref cw)]) C d_K_firstWorkingChannel_15 (by decide) rfl ?_
    refine v_lv (lv' := [(5, .int (nI 0)), (4, .int (zix (kbo g wf (kd * 4) 0))), (3, .int (nI 0)), (0, .ref a), (1, .int (nI kd)), (2, .ref cw)]) rfl ?_
    refine v_sub [0, 1, 2, 3, 4, 5] rfl ?_
    refine lp_K_first C h0 h1 h2 hkd (by omega) ⟨Nat.le_of_ble_eq_true rfl, Nat.le_of_ble_eq_true rfl⟩ ⟨Nat.le_refl _, Nat.le_refl _⟩ ?_ 5 0 (by omega) (by omega)
    refine v_iload C 1 d_K_firstWorkingChannel_80 rfl ?_
    exact v_iret C d_K_firstWorkingChannel_82 (by first | exact Nat.le_of_ble_eq_true rfl | (show _ ≤ _; omega)) (by first | exact Nat.le_of_ble_eq_true rfl | (show _ ≤ _; omega)) ⟨(by rw [if_pos n_2]), rfl⟩
