theorem zfail_i {S : zS} {n f i : Nat} (h1 : f ≠ 15) (h2 : f ≠ 29) : zi (zfail S n) f i = zi S f i := by
  unfold zfail; rw [zi_uc, zi_ui, if_neg h2, zi_ui, if_neg h1]
theorem zfail_15 {S : zS} {n i : Nat} : zi (zfail S n) 15 i = if i = n then 2 else zi S 15 i := by
  unfold zfail; rw [zi_uc, zi_ui, if_neg (by decide), zi_ui, if_pos rfl]
theorem zfail_29 {S : zS} {n i : Nat} : zi (zfail S n) 29 i = if i = zc S 4 then nI n else zi S 29 i := by
  unfold zfail; rw [zi_uc, zi_ui, if_pos rfl]; rfl
abbrev zfst (S : zS) (n : Nat) : Int32 := if zi S 31 (zn (zi S 10 n)) = 0 then nI n else zi S 31 (zn (zi S 10 n))
theorem zsnd_i {S : zS} {n q f i : Nat} (h1 : f ≠ 15) (h2 : f ≠ 31) (h3 : f ≠ 24) (h4 : f ≠ 25) (h5 : f ≠ 26) : zi (zsnd S n q) f i = zi S f i := by
  unfold zsnd; rw [zi_uc, zi_ul, zi_ui, if_neg h5, zi_ui, if_neg h4, zi_ui, if_neg h3, zi_ui, if_neg h2, zi_ui, if_neg h1]
theorem zsnd_15 {S : zS} {n q i : Nat} : zi (zsnd S n q) 15 i = if i = n then 1 else zi S 15 i := by
  unfold zsnd; rw [zi_uc, zi_ul, zi_ui, if_neg (by decide), zi_ui, if_neg (by decide), zi_ui, if_neg (by decide), zi_ui, if_neg (by decide), zi_ui, if_pos rfl]
theorem zsnd_31 {S : zS} {n q i : Nat} : zi (zsnd S n q) 31 i = if i = zn (zi S 10 n) then zfst S n else zi S 31 i := by
  unfold zsnd; rw [zi_uc, zi_ul, zi_ui, if_neg (by decide), zi_ui, if_neg (by decide), zi_ui, if_neg (by decide), zi_ui, if_pos rfl]; rfl
theorem zsnd_24 {S : zS} {n q i : Nat} : zi (zsnd S n q) 24 i = if i = zc S 3 then nI n else zi S 24 i := by
  unfold zsnd; rw [zi_uc, zi_ul, zi_ui, if_neg (by decide), zi_ui, if_neg (by decide), zi_ui, if_pos rfl]; rfl
theorem zsnd_25 {S : zS} {n q i : Nat} : zi (zsnd S n q) 25 i = if i = zc S 3 then nI q else zi S 25 i := by
  unfold zsnd; rw [zi_uc, zi_ul, zi_ui, if_neg (by decide), zi_ui, if_pos rfl]; rfl
theorem zsnd_26 {S : zS} {n q i : Nat} : zi (zsnd S n q) 26 i = if i = zc S 3 then zfst S n else zi S 26 i := by
  unfold zsnd; rw [zi_uc, zi_ul, zi_ui, if_pos rfl]; rfl
theorem zsnd_27 {S : zS} {n q i : Nat} : zl (zsnd S n q) 27 i = if i = zc S 3 then zl S 0 0 else zl S 27 i := by
  unfold zsnd; rw [zl_uc, zl_ul, if_pos rfl]; rfl
theorem zsnd_l {S : zS} {n q f i : Nat} (h : f ≠ 27) : zl (zsnd S n q) f i = zl S f i := by
  unfold zsnd; rw [zl_uc, zl_ul, if_neg h]; rfl
def zdlv (S : zS) (n : Nat) : zS := match zcho S n with
  | none => zfail S n
  | some q => zsnd S n q
def zdl (S : zS) (ea : Nat → Nat) (n : Nat) : Nat := match zcho S n with
  | none => zde (zc S 4) (ea 4)
  | some _ => zde (zc S 3) (ea 3)
/-- what was sent doesn't wait -/
def zBs (S : zS) : Prop := ∀ i, i < zc S 3 → ¬ zi S 15 (zn (zi S 24 i)) = 0
def tX (k _x : Nat) : Prop := k = 0 ∨ k = 2 ∨ k = 5 ∨ k = 53
theorem nI_ne1 {q : Nat} (h : q < 4) : ¬ nI q = -1 := by
  rcases (show q = 0 ∨ q = 1 ∨ q = 2 ∨ q = 3 by omega) with rfl | rfl | rfl | rfl <;> decide
set_option maxHeartbeats 4000000 in
set_option maxRecDepth 100000 in
theorem c_C_deliver (l : Launch) (G : vv_G) (v : vv_V) (o : Nat) (la : Nat → Nat) (cw : Nat) (S : zS) (ra ea ca oa na ia : Nat → Nat) (j0 : Nat) (hRC : RC G v o la cw S ra ea ca oa na ia) (hj0 : j0 < zc S 1) (hB : zB S) (hB2 : zB2 S) (hRT : RT v S ca oa) (hB4 : zB4 S) (hB4f : zB4f S) (hB7 : zB7 S) (hBs : zBs S) (h150 : zi S 15 (j0 + 1) = 0) (hr3 : zc S 3 ≤ 199) (hr4 : zc S 4 ≤ 199) : Mv l y_C_deliver b_C_deliver 4 none 7 171 G v [.ref o, .ref (na j0)] (fun r v' => r = none ∧ ∃ ra' ea', RC G v' o la cw (zdlv S (j0 + 1)) ra' ea' ca oa na ia ∧ RT v' (zdlv S (j0 + 1)) ca oa ∧ vkp tX v v' ∧ ea' 3 + ea' 4 = ea 3 + ea 4 + zdl S ea (j0 + 1)) (zdl S ea (j0 + 1)) (244 * zdl S ea (j0 + 1)) := by
  refine vv_metF (own := "CustomerNotices") (nm := "deliver") pf_C_deliver rfl rfl (Nat.le_of_ble_eq_true rfl) ?_
  intro p e s m below meth c C hin
  obtain ⟨hA, ⟨gw, hW, hWj⟩, hLs, hKs, hNs, hIs, hD1, hD2, hD3, hD4⟩ := id hRC
  obtain ⟨⟨mo3, hl3⟩, hlb3, hlc3, hld3⟩ := hLs 3 (by decide)
  obtain ⟨⟨mo4, hl4⟩, hlb4, hlc4, hld4⟩ := hLs 4 (by decide)
  obtain ⟨hb0, hb1, hb2, hb22⟩ := id hB
  obtain ⟨ch, msg, sent, hn0, hns⟩ := hNs j0 hj0
  obtain ⟨cn, kd, e10, hc1, hc2, e12, hk7⟩ := hB2 (j0 + 1) (by omega) (by omega)
  obtain ⟨c9, rfl⟩ : ∃ c9, cn = c9 + 1 := ⟨cn - 1, by omega⟩
  have e10n : zn (zi S 10 (j0 + 1)) = c9 + 1 := by rw [e10, zn_nI (by omega)]
  have e109 : zn (zi S 10 (j0 + 1)) - 1 = c9 := by rw [e10n, Nat.add_sub_cancel]
  have hn9 : v 2 (na j0) = some (.inr (2, [.int (nI (j0 + 1)), .ref (ca c9), .int (zi S 11 (j0 + 1)), .int (nI kd), .long (zl S 13 (j0 + 1)), .int (zi S 15 (j0 + 1)), .long (zl S 14 (j0 + 1)), .int (zi S 16 (j0 + 1)), .int (zi S 17 (j0 + 1)), .int ch, .int msg, .long sent])) := by rw [hn0, e109, e12]
  obtain ⟨lw, hk0, hlw⟩ := hRT c9 (by omega)
  obtain ⟨-, g, hg0, hgv⟩ := hKs c9 (by omega)
  have hz3 := zde_le (zc S 3) (ea 3)
  have hz4 := zde_le (zc S 4) (ea 4)
  have hk : vkp (fun k y => (k = 2 ∧ y = na j0) ∨ (k = 0 ∧ y = ca c9)) v v := vkp.rf
  show vV _ _ _ _ _ _ _ _ _ _ _ _ _ v 0 0 0 [(0, .ref o), (1, .ref (na j0))] []
  refine v_aload_n C 1 d_C_deliver_0 rfl rfl ?_
  refine v_get C k_N hn9 1 (by decide) tw_329 (fun _ h => h) rfl d_C_deliver_1 ?_
  refine v_astore_n (lv' := [(2, .ref (ca c9)), (0, .ref o), (1, .ref (na j0))]) C d_C_deliver_4 rfl (by decide) rfl ?_
  refine v_aload_n C 0 d_C_deliver_5 rfl rfl ?_
  refine v_aload_n C 2 d_C_deliver_6 rfl rfl ?_
  refine v_get C k_N hn9 3 (by decide) tw_333 (fun _ h => h) rfl d_C_deliver_7 ?_
  refine v_aload_n C 1 d_C_deliver_10 rfl rfl ?_
  refine v_get C k_C hA 5 (by decide) tw_83 (fun _ h => h) rfl d_C_deliver_11 ?_
  refine v_callV (rest := []) C (c_K_first l G v (ca c9) _ _ _ _ _ lw _ _ g gw kd cw hk0 hg0 hW (by omega)) tw_422 tw_35 tw_419 tw_420 tw_421 mn_K_firstWorkingChannel hk0 k_K.1 ⟨Nat.le_of_ble_eq_true rfl, Nat.le_of_ble_eq_true rfl⟩ rfl rfl (Nat.le_of_ble_eq_true rfl) d_C_deliver_14 ⟨(by first | exact Nat.le_of_ble_eq_true rfl | (dsimp only; omega)), (by first | exact Nat.le_of_ble_eq_true rfl | (dsimp only; omega))⟩ (fun r_1 v_2 hp_3 => ?_)
  obtain ⟨rfl, hv9⟩ := hp_3
  obtain rfl := hv9.symm
  refine v_toi (y := zix (zcho S (j0 + 1))) (by rw [kcho (n := j0 + 1) (c := c9 + 1) hB7 (by omega) hgv hWj e12 e10n]) ?_
  cases hz : zcho S (j0 + 1) with
  | none =>
    refine v_toi (y := (-1)) rfl ?_
    refine v_istore_n (lv' := [(3, .int (-1)), (2, .ref (ca c9)), (0, .ref o), (1, .ref (na j0))]) C d_C_deliver_17 rfl (by decide) rfl ?_
    refine v_iload_n C 0 d_C_deliver_18 rfl rfl ?_
    refine v_iconst (x := -1) C d_C_deliver_19 (by decide) ?_
    refine v_icmp_ne C 38 d_C_deliver_20 (by decide) (fun z => absurd (by decide) z) (fun _ => ?_)
    have hzd : zdl S ea (j0 + 1) = zde (zc S 4) (ea 4) := by unfold zdl; rw [hz]
    have hzv : zdlv S (j0 + 1) = zfail S (j0 + 1) := by unfold zdlv; rw [hz]
    refine v_aload_n C 3 d_C_deliver_23 rfl rfl ?_
    refine v_iconst (x := 2) C d_C_deliver_24 (by decide) ?_
    refine v_put C k_N hn9 5 (by decide) tw_337 (fun _ h => h) rfl rfl rfl (Nat.le_of_ble_eq_true rfl) d_C_deliver_25 ?_
    refine v_view (fun v1 ev1 => ?_)
    have he_4 : v1 3 o = some (.inr (3, [.ref (la 0), .ref (la 1), .ref (la 2), .ref (la 3), .ref (la 4), .ref cw, .long (zl S 0 0), .int (zi S 1 0)])) := by rw [ev1]; exact (vv_up_k _ _ _ _ (by decide)).trans hA
    have he_5 : v1 5 (la 3) = some (.inr (5, [.ref (ra 3), .int (nI (zc S 3)), .int mo3])) := by rw [ev1]; exact (vv_up_k _ _ _ _ (by decide)).trans hl3
    have he_6 : v1 5 (la 4) = some (.inr (5, [.ref (ra 4), .int (nI (zc S 4)), .int mo4])) := by rw [ev1]; exact (vv_up_k _ _ _ _ (by decide)).trans hl4
    have he_7 : v1 2 (na j0) = some (.inr (2, [.int (nI (j0 + 1)), .ref (ca c9), .int (zi S 11 (j0 + 1)), .int (nI kd), .long (zl S 13 (j0 + 1)), .int 2, .long (zl S 14 (j0 + 1)), .int (zi S 16 (j0 + 1)), .int (zi S 17 (j0 + 1)), .int ch, .int msg, .long sent])) := by rw [ev1]; exact vv_up_s _ _ _ _
    have he_8 : v1 0 (ca c9) = some (.inr (0, [.int (nI (c9 + 1)), .int (zi S 4 (c9 + 1)), .int (zi S 5 (c9 + 1)), .int (zi S 6 (c9 + 1)), .int (zi S 7 (c9 + 1)), .long lw, .int (zi S 31 (c9 + 1)), .ref (oa c9)])) := by rw [ev1]; exact (vv_up_k _ _ _ _ (by decide)).trans hk0
    have he_9 : v1 51 cw = some (.inl (G.2.2.2.2 1, 4, .inl gw)) := by rw [ev1]; exact (vv_up_k _ _ _ _ (by decide)).trans hW
    have hkv1 : vkp (fun k y => (k = 2 ∧ y = na j0) ∨ (k = 0 ∧ y = ca c9)) v v1 := by rw [ev1]; exact hk.up (Or.inl ⟨rfl, rfl⟩)
    refine v_aload_n C 2 d_C_deliver_28 rfl rfl ?_
    refine v_get C k_C he_4 4 (by decide) tw_82 (fun _ h => h) rfl d_C_deliver_29 ?_
    refine v_aload_n C 3 d_C_deliver_32 rfl rfl ?_
    have helN : ∀ m9, m9 < zc S 1 → ∃ fs, v1 2 (na m9) = some (.inr (2, fs)) := fun m9 hm => by
      by_cases c8 : na m9 = na j0
      · rw [c8]; exact ⟨_, he_7⟩
      · obtain ⟨_, _, _, h9, _⟩ := hNs m9 hm; exact ⟨_, hkv1 _ _ _ (by rintro (z | z); exact c8 z.2; exact absurd z.1 (by decide)) h9⟩
    refine v_callV (rest := []) C (c_AL_add l G v1 (la 4) (ra 4) (zc S 4) (ea 4) (na j0) (cF S ca na ia 4) _ 2 _ _ _ ((hLs 4 (by decide)).keep (fun k x y hz9 h => hkv1 k x y (by omega) h) (fun _ _ => rfl)) (by omega) (by decide) (by decide) (by decide) he_7 k_N.1 tw_696 (fun i9 hi9 => by obtain ⟨n8, e8, hm1, hm2⟩ := hB4f i9 hi9; exact helN (zn (zi S 29 i9) - 1) (by rw [e8, zn_nI (by omega)]; omega))) tw_157 tw_33 tw_154 tw_155 tw_156 mn_AL_add he_6 k_AL.1 ⟨Nat.le_of_ble_eq_true rfl, Nat.le_of_ble_eq_true rfl⟩ rfl rfl (Nat.le_of_ble_eq_true rfl) d_C_deliver_33 ⟨(by first | exact Nat.le_of_ble_eq_true rfl | (dsimp only; omega)), (by first | exact Nat.le_of_ble_eq_true rfl | (dsimp only; omega))⟩ (fun r_10 v_11 hp_12 => ?_)
    refine v_cs (kc' := (0 + (zde (zc S 4) (ea 4)))) (ks' := (0 + (244 * zde (zc S 4) (ea 4)))) rfl rfl ?_
    obtain ⟨rfl, arr9, hLn, harr, hk3⟩ := hp_12
    have hqn := hk3 _ _ _ (by intro z; omega) he_7
    have hqk := hk3 _ _ _ (by intro z; omega) he_8
    show vV _ _ _ _ _ _ _ _ _ _ _ _ _ v_11 (0 + (zde (zc S 4) (ea 4))) (0 + (244 * zde (zc S 4) (ea 4))) 36 [(3, .int (-1)), (2, .ref (ca c9)), (0, .ref o), (1, .ref (na j0))] [.int 1]
    refine v_pop C d_C_deliver_36 rfl ?_
    exact v_vret C d_C_deliver_37 (by first | exact Nat.le_of_ble_eq_true rfl | (show _ ≤ _; omega)) (by first | exact Nat.le_of_ble_eq_true rfl | (show _ ≤ _; omega)) ⟨rfl, _, _, (by rw [hzv]; exact hRC.dlv (S' := (zfail S (j0 + 1))) (c9 := c9) (i0 := 4) (by omega) (by omega) hj0 (by omega) (Or.inr rfl) hkv1 hk3 hLn harr ⟨ch, msg, sent, (by rw [hqn, zfail_i (f := 10) (by decide) (by decide), zfail_i (f := 11) (by decide) (by decide), zfail_i (f := 12) (by decide) (by decide), zfail_i (f := 16) (by decide) (by decide), zfail_i (f := 17) (by decide) (by decide), zfail_15, if_pos rfl, e109, e12]; rfl), (fun i h1 h2 => by rw [zfail_i (by decide) (by decide)] at h2 ⊢; rw [zfail_i (by decide) (by decide)]; exact hns i h1 h2)⟩ ((hKs c9 (by omega)).tr (fun y hy => by rw [hk0] at hy; cases hy; exact hqk) (fun y hy => hk3 _ _ _ (by intro z; omega) (hkv1 _ _ _ (by rintro (z | z) <;> exact absurd z.1 (by decide)) hy)) (fun f hf => zfail_i (by omega) (by omega)) (fun i _ => zfail_i (by decide) (by decide)) rfl rfl) (fun i h => by unfold zfail; rw [zc_uc, if_neg h]; rfl) (by unfold zfail; rw [zc_uc, if_pos rfl]) (fun f i h1 _ _ _ h5 _ => zfail_i h1 h5) (fun j h => by rw [zfail_15, if_neg (by omega)]) (fun f i _ h => zfail_i (by omega) (by omega)) (fun h => absurd h (by decide)) (fun i h => by rw [zfail_29, if_neg (by omega)]) (fun _ => by rw [zfail_29, if_pos rfl]) (fun _ _ _ => rfl) (fun _ _ => rfl)), (by rw [hzv]; exact (fun j hj => by by_cases c8 : j = c9; { subst c8; exact ⟨lw, (by rw [hqk, zfail_i (by decide) (by decide), zfail_i (by decide) (by decide), zfail_i (by decide) (by decide), zfail_i (by decide) (by decide), zfail_i (by decide) (by decide)]), hlw⟩ }; { exact (hRT j hj).tr (fun y hy => hk3 _ _ _ (by intro z; omega) (hkv1 _ _ _ (by rintro (z | z); exact absurd z.1 (by decide); exact c8 (hRC.caI (by omega) hj (by omega) z.2)) hy)) (fun f hf => zfail_i (by omega) (by omega)) rfl })), ((hkv1.mono (fun _ _ z => by unfold tX; omega) : vkp tX v v1).tr (hk3.mono (fun _ _ z => by unfold tX; omega))), (by rw [hzd, va_up_self, va_up_ne _ _ (by decide)]; omega)⟩
  | some q =>
    have hq4 := zcho_lt hz
    refine v_toi (y := nI q) rfl ?_
    refine v_istore_n (lv' := [(3, .int (nI q)), (2, .ref (ca c9)), (0, .ref o), (1, .ref (na j0))]) C d_C_deliver_17 rfl (by decide) rfl ?_
    refine v_iload_n C 0 d_C_deliver_18 rfl rfl ?_
    refine v_iconst (x := -1) C d_C_deliver_19 (by decide) ?_
    refine v_icmp_ne C 38 d_C_deliver_20 (by decide) (fun c_20 => ?_) (fun c_20 => absurd c_20 (nI_ne1 hq4))
    have hzd : zdl S ea (j0 + 1) = zde (zc S 3) (ea 3) := by unfold zdl; rw [hz]
    have hzv : zdlv S (j0 + 1) = zsnd S (j0 + 1) q := by unfold zdlv; rw [hz]
    refine v_aload_n C 1 d_C_deliver_38 rfl rfl ?_
    refine v_get C k_K hk0 6 (by decide) tw_134 (fun _ h => h) rfl d_C_deliver_39 ?_
    refine v_if_ne C 53 d_C_deliver_42 (by decide) (fun c_42 => ?_) (fun c_42 => ?_)
    · have hfs : zfst S (j0 + 1) = zi S 31 (c9 + 1) := by unfold zfst; rw [e10n, if_neg c_42]
      refine v_aload_n C 3 d_C_deliver_53 rfl rfl ?_
      refine v_iconst (x := 1) C d_C_deliver_54 (by decide) ?_
      refine v_put C k_N hn9 5 (by decide) tw_337 (fun _ h => h) rfl rfl rfl (Nat.le_of_ble_eq_true rfl) d_C_deliver_55 ?_
      refine v_view (fun v2 ev2 => ?_)
      have he_13 : v2 3 o = some (.inr (3, [.ref (la 0), .ref (la 1), .ref (la 2), .ref (la 3), .ref (la 4), .ref cw, .long (zl S 0 0), .int (zi S 1 0)])) := by rw [ev2]; exact (vv_up_k _ _ _ _ (by decide)).trans hA
      have he_14 : v2 5 (la 3) = some (.inr (5, [.ref (ra 3), .int (nI (zc S 3)), .int mo3])) := by rw [ev2]; exact (vv_up_k _ _ _ _ (by decide)).trans hl3
      have he_15 : v2 5 (la 4) = some (.inr (5, [.ref (ra 4), .int (nI (zc S 4)), .int mo4])) := by rw [ev2]; exact (vv_up_k _ _ _ _ (by decide)).trans hl4
      have he_16 : v2 2 (na j0) = some (.inr (2, [.int (nI (j0 + 1)), .ref (ca c9), .int (zi S 11 (j0 + 1)), .int (nI kd), .long (zl S 13 (j0 + 1)), .int 1, .long (zl S 14 (j0 + 1)), .int (zi S 16 (j0 + 1)), .int (zi S 17 (j0 + 1)), .int ch, .int msg, .long sent])) := by rw [ev2]; exact vv_up_s _ _ _ _
      have he_17 : v2 0 (ca c9) = some (.inr (0, [.int (nI (c9 + 1)), .int (zi S 4 (c9 + 1)), .int (zi S 5 (c9 + 1)), .int (zi S 6 (c9 + 1)), .int (zi S 7 (c9 + 1)), .long lw, .int (zi S 31 (c9 + 1)), .ref (oa c9)])) := by rw [ev2]; exact (vv_up_k _ _ _ _ (by decide)).trans hk0
      have he_18 : v2 51 cw = some (.inl (G.2.2.2.2 1, 4, .inl gw)) := by rw [ev2]; exact (vv_up_k _ _ _ _ (by decide)).trans hW
      have hkv2 : vkp (fun k y => (k = 2 ∧ y = na j0) ∨ (k = 0 ∧ y = ca c9)) v v2 := by rw [ev2]; exact hk.up (Or.inl ⟨rfl, rfl⟩)
      refine v_aload_n C 3 d_C_deliver_58 rfl rfl ?_
      refine v_iload_n C 0 d_C_deliver_59 rfl rfl ?_
      refine v_put C k_N he_16 9 (by decide) tw_344 (fun _ h => h) rfl rfl rfl (Nat.le_of_ble_eq_true rfl) d_C_deliver_60 ?_
      refine v_view (fun v3 ev3 => ?_)
      have he_19 : v3 3 o = some (.inr (3, [.ref (la 0), .ref (la 1), .ref (la 2), .ref (la 3), .ref (la 4), .ref cw, .long (zl S 0 0), .int (zi S 1 0)])) := by rw [ev3]; exact (vv_up_k _ _ _ _ (by decide)).trans he_13
      have he_20 : v3 5 (la 3) = some (.inr (5, [.ref (ra 3), .int (nI (zc S 3)), .int mo3])) := by rw [ev3]; exact (vv_up_k _ _ _ _ (by decide)).trans he_14
      have he_21 : v3 5 (la 4) = some (.inr (5, [.ref (ra 4), .int (nI (zc S 4)), .int mo4])) := by rw [ev3]; exact (vv_up_k _ _ _ _ (by decide)).trans he_15
      have he_22 : v3 2 (na j0) = some (.inr (2, [.int (nI (j0 + 1)), .ref (ca c9), .int (zi S 11 (j0 + 1)), .int (nI kd), .long (zl S 13 (j0 + 1)), .int 1, .long (zl S 14 (j0 + 1)), .int (zi S 16 (j0 + 1)), .int (zi S 17 (j0 + 1)), .int (nI q), .int msg, .long sent])) := by rw [ev3]; exact vv_up_s _ _ _ _
      have he_23 : v3 0 (ca c9) = some (.inr (0, [.int (nI (c9 + 1)), .int (zi S 4 (c9 + 1)), .int (zi S 5 (c9 + 1)), .int (zi S 6 (c9 + 1)), .int (zi S 7 (c9 + 1)), .long lw, .int (zi S 31 (c9 + 1)), .ref (oa c9)])) := by rw [ev3]; exact (vv_up_k _ _ _ _ (by decide)).trans he_17
      have he_24 : v3 51 cw = some (.inl (G.2.2.2.2 1, 4, .inl gw)) := by rw [ev3]; exact (vv_up_k _ _ _ _ (by decide)).trans he_18
      have hkv3 : vkp (fun k y => (k = 2 ∧ y = na j0) ∨ (k = 0 ∧ y = ca c9)) v v3 := by rw [ev3]; exact hkv2.up (Or.inl ⟨rfl, rfl⟩)
      refine v_aload_n C 3 d_C_deliver_63 rfl rfl ?_
      refine v_aload_n C 1 d_C_deliver_64 rfl rfl ?_
      refine v_get C k_K he_23 6 (by decide) tw_134 (fun _ h => h) rfl d_C_deliver_65 ?_
      refine v_put C k_N he_22 10 (by decide) tw_345 (fun _ h => h) rfl rfl rfl (Nat.le_of_ble_eq_true rfl) d_C_deliver_68 ?_
      refine v_view (fun v4 ev4 => ?_)
      have he_25 : v4 3 o = some (.inr (3, [.ref (la 0), .ref (la 1), .ref (la 2), .ref (la 3), .ref (la 4), .ref cw, .long (zl S 0 0), .int (zi S 1 0)])) := by rw [ev4]; exact (vv_up_k _ _ _ _ (by decide)).trans he_19
      have he_26 : v4 5 (la 3) = some (.inr (5, [.ref (ra 3), .int (nI (zc S 3)), .int mo3])) := by rw [ev4]; exact (vv_up_k _ _ _ _ (by decide)).trans he_20
      have he_27 : v4 5 (la 4) = some (.inr (5, [.ref (ra 4), .int (nI (zc S 4)), .int mo4])) := by rw [ev4]; exact (vv_up_k _ _ _ _ (by decide)).trans he_21
      have he_28 : v4 2 (na j0) = some (.inr (2, [.int (nI (j0 + 1)), .ref (ca c9), .int (zi S 11 (j0 + 1)), .int (nI kd), .long (zl S 13 (j0 + 1)), .int 1, .long (zl S 14 (j0 + 1)), .int (zi S 16 (j0 + 1)), .int (zi S 17 (j0 + 1)), .int (nI q), .int (zi S 31 (c9 + 1)), .long sent])) := by rw [ev4]; exact vv_up_s _ _ _ _
      have he_29 : v4 0 (ca c9) = some (.inr (0, [.int (nI (c9 + 1)), .int (zi S 4 (c9 + 1)), .int (zi S 5 (c9 + 1)), .int (zi S 6 (c9 + 1)), .int (zi S 7 (c9 + 1)), .long lw, .int (zi S 31 (c9 + 1)), .ref (oa c9)])) := by rw [ev4]; exact (vv_up_k _ _ _ _ (by decide)).trans he_23
      have he_30 : v4 51 cw = some (.inl (G.2.2.2.2 1, 4, .inl gw)) := by rw [ev4]; exact (vv_up_k _ _ _ _ (by decide)).trans he_24
      have hkv4 : vkp (fun k y => (k = 2 ∧ y = na j0) ∨ (k = 0 ∧ y = ca c9)) v v4 := by rw [ev4]; exact hkv3.up (Or.inl ⟨rfl, rfl⟩)
      refine v_aload_n C 3 d_C_deliver_71 rfl rfl ?_
      refine v_aload_n C 2 d_C_deliver_72 rfl rfl ?_
      refine v_get C k_C he_25 6 (by decide) tw_84 (fun _ h => h) rfl d_C_deliver_73 ?_
      refine v_put C k_N he_28 11 (by decide) tw_346 (fun _ h => h) rfl rfl rfl (Nat.le_of_ble_eq_true rfl) d_C_deliver_76 ?_
      refine v_view (fun v5 ev5 => ?_)
      have he_31 : v5 3 o = some (.inr (3, [.ref (la 0), .ref (la 1), .ref (la 2), .ref (la 3), .ref (la 4), .ref cw, .long (zl S 0 0), .int (zi S 1 0)])) := by rw [ev5]; exact (vv_up_k _ _ _ _ (by decide)).trans he_25
      have he_32 : v5 5 (la 3) = some (.inr (5, [.ref (ra 3), .int (nI (zc S 3)), .int mo3])) := by rw [ev5]; exact (vv_up_k _ _ _ _ (by decide)).trans he_26
      have he_33 : v5 5 (la 4) = some (.inr (5, [.ref (ra 4), .int (nI (zc S 4)), .int mo4])) := by rw [ev5]; exact (vv_up_k _ _ _ _ (by decide)).trans he_27
      have he_34 : v5 2 (na j0) = some (.inr (2, [.int (nI (j0 + 1)), .ref (ca c9), .int (zi S 11 (j0 + 1)), .int (nI kd), .long (zl S 13 (j0 + 1)), .int 1, .long (zl S 14 (j0 + 1)), .int (zi S 16 (j0 + 1)), .int (zi S 17 (j0 + 1)), .int (nI q), .int (zi S 31 (c9 + 1)), .long (zl S 0 0)])) := by rw [ev5]; exact vv_up_s _ _ _ _
      have he_35 : v5 0 (ca c9) = some (.inr (0, [.int (nI (c9 + 1)), .int (zi S 4 (c9 + 1)), .int (zi S 5 (c9 + 1)), .int (zi S 6 (c9 + 1)), .int (zi S 7 (c9 + 1)), .long lw, .int (zi S 31 (c9 + 1)), .ref (oa c9)])) := by rw [ev5]; exact (vv_up_k _ _ _ _ (by decide)).trans he_29
      have he_36 : v5 51 cw = some (.inl (G.2.2.2.2 1, 4, .inl gw)) := by rw [ev5]; exact (vv_up_k _ _ _ _ (by decide)).trans he_30
      have hkv5 : vkp (fun k y => (k = 2 ∧ y = na j0) ∨ (k = 0 ∧ y = ca c9)) v v5 := by rw [ev5]; exact hkv4.up (Or.inl ⟨rfl, rfl⟩)
      refine v_aload_n C 2 d_C_deliver_79 rfl rfl ?_
      refine v_get C k_C he_31 3 (by decide) tw_81 (fun _ h => h) rfl d_C_deliver_80 ?_
      refine v_aload_n C 3 d_C_deliver_83 rfl rfl ?_
      have helN : ∀ m9, m9 < zc S 1 → ∃ fs, v5 2 (na m9) = some (.inr (2, fs)) := fun m9 hm => by
        by_cases c8 : na m9 = na j0
        · rw [c8]; exact ⟨_, he_34⟩
        · obtain ⟨_, _, _, h9, _⟩ := hNs m9 hm; exact ⟨_, hkv5 _ _ _ (by rintro (z | z); exact c8 z.2; exact absurd z.1 (by decide)) h9⟩
      refine v_callV (rest := []) C (c_AL_add l G v5 (la 3) (ra 3) (zc S 3) (ea 3) (na j0) (cF S ca na ia 3) _ 2 _ _ _ ((hLs 3 (by decide)).keep (fun k x y hz9 h => hkv5 k x y (by omega) h) (fun _ _ => rfl)) (by omega) (by decide) (by decide) (by decide) he_34 k_N.1 tw_696 (fun i9 hi9 => by obtain ⟨n8, e8, hm1, hm2⟩ := hB4 i9 hi9; exact helN (zn (zi S 24 i9) - 1) (by rw [e8, zn_nI (by omega)]; omega))) tw_157 tw_33 tw_154 tw_155 tw_156 mn_AL_add he_32 k_AL.1 ⟨Nat.le_of_ble_eq_true rfl, Nat.le_of_ble_eq_true rfl⟩ rfl rfl (Nat.le_of_ble_eq_true rfl) d_C_deliver_84 ⟨(by first | exact Nat.le_of_ble_eq_true rfl | (dsimp only; omega)), (by first | exact Nat.le_of_ble_eq_true rfl | (dsimp only; omega))⟩ (fun r_37 v_38 hp_39 => ?_)
      refine v_cs (kc' := (0 + (zde (zc S 3) (ea 3)))) (ks' := (0 + (244 * zde (zc S 3) (ea 3)))) rfl rfl ?_
      obtain ⟨rfl, arr9, hLn, harr, hk3⟩ := hp_39
      have hqn := hk3 _ _ _ (by intro z; omega) he_34
      have hqk := hk3 _ _ _ (by intro z; omega) he_35
      show vV _ _ _ _ _ _ _ _ _ _ _ _ _ v_38 (0 + (zde (zc S 3) (ea 3))) (0 + (244 * zde (zc S 3) (ea 3))) 87 [(3, .int (nI q)), (2, .ref (ca c9)), (0, .ref o), (1, .ref (na j0))] [.int 1]
      refine v_pop C d_C_deliver_87 rfl ?_
      exact v_vret C d_C_deliver_88 (by first | exact Nat.le_of_ble_eq_true rfl | (show _ ≤ _; omega)) (by first | exact Nat.le_of_ble_eq_true rfl | (show _ ≤ _; omega)) ⟨rfl, _, _, (by rw [hzv]; exact hRC.dlv (S' := (zsnd S (j0 + 1) q)) (c9 := c9) (i0 := 3) (by omega) (by omega) hj0 (by omega) (Or.inl rfl) hkv5 hk3 hLn harr ⟨_, _, _, (by rw [hqn, zsnd_i (f := 10) (by decide) (by decide) (by decide) (by decide) (by decide), zsnd_i (f := 11) (by decide) (by decide) (by decide) (by decide) (by decide), zsnd_i (f := 12) (by decide) (by decide) (by decide) (by decide) (by decide), zsnd_i (f := 16) (by decide) (by decide) (by decide) (by decide) (by decide), zsnd_i (f := 17) (by decide) (by decide) (by decide) (by decide) (by decide), zsnd_15, if_pos rfl, e109, e12, zsnd_l (f := 13) (by decide), zsnd_l (f := 14) (by decide)]), (fun i h1 h2 => by have h1 : i < zc S 3 + 1 := h1; rw [zsnd_24] at h2; by_cases c8 : i = zc S 3; { rw [zsnd_25, zsnd_26, zsnd_27, if_pos c8, if_pos c8, if_pos c8]; exact ⟨rfl, hfs.symm, rfl⟩ }; { rw [if_neg c8] at h2; have y9 := hBs i (by omega); rw [h2, zn_nI (by omega)] at y9; exact absurd h150 y9 })⟩ ⟨⟨lw, _, (by rw [hqk, zsnd_i (f := 4) (by decide) (by decide) (by decide) (by decide) (by decide), zsnd_i (f := 5) (by decide) (by decide) (by decide) (by decide) (by decide), zsnd_i (f := 6) (by decide) (by decide) (by decide) (by decide) (by decide), zsnd_i (f := 7) (by decide) (by decide) (by decide) (by decide) (by decide)])⟩, g, hk3 _ _ _ (by intro z; omega) (hkv5 _ _ _ (by rintro (z | z) <;> exact absurd z.1 (by decide)) hg0), (fun i hi => by rw [zsnd_i (f := 8) (by decide) (by decide) (by decide) (by decide) (by decide)]; exact hgv i hi)⟩ (fun i h => by unfold zsnd; rw [zc_uc, if_neg h]; rfl) (by unfold zsnd; rw [zc_uc, if_pos rfl]) (fun f i h1 h2 h3 h4 _ h6 => zsnd_i h1 h6 h2 h3 h4) (fun j h => by rw [zsnd_15, if_neg (by omega)]) (fun f i h1 h => by rcases h with rfl | rfl | rfl; rw [zsnd_24, if_neg (by omega)]; rw [zsnd_25, if_neg (by omega)]; rw [zsnd_26, if_neg (by omega)]) (fun _ => by rw [zsnd_24, if_pos rfl]) (fun i h => zsnd_i (by decide) (by decide) (by decide) (by decide) (by decide)) (fun h => absurd h (by decide)) (fun f i h => zsnd_l h) (fun i h => by rw [zsnd_27, if_neg (by omega)])), (by rw [hzv]; exact (fun j hj => by by_cases c8 : j = c9; { subst c8; exact ⟨lw, (by rw [hqk, zsnd_i (f := 4) (by decide) (by decide) (by decide) (by decide) (by decide), zsnd_i (f := 5) (by decide) (by decide) (by decide) (by decide) (by decide), zsnd_i (f := 6) (by decide) (by decide) (by decide) (by decide) (by decide), zsnd_i (f := 7) (by decide) (by decide) (by decide) (by decide) (by decide), zsnd_31, e10n, if_pos rfl, hfs]), (by rw [zsnd_l (by decide)]; exact hlw)⟩ }; { exact (hRT j hj).tr (fun y hy => hk3 _ _ _ (by intro z; omega) (hkv5 _ _ _ (by rintro (z | z); exact absurd z.1 (by decide); exact c8 (hRC.caI (by omega) hj (by omega) z.2)) hy)) (fun f hf => by rcases hf with rfl | rfl | rfl | rfl | rfl; exact zsnd_i (by decide) (by decide) (by decide) (by decide) (by decide); exact zsnd_i (by decide) (by decide) (by decide) (by decide) (by decide); exact zsnd_i (by decide) (by decide) (by decide) (by decide) (by decide); exact zsnd_i (by decide) (by decide) (by decide) (by decide) (by decide); rw [zsnd_31, e10n, if_neg (by omega)]) (zsnd_l (by decide)) })), ((hkv5.mono (fun _ _ z => by unfold tX; omega) : vkp tX v v5).tr (hk3.mono (fun _ _ z => by unfold tX; omega))), (by rw [hzd, va_up_self, va_up_ne _ _ (by decide)]; omega)⟩
    · refine v_aload_n C 1 d_C_deliver_45 rfl rfl ?_
      refine v_aload_n C 3 d_C_deliver_46 rfl rfl ?_
      refine v_get C k_N hn9 0 (by decide) tw_327 (fun _ h => h) rfl d_C_deliver_47 ?_
      refine v_put C k_K hk0 6 (by decide) tw_134 (fun _ h => h) rfl rfl rfl (Nat.le_of_ble_eq_true rfl) d_C_deliver_50 ?_
      refine v_view (fun v6 ev6 => ?_)
      have he_40 : v6 3 o = some (.inr (3, [.ref (la 0), .ref (la 1), .ref (la 2), .ref (la 3), .ref (la 4), .ref cw, .long (zl S 0 0), .int (zi S 1 0)])) := by rw [ev6]; exact (vv_up_k _ _ _ _ (by decide)).trans hA
      have he_41 : v6 5 (la 3) = some (.inr (5, [.ref (ra 3), .int (nI (zc S 3)), .int mo3])) := by rw [ev6]; exact (vv_up_k _ _ _ _ (by decide)).trans hl3
      have he_42 : v6 5 (la 4) = some (.inr (5, [.ref (ra 4), .int (nI (zc S 4)), .int mo4])) := by rw [ev6]; exact (vv_up_k _ _ _ _ (by decide)).trans hl4
      have he_43 : v6 2 (na j0) = some (.inr (2, [.int (nI (j0 + 1)), .ref (ca c9), .int (zi S 11 (j0 + 1)), .int (nI kd), .long (zl S 13 (j0 + 1)), .int (zi S 15 (j0 + 1)), .long (zl S 14 (j0 + 1)), .int (zi S 16 (j0 + 1)), .int (zi S 17 (j0 + 1)), .int ch, .int msg, .long sent])) := by rw [ev6]; exact (vv_up_k _ _ _ _ (by decide)).trans hn9
      have he_44 : v6 0 (ca c9) = some (.inr (0, [.int (nI (c9 + 1)), .int (zi S 4 (c9 + 1)), .int (zi S 5 (c9 + 1)), .int (zi S 6 (c9 + 1)), .int (zi S 7 (c9 + 1)), .long lw, .int (nI (j0 + 1)), .ref (oa c9)])) := by rw [ev6]; exact vv_up_s _ _ _ _
      have he_45 : v6 51 cw = some (.inl (G.2.2.2.2 1, 4, .inl gw)) := by rw [ev6]; exact (vv_up_k _ _ _ _ (by decide)).trans hW
      have hkv6 : vkp (fun k y => (k = 2 ∧ y = na j0) ∨ (k = 0 ∧ y = ca c9)) v v6 := by rw [ev6]; exact hk.up (Or.inr ⟨rfl, rfl⟩)
      have hfs : zfst S (j0 + 1) = nI (j0 + 1) := by unfold zfst; rw [e10n, if_pos c_42]
      refine v_aload_n C 3 d_C_deliver_53 rfl rfl ?_
      refine v_iconst (x := 1) C d_C_deliver_54 (by decide) ?_
      refine v_put C k_N he_43 5 (by decide) tw_337 (fun _ h => h) rfl rfl rfl (Nat.le_of_ble_eq_true rfl) d_C_deliver_55 ?_
      refine v_view (fun v7 ev7 => ?_)
      have he_46 : v7 3 o = some (.inr (3, [.ref (la 0), .ref (la 1), .ref (la 2), .ref (la 3), .ref (la 4), .ref cw, .long (zl S 0 0), .int (zi S 1 0)])) := by rw [ev7]; exact (vv_up_k _ _ _ _ (by decide)).trans he_40
      have he_47 : v7 5 (la 3) = some (.inr (5, [.ref (ra 3), .int (nI (zc S 3)), .int mo3])) := by rw [ev7]; exact (vv_up_k _ _ _ _ (by decide)).trans he_41
      have he_48 : v7 5 (la 4) = some (.inr (5, [.ref (ra 4), .int (nI (zc S 4)), .int mo4])) := by rw [ev7]; exact (vv_up_k _ _ _ _ (by decide)).trans he_42
      have he_49 : v7 2 (na j0) = some (.inr (2, [.int (nI (j0 + 1)), .ref (ca c9), .int (zi S 11 (j0 + 1)), .int (nI kd), .long (zl S 13 (j0 + 1)), .int 1, .long (zl S 14 (j0 + 1)), .int (zi S 16 (j0 + 1)), .int (zi S 17 (j0 + 1)), .int ch, .int msg, .long sent])) := by rw [ev7]; exact vv_up_s _ _ _ _
      have he_50 : v7 0 (ca c9) = some (.inr (0, [.int (nI (c9 + 1)), .int (zi S 4 (c9 + 1)), .int (zi S 5 (c9 + 1)), .int (zi S 6 (c9 + 1)), .int (zi S 7 (c9 + 1)), .long lw, .int (nI (j0 + 1)), .ref (oa c9)])) := by rw [ev7]; exact (vv_up_k _ _ _ _ (by decide)).trans he_44
      have he_51 : v7 51 cw = some (.inl (G.2.2.2.2 1, 4, .inl gw)) := by rw [ev7]; exact (vv_up_k _ _ _ _ (by decide)).trans he_45
      have hkv7 : vkp (fun k y => (k = 2 ∧ y = na j0) ∨ (k = 0 ∧ y = ca c9)) v v7 := by rw [ev7]; exact hkv6.up (Or.inl ⟨rfl, rfl⟩)
      refine v_aload_n C 3 d_C_deliver_58 rfl rfl ?_
      refine v_iload_n C 0 d_C_deliver_59 rfl rfl ?_
      refine v_put C k_N he_49 9 (by decide) tw_344 (fun _ h => h) rfl rfl rfl (Nat.le_of_ble_eq_true rfl) d_C_deliver_60 ?_
      refine v_view (fun v8 ev8 => ?_)
      have he_52 : v8 3 o = some (.inr (3, [.ref (la 0), .ref (la 1), .ref (la 2), .ref (la 3), .ref (la 4), .ref cw, .long (zl S 0 0), .int (zi S 1 0)])) := by rw [ev8]; exact (vv_up_k _ _ _ _ (by decide)).trans he_46
      have he_53 : v8 5 (la 3) = some (.inr (5, [.ref (ra 3), .int (nI (zc S 3)), .int mo3])) := by rw [ev8]; exact (vv_up_k _ _ _ _ (by decide)).trans he_47
      have he_54 : v8 5 (la 4) = some (.inr (5, [.ref (ra 4), .int (nI (zc S 4)), .int mo4])) := by rw [ev8]; exact (vv_up_k _ _ _ _ (by decide)).trans he_48
      have he_55 : v8 2 (na j0) = some (.inr (2, [.int (nI (j0 + 1)), .ref (ca c9), .int (zi S 11 (j0 + 1)), .int (nI kd), .long (zl S 13 (j0 + 1)), .int 1, .long (zl S 14 (j0 + 1)), .int (zi S 16 (j0 + 1)), .int (zi S 17 (j0 + 1)), .int (nI q), .int msg, .long sent])) := by rw [ev8]; exact vv_up_s _ _ _ _
      have he_56 : v8 0 (ca c9) = some (.inr (0, [.int (nI (c9 + 1)), .int (zi S 4 (c9 + 1)), .int (zi S 5 (c9 + 1)), .int (zi S 6 (c9 + 1)), .int (zi S 7 (c9 + 1)), .long lw, .int (nI (j0 + 1)), .ref (oa c9)])) := by rw [ev8]; exact (vv_up_k _ _ _ _ (by decide)).trans he_50
      have he_57 : v8 51 cw = some (.inl (G.2.2.2.2 1, 4, .inl gw)) := by rw [ev8]; exact (vv_up_k _ _ _ _ (by decide)).trans he_51
      have hkv8 : vkp (fun k y => (k = 2 ∧ y = na j0) ∨ (k = 0 ∧ y = ca c9)) v v8 := by rw [ev8]; exact hkv7.up (Or.inl ⟨rfl, rfl⟩)
      refine v_aload_n C 3 d_C_deliver_63 rfl rfl ?_
      refine v_aload_n C 1 d_C_deliver_64 rfl rfl ?_
      refine v_get C k_K he_56 6 (by decide) tw_134 (fun _ h => h) rfl d_C_deliver_65 ?_
      refine v_put C k_N he_55 10 (by decide) tw_345 (fun _ h => h) rfl rfl rfl (Nat.le_of_ble_eq_true rfl) d_C_deliver_68 ?_
      refine v_view (fun v9 ev9 => ?_)
      have he_58 : v9 3 o = some (.inr (3, [.ref (la 0), .ref (la 1), .ref (la 2), .ref (la 3), .ref (la 4), .ref cw, .long (zl S 0 0), .int (zi S 1 0)])) := by rw [ev9]; exact (vv_up_k _ _ _ _ (by decide)).trans he_52
      have he_59 : v9 5 (la 3) = some (.inr (5, [.ref (ra 3), .int (nI (zc S 3)), .int mo3])) := by rw [ev9]; exact (vv_up_k _ _ _ _ (by decide)).trans he_53
      have he_60 : v9 5 (la 4) = some (.inr (5, [.ref (ra 4), .int (nI (zc S 4)), .int mo4])) := by rw [ev9]; exact (vv_up_k _ _ _ _ (by decide)).trans he_54
      have he_61 : v9 2 (na j0) = some (.inr (2, [.int (nI (j0 + 1)), .ref (ca c9), .int (zi S 11 (j0 + 1)), .int (nI kd), .long (zl S 13 (j0 + 1)), .int 1, .long (zl S 14 (j0 + 1)), .int (zi S 16 (j0 + 1)), .int (zi S 17 (j0 + 1)), .int (nI q), .int (nI (j0 + 1)), .long sent])) := by rw [ev9]; exact vv_up_s _ _ _ _
      have he_62 : v9 0 (ca c9) = some (.inr (0, [.int (nI (c9 + 1)), .int (zi S 4 (c9 + 1)), .int (zi S 5 (c9 + 1)), .int (zi S 6 (c9 + 1)), .int (zi S 7 (c9 + 1)), .long lw, .int (nI (j0 + 1)), .ref (oa c9)])) := by rw [ev9]; exact (vv_up_k _ _ _ _ (by decide)).trans he_56
      have he_63 : v9 51 cw = some (.inl (G.2.2.2.2 1, 4, .inl gw)) := by rw [ev9]; exact (vv_up_k _ _ _ _ (by decide)).trans he_57
      have hkv9 : vkp (fun k y => (k = 2 ∧ y = na j0) ∨ (k = 0 ∧ y = ca c9)) v v9 := by rw [ev9]; exact hkv8.up (Or.inl ⟨rfl, rfl⟩)
      refine v_aload_n C 3 d_C_deliver_71 rfl rfl ?_
      refine v_aload_n C 2 d_C_deliver_72 rfl rfl ?_
      refine v_get C k_C he_58 6 (by decide) tw_84 (fun _ h => h) rfl d_C_deliver_73 ?_
      refine v_put C k_N he_61 11 (by decide) tw_346 (fun _ h => h) rfl rfl rfl (Nat.le_of_ble_eq_true rfl) d_C_deliver_76 ?_
      refine v_view (fun v10 ev10 => ?_)
      have he_64 : v10 3 o = some (.inr (3, [.ref (la 0), .ref (la 1), .ref (la 2), .ref (la 3), .ref (la 4), .ref cw, .long (zl S 0 0), .int (zi S 1 0)])) := by rw [ev10]; exact (vv_up_k _ _ _ _ (by decide)).trans he_58
      have he_65 : v10 5 (la 3) = some (.inr (5, [.ref (ra 3), .int (nI (zc S 3)), .int mo3])) := by rw [ev10]; exact (vv_up_k _ _ _ _ (by decide)).trans he_59
      have he_66 : v10 5 (la 4) = some (.inr (5, [.ref (ra 4), .int (nI (zc S 4)), .int mo4])) := by rw [ev10]; exact (vv_up_k _ _ _ _ (by decide)).trans he_60
      have he_67 : v10 2 (na j0) = some (.inr (2, [.int (nI (j0 + 1)), .ref (ca c9), .int (zi S 11 (j0 + 1)), .int (nI kd), .long (zl S 13 (j0 + 1)), .int 1, .long (zl S 14 (j0 + 1)), .int (zi S 16 (j0 + 1)), .int (zi S 17 (j0 + 1)), .int (nI q), .int (nI (j0 + 1)), .long (zl S 0 0)])) := by rw [ev10]; exact vv_up_s _ _ _ _
      have he_68 : v10 0 (ca c9) = some (.inr (0, [.int (nI (c9 + 1)), .int (zi S 4 (c9 + 1)), .int (zi S 5 (c9 + 1)), .int (zi S 6 (c9 + 1)), .int (zi S 7 (c9 + 1)), .long lw, .int (nI (j0 + 1)), .ref (oa c9)])) := by rw [ev10]; exact (vv_up_k _ _ _ _ (by decide)).trans he_62
      have he_69 : v10 51 cw = some (.inl (G.2.2.2.2 1, 4, .inl gw)) := by rw [ev10]; exact (vv_up_k _ _ _ _ (by decide)).trans he_63
      have hkv10 : vkp (fun k y => (k = 2 ∧ y = na j0) ∨ (k = 0 ∧ y = ca c9)) v v10 := by rw [ev10]; exact hkv9.up (Or.inl ⟨rfl, rfl⟩)
      refine v_aload_n C 2 d_C_deliver_79 rfl rfl ?_
      refine v_get C k_C he_64 3 (by decide) tw_81 (fun _ h => h) rfl d_C_deliver_80 ?_
      refine v_aload_n C 3 d_C_deliver_83 rfl rfl ?_
      have helN : ∀ m9, m9 < zc S 1 → ∃ fs, v10 2 (na m9) = some (.inr (2, fs)) := fun m9 hm => by
        by_cases c8 : na m9 = na j0
        · rw [c8]; exact ⟨_, he_67⟩
        · obtain ⟨_, _, _, h9, _⟩ := hNs m9 hm; exact ⟨_, hkv10 _ _ _ (by rintro (z | z); exact c8 z.2; exact absurd z.1 (by decide)) h9⟩
      refine v_callV (rest := []) C (c_AL_add l G v10 (la 3) (ra 3) (zc S 3) (ea 3) (na j0) (cF S ca na ia 3) _ 2 _ _ _ ((hLs 3 (by decide)).keep (fun k x y hz9 h => hkv10 k x y (by omega) h) (fun _ _ => rfl)) (by omega) (by decide) (by decide) (by decide) he_67 k_N.1 tw_696 (fun i9 hi9 => by obtain ⟨n8, e8, hm1, hm2⟩ := hB4 i9 hi9; exact helN (zn (zi S 24 i9) - 1) (by rw [e8, zn_nI (by omega)]; omega))) tw_157 tw_33 tw_154 tw_155 tw_156 mn_AL_add he_65 k_AL.1 ⟨Nat.le_of_ble_eq_true rfl, Nat.le_of_ble_eq_true rfl⟩ rfl rfl (Nat.le_of_ble_eq_true rfl) d_C_deliver_84 ⟨(by first | exact Nat.le_of_ble_eq_true rfl | (dsimp only; omega)), (by first | exact Nat.le_of_ble_eq_true rfl | (dsimp only; omega))⟩ (fun r_70 v_71 hp_72 => ?_)
      refine v_cs (kc' := (0 + (zde (zc S 3) (ea 3)))) (ks' := (0 + (244 * zde (zc S 3) (ea 3)))) rfl rfl ?_
      obtain ⟨rfl, arr9, hLn, harr, hk3⟩ := hp_72
      have hqn := hk3 _ _ _ (by intro z; omega) he_67
      have hqk := hk3 _ _ _ (by intro z; omega) he_68
      show vV _ _ _ _ _ _ _ _ _ _ _ _ _ v_71 (0 + (zde (zc S 3) (ea 3))) (0 + (244 * zde (zc S 3) (ea 3))) 87 [(3, .int (nI q)), (2, .ref (ca c9)), (0, .ref o), (1, .ref (na j0))] [.int 1]
      refine v_pop C d_C_deliver_87 rfl ?_
      exact v_vret C d_C_deliver_88 (by first | exact Nat.le_of_ble_eq_true rfl | (show _ ≤ _; omega)) (by first | exact Nat.le_of_ble_eq_true rfl | (show _ ≤ _; omega)) ⟨rfl, _, _, (by rw [hzv]; exact hRC.dlv (S' := (zsnd S (j0 + 1) q)) (c9 := c9) (i0 := 3) (by omega) (by omega) hj0 (by omega) (Or.inl rfl) hkv10 hk3 hLn harr ⟨_, _, _, (by rw [hqn, zsnd_i (f := 10) (by decide) (by decide) (by decide) (by decide) (by decide), zsnd_i (f := 11) (by decide) (by decide) (by decide) (by decide) (by decide), zsnd_i (f := 12) (by decide) (by decide) (by decide) (by decide) (by decide), zsnd_i (f := 16) (by decide) (by decide) (by decide) (by decide) (by decide), zsnd_i (f := 17) (by decide) (by decide) (by decide) (by decide) (by decide), zsnd_15, if_pos rfl, e109, e12, zsnd_l (f := 13) (by decide), zsnd_l (f := 14) (by decide)]), (fun i h1 h2 => by have h1 : i < zc S 3 + 1 := h1; rw [zsnd_24] at h2; by_cases c8 : i = zc S 3; { rw [zsnd_25, zsnd_26, zsnd_27, if_pos c8, if_pos c8, if_pos c8]; exact ⟨rfl, hfs.symm, rfl⟩ }; { rw [if_neg c8] at h2; have y9 := hBs i (by omega); rw [h2, zn_nI (by omega)] at y9; exact absurd h150 y9 })⟩ ⟨⟨lw, _, (by rw [hqk, zsnd_i (f := 4) (by decide) (by decide) (by decide) (by decide) (by decide), zsnd_i (f := 5) (by decide) (by decide) (by decide) (by decide) (by decide), zsnd_i (f := 6) (by decide) (by decide) (by decide) (by decide) (by decide), zsnd_i (f := 7) (by decide) (by decide) (by decide) (by decide) (by decide)])⟩, g, hk3 _ _ _ (by intro z; omega) (hkv10 _ _ _ (by rintro (z | z) <;> exact absurd z.1 (by decide)) hg0), (fun i hi => by rw [zsnd_i (f := 8) (by decide) (by decide) (by decide) (by decide) (by decide)]; exact hgv i hi)⟩ (fun i h => by unfold zsnd; rw [zc_uc, if_neg h]; rfl) (by unfold zsnd; rw [zc_uc, if_pos rfl]) (fun f i h1 h2 h3 h4 _ h6 => zsnd_i h1 h6 h2 h3 h4) (fun j h => by rw [zsnd_15, if_neg (by omega)]) (fun f i h1 h => by rcases h with rfl | rfl | rfl; rw [zsnd_24, if_neg (by omega)]; rw [zsnd_25, if_neg (by omega)]; rw [zsnd_26, if_neg (by omega)]) (fun _ => by rw [zsnd_24, if_pos rfl]) (fun i h => zsnd_i (by decide) (by decide) (by decide) (by decide) (by decide)) (fun h => absurd h (by decide)) (fun f i h => zsnd_l h) (fun i h => by rw [zsnd_27, if_neg (by omega)])), (by rw [hzv]; exact (fun j hj => by by_cases c8 : j = c9; { subst c8; exact ⟨lw, (by rw [hqk, zsnd_i (f := 4) (by decide) (by decide) (by decide) (by decide) (by decide), zsnd_i (f := 5) (by decide) (by decide) (by decide) (by decide) (by decide), zsnd_i (f := 6) (by decide) (by decide) (by decide) (by decide) (by decide), zsnd_i (f := 7) (by decide) (by decide) (by decide) (by decide) (by decide), zsnd_31, e10n, if_pos rfl, hfs]), (by rw [zsnd_l (by decide)]; exact hlw)⟩ }; { exact (hRT j hj).tr (fun y hy => hk3 _ _ _ (by intro z; omega) (hkv10 _ _ _ (by rintro (z | z); exact absurd z.1 (by decide); exact c8 (hRC.caI (by omega) hj (by omega) z.2)) hy)) (fun f hf => by rcases hf with rfl | rfl | rfl | rfl | rfl; exact zsnd_i (by decide) (by decide) (by decide) (by decide) (by decide); exact zsnd_i (by decide) (by decide) (by decide) (by decide) (by decide); exact zsnd_i (by decide) (by decide) (by decide) (by decide) (by decide); exact zsnd_i (by decide) (by decide) (by decide) (by decide) (by decide); rw [zsnd_31, e10n, if_neg (by omega)]) (zsnd_l (by decide)) })), ((hkv10.mono (fun _ _ z => by unfold tX; omega) : vkp tX v v10).tr (hk3.mono (fun _ _ z => by unfold tX; omega))), (by rw [hzd, va_up_self, va_up_ne _ _ (by decide)]; omega)⟩
