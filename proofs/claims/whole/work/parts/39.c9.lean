set_option maxHeartbeats 4000000 in
set_option maxRecDepth 100000 in
theorem lp_C_prep1 {p : Program} {l : Launch} {e : Env} {R : Room} {s : State} {m : MethodId} {args : Array Value} {below : List Frame} {meth : Method} {c : Code} {Q : State → Prop} {G : vv_G} {v0 : vv_V} {kc ks : Nat} {o : Nat} {la : Nat → Nat} {cw : Nat} {ra ea ca oa na ia : Nat → Nat} {S1 : zS} (C : vC p s m args meth c b_C_prepareCustomersForTick 4 none "CustomerNotices" G) (hB : zc S1 1 ≤ 200 ∧ zc S1 0 ≤ 40) (hRm : 3 ≤ R.frames ∧ 64 ≤ R.locals) (hRc : kc ≤ R.cells ∧ ks ≤ R.slots) (kx : ∀ (v : vv_V) (S : zS), S = zr1 S1 (zc S1 0) → RC G v o la cw S ra ea ca oa na ia → RT v S ca oa → vkp (fun k _ => k = 0) v0 v → vV p l e R s m args below meth c Q G 4 v kc ks 43 [(1, .int (nI (zc S1 0))), (0, .ref o)] []) : ∀ (n : Nat) (i : Nat) (v : vv_V) (S : zS), i ≤ zc S1 0 → zc S1 0 + 1 ≤ i + n → S = zr1 S1 i → RC G v o la cw S ra ea ca oa na ia → (∀ j, j < i → RTr v S ca oa j) → vkp (fun k _ => k = 0) v0 v → vV p l e R s m args below meth c Q G 4 v kc ks 2 [(1, .int (nI i)), (0, .ref o)] [] := by
  intro n
  induction n with
  | zero => intro i v S hi1 hi2 eS hRC hRT hkx; exfalso; omega
  | succ n ih =>
    intro i v S hi1 hi2 eS hRC hRT hkx
    have hcS : ∀ f, zc S f = zc S1 f := fun f => by rw [eS, zr1_c]
    have hc1S := hcS 1
    have hc0S := hcS 0
    obtain ⟨hA, ⟨gw, hW, hWj⟩, hLs, hKs, hNs, hIs, hD1, hD2, hD3, hD4⟩ := id hRC
    obtain ⟨⟨mo0, hl0⟩, hlb0, hlc0, hld0⟩ := hLs 0 (by decide)
    refine v_iload_n C 0 d_C_prepareCustomersForTick_2 rfl rfl ?_
    refine v_aload_n C 1 d_C_prepareCustomersForTick_3 rfl rfl ?_
    refine v_get C k_C hA 0 (by decide) tw_78 (fun _ h => h) rfl d_C_prepareCustomersForTick_4 ?_
    refine v_callV (rest := [.int (nI i)]) C (c_LA_size l G v (la 0) (ra 0) (zc S 0) (ea 0) _ (hLs 0 (by decide))) tw_117 tw_33 tw_114 tw_115 tw_116 mn_AL_size hl0 k_AL.1 ⟨Nat.le_trans (Nat.le_of_ble_eq_true rfl) hRm.1, Nat.le_trans (Nat.le_of_ble_eq_true rfl) hRm.2⟩ rfl rfl (Nat.le_of_ble_eq_true rfl) d_C_prepareCustomersForTick_7 ⟨hRc.1, hRc.2⟩ (fun r_1 v_2 hp_3 => ?_)
    obtain ⟨rfl, hv9⟩ := hp_3
    obtain rfl := hv9.symm
    show vV _ _ _ _ _ _ _ _ _ _ _ _ _ v kc ks 10 [(1, .int (nI i)), (0, .ref o)] [.int (nI (zc S 0)), .int (nI i)]
    refine v_icmp_ge C 43 d_C_prepareCustomersForTick_10 (by decide) (fun c_10 => ?_) (fun c_10 => ?_)
    · have n_10 : (zc S 0) ≤ i := (nI_leI (a := (zc S 0)) (b := i) (by omega) (by omega)).mp c_10
      have hj4 : i = zc S1 0 := by omega
      subst hj4
      exact kx v S eS hRC (fun j hj => hRT j (by omega)) hkx
    · have n_10 : ¬ (zc S 0) ≤ i := mt (nI_leI (a := (zc S 0)) (b := i) (by omega) (by omega)).mpr c_10
      refine v_aload_n C 1 d_C_prepareCustomersForTick_13 rfl rfl ?_
      refine v_get C k_C hA 0 (by decide) tw_78 (fun _ h => h) rfl d_C_prepareCustomersForTick_14 ?_
      refine v_iload_n C 0 d_C_prepareCustomersForTick_17 rfl rfl ?_
      refine v_callV (rest := []) C (c_LA_get l G v (la 0) (ra 0) (zc S 0) (ea 0) i _ (hLs 0 (by decide)) (by omega)) tw_218 tw_33 tw_215 tw_216 tw_217 mn_AL_get hl0 k_AL.1 ⟨Nat.le_trans (Nat.le_of_ble_eq_true rfl) hRm.1, Nat.le_trans (Nat.le_of_ble_eq_true rfl) hRm.2⟩ rfl rfl (Nat.le_of_ble_eq_true rfl) d_C_prepareCustomersForTick_18 ⟨hRc.1, hRc.2⟩ (fun r_4 v_5 hp_6 => ?_)
      obtain ⟨rfl, hv9⟩ := hp_6
      obtain rfl := hv9.symm
      show vV _ _ _ _ _ _ _ _ _ _ _ _ _ v kc ks 21 [(1, .int (nI i)), (0, .ref o)] [.ref (ca i)]
      obtain ⟨⟨lw, mt0, hk0⟩, g, hg0, hgv⟩ := hKs i (by omega)
      refine v_cast C tw_118 tw_686 hk0 k_K.1 d_C_prepareCustomersForTick_21 ?_
      refine v_astore_n (lv' := [(2, .ref (ca i)), (1, .int (nI i)), (0, .ref o)]) C d_C_prepareCustomersForTick_24 rfl (by decide) rfl ?_
      refine v_aload_n C 0 d_C_prepareCustomersForTick_25 rfl rfl ?_
      refine v_ldc2 (x := 1000000000) C d_C_prepareCustomersForTick_26 tw_274 ?_
      refine v_put C k_K hk0 5 (by decide) tw_133 (fun _ h => h) rfl rfl rfl (Nat.le_of_ble_eq_true rfl) d_C_prepareCustomersForTick_29 ?_
      refine v_view (fun v1 ev1 => ?_)
      have he_7 : v1 3 o = some (.inr (3, [.ref (la 0), .ref (la 1), .ref (la 2), .ref (la 3), .ref (la 4), .ref cw, .long (zl S 0 0), .int (zi S 1 0)])) := by rw [ev1]; exact (vv_up_k _ _ _ _ (by decide)).trans hA
      have he_8 : v1 5 (la 0) = some (.inr (5, [.ref (ra 0), .int (nI (zc S 0)), .int mo0])) := by rw [ev1]; exact (vv_up_k _ _ _ _ (by decide)).trans hl0
      have he_9 : v1 0 (ca i) = some (.inr (0, [.int (nI (i + 1)), .int (zi S 4 (i + 1)), .int (zi S 5 (i + 1)), .int (zi S 6 (i + 1)), .int (zi S 7 (i + 1)), .long 1000000000, .int mt0, .ref (oa i)])) := by rw [ev1]; exact vv_up_s _ _ _ _
      have he_10 : v1 50 (oa i) = some (.inl (G.2.2.2.2 0, 32, .inl g)) := by rw [ev1]; exact (vv_up_k _ _ _ _ (by decide)).trans hg0
      refine v_aload_n C 0 d_C_prepareCustomersForTick_32 rfl rfl ?_
      refine v_iconst (x := 0) C d_C_prepareCustomersForTick_33 (by decide) ?_
      refine v_put C k_K he_9 6 (by decide) tw_134 (fun _ h => h) rfl rfl rfl (Nat.le_of_ble_eq_true rfl) d_C_prepareCustomersForTick_34 ?_
      refine v_view (fun v2 ev2 => ?_)
      have he_11 : v2 3 o = some (.inr (3, [.ref (la 0), .ref (la 1), .ref (la 2), .ref (la 3), .ref (la 4), .ref cw, .long (zl S 0 0), .int (zi S 1 0)])) := by rw [ev2]; exact (vv_up_k _ _ _ _ (by decide)).trans he_7
      have he_12 : v2 5 (la 0) = some (.inr (5, [.ref (ra 0), .int (nI (zc S 0)), .int mo0])) := by rw [ev2]; exact (vv_up_k _ _ _ _ (by decide)).trans he_8
      have he_13 : v2 0 (ca i) = some (.inr (0, [.int (nI (i + 1)), .int (zi S 4 (i + 1)), .int (zi S 5 (i + 1)), .int (zi S 6 (i + 1)), .int (zi S 7 (i + 1)), .long 1000000000, .int 0, .ref (oa i)])) := by rw [ev2]; exact vv_up_s _ _ _ _
      have he_14 : v2 50 (oa i) = some (.inl (G.2.2.2.2 0, 32, .inl g)) := by rw [ev2]; exact (vv_up_k _ _ _ _ (by decide)).trans he_10
      refine v_iinc (y := (nI (i + 1))) (lv' := [(1, .int (nI (i + 1))), (2, .ref (ca i)), (0, .ref o)]) C 1 d_C_prepareCustomersForTick_37 rfl (nI_1 _) (by decide) rfl ?_
      refine v_goto C 2 d_C_prepareCustomersForTick_40 (by decide) ?_
      refine v_sub [0, 2] rfl ?_
      have hR1 := hRC.cust (S' := S) (v' := v2) (by omega) (j0 := i) (by omega) (by rw [ev2, ev1]; exact (vkp.rf.up ⟨rfl, rfl⟩).up ⟨rfl, rfl⟩) ⟨_, _, he_13⟩ (fun _ => rfl) (fun _ _ _ _ => rfl) (fun _ _ => ⟨rfl, rfl⟩) (fun _ _ => rfl)
      have hR2 := hR1.scr (S' := (zui (zul S 30 (i + 1) 1000000001) 31 (i + 1) 0)) (fun _ => rfl) (fun f i h => by rw [zi_ui, if_neg h]; rfl) (fun f i h => by rw [zl_ui, zl_ul, if_neg h])
      have hT2 : ∀ j, j < i + 1 → RTr v2 (zui (zul S 30 (i + 1) 1000000001) 31 (i + 1) 0) ca oa j := fun j hj => by
        by_cases c9 : j = i
        · subst c9; exact ⟨1000000000, (by rw [he_13]; simp [zi_ui, zi_ul]), (by rw [zl_ui, zl_ul, if_pos rfl, if_pos rfl]; decide)⟩
        · exact (hRT j (by omega)).tr (fun y hy => by rw [ev2, ev1, vv_up_a _ _ _ _ (fun z => c9 (hRC.caI (by omega) (by omega) (by omega) z)), vv_up_a _ _ _ _ (fun z => c9 (hRC.caI (by omega) (by omega) (by omega) z))]; exact hy) (fun f hf => by rw [zi_ui, zi_ul]; split; rw [if_neg (by omega)]; rfl) (by rw [zl_ui, zl_ul, if_pos rfl, if_neg (by omega)])
      exact ih (i + 1) v2 (zui (zul S 30 (i + 1) 1000000001) 31 (i + 1) 0) (by omega) (by omega) (by rw [zr1, ← eS]) hR2 hT2 (by rw [ev2, ev1]; exact (hkx.up rfl).up rfl)
set_option maxHeartbeats 4000000 in
set_option maxRecDepth 100000 in
theorem lp_C_prep2 {p : Program} {l : Launch} {e : Env} {R : Room} {s : State} {m : MethodId} {args : Array Value} {below : List Frame} {meth : Method} {c : Code} {Q : State → Prop} {G : vv_G} {v0 : vv_V} {kc ks : Nat} {o : Nat} {la : Nat → Nat} {cw : Nat} {ra ea ca oa na ia : Nat → Nat} {S1 : zS} (C : vC p s m args meth c b_C_prepareCustomersForTick 4 none "CustomerNotices" G) (hB : zc S1 1 ≤ 200 ∧ zc S1 0 ≤ 40) (hB2 : zB2 S1) (hB9 : zB9 S1) (hRm : 3 ≤ R.frames ∧ 64 ≤ R.locals) (hRc : kc ≤ R.cells ∧ ks ≤ R.slots) (kx : ∀ (v : vv_V) (S : zS), S = zr2 S1 (zc S1 1) → RC G v o la cw S ra ea ca oa na ia → RT v S ca oa → vkp (fun k _ => k = 0) v0 v → vV p l e R s m args below meth c Q G 4 v kc ks 108 [(1, .int (nI (zc S1 1))), (0, .ref o)] []) : ∀ (n : Nat) (i : Nat) (v : vv_V) (S : zS), i ≤ zc S1 1 → zc S1 1 + 1 ≤ i + n → S = zr2 S1 i → RC G v o la cw S ra ea ca oa na ia → RT v S ca oa → vkp (fun k _ => k = 0) v0 v → vV p l e R s m args below meth c Q G 4 v kc ks 45 [(1, .int (nI i)), (0, .ref o)] [] := by
  intro n
  induction n with
  | zero => intro i v S hi1 hi2 eS hRC hRT hkx; exfalso; omega
  | succ n ih =>
    intro i v S hi1 hi2 eS hRC hRT hkx
    have hcS : ∀ f, zc S f = zc S1 f := fun f => by rw [eS, zr2_c]
    have hc1S := hcS 1
    have hc0S := hcS 0
    have hB2S : zB2 S := fun n h1 h2 => by rw [hcS 0, eS, zr2_i, zr2_i]; exact hB2 n h1 (by omega)
    obtain ⟨hA, ⟨gw, hW, hWj⟩, hLs, hKs, hNs, hIs, hD1, hD2, hD3, hD4⟩ := id hRC
    obtain ⟨⟨mo1, hl1⟩, hlb1, hlc1, hld1⟩ := hLs 1 (by decide)
    refine v_iload_n C 0 d_C_prepareCustomersForTick_45 rfl rfl ?_
    refine v_aload_n C 1 d_C_prepareCustomersForTick_46 rfl rfl ?_
    refine v_get C k_C hA 1 (by decide) tw_79 (fun _ h => h) rfl d_C_prepareCustomersForTick_47 ?_
    refine v_callV (rest := [.int (nI i)]) C (c_LA_size l G v (la 1) (ra 1) (zc S 1) (ea 1) _ (hLs 1 (by decide))) tw_117 tw_33 tw_114 tw_115 tw_116 mn_AL_size hl1 k_AL.1 ⟨Nat.le_trans (Nat.le_of_ble_eq_true rfl) hRm.1, Nat.le_trans (Nat.le_of_ble_eq_true rfl) hRm.2⟩ rfl rfl (Nat.le_of_ble_eq_true rfl) d_C_prepareCustomersForTick_50 ⟨hRc.1, hRc.2⟩ (fun r_1 v_2 hp_3 => ?_)
    obtain ⟨rfl, hv9⟩ := hp_3
    obtain rfl := hv9.symm
    show vV _ _ _ _ _ _ _ _ _ _ _ _ _ v kc ks 53 [(1, .int (nI i)), (0, .ref o)] [.int (nI (zc S 1)), .int (nI i)]
    refine v_icmp_ge C 108 d_C_prepareCustomersForTick_53 (by decide) (fun c_53 => ?_) (fun c_53 => ?_)
    · have n_53 : (zc S 1) ≤ i := (nI_leI (a := (zc S 1)) (b := i) (by omega) (by omega)).mp c_53
      have hj4 : i = zc S1 1 := by omega
      subst hj4
      exact kx v S eS hRC hRT hkx
    · have n_53 : ¬ (zc S 1) ≤ i := mt (nI_leI (a := (zc S 1)) (b := i) (by omega) (by omega)).mpr c_53
      refine v_aload_n C 1 d_C_prepareCustomersForTick_56 rfl rfl ?_
      refine v_get C k_C hA 1 (by decide) tw_79 (fun _ h => h) rfl d_C_prepareCustomersForTick_57 ?_
      refine v_iload_n C 0 d_C_prepareCustomersForTick_60 rfl rfl ?_
      refine v_callV (rest := []) C (c_LA_get l G v (la 1) (ra 1) (zc S 1) (ea 1) i _ (hLs 1 (by decide)) (by omega)) tw_218 tw_33 tw_215 tw_216 tw_217 mn_AL_get hl1 k_AL.1 ⟨Nat.le_trans (Nat.le_of_ble_eq_true rfl) hRm.1, Nat.le_trans (Nat.le_of_ble_eq_true rfl) hRm.2⟩ rfl rfl (Nat.le_of_ble_eq_true rfl) d_C_prepareCustomersForTick_61 ⟨hRc.1, hRc.2⟩ (fun r_4 v_5 hp_6 => ?_)
      obtain ⟨rfl, hv9⟩ := hp_6
      obtain rfl := hv9.symm
      show vV _ _ _ _ _ _ _ _ _ _ _ _ _ v kc ks 64 [(1, .int (nI i)), (0, .ref o)] [.ref (na i)]
      obtain ⟨ch, msg, sent, hn0, hns⟩ := hNs i (by omega)
      refine v_cast C tw_319 tw_688 hn0 k_N.1 d_C_prepareCustomersForTick_64 ?_
      refine v_astore_n (lv' := [(2, .ref (na i)), (1, .int (nI i)), (0, .ref o)]) C d_C_prepareCustomersForTick_67 rfl (by decide) rfl ?_
      refine v_aload_n C 0 d_C_prepareCustomersForTick_68 rfl rfl ?_
      refine v_get C k_N hn0 5 (by decide) tw_337 (fun _ h => h) rfl d_C_prepareCustomersForTick_69 ?_
      refine v_if_ne C 102 d_C_prepareCustomersForTick_72 (by decide) (fun c_72 => ?_) (fun c_72 => ?_)
      · refine v_iinc (y := (nI (i + 1))) (lv' := [(1, .int (nI (i + 1))), (2, .ref (na i)), (0, .ref o)]) C 1 d_C_prepareCustomersForTick_102 rfl (nI_1 _) (by decide) rfl ?_
        refine v_goto C 45 d_C_prepareCustomersForTick_105 (by decide) ?_
        refine v_sub [0, 2] rfl ?_
        exact ih (i + 1) v S (by omega) (by omega) (by rw [zr2, ← eS, if_neg (fun z => c_72 z.1)]) hRC hRT hkx
      · refine v_aload_n C 0 d_C_prepareCustomersForTick_75 rfl rfl ?_
        refine v_callV (rest := []) C (c_N_isMarked l G v _ _ _ _ _ _ _ _ _ _ _ _ _ hn0) tw_395 tw_43 tw_392 tw_393 tw_394 mn_N_isMarked hn0 k_N.1 ⟨Nat.le_trans (Nat.le_of_ble_eq_true rfl) hRm.1, Nat.le_trans (Nat.le_of_ble_eq_true rfl) hRm.2⟩ rfl rfl (Nat.le_of_ble_eq_true rfl) d_C_prepareCustomersForTick_76 ⟨hRc.1, hRc.2⟩ (fun r_7 v_8 hp_9 => ?_)
        rcases hp_9 with ⟨rfl, hv9, hb_76⟩ | ⟨rfl, hv9, hb_76⟩
        · obtain rfl := hv9.symm
          show vV _ _ _ _ _ _ _ _ _ _ _ _ _ v kc ks 79 [(2, .ref (na i)), (1, .int (nI i)), (0, .ref o)] [.int 1]
          refine v_if_ne C 102 d_C_prepareCustomersForTick_79 (by decide) (fun _ => ?_) (fun z => absurd z (by decide))
          refine v_iinc (y := (nI (i + 1))) (lv' := [(1, .int (nI (i + 1))), (2, .ref (na i)), (0, .ref o)]) C 1 d_C_prepareCustomersForTick_102 rfl (nI_1 _) (by decide) rfl ?_
          refine v_goto C 45 d_C_prepareCustomersForTick_105 (by decide) ?_
          refine v_sub [0, 2] rfl ?_
          exact ih (i + 1) v S (by omega) (by omega) (by rw [zr2, ← eS, if_neg (fun z => z.2.1 hb_76)]) hRC hRT hkx
        · obtain rfl := hv9.symm
          show vV _ _ _ _ _ _ _ _ _ _ _ _ _ v kc ks 79 [(2, .ref (na i)), (1, .int (nI i)), (0, .ref o)] [.int 0]
          refine v_if_ne C 102 d_C_prepareCustomersForTick_79 (by decide) (fun z => absurd (by decide) z) (fun _ => ?_)
          refine v_aload_n C 0 d_C_prepareCustomersForTick_82 rfl rfl ?_
          refine v_get C k_N hn0 1 (by decide) tw_329 (fun _ h => h) rfl d_C_prepareCustomersForTick_83 ?_
          obtain ⟨cn, kd, e10, hc1, hc2, e12, hk7⟩ := hB2S (i + 1) (by omega) (by omega)
          obtain ⟨c9, rfl⟩ : ∃ c9, cn = c9 + 1 := ⟨cn - 1, by omega⟩
          have e10n : zn (zi S 10 (i + 1)) = c9 + 1 := by rw [e10, zn_nI (by omega)]
          have e109 : zn (zi S 10 (i + 1)) - 1 = c9 := by rw [e10n, Nat.add_sub_cancel]
          refine v_tov (y := .ref (ca c9)) (by rw [e109]) ?_
          obtain ⟨lw, hk0, hlw⟩ := hRT c9 (by omega)
          refine v_astore_n (lv' := [(3, .ref (ca c9)), (2, .ref (na i)), (1, .int (nI i)), (0, .ref o)]) C d_C_prepareCustomersForTick_86 rfl (by decide) rfl ?_
          refine v_aload_n C 0 d_C_prepareCustomersForTick_87 rfl rfl ?_
          refine v_aload_n C 0 d_C_prepareCustomersForTick_88 rfl rfl ?_
          refine v_get C k_K hk0 5 (by decide) tw_133 (fun _ h => h) rfl d_C_prepareCustomersForTick_89 ?_
          refine v_aload_n C 1 d_C_prepareCustomersForTick_92 rfl rfl ?_
          refine v_get C k_N hn0 4 (by decide) tw_335 (fun _ h => h) rfl d_C_prepareCustomersForTick_93 ?_
          refine v_callS (rest := [.ref (ca c9)]) C (c_Ma_min_JJJ l G v lw (zl S 13 (i + 1))) tw_398 tw_37 tw_396 tw_397 mn_Ma_min_JJJ ⟨Nat.le_trans (Nat.le_of_ble_eq_true rfl) hRm.1, Nat.le_trans (Nat.le_of_ble_eq_true rfl) hRm.2⟩ rfl rfl (Nat.le_of_ble_eq_true rfl) d_C_prepareCustomersForTick_96 ⟨hRc.1, hRc.2⟩ (fun r_10 v_11 hp_12 => ?_)
          obtain ⟨rfl, hv9⟩ := hp_12
          obtain rfl := hv9.symm
          show vV _ _ _ _ _ _ _ _ _ _ _ _ _ v kc ks 99 [(3, .ref (ca c9)), (2, .ref (na i)), (1, .int (nI i)), (0, .ref o)] [.long (if ((zl S 13 (i + 1))).toInt < (lw).toInt then (zl S 13 (i + 1)) else lw), .ref (ca c9)]
          refine v_put C k_K hk0 5 (by decide) tw_133 (fun _ h => h) rfl rfl rfl (Nat.le_of_ble_eq_true rfl) d_C_prepareCustomersForTick_99 ?_
          refine v_view (fun v1 ev1 => ?_)
          have he_13 : v1 3 o = some (.inr (3, [.ref (la 0), .ref (la 1), .ref (la 2), .ref (la 3), .ref (la 4), .ref cw, .long (zl S 0 0), .int (zi S 1 0)])) := by rw [ev1]; exact (vv_up_k _ _ _ _ (by decide)).trans hA
          have he_14 : v1 5 (la 1) = some (.inr (5, [.ref (ra 1), .int (nI (zc S 1)), .int mo1])) := by rw [ev1]; exact (vv_up_k _ _ _ _ (by decide)).trans hl1
          have he_15 : v1 2 (na i) = some (.inr (2, [.int (nI (i + 1)), .ref (ca (zn (zi S 10 (i + 1)) - 1)), .int (zi S 11 (i + 1)), .int (zi S 12 (i + 1)), .long (zl S 13 (i + 1)), .int (zi S 15 (i + 1)), .long (zl S 14 (i + 1)), .int (zi S 16 (i + 1)), .int (zi S 17 (i + 1)), .int ch, .int msg, .long sent])) := by rw [ev1]; exact (vv_up_k _ _ _ _ (by decide)).trans hn0
          have he_16 : v1 0 (ca c9) = some (.inr (0, [.int (nI (c9 + 1)), .int (zi S 4 (c9 + 1)), .int (zi S 5 (c9 + 1)), .int (zi S 6 (c9 + 1)), .int (zi S 7 (c9 + 1)), .long (if ((zl S 13 (i + 1))).toInt < (lw).toInt then (zl S 13 (i + 1)) else lw), .int (zi S 31 (c9 + 1)), .ref (oa c9)])) := by rw [ev1]; exact vv_up_s _ _ _ _
          refine v_iinc (y := (nI (i + 1))) (lv' := [(1, .int (nI (i + 1))), (3, .ref (ca c9)), (2, .ref (na i)), (0, .ref o)]) C 2 d_C_prepareCustomersForTick_102 rfl (nI_1 _) (by decide) rfl ?_
          refine v_goto C 45 d_C_prepareCustomersForTick_105 (by decide) ?_
          refine v_sub [0, 3] rfl ?_
          have hR1 := hRC.cust (S' := S) (v' := v1) (by omega) (j0 := c9) (by omega) (by rw [ev1]; exact vkp.rf.up ⟨rfl, rfl⟩) ⟨_, _, he_16⟩ (fun _ => rfl) (fun _ _ _ _ => rfl) (fun _ _ => ⟨rfl, rfl⟩) (fun _ _ => rfl)
          have ht := hB9.2.1 (i + 1)
          rw [← zr2_l S1 i 13 (i + 1) (by decide), ← eS] at ht
          have hkx2 : vkp (fun k _ => k = 0) v0 v1 := by rw [ev1]; exact hkx.up rfl
          have hkc : ∀ j, j ≠ c9 → j < zc S 0 → ∀ y, v 0 (ca j) = some y → v1 0 (ca j) = some y := fun j h1 h2 y hy => by rw [ev1, vv_up_a _ _ _ _ (fun z => h1 (hRC.caI (by omega) h2 (by omega) z))]; exact hy
          by_cases hlt : (zl S 13 (i + 1)).toInt < (zl S 30 (c9 + 1)).toInt
          · exact ih (i + 1) v1 (zul S 30 (c9 + 1) (zl S 13 (i + 1))) (by omega) (by omega) (by rw [zr2, ← eS, e10n, if_pos ⟨c_72, hb_76, hlt⟩]) (hR1.scr (S' := (zul S 30 (c9 + 1) (zl S 13 (i + 1)))) (fun _ => rfl) (fun _ _ _ => rfl) (fun f i h => by rw [zl_ul, if_neg h])) (fun j hj => by
              by_cases c8 : j = c9
              · subst c8; exact ⟨_, he_16, (by rw [zl_ul, if_pos rfl, if_pos rfl]; split <;> omega)⟩
              · exact (hRT j hj).tr (hkc j c8 hj) (fun _ _ => rfl) (by rw [zl_ul, if_pos rfl, if_neg (by omega)])) hkx2
          · exact ih (i + 1) v1 S (by omega) (by omega) (by rw [zr2, ← eS, e10n, if_neg (fun z => hlt z.2.2)]) hR1 (fun j hj => by
              by_cases c8 : j = c9
              · subst c8; exact ⟨_, he_16, (by split <;> omega)⟩
              · exact (hRT j hj).tr (hkc j c8 hj) (fun _ _ => rfl) rfl) hkx2
theorem zr1_B9 {S : zS} (h : zB9 S) (j : Nat) : zB9 (zr1 S j) := by
  obtain ⟨a1, a2, a3, a4, a5, a6, a7⟩ := h
  refine ⟨fun n => ?_, fun n => ?_, ?_, fun n => ?_, fun n => ?_, ?_, fun n => ?_⟩
  · rw [zr1_l _ _ _ _ (by decide)]; exact a1 n
  · rw [zr1_l _ _ _ _ (by decide)]; exact a2 n
  · rw [zr1_l _ _ _ _ (by decide)]; exact a3
  · rw [zr1_i _ _ _ _ (by decide)]; exact a4 n
  · rw [zr1_i _ _ _ _ (by decide), zr1_i _ _ _ _ (by decide)]; exact a5 n
  · rw [zr1_i _ _ _ _ (by decide)]; exact a6
  · rw [zr1_i _ _ _ _ (by decide)]; exact a7 n
set_option maxHeartbeats 4000000 in
set_option maxRecDepth 100000 in
theorem c_C_prepare (l : Launch) (G : vv_G) (v : vv_V) (o : Nat) (la : Nat → Nat) (cw : Nat) (S : zS) (ra ea ca oa na ia : Nat → Nat)  (hRC : RC G v o la cw S ra ea ca oa na ia) (hB : zB S) (hB2 : zB2 S) (hB9 : zB9 S) : Mv l y_C_prepareCustomersForTick b_C_prepareCustomersForTick 4 none 3 64 G v [.ref o] (fun r v' => r = none ∧ (RC G v' o la cw (zr2 (zr1 S (zc S 0)) (zc S 1)) ra ea ca oa na ia ∧ RT v' (zr2 (zr1 S (zc S 0)) (zc S 1)) ca oa) ∧ vkp (fun k _ => k = 0) v v') 0 0 := by
  refine vv_metF (own := "CustomerNotices") (nm := "prepareCustomersForTick") pf_C_prepareCustomersForTick rfl rfl (Nat.le_of_ble_eq_true rfl) ?_
  intro p e s m below meth c C hin
  obtain ⟨hA, ⟨gw, hW, hWj⟩, hLs, hKs, hNs, hIs, hD1, hD2, hD3, hD4⟩ := id hRC
  obtain ⟨hb0, hb1, hb2, hb22⟩ := id hB
  show vV _ _ _ _ _ _ _ _ _ _ _ _ _ v 0 0 0 [(0, .ref o)] []
  refine v_iconst (x := 0) C d_C_prepareCustomersForTick_0 (by decide) ?_
  refine v_istore_n (lv' := [(1, .int 0), (0, .ref o)]) C d_C_prepareCustomersForTick_1 rfl (by decide) rfl ?_
  refine v_sub [0, 1] rfl ?_
  refine lp_C_prep1 (v0 := v) (S1 := S) C ⟨by omega, by omega⟩ ⟨Nat.le_of_ble_eq_true rfl, Nat.le_of_ble_eq_true rfl⟩ ⟨Nat.le_refl _, Nat.le_refl _⟩ (fun va Sa eSa hRCa hTa hka => ?_) (zc S 0 + 1) 0 v S (by omega) (by omega) rfl hRC (fun j hj => absurd hj (Nat.not_lt_zero _)) vkp.rf
  have hcA : ∀ f, zc Sa f = zc S f := fun f => by rw [eSa, zr1_c]
  have hcA1 := hcA 1
  have hcA0 := hcA 0
  have hB2a : zB2 Sa := fun n h1 h2 => by rw [hcA 0, eSa, zr1_i _ _ _ _ (by decide), zr1_i _ _ _ _ (by decide)]; exact hB2 n h1 (by omega)
  have hB9a : zB9 Sa := by rw [eSa]; exact zr1_B9 hB9 _
  show vV _ _ _ _ _ _ _ _ _ _ _ _ _ va 0 0 43 [(1, .int (nI (zc S 0))), (0, .ref o)] []
  refine v_iconst (x := 0) C d_C_prepareCustomersForTick_43 (by decide) ?_
  refine v_istore_n (lv' := [(1, .int 0), (0, .ref o)]) C d_C_prepareCustomersForTick_44 rfl (by decide) rfl ?_
  refine v_sub [0, 1] rfl ?_
  refine lp_C_prep2 (v0 := va) (S1 := Sa) C ⟨by omega, by omega⟩ hB2a hB9a ⟨Nat.le_of_ble_eq_true rfl, Nat.le_of_ble_eq_true rfl⟩ ⟨Nat.le_refl _, Nat.le_refl _⟩ (fun vb Sb eSb hRCb hTb hkb => ?_) (zc Sa 1 + 1) 0 va Sa (by omega) (by omega) rfl hRCa hTa vkp.rf
  show vV _ _ _ _ _ _ _ _ _ _ _ _ _ vb 0 0 108 [(1, .int (nI (zc Sa 1))), (0, .ref o)] []
  exact v_vret C d_C_prepareCustomersForTick_108 (by first | exact Nat.le_of_ble_eq_true rfl | (show _ ≤ _; omega)) (by first | exact Nat.le_of_ble_eq_true rfl | (show _ ≤ _; omega)) ⟨rfl, (by rw [← eSa, ← hcA1, ← eSb]; exact ⟨hRCb, hTb⟩), hka.tr hkb⟩
set_option maxHeartbeats 4000000 in
set_option maxRecDepth 100000 in
theorem c_C_isDue (l : Launch) (G : vv_G) (v : vv_V) (o : Nat) (la : Nat → Nat) (cw : Nat) (S : zS) (ra ea ca oa na ia : Nat → Nat) (j0 : Nat) (hRC : RC G v o la cw S ra ea ca oa na ia) (hj0 : j0 < zc S 1) (hB : zB S) (hB2 : zB2 S) (hB9 : zB9 S) (hRT : RT v S ca oa) (hle : ¬ zi S 12 (j0 + 1) = 7 → (zl S 30 (zn (zi S 10 (j0 + 1)))).toInt ≤ (zl S 13 (j0 + 1)).toInt) : Mv l y_C_isDue b_C_isDue 2 (some FieldType.boolean) 1 20 G v [.ref o, .ref (na j0)] (fun r v' => (r = some (.int 1) ∧ v' = v ∧ ((zl S 13 (j0 + 1)).toInt ≤ (zl S 0 0).toInt ∧ (zi S 12 (j0 + 1) = 7 ∨ (zl S 30 (zn (zi S 10 (j0 + 1))) + (zi S 1 0).toInt64).toInt ≤ (zl S 0 0).toInt))) ∨ (r = some (.int 0) ∧ v' = v ∧ ¬ ((zl S 13 (j0 + 1)).toInt ≤ (zl S 0 0).toInt ∧ (zi S 12 (j0 + 1) = 7 ∨ (zl S 30 (zn (zi S 10 (j0 + 1))) + (zi S 1 0).toInt64).toInt ≤ (zl S 0 0).toInt)))) 0 0 := by
  refine vv_metF (own := "CustomerNotices") (nm := "isDue") pf_C_isDue rfl rfl (Nat.le_of_ble_eq_true rfl) ?_
  intro p e s m below meth c C hin
  obtain ⟨hA, ⟨gw, hW, hWj⟩, hLs, hKs, hNs, hIs, hD1, hD2, hD3, hD4⟩ := id hRC
  obtain ⟨hb0, hb1, hb2, hb22⟩ := id hB
  obtain ⟨ch, msg, sent, hn0, hns⟩ := hNs j0 hj0
  show vV _ _ _ _ _ _ _ _ _ _ _ _ _ v 0 0 0 [(0, .ref o), (1, .ref (na j0))] []
  refine v_aload_n C 1 d_C_isDue_0 rfl rfl ?_
  refine v_get C k_N hn0 4 (by decide) tw_335 (fun _ h => h) rfl d_C_isDue_1 ?_
  refine v_aload_n C 0 d_C_isDue_4 rfl rfl ?_
  refine v_get C k_C hA 6 (by decide) tw_84 (fun _ h => h) rfl d_C_isDue_5 ?_
  refine v_lcmp C d_C_isDue_8 ?_
  refine v_if_le C 14 d_C_isDue_9 (by decide) (fun c_9 => ?_) (fun c_9 => ?_)
  · refine v_aload_n C 1 d_C_isDue_14 rfl rfl ?_
    refine v_callV (rest := []) C (c_N_isMarked l G v _ _ _ _ _ _ _ _ _ _ _ _ _ hn0) tw_395 tw_43 tw_392 tw_393 tw_394 mn_N_isMarked hn0 k_N.1 ⟨Nat.le_of_ble_eq_true rfl, Nat.le_of_ble_eq_true rfl⟩ rfl rfl (Nat.le_of_ble_eq_true rfl) d_C_isDue_15 ⟨(by first | exact Nat.le_of_ble_eq_true rfl | (dsimp only; omega)), (by first | exact Nat.le_of_ble_eq_true rfl | (dsimp only; omega))⟩ (fun r_1 v_2 hp_3 => ?_)
    rcases hp_3 with ⟨rfl, hv9, hb_15⟩ | ⟨rfl, hv9, hb_15⟩
    · obtain rfl := hv9.symm
      show vV _ _ _ _ _ _ _ _ _ _ _ _ _ v 0 0 18 [(0, .ref o), (1, .ref (na j0))] [.int 1]
      refine v_if_ne C 42 d_C_isDue_18 (by decide) (fun _ => ?_) (fun z => absurd z (by decide))
      refine v_iconst (x := 1) C d_C_isDue_42 (by decide) ?_
      refine v_goto C 47 d_C_isDue_43 (by decide) ?_
      exact v_zret C d_C_isDue_47 (by first | exact Nat.le_of_ble_eq_true rfl | (show _ ≤ _; omega)) (by first | exact Nat.le_of_ble_eq_true rfl | (show _ ≤ _; omega)) (by decide) (Or.inl ⟨rfl, rfl, lc_le.mp c_9, Or.inl hb_15⟩)
    · obtain rfl := hv9.symm
      show vV _ _ _ _ _ _ _ _ _ _ _ _ _ v 0 0 18 [(0, .ref o), (1, .ref (na j0))] [.int 0]
      refine v_if_ne C 42 d_C_isDue_18 (by decide) (fun z => absurd (by decide) z) (fun _ => ?_)
      refine v_aload_n C 0 d_C_isDue_21 rfl rfl ?_
      refine v_get C k_C hA 6 (by decide) tw_84 (fun _ h => h) rfl d_C_isDue_22 ?_
      refine v_aload_n C 1 d_C_isDue_25 rfl rfl ?_
      refine v_get C k_N hn0 1 (by decide) tw_329 (fun _ h => h) rfl d_C_isDue_26 ?_
      obtain ⟨cn, kd, e10, hc1, hc2, e12, hk7⟩ := hB2 (j0 + 1) (by omega) (by omega)
      obtain ⟨c9, rfl⟩ : ∃ c9, cn = c9 + 1 := ⟨cn - 1, by omega⟩
      have e10n : zn (zi S 10 (j0 + 1)) = c9 + 1 := by rw [e10, zn_nI (by omega)]
      have e109 : zn (zi S 10 (j0 + 1)) - 1 = c9 := by rw [e10n, Nat.add_sub_cancel]
      refine v_tov (y := .ref (ca c9)) (by rw [e109]) ?_
      obtain ⟨lw, hk0, hlw⟩ := hRT c9 (by omega)
      have ht := hB9.2.1 (j0 + 1)
      have hl1 := hle hb_15
      rw [e10n] at hl1
      have elw : lw = zl S 30 (c9 + 1) := Int64.toInt_inj.mp (by omega)
      refine v_get C k_K hk0 5 (by decide) tw_133 (fun _ h => h) rfl d_C_isDue_29 ?_
      refine v_aload_n C 0 d_C_isDue_32 rfl rfl ?_
      refine v_get C k_C hA 7 (by decide) tw_85 (fun _ h => h) rfl d_C_isDue_33 ?_
      refine v_i2l (y := (Int32.toInt64 (zi S 1 0))) C d_C_isDue_36 rfl ?_
      refine v_ladd C d_C_isDue_37 ?_
      refine v_lcmp C d_C_isDue_38 ?_
      refine v_if_lt C 46 d_C_isDue_39 (by decide) (fun c_39 => ?_) (fun c_39 => ?_)
      · refine v_iconst (x := 0) C d_C_isDue_46 (by decide) ?_
        exact v_zret C d_C_isDue_47 (by first | exact Nat.le_of_ble_eq_true rfl | (show _ ≤ _; omega)) (by first | exact Nat.le_of_ble_eq_true rfl | (show _ ≤ _; omega)) (by decide) (Or.inr ⟨rfl, rfl, fun z => z.2.elim hb_15 (fun y => absurd (lc_lt.mp c_39) (Int.not_lt.mpr (by rw [e10n, ← elw] at y; exact y)))⟩)
      · refine v_iconst (x := 1) C d_C_isDue_42 (by decide) ?_
        refine v_goto C 47 d_C_isDue_43 (by decide) ?_
        exact v_zret C d_C_isDue_47 (by first | exact Nat.le_of_ble_eq_true rfl | (show _ ≤ _; omega)) (by first | exact Nat.le_of_ble_eq_true rfl | (show _ ≤ _; omega)) (by decide) (Or.inl ⟨rfl, rfl, lc_le.mp c_9, Or.inr (by rw [e10n, ← elw]; exact Int.not_lt.mp (fun z => c_39 (lc_lt.mpr z)))⟩)
  · refine v_iconst (x := 0) C d_C_isDue_12 (by decide) ?_
    exact v_zret C d_C_isDue_13 (by first | exact Nat.le_of_ble_eq_true rfl | (show _ ≤ _; omega)) (by first | exact Nat.le_of_ble_eq_true rfl | (show _ ≤ _; omega)) (by decide) (Or.inr ⟨rfl, rfl, fun z => c_9 (lc_le.mpr z.1)⟩)
set_option maxHeartbeats 4000000 in
set_option maxRecDepth 100000 in
theorem c_C_isHeld (l : Launch) (G : vv_G) (v : vv_V) (o : Nat) (la : Nat → Nat) (cw : Nat) (S : zS) (ra ea ca oa na ia : Nat → Nat) (j0 : Nat) (hRC : RC G v o la cw S ra ea ca oa na ia) (hj0 : j0 < zc S 1) (hB : zB S) (hB2 : zB2 S) (hB9 : zB9 S) : Mv l y_C_isHeldByQuiet b_C_isHeldByQuiet 2 (some FieldType.boolean) 2 49 G v [.ref o, .ref (na j0)] (fun r v' => (r = some (.int 1) ∧ v' = v ∧ (¬ zi S 12 (j0 + 1) = 7 ∧ zqu S (zn (zi S 10 (j0 + 1))))) ∨ (r = some (.int 0) ∧ v' = v ∧ ¬ (¬ zi S 12 (j0 + 1) = 7 ∧ zqu S (zn (zi S 10 (j0 + 1)))))) 0 0 := by
  refine vv_metF (own := "CustomerNotices") (nm := "isHeldByQuiet") pf_C_isHeldByQuiet rfl rfl (Nat.le_of_ble_eq_true rfl) ?_
  intro p e s m below meth c C hin
  obtain ⟨hA, ⟨gw, hW, hWj⟩, hLs, hKs, hNs, hIs, hD1, hD2, hD3, hD4⟩ := id hRC
  obtain ⟨hb0, hb1, hb2, hb22⟩ := id hB
  obtain ⟨ch, msg, sent, hn0, hns⟩ := hNs j0 hj0
  show vV _ _ _ _ _ _ _ _ _ _ _ _ _ v 0 0 0 [(0, .ref o), (1, .ref (na j0))] []
  refine v_aload_n C 1 d_C_isHeldByQuiet_0 rfl rfl ?_
  refine v_callV (rest := []) C (c_N_isMarked l G v _ _ _ _ _ _ _ _ _ _ _ _ _ hn0) tw_395 tw_43 tw_392 tw_393 tw_394 mn_N_isMarked hn0 k_N.1 ⟨Nat.le_of_ble_eq_true rfl, Nat.le_of_ble_eq_true rfl⟩ rfl rfl (Nat.le_of_ble_eq_true rfl) d_C_isHeldByQuiet_1 ⟨(by first | exact Nat.le_of_ble_eq_true rfl | (dsimp only; omega)), (by first | exact Nat.le_of_ble_eq_true rfl | (dsimp only; omega))⟩ (fun r_1 v_2 hp_3 => ?_)
  rcases hp_3 with ⟨rfl, hv9, hb_1⟩ | ⟨rfl, hv9, hb_1⟩
  · obtain rfl := hv9.symm
    show vV _ _ _ _ _ _ _ _ _ _ _ _ _ v 0 0 4 [(0, .ref o), (1, .ref (na j0))] [.int 1]
    refine v_if_ne C 25 d_C_isHeldByQuiet_4 (by decide) (fun _ => ?_) (fun z => absurd z (by decide))
    refine v_iconst (x := 0) C d_C_isHeldByQuiet_25 (by decide) ?_
    exact v_zret C d_C_isHeldByQuiet_26 (by first | exact Nat.le_of_ble_eq_true rfl | (show _ ≤ _; omega)) (by first | exact Nat.le_of_ble_eq_true rfl | (show _ ≤ _; omega)) (by decide) (Or.inr ⟨rfl, rfl, fun z => z.1 hb_1⟩)
  · obtain rfl := hv9.symm
    show vV _ _ _ _ _ _ _ _ _ _ _ _ _ v 0 0 4 [(0, .ref o), (1, .ref (na j0))] [.int 0]
    refine v_if_ne C 25 d_C_isHeldByQuiet_4 (by decide) (fun z => absurd (by decide) z) (fun _ => ?_)
    refine v_aload_n C 1 d_C_isHeldByQuiet_7 rfl rfl ?_
    refine v_get C k_N hn0 1 (by decide) tw_329 (fun _ h => h) rfl d_C_isHeldByQuiet_8 ?_
    obtain ⟨cn, kd, e10, hc1, hc2, e12, hk7⟩ := hB2 (j0 + 1) (by omega) (by omega)
    obtain ⟨c9, rfl⟩ : ∃ c9, cn = c9 + 1 := ⟨cn - 1, by omega⟩
    have e10n : zn (zi S 10 (j0 + 1)) = c9 + 1 := by rw [e10, zn_nI (by omega)]
    refine v_tov (y := .ref (ca c9)) (by rw [e10n, Nat.add_sub_cancel]) ?_
    obtain ⟨⟨lw, mt0, hk0⟩, g, hg0, hgv⟩ := hKs c9 (by omega)
    refine v_aload_n C 0 d_C_isHeldByQuiet_11 rfl rfl ?_
    refine v_get C k_C hA 6 (by decide) tw_84 (fun _ h => h) rfl d_C_isHeldByQuiet_12 ?_
    refine v_callV (rest := []) C (c_K_isQuietAt l G v (ca c9) _ _ _ _ _ _ _ _ (zl S 0 0) hk0) tw_410 tw_35 tw_407 tw_408 tw_409 mn_K_isQuietAt hk0 k_K.1 ⟨Nat.le_of_ble_eq_true rfl, Nat.le_of_ble_eq_true rfl⟩ rfl rfl (Nat.le_of_ble_eq_true rfl) d_C_isHeldByQuiet_15 ⟨(by first | exact Nat.le_of_ble_eq_true rfl | (dsimp only; omega)), (by first | exact Nat.le_of_ble_eq_true rfl | (dsimp only; omega))⟩ (fun r_4 v_5 hp_6 => ?_)
    rcases hp_6 with ⟨rfl, hv9, hb_15⟩ | ⟨rfl, hv9, hb_15⟩
    · obtain rfl := hv9.symm
      show vV _ _ _ _ _ _ _ _ _ _ _ _ _ v 0 0 18 [(0, .ref o), (1, .ref (na j0))] [.int 1]
      refine v_if_eq C 25 d_C_isHeldByQuiet_18 (by decide) (fun z => absurd z (by decide)) (fun _ => ?_)
      refine v_iconst (x := 1) C d_C_isHeldByQuiet_21 (by decide) ?_
      refine v_goto C 26 d_C_isHeldByQuiet_22 (by decide) ?_
      exact v_zret C d_C_isHeldByQuiet_26 (by first | exact Nat.le_of_ble_eq_true rfl | (show _ ≤ _; omega)) (by first | exact Nat.le_of_ble_eq_true rfl | (show _ ≤ _; omega)) (by decide) (Or.inl ⟨rfl, rfl, hb_1, (by rw [e10n]; exact (kqu_zqu hB9 _).mp hb_15)⟩)
    · obtain rfl := hv9.symm
      show vV _ _ _ _ _ _ _ _ _ _ _ _ _ v 0 0 18 [(0, .ref o), (1, .ref (na j0))] [.int 0]
      refine v_if_eq C 25 d_C_isHeldByQuiet_18 (by decide) (fun _ => ?_) (fun z => absurd (by decide) z)
      refine v_iconst (x := 0) C d_C_isHeldByQuiet_25 (by decide) ?_
      exact v_zret C d_C_isHeldByQuiet_26 (by first | exact Nat.le_of_ble_eq_true rfl | (show _ ≤ _; omega)) (by first | exact Nat.le_of_ble_eq_true rfl | (show _ ≤ _; omega)) (by decide) (Or.inr ⟨rfl, rfl, fun z => hb_15 ((kqu_zqu hB9 _).mpr (by rw [← e10n]; exact z.2))⟩)
