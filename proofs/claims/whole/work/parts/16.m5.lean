theorem zcho_lt {S : zS} {n q : Nat} (h : zcho S n = some q) : q < 4 := by
  unfold zcho at h
  split at h
  · split at h
    · cases h; decide
    · cases h
  · exact zbo_lt h
set_option maxHeartbeats 4000000 in
set_option maxRecDepth 100000 in
theorem lp_M_tick1 {p : Program} {l : Launch} {e : Env} {R : Room} {s : State} {m : MethodId} {args : Array Value} {below : List Frame} {meth : Method} {c : Code} {Q : State → Prop} {G : vv_G} {o : Nat} {ad : Nat → Nat} {S : zS} {v0 : vv_V} {kc ks : Nat} {t : Int64} (C : vC p s m args meth c b_M_tick 6 (some FieldType.int) "CustomerNoticesModel" G) (hB : zc S 0 ≤ 40) (kx : ∀ v : vv_V, RM G v o ad (zr1 S (zc S 0)) → vkeep (mX o ad) v0 v → vV p l e R s m args below meth c Q G 6 v kc ks 48 [(3, .int (nI (zc S 0 + 1))), (0, .ref o), (1, .long t)] []) : ∀ (n : Nat) (j : Nat) (v : vv_V), j ≤ zc S 0 → zc S 0 + 1 ≤ j + n → RM G v o ad (zr1 S j) → vkeep (mX o ad) v0 v → vV p l e R s m args below meth c Q G 6 v kc ks 18 [(3, .int (nI (j + 1))), (0, .ref o), (1, .long t)] [] := by
  intro n
  induction n with
  | zero => intro j v h1 h2 hR hk; exfalso; omega
  | succ n ih =>
    intro j v h1 h2 hR hk
    refine v_iload_n C 0 d_M_tick_18 rfl rfl ?_
    refine v_aload_n C 1 d_M_tick_19 rfl rfl ?_
    refine v_get C k_M hR.1 3 (by decide) tw_486 (fun _ h => h) rfl d_M_tick_20 ?_
    refine v_toi (y := nI (zc S 0)) (by rw [zr1_c]) ?_
    refine v_icmp_gt C 48 d_M_tick_23 (by decide) (fun c_23 => ?_) (fun c_23 => ?_)
    · have n_23 : (zc S 0) < (j + 1) := (nI_ltI (a := (zc S 0)) (b := (j + 1)) (by omega) (by omega)).mp c_23
      have hj4 : j = zc S 0 := by omega
      subst hj4
      exact kx v hR hk
    · have n_23 : ¬ (zc S 0) < (j + 1) := mt (nI_ltI (a := (zc S 0)) (b := (j + 1)) (by omega) (by omega)).mpr c_23
      refine v_aload_n C 1 d_M_tick_26 rfl rfl ?_
      refine v_get C k_M hR.1 30 (by decide) tw_513 (fun _ h => h) rfl d_M_tick_27 ?_
      refine v_iload_n C 0 d_M_tick_30 rfl rfl ?_
      refine v_ldc2 (x := 1000000001) C d_M_tick_31 tw_642 ?_
      refine v_lastN C (hR.ol (f := 30) (by decide)) (by show _ < 41; omega) (by decide) d_M_tick_34 ?_
      refine v_view (fun v1 ev1 => ?_)
      obtain ⟨S_1, eS_1⟩ : ∃ z, z = zul (zr1 S j) 30 (j + 1) 1000000001 := ⟨_, rfl⟩
      have hR_1 : RM G v1 o ad S_1 := by rw [eS_1]; exact (by rw [ev1]; exact hR.putl 30 (by decide) (j + 1) 1000000001)
      have hk_1 : vkeep (mX o ad) v0 v1 := by rw [ev1]; exact hk.up (mX_f (by decide))
      refine v_aload_n C 1 d_M_tick_35 rfl rfl ?_
      refine v_get C k_M hR_1.1 31 (by decide) tw_514 (fun _ h => h) rfl d_M_tick_36 ?_
      refine v_iload_n C 0 d_M_tick_39 rfl rfl ?_
      refine v_iconst (x := 0) C d_M_tick_40 (by decide) ?_
      refine v_iastN C (hR_1.oi (f := 31) (by decide)) (by show _ < 41; omega) (by decide) d_M_tick_41 ?_
      refine v_view (fun v2 ev2 => ?_)
      obtain ⟨S_2, eS_2⟩ : ∃ z, z = zui S_1 31 (j + 1) 0 := ⟨_, rfl⟩
      have hR_2 : RM G v2 o ad S_2 := by rw [eS_2]; exact (by rw [ev2]; exact hR_1.puti 31 (by decide) (j + 1) 0)
      have hk_2 : vkeep (mX o ad) v0 v2 := by rw [ev2]; exact hk_1.up (mX_f (by decide))
      refine v_iinc (y := (nI ((j + 1) + 1))) (lv' := [(3, .int (nI ((j + 1) + 1))), (0, .ref o), (1, .long t)]) C 0 d_M_tick_42 rfl (nI_1 _) (by decide) rfl ?_
      refine v_goto C 18 d_M_tick_45 (by decide) ?_
      refine v_sub [0, 1, 2] rfl ?_
      exact ih (j + 1) v2 (by omega) (by omega) (by subst eS_1 eS_2; exact hR_2) hk_2
set_option maxHeartbeats 4000000 in
set_option maxRecDepth 100000 in
theorem lp_M_tick2 {p : Program} {l : Launch} {e : Env} {R : Room} {s : State} {m : MethodId} {args : Array Value} {below : List Frame} {meth : Method} {c : Code} {Q : State → Prop} {G : vv_G} {o : Nat} {ad : Nat → Nat} {S : zS} {v0 : vv_V} {kc ks : Nat} {t : Int64} (C : vC p s m args meth c b_M_tick 6 (some FieldType.int) "CustomerNoticesModel" G) (hB : zc S 0 ≤ 40 ∧ zc S 1 ≤ 200) (hB2 : zB2 S) (kx : ∀ v : vv_V, RM G v o ad (zr2 S (zc S 1)) → vkeep (mX o ad) v0 v → vV p l e R s m args below meth c Q G 6 v kc ks 122 [(3, .int (nI (zc S 1 + 1))), (0, .ref o), (1, .long t)] []) : ∀ (n : Nat) (j : Nat) (v : vv_V), j ≤ zc S 1 → zc S 1 + 1 ≤ j + n → RM G v o ad (zr2 S j) → vkeep (mX o ad) v0 v → vV p l e R s m args below meth c Q G 6 v kc ks 50 [(3, .int (nI (j + 1))), (0, .ref o), (1, .long t)] [] := by
  intro n
  induction n with
  | zero => intro j v h1 h2 hR hk; exfalso; omega
  | succ n ih =>
    intro j v h1 h2 hR hk
    refine v_iload_n C 0 d_M_tick_50 rfl rfl ?_
    refine v_aload_n C 1 d_M_tick_51 rfl rfl ?_
    refine v_get C k_M hR.1 9 (by decide) tw_492 (fun _ h => h) rfl d_M_tick_52 ?_
    refine v_toi (y := nI (zc S 1)) (by rw [zr2_c]) ?_
    refine v_icmp_gt C 122 d_M_tick_55 (by decide) (fun c_55 => ?_) (fun c_55 => ?_)
    · have n_55 : (zc S 1) < (j + 1) := (nI_ltI (a := (zc S 1)) (b := (j + 1)) (by omega) (by omega)).mp c_55
      have hj4 : j = zc S 1 := by omega
      subst hj4
      exact kx v hR hk
    · have n_55 : ¬ (zc S 1) < (j + 1) := mt (nI_ltI (a := (zc S 1)) (b := (j + 1)) (by omega) (by omega)).mpr c_55
      obtain ⟨cn, kd, e10, hc1, hc2, e12, hk7⟩ := hB2 (j + 1) (by omega) (by omega)
      rw [← zr2_i S j] at e10
      have e13 : zn (zi (zr2 S j) 10 (j + 1)) = cn := by rw [e10]; exact zn_nI (by omega)
      refine v_aload_n C 1 d_M_tick_58 rfl rfl ?_
      refine v_get C k_M hR.1 15 (by decide) tw_498 (fun _ h => h) rfl d_M_tick_59 ?_
      refine v_iload_n C 0 d_M_tick_62 rfl rfl ?_
      refine v_ialdN C (hR.oi (f := 15) (by decide)) (by show _ < 201; omega) (by decide) d_M_tick_63 ?_
      refine v_if_ne C 116 d_M_tick_64 (by decide) (fun c_64 => ?_) (fun c_64 => ?_)
      · refine v_iinc (y := (nI ((j + 1) + 1))) (lv' := [(3, .int (nI ((j + 1) + 1))), (0, .ref o), (1, .long t)]) C 0 d_M_tick_116 rfl (nI_1 _) (by decide) rfl ?_
        refine v_goto C 50 d_M_tick_119 (by decide) ?_
        refine v_sub [0, 1, 2] rfl ?_
        exact ih (j + 1) v (by omega) (by omega) (by rw [zr2, if_neg (fun z => c_64 z.1)]; exact hR) hk
      · refine v_aload_n C 1 d_M_tick_67 rfl rfl ?_
        refine v_get C k_M hR.1 12 (by decide) tw_495 (fun _ h => h) rfl d_M_tick_68 ?_
        refine v_iload_n C 0 d_M_tick_71 rfl rfl ?_
        refine v_ialdN C (hR.oi (f := 12) (by decide)) (by show _ < 201; omega) (by decide) d_M_tick_72 ?_
        refine v_bipush (x := 7) C d_M_tick_73 (by decide) ?_
        refine v_icmp_eq C 116 d_M_tick_75 (by decide) (fun c_75 => ?_) (fun c_75 => ?_)
        · refine v_iinc (y := (nI ((j + 1) + 1))) (lv' := [(3, .int (nI ((j + 1) + 1))), (0, .ref o), (1, .long t)]) C 0 d_M_tick_116 rfl (nI_1 _) (by decide) rfl ?_
          refine v_goto C 50 d_M_tick_119 (by decide) ?_
          refine v_sub [0, 1, 2] rfl ?_
          exact ih (j + 1) v (by omega) (by omega) (by rw [zr2, if_neg (fun z => z.2.1 c_75)]; exact hR) hk
        · refine v_aload_n C 1 d_M_tick_78 rfl rfl ?_
          refine v_get C k_M hR.1 13 (by decide) tw_496 (fun _ h => h) rfl d_M_tick_79 ?_
          refine v_iload_n C 0 d_M_tick_82 rfl rfl ?_
          refine v_laldN C (hR.ol (f := 13) (by decide)) (by show _ < 201; omega) (by decide) d_M_tick_83 ?_
          refine v_aload_n C 1 d_M_tick_84 rfl rfl ?_
          refine v_get C k_M hR.1 30 (by decide) tw_513 (fun _ h => h) rfl d_M_tick_85 ?_
          refine v_aload_n C 1 d_M_tick_88 rfl rfl ?_
          refine v_get C k_M hR.1 10 (by decide) tw_493 (fun _ h => h) rfl d_M_tick_89 ?_
          refine v_iload_n C 0 d_M_tick_92 rfl rfl ?_
          refine v_ialdN C (hR.oi (f := 10) (by decide)) (by show _ < 201; omega) (by decide) d_M_tick_93 ?_
          refine v_toi (y := (nI cn)) e10 ?_
          refine v_laldN C (hR.ol (f := 30) (by decide)) (by show _ < 41; omega) (by decide) d_M_tick_94 ?_
          refine v_lcmp C d_M_tick_95 ?_
          refine v_if_ge C 116 d_M_tick_96 (by decide) (fun c_96 => ?_) (fun c_96 => ?_)
          · refine v_iinc (y := (nI ((j + 1) + 1))) (lv' := [(3, .int (nI ((j + 1) + 1))), (0, .ref o), (1, .long t)]) C 0 d_M_tick_116 rfl (nI_1 _) (by decide) rfl ?_
            refine v_goto C 50 d_M_tick_119 (by decide) ?_
            refine v_sub [0, 1, 2] rfl ?_
            exact ih (j + 1) v (by omega) (by omega) (by rw [zr2, if_neg (fun z => absurd z.2.2 (by rw [e13]; exact Int.not_lt.mpr (lc_ge.mp c_96)))]; exact hR) hk
          · refine v_aload_n C 1 d_M_tick_99 rfl rfl ?_
            refine v_get C k_M hR.1 30 (by decide) tw_513 (fun _ h => h) rfl d_M_tick_100 ?_
            refine v_aload_n C 1 d_M_tick_103 rfl rfl ?_
            refine v_get C k_M hR.1 10 (by decide) tw_493 (fun _ h => h) rfl d_M_tick_104 ?_
            refine v_iload_n C 0 d_M_tick_107 rfl rfl ?_
            refine v_ialdN C (hR.oi (f := 10) (by decide)) (by show _ < 201; omega) (by decide) d_M_tick_108 ?_
            refine v_toi (y := (nI cn)) e10 ?_
            refine v_aload_n C 1 d_M_tick_109 rfl rfl ?_
            refine v_get C k_M hR.1 13 (by decide) tw_496 (fun _ h => h) rfl d_M_tick_110 ?_
            refine v_iload_n C 0 d_M_tick_113 rfl rfl ?_
            refine v_laldN C (hR.ol (f := 13) (by decide)) (by show _ < 201; omega) (by decide) d_M_tick_114 ?_
            refine v_lastN C (hR.ol (f := 30) (by decide)) (by show _ < 41; omega) (by decide) d_M_tick_115 ?_
            refine v_view (fun v1 ev1 => ?_)
            obtain ⟨S_1, eS_1⟩ : ∃ z, z = zul (zr2 S j) 30 cn (zl (zr2 S j) 13 (j + 1)) := ⟨_, rfl⟩
            have hR_1 : RM G v1 o ad S_1 := by rw [eS_1]; exact (by rw [ev1]; exact hR.putl 30 (by decide) cn (zl (zr2 S j) 13 (j + 1)))
            have hk_1 : vkeep (mX o ad) v0 v1 := by rw [ev1]; exact hk.up (mX_f (by decide))
            refine v_iinc (y := (nI ((j + 1) + 1))) (lv' := [(3, .int (nI ((j + 1) + 1))), (0, .ref o), (1, .long t)]) C 0 d_M_tick_116 rfl (nI_1 _) (by decide) rfl ?_
            refine v_goto C 50 d_M_tick_119 (by decide) ?_
            refine v_sub [0, 1, 2] rfl ?_
            exact ih (j + 1) v1 (by omega) (by omega) (by rw [zr2, if_pos ⟨c_64, c_75, (by rw [e13]; exact Int.not_le.mp (mt lc_ge.mpr c_96))⟩, e13]; subst eS_1; exact hR_1) hk_1
set_option maxHeartbeats 4000000 in
set_option maxRecDepth 100000 in
theorem lp_M_tick3 {p : Program} {l : Launch} {e : Env} {R : Room} {s : State} {m : MethodId} {args : Array Value} {below : List Frame} {meth : Method} {c : Code} {Q : State → Prop} {G : vv_G} {o : Nat} {ad : Nat → Nat} {S : zS} {v0 : vv_V} {kc ks : Nat} {t : Int64} (C : vC p s m args meth c b_M_tick 6 (some FieldType.int) "CustomerNoticesModel" G) (hB : zc S 0 ≤ 40 ∧ zc S 1 ≤ 200) (hB2 : zB2 S) (hB3 : zB3 S) (hRm : 2 ≤ R.frames ∧ 47 ≤ R.locals) (hRc : kc ≤ R.cells ∧ ks ≤ R.slots) (kx : ∀ v : vv_V, RM G v o ad (zr3 S (zc S 1)) → vkeep (mX o ad) v0 v → vV p l e R s m args below meth c Q G 6 v kc ks 330 [(4, .int (nI (zc S 1 + 1))), (3, .int (nI (zc (zr3 S (zc S 1)) 3 - zc S 3))), (0, .ref o), (1, .long t)] []) : ∀ (n : Nat) (j : Nat) (v : vv_V), j ≤ zc S 1 → zc S 1 + 1 ≤ j + n → RM G v o ad (zr3 S j) → vkeep (mX o ad) v0 v → vV p l e R s m args below meth c Q G 6 v kc ks 127 [(4, .int (nI (j + 1))), (3, .int (nI (zc (zr3 S j) 3 - zc S 3))), (0, .ref o), (1, .long t)] [] := by
  intro n
  induction n with
  | zero => intro j v h1 h2 hR hk; exfalso; omega
  | succ n ih =>
    intro j v h1 h2 hR hk
    refine v_iload C 0 d_M_tick_127 rfl ?_
    have k1 : zc (zr3 S j) 1 = zc S 1 := (zr3_k S j).1 1 (by decide) (by decide)
    refine v_aload_n C 2 d_M_tick_129 rfl rfl ?_
    refine v_get C k_M hR.1 9 (by decide) tw_492 (fun _ h => h) rfl d_M_tick_130 ?_
    refine v_toi (y := nI (zc S 1)) (by exact congrArg nI k1) ?_
    refine v_icmp_gt C 330 d_M_tick_133 (by decide) (fun c_133 => ?_) (fun c_133 => ?_)
    · have n_133 : (zc S 1) < (j + 1) := (nI_ltI (a := (zc S 1)) (b := (j + 1)) (by omega) (by omega)).mp c_133
      have hj4 : j = zc S 1 := by omega
      subst hj4
      exact kx v hR hk
    · have n_133 : ¬ (zc S 1) < (j + 1) := mt (nI_ltI (a := (zc S 1)) (b := (j + 1)) (by omega) (by omega)).mpr c_133
      have k0 : zc (zr3 S j) 0 = zc S 0 := (zr3_k S j).1 0 (by decide) (by decide)
      have k1 : zc (zr3 S j) 1 = zc S 1 := (zr3_k S j).1 1 (by decide) (by decide)
      obtain ⟨cn, kd, e10, hc1, hc2, e12, hk7⟩ := zr3_B2 hB2 j (j + 1) (by omega) (by rw [k1]; omega)
      rw [k0] at hc2
      have e13 : zn (zi (zr3 S j) 10 (j + 1)) = cn := by rw [e10]; exact zn_nI (by omega)
      obtain ⟨hb3, hm3⟩ := zr3_B3 hB3 j (by omega)
      refine v_aload_n C 2 d_M_tick_136 rfl rfl ?_
      refine v_get C k_M hR.1 15 (by decide) tw_498 (fun _ h => h) rfl d_M_tick_137 ?_
      refine v_iload C 0 d_M_tick_140 rfl ?_
      refine v_ialdN C (hR.oi (f := 15) (by decide)) (by show _ < 201; omega) (by decide) d_M_tick_142 ?_
      refine v_if_ne C 324 d_M_tick_143 (by decide) (fun c_143 => ?_) (fun c_143 => ?_)
      · refine v_iinc (y := (nI ((j + 1) + 1))) (lv' := [(4, .int (nI ((j + 1) + 1))), (3, .int (nI (zc (zr3 S j) 3 - zc S 3))), (0, .ref o), (1, .long t)]) C 0 d_M_tick_324 rfl (nI_1 _) (by decide) rfl ?_
        refine v_goto C 127 d_M_tick_327 (by decide) ?_
        have hst : zr3 S (j + 1) = zr3 S j := by show zstep _ _ = _; unfold zstep; rw [if_neg (fun z => c_143 z.1)]
        refine v_lv (lv' := [(4, .int (nI ((j + 1) + 1))), (3, .int (nI (zc (zr3 S (j + 1)) 3 - zc S 3))), (0, .ref o), (1, .long t)]) (by rw [hst]) ?_
        refine v_sub [0, 1, 2, 3] rfl ?_
        exact ih (j + 1) v (by omega) (by omega) (by rw [hst]; exact hR) hk
      · refine v_aload_n C 2 d_M_tick_146 rfl rfl ?_
        refine v_iload C 0 d_M_tick_147 rfl ?_
        refine v_callV (rest := []) C (c_M_isDue l G v o ad (zr3 S j) (j + 1) hR (by omega) (by rw [k1]; omega) ⟨by rw [k0]; omega, by rw [k1]; omega⟩ (zr3_B2 hB2 j)) tw_646 tw_34 tw_643 tw_645 tw_25 mn_M_isDue hR.1 k_M.1 ⟨Nat.le_trans (Nat.le_of_ble_eq_true rfl) hRm.1, Nat.le_trans (Nat.le_of_ble_eq_true rfl) hRm.2⟩ rfl rfl (Nat.le_of_ble_eq_true rfl) d_M_tick_149 ⟨hRc.1, hRc.2⟩ (fun r_1 v_2 hp_3 => ?_)
        rcases hp_3 with ⟨rfl, hv9, hb_149⟩ | ⟨rfl, hv9, hb_149⟩
        · obtain rfl := hv9.symm
          show vV _ _ _ _ _ _ _ _ _ _ _ _ _ v kc ks 152 [(4, .int (nI (j + 1))), (3, .int (nI (zc (zr3 S j) 3 - zc S 3))), (0, .ref o), (1, .long t)] [.int 1]
          refine v_if_ne C 158 d_M_tick_152 (by decide) (fun _ => ?_) (fun z => absurd z (by decide))
          refine v_aload_n C 2 d_M_tick_158 rfl rfl ?_
          refine v_iload C 0 d_M_tick_159 rfl ?_
          refine v_callV (rest := []) C (c_M_channelOf l G v o ad (zr3 S j) (j + 1) hR (by omega) (by rw [k1]; omega) ⟨by rw [k0]; omega, by rw [k1]; omega⟩ (zr3_B2 hB2 j)) tw_655 tw_34 tw_652 tw_654 tw_27 mn_M_channelOf hR.1 k_M.1 ⟨Nat.le_trans (Nat.le_of_ble_eq_true rfl) hRm.1, Nat.le_trans (Nat.le_of_ble_eq_true rfl) hRm.2⟩ rfl rfl (Nat.le_of_ble_eq_true rfl) d_M_tick_161 ⟨hRc.1, hRc.2⟩ (fun r_4 v_5 hp_6 => ?_)
          obtain ⟨rfl, hv9⟩ := hp_6
          obtain rfl := hv9.symm
          rcases hch : zcho (zr3 S j) (j + 1) with _ | q
          · show vV _ _ _ _ _ _ _ _ _ _ _ _ _ v kc ks 164 [(4, .int (nI (j + 1))), (3, .int (nI (zc (zr3 S j) 3 - zc S 3))), (0, .ref o), (1, .long t)] [.int (-1)]
            refine v_istore (lv' := [(5, .int (-1)), (4, .int (nI (j + 1))), (3, .int (nI (zc (zr3 S j) 3 - zc S 3))), (0, .ref o), (1, .long t)]) C d_M_tick_164 (by decide) rfl ?_
            refine v_iload C 0 d_M_tick_166 rfl ?_
            refine v_if_ge C 203 d_M_tick_168 (by decide) (fun z => absurd z (by decide)) (fun _ => ?_)
            have hw := zwc_pos (S := zr3 S j) c_143 (show 1 ≤ j + 1 by omega) (show j + 1 ≤ zc (zr3 S j) 1 by rw [k1]; omega)
            obtain ⟨hs1, hs2⟩ := hb3
            rw [k1] at hs1 hw hs2
            refine v_aload_n C 3 d_M_tick_171 rfl rfl ?_
            refine v_get C k_M hR.1 15 (by decide) tw_498 (fun _ h => h) rfl d_M_tick_172 ?_
            refine v_iload C 1 d_M_tick_175 rfl ?_
            refine v_iconst (x := 2) C d_M_tick_177 (by decide) ?_
            refine v_iastN C (hR.oi (f := 15) (by decide)) (by show _ < 201; omega) (by decide) d_M_tick_178 ?_
            refine v_view (fun v1 ev1 => ?_)
            obtain ⟨S_7, eS_7⟩ : ∃ z, z = zui (zr3 S j) 15 (j + 1) 2 := ⟨_, rfl⟩
            have hR_7 : RM G v1 o ad S_7 := by rw [eS_7]; exact (by rw [ev1]; exact hR.puti 15 (by decide) (j + 1) 2)
            have hk_7 : vkeep (mX o ad) v0 v1 := by rw [ev1]; exact hk.up (mX_f (by decide))
            refine v_aload_n C 3 d_M_tick_179 rfl rfl ?_
            refine v_get C k_M hR_7.1 29 (by decide) tw_512 (fun _ h => h) rfl d_M_tick_180 ?_
            refine v_aload_n C 3 d_M_tick_183 rfl rfl ?_
            refine v_get C k_M hR_7.1 28 (by decide) tw_511 (fun _ h => h) rfl d_M_tick_184 ?_
            refine v_toi (y := nI (zc (zr3 S j) 4)) (by rw [eS_7]; rfl) ?_
            refine v_iload C 1 d_M_tick_187 rfl ?_
            refine v_iastN C (hR_7.oi (f := 29) (by decide)) (by show _ < 200; omega) (by decide) d_M_tick_189 ?_
            refine v_view (fun v2 ev2 => ?_)
            obtain ⟨S_8, eS_8⟩ : ∃ z, z = zui S_7 29 (zc (zr3 S j) 4) (nI (j + 1)) := ⟨_, rfl⟩
            have hR_8 : RM G v2 o ad S_8 := by rw [eS_8]; exact (by rw [ev2]; exact hR_7.puti 29 (by decide) (zc (zr3 S j) 4) (nI (j + 1)))
            have hk_8 : vkeep (mX o ad) v0 v2 := by rw [ev2]; exact hk_7.up (mX_f (by decide))
            refine v_aload_n C 3 d_M_tick_190 rfl rfl ?_
            refine v_dup C d_M_tick_191 rfl ?_
            refine v_get C k_M hR_8.1 28 (by decide) tw_511 (fun _ h => h) rfl d_M_tick_192 ?_
            refine v_toi (y := nI (zc (zr3 S j) 4)) (by rw [eS_8, eS_7]; rfl) ?_
            refine v_iconst (x := 1) C d_M_tick_195 (by decide) ?_
            refine v_iadd C d_M_tick_196 ?_
            refine v_toi (y := nI ((zc (zr3 S j) 4) + 1)) (nI_add (zc (zr3 S j) 4) 1) ?_
            refine v_put C k_M hR_8.1 28 (by decide) tw_511 (fun _ h => h) rfl rfl rfl (Nat.le_of_ble_eq_true rfl) d_M_tick_197 ?_
            refine v_view (fun v3 ev3 => ?_)
            obtain ⟨S_9, eS_9⟩ : ∃ z, z = zuc S_8 4 ((zc (zr3 S j) 4) + 1) := ⟨_, rfl⟩
            have hR_9 : RM G v3 o ad S_9 := by rw [eS_9]; exact (by rw [ev3]; exact hR_8.puts rfl (fun f hf => rfl) (fun f hf => rfl))
            have hk_9 : vkeep (mX o ad) v0 v3 := by rw [ev3]; exact hk_8.up mX_o
            refine v_goto C 324 d_M_tick_200 (by decide) ?_
            refine v_iinc (y := (nI ((j + 1) + 1))) (lv' := [(4, .int (nI ((j + 1) + 1))), (5, .int (-1)), (3, .int (nI (zc (zr3 S j) 3 - zc S 3))), (0, .ref o), (1, .long t)]) C 1 d_M_tick_324 rfl (nI_1 _) (by decide) rfl ?_
            refine v_goto C 127 d_M_tick_327 (by decide) ?_
            have hst : zr3 S (j + 1) = zfail (zr3 S j) (j + 1) := by show zstep _ _ = _; unfold zstep; rw [if_pos ⟨c_143, hb_149⟩, hch]
            refine v_lv (lv' := [(4, .int (nI ((j + 1) + 1))), (5, .int (-1)), (3, .int (nI (zc (zr3 S (j + 1)) 3 - zc S 3))), (0, .ref o), (1, .long t)]) (by rw [hst]; rfl) ?_
            refine v_sub [0, 2, 3, 4] rfl ?_
            exact ih (j + 1) v3 (by omega) (by omega) (by rw [hst, zfail]; subst eS_7 eS_8 eS_9; exact hR_9) hk_9
          · have hq4 := zcho_lt hch
            show vV _ _ _ _ _ _ _ _ _ _ _ _ _ v kc ks 164 [(4, .int (nI (j + 1))), (3, .int (nI (zc (zr3 S j) 3 - zc S 3))), (0, .ref o), (1, .long t)] [.int (nI q)]
            refine v_istore (lv' := [(5, .int (nI q)), (4, .int (nI (j + 1))), (3, .int (nI (zc (zr3 S j) 3 - zc S 3))), (0, .ref o), (1, .long t)]) C d_M_tick_164 (by decide) rfl ?_
            refine v_iload C 0 d_M_tick_166 rfl ?_
            refine v_if_ge C 203 d_M_tick_168 (by decide) (fun _ => ?_) (fun z => absurd (nI_pos' (by omega)) z)
            have hw := zwc_pos (S := zr3 S j) c_143 (show 1 ≤ j + 1 by omega) (show j + 1 ≤ zc (zr3 S j) 1 by rw [k1]; omega)
            obtain ⟨hs1, hs2⟩ := hb3
            rw [k1] at hs1 hw hs2
            refine v_aload_n C 3 d_M_tick_203 rfl rfl ?_
            refine v_get C k_M hR.1 15 (by decide) tw_498 (fun _ h => h) rfl d_M_tick_204 ?_
            refine v_iload C 1 d_M_tick_207 rfl ?_
            refine v_iconst (x := 1) C d_M_tick_209 (by decide) ?_
            refine v_iastN C (hR.oi (f := 15) (by decide)) (by show _ < 201; omega) (by decide) d_M_tick_210 ?_
            refine v_view (fun v4 ev4 => ?_)
            obtain ⟨S_10, eS_10⟩ : ∃ z, z = zui (zr3 S j) 15 (j + 1) 1 := ⟨_, rfl⟩
            have hR_10 : RM G v4 o ad S_10 := by rw [eS_10]; exact (by rw [ev4]; exact hR.puti 15 (by decide) (j + 1) 1)
            have hk_10 : vkeep (mX o ad) v0 v4 := by rw [ev4]; exact hk.up (mX_f (by decide))
            refine v_aload_n C 3 d_M_tick_211 rfl rfl ?_
            refine v_get C k_M hR_10.1 31 (by decide) tw_514 (fun _ h => h) rfl d_M_tick_212 ?_
            refine v_aload_n C 3 d_M_tick_215 rfl rfl ?_
            refine v_get C k_M hR_10.1 10 (by decide) tw_493 (fun _ h => h) rfl d_M_tick_216 ?_
            refine v_iload C 1 d_M_tick_219 rfl ?_
            refine v_ialdN C (hR_10.oi (f := 10) (by decide)) (by show _ < 201; omega) (by decide) d_M_tick_221 ?_
            refine v_toi (y := (nI cn)) (by rw [eS_10]; exact e10) ?_
            refine v_aload_n C 3 d_M_tick_222 rfl rfl ?_
            refine v_get C k_M hR_10.1 31 (by decide) tw_514 (fun _ h => h) rfl d_M_tick_223 ?_
            refine v_aload_n C 3 d_M_tick_226 rfl rfl ?_
            refine v_get C k_M hR_10.1 10 (by decide) tw_493 (fun _ h => h) rfl d_M_tick_227 ?_
            refine v_iload C 1 d_M_tick_230 rfl ?_
            refine v_ialdN C (hR_10.oi (f := 10) (by decide)) (by show _ < 201; omega) (by decide) d_M_tick_232 ?_
            refine v_toi (y := (nI cn)) (by rw [eS_10]; exact e10) ?_
            refine v_ialdN C (hR_10.oi (f := 31) (by decide)) (by show _ < 41; omega) (by decide) d_M_tick_233 ?_
            refine v_toi (y := (zi (zr3 S j) 31 cn)) (by rw [eS_10]; rfl) ?_
            refine v_if_ne C 242 d_M_tick_234 (by decide) (fun c_234 => ?_) (fun c_234 => ?_)
            · refine v_aload_n C 3 d_M_tick_242 rfl rfl ?_
              refine v_get C k_M hR_10.1 31 (by decide) tw_514 (fun _ h => h) rfl d_M_tick_243 ?_
              refine v_aload_n C 3 d_M_tick_246 rfl rfl ?_
              refine v_get C k_M hR_10.1 10 (by decide) tw_493 (fun _ h => h) rfl d_M_tick_247 ?_
              refine v_iload C 1 d_M_tick_250 rfl ?_
              refine v_ialdN C (hR_10.oi (f := 10) (by decide)) (by show _ < 201; omega) (by decide) d_M_tick_252 ?_
              refine v_toi (y := (nI cn)) (by rw [eS_10]; exact e10) ?_
              refine v_ialdN C (hR_10.oi (f := 31) (by decide)) (by show _ < 41; omega) (by decide) d_M_tick_253 ?_
              refine v_toi (y := (zi (zr3 S j) 31 cn)) (by rw [eS_10]; rfl) ?_
              refine v_toi (y := (if zi (zr3 S j) 31 cn = 0 then nI (j + 1) else zi (zr3 S j) 31 cn)) (by rw [if_neg c_234]) ?_
              refine v_iastN C (hR_10.oi (f := 31) (by decide)) (by show _ < 41; omega) (by decide) d_M_tick_254 ?_
              refine v_view (fun v5 ev5 => ?_)
              obtain ⟨S_11, eS_11⟩ : ∃ z, z = zui S_10 31 cn (if zi (zr3 S j) 31 cn = 0 then nI (j + 1) else zi (zr3 S j) 31 cn) := ⟨_, rfl⟩
              have hR_11 : RM G v5 o ad S_11 := by rw [eS_11]; exact (by rw [ev5]; exact hR_10.puti 31 (by decide) cn (if zi (zr3 S j) 31 cn = 0 then nI (j + 1) else zi (zr3 S j) 31 cn))
              have hk_11 : vkeep (mX o ad) v0 v5 := by rw [ev5]; exact hk_10.up (mX_f (by decide))
              refine v_aload_n C 3 d_M_tick_255 rfl rfl ?_
              refine v_get C k_M hR_11.1 24 (by decide) tw_507 (fun _ h => h) rfl d_M_tick_256 ?_
              refine v_aload_n C 3 d_M_tick_259 rfl rfl ?_
              refine v_get C k_M hR_11.1 23 (by decide) tw_506 (fun _ h => h) rfl d_M_tick_260 ?_
              refine v_toi (y := nI (zc (zr3 S j) 3)) (by rw [eS_11, eS_10]; rfl) ?_
              refine v_iload C 1 d_M_tick_263 rfl ?_
              refine v_iastN C (hR_11.oi (f := 24) (by decide)) (by show _ < 200; omega) (by decide) d_M_tick_265 ?_
              refine v_view (fun v6 ev6 => ?_)
              obtain ⟨S_12, eS_12⟩ : ∃ z, z = zui S_11 24 (zc (zr3 S j) 3) (nI (j + 1)) := ⟨_, rfl⟩
              have hR_12 : RM G v6 o ad S_12 := by rw [eS_12]; exact (by rw [ev6]; exact hR_11.puti 24 (by decide) (zc (zr3 S j) 3) (nI (j + 1)))
              have hk_12 : vkeep (mX o ad) v0 v6 := by rw [ev6]; exact hk_11.up (mX_f (by decide))
              refine v_aload_n C 3 d_M_tick_266 rfl rfl ?_
              refine v_get C k_M hR_12.1 25 (by decide) tw_508 (fun _ h => h) rfl d_M_tick_267 ?_
              refine v_aload_n C 3 d_M_tick_270 rfl rfl ?_
              refine v_get C k_M hR_12.1 23 (by decide) tw_506 (fun _ h => h) rfl d_M_tick_271 ?_
              refine v_toi (y := nI (zc (zr3 S j) 3)) (by rw [eS_12, eS_11, eS_10]; rfl) ?_
              refine v_iload C 0 d_M_tick_274 rfl ?_
              refine v_iastN C (hR_12.oi (f := 25) (by decide)) (by show _ < 200; omega) (by decide) d_M_tick_276 ?_
              refine v_view (fun v7 ev7 => ?_)
              obtain ⟨S_13, eS_13⟩ : ∃ z, z = zui S_12 25 (zc (zr3 S j) 3) (nI q) := ⟨_, rfl⟩
              have hR_13 : RM G v7 o ad S_13 := by rw [eS_13]; exact (by rw [ev7]; exact hR_12.puti 25 (by decide) (zc (zr3 S j) 3) (nI q))
              have hk_13 : vkeep (mX o ad) v0 v7 := by rw [ev7]; exact hk_12.up (mX_f (by decide))
              refine v_aload_n C 3 d_M_tick_277 rfl rfl ?_
              refine v_get C k_M hR_13.1 26 (by decide) tw_509 (fun _ h => h) rfl d_M_tick_278 ?_
              refine v_aload_n C 3 d_M_tick_281 rfl rfl ?_
              refine v_get C k_M hR_13.1 23 (by decide) tw_506 (fun _ h => h) rfl d_M_tick_282 ?_
              refine v_toi (y := nI (zc (zr3 S j) 3)) (by rw [eS_13, eS_12, eS_11, eS_10]; rfl) ?_
              refine v_aload_n C 3 d_M_tick_285 rfl rfl ?_
              refine v_get C k_M hR_13.1 31 (by decide) tw_514 (fun _ h => h) rfl d_M_tick_286 ?_
              refine v_aload_n C 3 d_M_tick_289 rfl rfl ?_
              refine v_get C k_M hR_13.1 10 (by decide) tw_493 (fun _ h => h) rfl d_M_tick_290 ?_
              refine v_iload C 1 d_M_tick_293 rfl ?_
              refine v_ialdN C (hR_13.oi (f := 10) (by decide)) (by show _ < 201; omega) (by decide) d_M_tick_295 ?_
              refine v_toi (y := (nI cn)) (by rw [eS_13]; rw [eS_12]; rw [eS_11]; rw [eS_10]; exact e10) ?_
              refine v_ialdN C (hR_13.oi (f := 31) (by decide)) (by show _ < 41; omega) (by decide) d_M_tick_296 ?_
              refine v_toi (y := (if zi (zr3 S j) 31 cn = 0 then nI (j + 1) else zi (zr3 S j) 31 cn)) (by rw [eS_13]; rw [eS_12]; rw [eS_11]; rw [eS_10]; simp [zi_ui]) ?_
              refine v_iastN C (hR_13.oi (f := 26) (by decide)) (by show _ < 200; omega) (by decide) d_M_tick_297 ?_
              refine v_view (fun v8 ev8 => ?_)
              obtain ⟨S_14, eS_14⟩ : ∃ z, z = zui S_13 26 (zc (zr3 S j) 3) (if zi (zr3 S j) 31 cn = 0 then nI (j + 1) else zi (zr3 S j) 31 cn) := ⟨_, rfl⟩
              have hR_14 : RM G v8 o ad S_14 := by rw [eS_14]; exact (by rw [ev8]; exact hR_13.puti 26 (by decide) (zc (zr3 S j) 3) (if zi (zr3 S j) 31 cn = 0 then nI (j + 1) else zi (zr3 S j) 31 cn))
              have hk_14 : vkeep (mX o ad) v0 v8 := by rw [ev8]; exact hk_13.up (mX_f (by decide))
              refine v_aload_n C 3 d_M_tick_298 rfl rfl ?_
              refine v_get C k_M hR_14.1 27 (by decide) tw_510 (fun _ h => h) rfl d_M_tick_299 ?_
              refine v_aload_n C 3 d_M_tick_302 rfl rfl ?_
              refine v_get C k_M hR_14.1 23 (by decide) tw_506 (fun _ h => h) rfl d_M_tick_303 ?_
              refine v_toi (y := nI (zc (zr3 S j) 3)) (by rw [eS_14, eS_13, eS_12, eS_11, eS_10]; rfl) ?_
              refine v_aload_n C 3 d_M_tick_306 rfl rfl ?_
              refine v_get C k_M hR_14.1 0 (by decide) tw_483 (fun _ h => h) rfl d_M_tick_307 ?_
              refine v_tol (y := zl (zr3 S j) 0 0) (by rw [eS_14]; rw [eS_13]; rw [eS_12]; rw [eS_11]; rw [eS_10]; rfl) ?_
              refine v_lastN C (hR_14.ol (f := 27) (by decide)) (by show _ < 200; omega) (by decide) d_M_tick_310 ?_
              refine v_view (fun v9 ev9 => ?_)
              obtain ⟨S_15, eS_15⟩ : ∃ z, z = zul S_14 27 (zc (zr3 S j) 3) (zl (zr3 S j) 0 0) := ⟨_, rfl⟩
              have hR_15 : RM G v9 o ad S_15 := by rw [eS_15]; exact (by rw [ev9]; exact hR_14.putl 27 (by decide) (zc (zr3 S j) 3) (zl (zr3 S j) 0 0))
              have hk_15 : vkeep (mX o ad) v0 v9 := by rw [ev9]; exact hk_14.up (mX_f (by decide))
              refine v_aload_n C 3 d_M_tick_311 rfl rfl ?_
              refine v_dup C d_M_tick_312 rfl ?_
              refine v_get C k_M hR_15.1 23 (by decide) tw_506 (fun _ h => h) rfl d_M_tick_313 ?_
              refine v_toi (y := nI (zc (zr3 S j) 3)) (by rw [eS_15, eS_14, eS_13, eS_12, eS_11, eS_10]; rfl) ?_
              refine v_iconst (x := 1) C d_M_tick_316 (by decide) ?_
              refine v_iadd C d_M_tick_317 ?_
              refine v_toi (y := nI ((zc (zr3 S j) 3) + 1)) (nI_add (zc (zr3 S j) 3) 1) ?_
              refine v_put C k_M hR_15.1 23 (by decide) tw_506 (fun _ h => h) rfl rfl rfl (Nat.le_of_ble_eq_true rfl) d_M_tick_318 ?_
              refine v_view (fun v10 ev10 => ?_)
              obtain ⟨S_16, eS_16⟩ : ∃ z, z = zuc S_15 3 ((zc (zr3 S j) 3) + 1) := ⟨_, rfl⟩
              have hR_16 : RM G v10 o ad S_16 := by rw [eS_16]; exact (by rw [ev10]; exact hR_15.puts rfl (fun f hf => rfl) (fun f hf => rfl))
              have hk_16 : vkeep (mX o ad) v0 v10 := by rw [ev10]; exact hk_15.up mX_o
              refine v_iinc (y := (nI ((zc (zr3 S j) 3 - zc S 3) + 1))) (lv' := [(3, .int (nI ((zc (zr3 S j) 3 - zc S 3) + 1))), (5, .int (nI q)), (4, .int (nI (j + 1))), (0, .ref o), (1, .long t)]) C 2 d_M_tick_321 rfl (nI_1 _) (by decide) rfl ?_
              refine v_iinc (y := (nI ((j + 1) + 1))) (lv' := [(4, .int (nI ((j + 1) + 1))), (3, .int (nI ((zc (zr3 S j) 3 - zc S 3) + 1))), (5, .int (nI q)), (0, .ref o), (1, .long t)]) C 2 d_M_tick_324 rfl (nI_1 _) (by decide) rfl ?_
              refine v_goto C 127 d_M_tick_327 (by decide) ?_
              have hst : zr3 S (j + 1) = zsnd (zr3 S j) (j + 1) q := by show zstep _ _ = _; unfold zstep; rw [if_pos ⟨c_143, hb_149⟩, hch]
              refine v_lv (lv' := [(4, .int (nI ((j + 1) + 1))), (3, .int (nI (zc (zr3 S (j + 1)) 3 - zc S 3))), (5, .int (nI q)), (0, .ref o), (1, .long t)]) (by have e9 : zc (zr3 S j) 3 - zc S 3 + 1 = zc (zr3 S (j + 1)) 3 - zc S 3 := by { rw [hst]; show _ = zc (zr3 S j) 3 + 1 - zc S 3; omega }; rw [← e9]) ?_
              refine v_sub [0, 1, 3, 4] rfl ?_
              exact ih (j + 1) v10 (by omega) (by omega) (by rw [hst, zsnd, e13]; subst eS_10 eS_11 eS_12 eS_13 eS_14 eS_15 eS_16; exact hR_16) hk_16
            · refine v_iload C 1 d_M_tick_237 rfl ?_
              refine v_goto C 254 d_M_tick_239 (by decide) ?_
              refine v_toi (y := (if zi (zr3 S j) 31 cn = 0 then nI (j + 1) else zi (zr3 S j) 31 cn)) (by rw [if_pos c_234]) ?_
              refine v_iastN C (hR_10.oi (f := 31) (by decide)) (by show _ < 41; omega) (by decide) d_M_tick_254 ?_
              refine v_view (fun v11 ev11 => ?_)
              obtain ⟨S_17, eS_17⟩ : ∃ z, z = zui S_10 31 cn (if zi (zr3 S j) 31 cn = 0 then nI (j + 1) else zi (zr3 S j) 31 cn) := ⟨_, rfl⟩
              have hR_17 : RM G v11 o ad S_17 := by rw [eS_17]; exact (by rw [ev11]; exact hR_10.puti 31 (by decide) cn (if zi (zr3 S j) 31 cn = 0 then nI (j + 1) else zi (zr3 S j) 31 cn))
              have hk_17 : vkeep (mX o ad) v0 v11 := by rw [ev11]; exact hk_10.up (mX_f (by decide))
              refine v_aload_n C 3 d_M_tick_255 rfl rfl ?_
              refine v_get C k_M hR_17.1 24 (by decide) tw_507 (fun _ h => h) rfl d_M_tick_256 ?_
              refine v_aload_n C 3 d_M_tick_259 rfl rfl ?_
              refine v_get C k_M hR_17.1 23 (by decide) tw_506 (fun _ h => h) rfl d_M_tick_260 ?_
              refine v_toi (y := nI (zc (zr3 S j) 3)) (by rw [eS_17, eS_10]; rfl) ?_
              refine v_iload C 1 d_M_tick_263 rfl ?_
              refine v_iastN C (hR_17.oi (f := 24) (by decide)) (by show _ < 200; omega) (by decide) d_M_tick_265 ?_
              refine v_view (fun v12 ev12 => ?_)
              obtain ⟨S_18, eS_18⟩ : ∃ z, z = zui S_17 24 (zc (zr3 S j) 3) (nI (j + 1)) := ⟨_, rfl⟩
              have hR_18 : RM G v12 o ad S_18 := by rw [eS_18]; exact (by rw [ev12]; exact hR_17.puti 24 (by decide) (zc (zr3 S j) 3) (nI (j + 1)))
              have hk_18 : vkeep (mX o ad) v0 v12 := by rw [ev12]; exact hk_17.up (mX_f (by decide))
              refine v_aload_n C 3 d_M_tick_266 rfl rfl ?_
              refine v_get C k_M hR_18.1 25 (by decide) tw_508 (fun _ h => h) rfl d_M_tick_267 ?_
              refine v_aload_n C 3 d_M_tick_270 rfl rfl ?_
              refine v_get C k_M hR_18.1 23 (by decide) tw_506 (fun _ h => h) rfl d_M_tick_271 ?_
              refine v_toi (y := nI (zc (zr3 S j) 3)) (by rw [eS_18, eS_17, eS_10]; rfl) ?_
              refine v_iload C 0 d_M_tick_274 rfl ?_
              refine v_iastN C (hR_18.oi (f := 25) (by decide)) (by show _ < 200; omega) (by decide) d_M_tick_276 ?_
              refine v_view (fun v13 ev13 => ?_)
              obtain ⟨S_19, eS_19⟩ : ∃ z, z = zui S_18 25 (zc (zr3 S j) 3) (nI q) := ⟨_, rfl⟩
              have hR_19 : RM G v13 o ad S_19 := by rw [eS_19]; exact (by rw [ev13]; exact hR_18.puti 25 (by decide) (zc (zr3 S j) 3) (nI q))
              have hk_19 : vkeep (mX o ad) v0 v13 := by rw [ev13]; exact hk_18.up (mX_f (by decide))
              refine v_aload_n C 3 d_M_tick_277 rfl rfl ?_
              refine v_get C k_M hR_19.1 26 (by decide) tw_509 (fun _ h => h) rfl d_M_tick_278 ?_
              refine v_aload_n C 3 d_M_tick_281 rfl rfl ?_
              refine v_get C k_M hR_19.1 23 (by decide) tw_506 (fun _ h => h) rfl d_M_tick_282 ?_
              refine v_toi (y := nI (zc (zr3 S j) 3)) (by rw [eS_19, eS_18, eS_17, eS_10]; rfl) ?_
              refine v_aload_n C 3 d_M_tick_285 rfl rfl ?_
              refine v_get C k_M hR_19.1 31 (by decide) tw_514 (fun _ h => h) rfl d_M_tick_286 ?_
              refine v_aload_n C 3 d_M_tick_289 rfl rfl ?_
              refine v_get C k_M hR_19.1 10 (by decide) tw_493 (fun _ h => h) rfl d_M_tick_290 ?_
              refine v_iload C 1 d_M_tick_293 rfl ?_
              refine v_ialdN C (hR_19.oi (f := 10) (by decide)) (by show _ < 201; omega) (by decide) d_M_tick_295 ?_
              refine v_toi (y := (nI cn)) (by rw [eS_19]; rw [eS_18]; rw [eS_17]; rw [eS_10]; exact e10) ?_
              refine v_ialdN C (hR_19.oi (f := 31) (by decide)) (by show _ < 41; omega) (by decide) d_M_tick_296 ?_
              refine v_toi (y := (if zi (zr3 S j) 31 cn = 0 then nI (j + 1) else zi (zr3 S j) 31 cn)) (by rw [eS_19]; rw [eS_18]; rw [eS_17]; rw [eS_10]; simp [zi_ui]) ?_
              refine v_iastN C (hR_19.oi (f := 26) (by decide)) (by show _ < 200; omega) (by decide) d_M_tick_297 ?_
              refine v_view (fun v14 ev14 => ?_)
              obtain ⟨S_20, eS_20⟩ : ∃ z, z = zui S_19 26 (zc (zr3 S j) 3) (if zi (zr3 S j) 31 cn = 0 then nI (j + 1) else zi (zr3 S j) 31 cn) := ⟨_, rfl⟩
              have hR_20 : RM G v14 o ad S_20 := by rw [eS_20]; exact (by rw [ev14]; exact hR_19.puti 26 (by decide) (zc (zr3 S j) 3) (if zi (zr3 S j) 31 cn = 0 then nI (j + 1) else zi (zr3 S j) 31 cn))
              have hk_20 : vkeep (mX o ad) v0 v14 := by rw [ev14]; exact hk_19.up (mX_f (by decide))
              refine v_aload_n C 3 d_M_tick_298 rfl rfl ?_
              refine v_get C k_M hR_20.1 27 (by decide) tw_510 (fun _ h => h) rfl d_M_tick_299 ?_
              refine v_aload_n C 3 d_M_tick_302 rfl rfl ?_
              refine v_get C k_M hR_20.1 23 (by decide) tw_506 (fun _ h => h) rfl d_M_tick_303 ?_
              refine v_toi (y := nI (zc (zr3 S j) 3)) (by rw [eS_20, eS_19, eS_18, eS_17, eS_10]; rfl) ?_
              refine v_aload_n C 3 d_M_tick_306 rfl rfl ?_
              refine v_get C k_M hR_20.1 0 (by decide) tw_483 (fun _ h => h) rfl d_M_tick_307 ?_
              refine v_tol (y := zl (zr3 S j) 0 0) (by rw [eS_20]; rw [eS_19]; rw [eS_18]; rw [eS_17]; rw [eS_10]; rfl) ?_
              refine v_lastN C (hR_20.ol (f := 27) (by decide)) (by show _ < 200; omega) (by decide) d_M_tick_310 ?_
              refine v_view (fun v15 ev15 => ?_)
              obtain ⟨S_21, eS_21⟩ : ∃ z, z = zul S_20 27 (zc (zr3 S j) 3) (zl (zr3 S j) 0 0) := ⟨_, rfl⟩
              have hR_21 : RM G v15 o ad S_21 := by rw [eS_21]; exact (by rw [ev15]; exact hR_20.putl 27 (by decide) (zc (zr3 S j) 3) (zl (zr3 S j) 0 0))
              have hk_21 : vkeep (mX o ad) v0 v15 := by rw [ev15]; exact hk_20.up (mX_f (by decide))
              refine v_aload_n C 3 d_M_tick_311 rfl rfl ?_
              refine v_dup C d_M_tick_312 rfl ?_
              refine v_get C k_M hR_21.1 23 (by decide) tw_506 (fun _ h => h) rfl d_M_tick_313 ?_
              refine v_toi (y := nI (zc (zr3 S j) 3)) (by rw [eS_21, eS_20, eS_19, eS_18, eS_17, eS_10]; rfl) ?_
              refine v_iconst (x := 1) C d_M_tick_316 (by decide) ?_
              refine v_iadd C d_M_tick_317 ?_
              refine v_toi (y := nI ((zc (zr3 S j) 3) + 1)) (nI_add (zc (zr3 S j) 3) 1) ?_
              refine v_put C k_M hR_21.1 23 (by decide) tw_506 (fun _ h => h) rfl rfl rfl (Nat.le_of_ble_eq_true rfl) d_M_tick_318 ?_
              refine v_view (fun v16 ev16 => ?_)
              obtain ⟨S_22, eS_22⟩ : ∃ z, z = zuc S_21 3 ((zc (zr3 S j) 3) + 1) := ⟨_, rfl⟩
              have hR_22 : RM G v16 o ad S_22 := by rw [eS_22]; exact (by rw [ev16]; exact hR_21.puts rfl (fun f hf => rfl) (fun f hf => rfl))
              have hk_22 : vkeep (mX o ad) v0 v16 := by rw [ev16]; exact hk_21.up mX_o
              refine v_iinc (y := (nI ((zc (zr3 S j) 3 - zc S 3) + 1))) (lv' := [(3, .int (nI ((zc (zr3 S j) 3 - zc S 3) + 1))), (5, .int (nI q)), (4, .int (nI (j + 1))), (0, .ref o), (1, .long t)]) C 2 d_M_tick_321 rfl (nI_1 _) (by decide) rfl ?_
              refine v_iinc (y := (nI ((j + 1) + 1))) (lv' := [(4, .int (nI ((j + 1) + 1))), (3, .int (nI ((zc (zr3 S j) 3 - zc S 3) + 1))), (5, .int (nI q)), (0, .ref o), (1, .long t)]) C 2 d_M_tick_324 rfl (nI_1 _) (by decide) rfl ?_
              refine v_goto C 127 d_M_tick_327 (by decide) ?_
              have hst : zr3 S (j + 1) = zsnd (zr3 S j) (j + 1) q := by show zstep _ _ = _; unfold zstep; rw [if_pos ⟨c_143, hb_149⟩, hch]
              refine v_lv (lv' := [(4, .int (nI ((j + 1) + 1))), (3, .int (nI (zc (zr3 S (j + 1)) 3 - zc S 3))), (5, .int (nI q)), (0, .ref o), (1, .long t)]) (by have e9 : zc (zr3 S j) 3 - zc S 3 + 1 = zc (zr3 S (j + 1)) 3 - zc S 3 := by { rw [hst]; show _ = zc (zr3 S j) 3 + 1 - zc S 3; omega }; rw [← e9]) ?_
              refine v_sub [0, 1, 3, 4] rfl ?_
              exact ih (j + 1) v16 (by omega) (by omega) (by rw [hst, zsnd, e13]; subst eS_10 eS_17 eS_18 eS_19 eS_20 eS_21 eS_22; exact hR_22) hk_22
        · obtain rfl := hv9.symm
          show vV _ _ _ _ _ _ _ _ _ _ _ _ _ v kc ks 152 [(4, .int (nI (j + 1))), (3, .int (nI (zc (zr3 S j) 3 - zc S 3))), (0, .ref o), (1, .long t)] [.int 0]
          refine v_if_ne C 158 d_M_tick_152 (by decide) (fun z => absurd (by decide) z) (fun _ => ?_)
          refine v_goto C 324 d_M_tick_155 (by decide) ?_
          refine v_iinc (y := (nI ((j + 1) + 1))) (lv' := [(4, .int (nI ((j + 1) + 1))), (3, .int (nI (zc (zr3 S j) 3 - zc S 3))), (0, .ref o), (1, .long t)]) C 0 d_M_tick_324 rfl (nI_1 _) (by decide) rfl ?_
          refine v_goto C 127 d_M_tick_327 (by decide) ?_
          have hst : zr3 S (j + 1) = zr3 S j := by show zstep _ _ = _; unfold zstep; rw [if_neg (fun z => hb_149 z.2)]
          refine v_lv (lv' := [(4, .int (nI ((j + 1) + 1))), (3, .int (nI (zc (zr3 S (j + 1)) 3 - zc S 3))), (0, .ref o), (1, .long t)]) (by rw [hst]) ?_
          refine v_sub [0, 1, 2, 3] rfl ?_
          exact ih (j + 1) v (by omega) (by omega) (by rw [hst]; exact hR) hk
set_option maxHeartbeats 4000000 in
set_option maxRecDepth 100000 in
theorem c_M_tick (l : Launch) (G : vv_G) (v : vv_V) (o : Nat) (ad : Nat → Nat) (S : zS) (t : Int64) (hR : RM G v o ad S) (hB : zc S 0 ≤ 40 ∧ zc S 1 ≤ 200) (hB2 : zB2 S) (hB3 : zB3 S) : Mv l y_M_tick b_M_tick 6 (some FieldType.int) 2 47 G v [.ref o, .long t] (fun r v' => r = some (.int (oTick S t).1) ∧ RM G v' o ad (oTick S t).2 ∧ vkeep (mX o ad) v v') 0 0 := by
  refine vv_metF (own := "CustomerNoticesModel") (nm := "tick") pf_M_tick rfl rfl (Nat.le_of_ble_eq_true rfl) ?_
  intro p e s m below meth c C hin
  have hk : vkeep (mX o ad) v v := vkeep.rf
  show vV _ _ _ _ _ _ _ _ _ _ _ _ _ v 0 0 0 [(0, .ref o), (1, .long t)] []
  refine v_aload_n C 0 d_M_tick_0 rfl rfl ?_
  refine v_lload_n C 1 d_M_tick_1 rfl rfl ?_
  refine v_callV (rest := []) C (c_M_isTime l G v o ad S t hR) tw_618 tw_34 tw_615 tw_617 tw_21 mn_M_isTime hR.1 k_M.1 ⟨Nat.le_of_ble_eq_true rfl, Nat.le_of_ble_eq_true rfl⟩ rfl rfl (Nat.le_of_ble_eq_true rfl) d_M_tick_2 ⟨(by first | exact Nat.le_of_ble_eq_true rfl | (show _ ≤ _; omega)), (by first | exact Nat.le_of_ble_eq_true rfl | (show _ ≤ _; omega))⟩ (fun r_1 v_2 hp_3 => ?_)
  rcases hp_3 with ⟨rfl, hv9, hb_2⟩ | ⟨rfl, hv9, hb_2⟩
  · obtain rfl := hv9.symm
    show vV _ _ _ _ _ _ _ _ _ _ _ _ _ v 0 0 5 [(0, .ref o), (1, .long t)] [.int 1]
    refine v_if_ne C 11 d_M_tick_5 (by decide) (fun _ => ?_) (fun z => absurd z (by decide))
    refine v_aload_n C 0 d_M_tick_11 rfl rfl ?_
    refine v_lload_n C 1 d_M_tick_12 rfl rfl ?_
    refine v_put C k_M hR.1 0 (by decide) tw_483 (fun _ h => h) rfl rfl rfl (Nat.le_of_ble_eq_true rfl) d_M_tick_13 ?_
    refine v_view (fun v1 ev1 => ?_)
    obtain ⟨S_4, eS_4⟩ : ∃ z, z = zul S 0 0 t := ⟨_, rfl⟩
    have hR_4 : RM G v1 o ad S_4 := by rw [eS_4]; exact (by rw [ev1]; exact hR.puts rfl (fun f hf => rfl) (fun f hf => zl_updn (fun z => by subst z; revert hf; decide)))
    have hk_4 : vkeep (mX o ad) v v1 := by rw [ev1]; exact hk.up mX_o
    refine v_iconst (x := 1) C d_M_tick_16 (by decide) ?_
    refine v_istore_n (lv' := [(3, .int 1), (0, .ref o), (1, .long t)]) C d_M_tick_17 rfl (by decide) rfl ?_
    subst eS_4
    refine v_sub [0, 1, 2] rfl ?_
    refine lp_M_tick1 (S := (zul S 0 0 t)) (v0 := v) C hB.1 (fun va hRa hka => ?_) (zc S 0 + 1) 0 _ (Nat.zero_le _) (by show zc S 0 + 1 ≤ _; omega) hR_4 hk_4
    show vV _ _ _ _ _ _ _ _ _ _ _ _ _ va 0 0 48 [(3, .int (nI (zc S 0 + 1))), (0, .ref o), (1, .long t)] []
    refine v_iconst (x := 1) C d_M_tick_48 (by decide) ?_
    refine v_istore_n (lv' := [(3, .int 1), (0, .ref o), (1, .long t)]) C d_M_tick_49 rfl (by decide) rfl ?_
    refine v_sub [0, 1, 2] rfl ?_
    have q1 : zc (zr1 (zul S 0 0 t) (zc S 0)) 1 = zc S 1 := zr1_c _ _ _
    have q0 : zc (zr1 (zul S 0 0 t) (zc S 0)) 0 = zc S 0 := zr1_c _ _ _
    have hB2a : zB2 (zr1 (zul S 0 0 t) (zc S 0)) := by intro n h1 h2; rw [q1] at h2; rw [q0, zr1_i _ _ _ _ (by decide), zr1_i _ _ _ _ (by decide)]; exact hB2 n h1 h2
    refine lp_M_tick2 (S := zr1 (zul S 0 0 t) (zc S 0)) (v0 := v) C ⟨by rw [q0]; exact hB.1, by rw [q1]; exact hB.2⟩ hB2a (fun vb hRb hkb => ?_) (zc S 1 + 1) 0 _ (Nat.zero_le _) (by rw [q1]; omega) hRa hka
    rw [q1] at hRb
    rw [q1]
    show vV _ _ _ _ _ _ _ _ _ _ _ _ _ vb 0 0 122 [(3, .int (nI (zc S 1 + 1))), (0, .ref o), (1, .long t)] []
    refine v_iconst (x := 0) C d_M_tick_122 (by decide) ?_
    refine v_istore_n (lv' := [(3, .int 0), (0, .ref o), (1, .long t)]) C d_M_tick_123 rfl (by decide) rfl ?_
    refine v_iconst (x := 1) C d_M_tick_124 (by decide) ?_
    refine v_istore (lv' := [(4, .int 1), (3, .int 0), (0, .ref o), (1, .long t)]) C d_M_tick_125 (by decide) rfl ?_
    have p1 : zc (ztick S t) 1 = zc S 1 := (zr2_c _ _ _).trans (zr1_c _ _ _)
    have p0 : zc (ztick S t) 0 = zc S 0 := (zr2_c _ _ _).trans (zr1_c _ _ _)
    have p3 : zc (ztick S t) 3 = zc S 3 := (zr2_c _ _ _).trans (zr1_c _ _ _)
    have p4 : zc (ztick S t) 4 = zc S 4 := (zr2_c _ _ _).trans (zr1_c _ _ _)
    have pi : ∀ f i, f ≠ 31 → zi (ztick S t) f i = zi S f i := fun f i h => (zr2_i _ _ _ _).trans (zr1_i _ _ _ _ h)
    have hB2b : zB2 (ztick S t) := by intro n h1 h2; rw [p1] at h2; rw [p0, pi _ _ (by decide), pi _ _ (by decide)]; exact hB2 n h1 h2
    have hB3b : zB3 (ztick S t) := by unfold zB3; rw [p1, p3, p4, zwc_eq (S := S) (fun i _ _ => pi 15 i (by decide))]; exact hB3
    refine v_lv (lv' := [(4, .int (nI (0 + 1))), (3, .int (nI (zc (zr3 (ztick S t) 0) 3 - zc (ztick S t) 3))), (0, .ref o), (1, .long t)]) (by show _ = [(4, Value.int (nI (0 + 1))), (3, .int (nI (zc (ztick S t) 3 - zc (ztick S t) 3))), (0, .ref o), (1, .long t)]; rw [Nat.sub_self]; rfl) ?_
    refine lp_M_tick3 (S := ztick S t) (v0 := v) C ⟨by rw [p0]; exact hB.1, by rw [p1]; exact hB.2⟩ hB2b hB3b ⟨Nat.le_of_ble_eq_true rfl, Nat.le_of_ble_eq_true rfl⟩ ⟨Nat.le_refl _, Nat.le_refl _⟩ (fun vc hRc hkc => ?_) (zc S 1 + 1) 0 _ (Nat.zero_le _) (by rw [p1]; omega) hRb hkb
    rw [p1] at hRc
    rw [p1, p3]
    show vV _ _ _ _ _ _ _ _ _ _ _ _ _ vc 0 0 330 [(4, .int (nI (zc S 1 + 1))), (3, .int (nI (zc (zr3 (ztick S t) (zc S 1)) 3 - zc S 3))), (0, .ref o), (1, .long t)] []
    refine v_iload_n C 1 d_M_tick_330 rfl rfl ?_
    exact v_iret C d_M_tick_331 (by first | exact Nat.le_of_ble_eq_true rfl | (show _ ≤ _; omega)) (by first | exact Nat.le_of_ble_eq_true rfl | (show _ ≤ _; omega)) ⟨(by  rw [oTick, if_pos hb_2] <;> (try rfl)), (by  rw [oTick, if_pos hb_2]; exact hRc), hkc⟩
  · obtain rfl := hv9.symm
    show vV _ _ _ _ _ _ _ _ _ _ _ _ _ v 0 0 5 [(0, .ref o), (1, .long t)] [.int 0]
    refine v_if_ne C 11 d_M_tick_5 (by decide) (fun z => absurd (by decide) z) (fun _ => ?_)
    refine v_bipush (x := -12) C d_M_tick_8 (by decide) ?_
    exact v_iret C d_M_tick_10 (by first | exact Nat.le_of_ble_eq_true rfl | (show _ ≤ _; omega)) (by first | exact Nat.le_of_ble_eq_true rfl | (show _ ≤ _; omega)) ⟨(by  rw [oTick, if_neg hb_2] <;> (try rfl)), (by  rw [oTick, if_neg hb_2]; exact hR), hk⟩
