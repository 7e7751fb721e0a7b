theorem zde_9 {n e : Nat} (he : e ≤ 9) (hn : n ≤ 199) : e + zde n e ≤ 9 := by
  unfold zde
  split
  · omega
  · rename_i h
    have := zcp_full he (by omega) hn
    omega
theorem zdl_le {S : zS} {ea : Nat → Nat} {n : Nat} (h3 : ea 3 ≤ 9) (h4 : ea 4 ≤ 9) (hr3 : zc S 3 ≤ 199) (hr4 : zc S 4 ≤ 199) : ea 3 + ea 4 + zdl S ea n ≤ 18 := by
  have a := zde_9 h3 hr3
  have b := zde_9 h4 hr4
  unfold zdl
  split <;> omega
theorem nI_dif {a b : Nat} (h : b ≤ a) : nI a - nI b = nI (a - b) := by
  obtain ⟨d, rfl⟩ := Nat.le.dest h
  rw [Nat.add_sub_cancel_left, ← nI_add]
  rw [Int32.add_comm, Int32.add_sub_cancel]
set_option maxHeartbeats 4000000 in
set_option maxRecDepth 100000 in
theorem lp_C_tick {p : Program} {l : Launch} {e : Env} {R : Room} {s : State} {m : MethodId} {args : Array Value} {below : List Frame} {meth : Method} {c : Code} {Q : State → Prop} {G : vv_G} {v0 : vv_V} {kc ks c0 : Nat} {o : Nat} {la : Nat → Nat} {cw : Nat} {ca oa na ia : Nat → Nat} {S1 : zS} (C : vC p s m args meth c b_C_tick 6 (some FieldType.int) "CustomerNotices" G) (hI1 : zInv S1) (hle1 : ∀ n, 1 ≤ n → n ≤ zc S1 1 → zi S1 15 n = 0 → ¬ zi S1 12 n = 7 → (zl S1 30 (zn (zi S1 10 n))).toInt ≤ (zl S1 13 n).toInt) (hRm : 8 ≤ R.frames ∧ 194 ≤ R.locals) (hRc : kc + 18 ≤ R.cells ∧ ks + 4392 ≤ R.slots) (kx : ∀ (v : vv_V) (S : zS) (ra ea : Nat → Nat), S = zr3 S1 (zc S1 1) → RC G v o la cw S ra ea ca oa na ia → vkp tX v0 v → c0 ≤ ea 3 + ea 4 → vV p l e R s m args below meth c Q G 6 v (kc + (ea 3 + ea 4 - c0)) (ks + 244 * (ea 3 + ea 4 - c0)) 95 [(4, .int (nI (zc S1 1))), (3, .int (nI (zc S1 3))), (0, .ref o)] []) : ∀ (n : Nat) (i : Nat) (v : vv_V) (S : zS) (ra ea : Nat → Nat), i ≤ zc S1 1 → zc S1 1 + 1 ≤ i + n → S = zr3 S1 i → RC G v o la cw S ra ea ca oa na ia → RT v S ca oa → vkp tX v0 v → c0 ≤ ea 3 + ea 4 → vV p l e R s m args below meth c Q G 6 v (kc + (ea 3 + ea 4 - c0)) (ks + 244 * (ea 3 + ea 4 - c0)) 31 [(4, .int (nI i)), (3, .int (nI (zc S1 3))), (0, .ref o)] [] := by
  intro n
  induction n with
  | zero => intro i v S ra ea hi1 hi2 eS hRC hRT hkx hea; exfalso; omega
  | succ n ih =>
    intro i v S ra ea hi1 hi2 eS hRC hRT hkx hea
    have hI : zInv S := by rw [eS]; exact hI1.r3 i hi1
    have hcS : ∀ f, f ≠ 3 → f ≠ 4 → zc S f = zc S1 f := fun f h1 h2 => by rw [eS]; exact (zr3_k S1 i).1 f h1 h2
    have hc1S := hcS 1 (by decide) (by decide)
    have hc0S := hcS 0 (by decide) (by decide)
    have hb1 := hI.1.2.1
    have hb0 := hI.1.1
    obtain ⟨hA, ⟨gw, hW, hWj⟩, hLs, hKs, hNs, hIs, hD1, hD2, hD3, hD4⟩ := id hRC
    obtain ⟨⟨mo1, hl1⟩, hlb1, hlc1, hld1⟩ := hLs 1 (by decide)
    have he3 : ea 3 ≤ 9 := (hLs 3 (by decide)).2.2.1
    have he4 : ea 4 ≤ 9 := (hLs 4 (by decide)).2.2.1
    refine v_iload C 0 d_C_tick_31 rfl ?_
    refine v_aload_n C 2 d_C_tick_33 rfl rfl ?_
    refine v_get C k_C hA 1 (by decide) tw_79 (fun _ h => h) rfl d_C_tick_34 ?_
    refine v_callV (rest := [.int (nI i)]) C (c_LA_size l G v (la 1) (ra 1) (zc S 1) (ea 1) _ (hLs 1 (by decide))) tw_117 tw_33 tw_114 tw_115 tw_116 mn_AL_size hl1 k_AL.1 ⟨Nat.le_trans (Nat.le_of_ble_eq_true rfl) hRm.1, Nat.le_trans (Nat.le_of_ble_eq_true rfl) hRm.2⟩ rfl rfl (Nat.le_of_ble_eq_true rfl) d_C_tick_37 ⟨(by omega), (by omega)⟩ (fun r_1 v_2 hp_3 => ?_)
    obtain ⟨rfl, hv9⟩ := hp_3
    obtain rfl := hv9.symm
    show vV _ _ _ _ _ _ _ _ _ _ _ _ _ v (kc + (ea 3 + ea 4 - c0)) (ks + 244 * (ea 3 + ea 4 - c0)) 40 [(4, .int (nI i)), (3, .int (nI (zc S1 3))), (0, .ref o)] [.int (nI (zc S 1)), .int (nI i)]
    refine v_icmp_ge C 95 d_C_tick_40 (by decide) (fun c_40 => ?_) (fun c_40 => ?_)
    · have n_40 : (zc S 1) ≤ i := (nI_leI (a := (zc S 1)) (b := i) (by omega) (by omega)).mp c_40
      have hj4 : i = zc S1 1 := by omega
      subst hj4
      exact kx v S ra ea eS hRC hkx hea
    · have n_40 : ¬ (zc S 1) ≤ i := mt (nI_leI (a := (zc S 1)) (b := i) (by omega) (by omega)).mpr c_40
      refine v_aload_n C 2 d_C_tick_43 rfl rfl ?_
      refine v_get C k_C hA 1 (by decide) tw_79 (fun _ h => h) rfl d_C_tick_44 ?_
      refine v_iload C 0 d_C_tick_47 rfl ?_
      refine v_callV (rest := []) C (c_LA_get l G v (la 1) (ra 1) (zc S 1) (ea 1) i _ (hLs 1 (by decide)) (by omega)) tw_218 tw_33 tw_215 tw_216 tw_217 mn_AL_get hl1 k_AL.1 ⟨Nat.le_trans (Nat.le_of_ble_eq_true rfl) hRm.1, Nat.le_trans (Nat.le_of_ble_eq_true rfl) hRm.2⟩ rfl rfl (Nat.le_of_ble_eq_true rfl) d_C_tick_49 ⟨(by omega), (by omega)⟩ (fun r_4 v_5 hp_6 => ?_)
      obtain ⟨rfl, hv9⟩ := hp_6
      obtain rfl := hv9.symm
      show vV _ _ _ _ _ _ _ _ _ _ _ _ _ v (kc + (ea 3 + ea 4 - c0)) (ks + 244 * (ea 3 + ea 4 - c0)) 52 [(4, .int (nI i)), (3, .int (nI (zc S1 3))), (0, .ref o)] [.ref (na i)]
      obtain ⟨ch, msg, sent, hn0, hns⟩ := hNs i (by omega)
      refine v_cast C tw_319 tw_688 hn0 k_N.1 d_C_tick_52 ?_
      refine v_astore (lv' := [(5, .ref (na i)), (4, .int (nI i)), (3, .int (nI (zc S1 3))), (0, .ref o)]) C d_C_tick_55 (by decide) rfl ?_
      refine v_aload C 0 d_C_tick_57 rfl ?_
      refine v_get C k_N hn0 5 (by decide) tw_337 (fun _ h => h) rfl d_C_tick_59 ?_
      refine v_if_ne C 89 d_C_tick_62 (by decide) (fun c_62 => ?_) (fun c_62 => ?_)
      · refine v_iinc (y := (nI (i + 1))) (lv' := [(4, .int (nI (i + 1))), (5, .ref (na i)), (3, .int (nI (zc S1 3))), (0, .ref o)]) C 1 d_C_tick_89 rfl (nI_1 _) (by decide) rfl ?_
        refine v_goto C 31 d_C_tick_92 (by decide) ?_
        refine v_sub [0, 2, 3] rfl ?_
        exact ih (i + 1) v S ra ea (by omega) (by omega) (by rw [zr3, ← eS, zstep, if_neg (fun z => c_62 z.1)]) hRC hRT hkx hea
      · have hleS : ¬ zi S 12 (i + 1) = 7 → (zl S 30 (zn (zi S 10 (i + 1)))).toInt ≤ (zl S 13 (i + 1)).toInt := fun h7 => by
          have z15 : zi S1 15 (i + 1) = 0 := by rw [← zr3_15 S1 i (i + 1) (by omega), ← eS]; exact c_62
          have k2 := (zr3_k S1 i).2.1
          have k3 := (zr3_k S1 i).2.2
          rw [eS] at h7 ⊢
          rw [k2 12 _ (by decide) (by decide) (by decide) (by decide) (by decide) (by decide)] at h7
          rw [k2 10 _ (by decide) (by decide) (by decide) (by decide) (by decide) (by decide), k3 30 _ (by decide), k3 13 _ (by decide)]
          exact hle1 (i + 1) (by omega) (by omega) z15 h7
        refine v_aload_n C 3 d_C_tick_65 rfl rfl ?_
        refine v_aload C 0 d_C_tick_66 rfl ?_
        refine v_callV (rest := []) C (c_C_isDue l G v o la cw S ra ea ca oa na ia i hRC (by omega) hI.1 hI.2.1 hI.2.2.2.2.2.2.2.2.2.1 hRT hleS) tw_402 tw_30 tw_399 tw_401 tw_13 mn_C_isDue hA k_C.1 ⟨Nat.le_trans (Nat.le_of_ble_eq_true rfl) hRm.1, Nat.le_trans (Nat.le_of_ble_eq_true rfl) hRm.2⟩ rfl rfl (Nat.le_of_ble_eq_true rfl) d_C_tick_68 ⟨(by omega), (by omega)⟩ (fun r_7 v_8 hp_9 => ?_)
        rcases hp_9 with ⟨rfl, hv9, hb_68⟩ | ⟨rfl, hv9, hb_68⟩
        · obtain rfl := hv9.symm
          show vV _ _ _ _ _ _ _ _ _ _ _ _ _ v (kc + (ea 3 + ea 4 - c0)) (ks + 244 * (ea 3 + ea 4 - c0)) 71 [(5, .ref (na i)), (4, .int (nI i)), (3, .int (nI (zc S1 3))), (0, .ref o)] [.int 1]
          refine v_if_eq C 89 d_C_tick_71 (by decide) (fun z => absurd z (by decide)) (fun _ => ?_)
          refine v_aload_n C 3 d_C_tick_74 rfl rfl ?_
          refine v_aload C 0 d_C_tick_75 rfl ?_
          refine v_callV (rest := []) C (c_C_isHeld l G v o la cw S ra ea ca oa na ia i hRC (by omega) hI.1 hI.2.1 hI.2.2.2.2.2.2.2.2.2.1) tw_406 tw_30 tw_403 tw_405 tw_14 mn_C_isHeldByQuiet hA k_C.1 ⟨Nat.le_trans (Nat.le_of_ble_eq_true rfl) hRm.1, Nat.le_trans (Nat.le_of_ble_eq_true rfl) hRm.2⟩ rfl rfl (Nat.le_of_ble_eq_true rfl) d_C_tick_77 ⟨(by omega), (by omega)⟩ (fun r_10 v_11 hp_12 => ?_)
          rcases hp_12 with ⟨rfl, hv9, hb_77⟩ | ⟨rfl, hv9, hb_77⟩
          · obtain rfl := hv9.symm
            show vV _ _ _ _ _ _ _ _ _ _ _ _ _ v (kc + (ea 3 + ea 4 - c0)) (ks + 244 * (ea 3 + ea 4 - c0)) 80 [(5, .ref (na i)), (4, .int (nI i)), (3, .int (nI (zc S1 3))), (0, .ref o)] [.int 1]
            refine v_if_ne C 89 d_C_tick_80 (by decide) (fun _ => ?_) (fun z => absurd z (by decide))
            refine v_iinc (y := (nI (i + 1))) (lv' := [(4, .int (nI (i + 1))), (5, .ref (na i)), (3, .int (nI (zc S1 3))), (0, .ref o)]) C 1 d_C_tick_89 rfl (nI_1 _) (by decide) rfl ?_
            refine v_goto C 31 d_C_tick_92 (by decide) ?_
            refine v_sub [0, 2, 3] rfl ?_
            exact ih (i + 1) v S ra ea (by omega) (by omega) (by rw [zr3, ← eS, zstep, if_neg (fun z => z.2.2.elim hb_77.1 (fun y => y.2 hb_77.2))]) hRC hRT hkx hea
          · obtain rfl := hv9.symm
            show vV _ _ _ _ _ _ _ _ _ _ _ _ _ v (kc + (ea 3 + ea 4 - c0)) (ks + 244 * (ea 3 + ea 4 - c0)) 80 [(5, .ref (na i)), (4, .int (nI i)), (3, .int (nI (zc S1 3))), (0, .ref o)] [.int 0]
            refine v_if_ne C 89 d_C_tick_80 (by decide) (fun z => absurd (by decide) z) (fun _ => ?_)
            refine v_aload_n C 3 d_C_tick_83 rfl rfl ?_
            refine v_aload C 0 d_C_tick_84 rfl ?_
            have hzw := zwc_pos (n := zc S 1) c_62 (by omega) (by omega)
            have h3b := hI.2.2.1.1
            have hzl := zdl_le (S := S) (ea := ea) (n := i + 1) he3 he4 (by omega) (by omega)
            refine v_callV (rest := []) C (c_C_deliver l G v o la cw S ra ea ca oa na ia i hRC (by omega) hI.1 hI.2.1 hRT hI.2.2.2.1 hI.2.2.2.2.1 hI.2.2.2.2.2.2.2.1 hI.2.2.2.2.2.2.2.2.2.2 c_62 (by omega) (by omega)) tw_418 tw_30 tw_415 tw_417 tw_15 mn_C_deliver hA k_C.1 ⟨Nat.le_trans (Nat.le_of_ble_eq_true rfl) hRm.1, Nat.le_trans (Nat.le_of_ble_eq_true rfl) hRm.2⟩ rfl rfl (Nat.le_of_ble_eq_true rfl) d_C_tick_86 ⟨(by omega), (by omega)⟩ (fun r_13 v_14 hp_15 => ?_)
            refine v_cs (kc' := ((kc + (ea 3 + ea 4 - c0)) + zdl S ea (i + 1))) (ks' := ((ks + 244 * (ea 3 + ea 4 - c0)) + 244 * zdl S ea (i + 1))) rfl rfl ?_
            obtain ⟨rfl, ra9, ea9, hRC9, hRT9, hkx9, hea9⟩ := hp_15
            show vV _ _ _ _ _ _ _ _ _ _ _ _ _ v_14 ((kc + (ea 3 + ea 4 - c0)) + zdl S ea (i + 1)) ((ks + 244 * (ea 3 + ea 4 - c0)) + 244 * zdl S ea (i + 1)) 89 [(5, .ref (na i)), (4, .int (nI i)), (3, .int (nI (zc S1 3))), (0, .ref o)] []
            refine v_iinc (y := (nI (i + 1))) (lv' := [(4, .int (nI (i + 1))), (5, .ref (na i)), (3, .int (nI (zc S1 3))), (0, .ref o)]) C 1 d_C_tick_89 rfl (nI_1 _) (by decide) rfl ?_
            refine v_goto C 31 d_C_tick_92 (by decide) ?_
            refine v_sub [0, 2, 3] rfl ?_
            have hdue : zi S 15 (i + 1) = 0 ∧ zdue S (i + 1) := ⟨c_62, hb_68.1, (by by_cases c7 : zi S 12 (i + 1) = 7; exact Or.inl c7; exact Or.inr ⟨hb_68.2.resolve_left c7, fun y => hb_77 ⟨c7, y⟩⟩)⟩
            refine v_cs (kc' := (kc + (ea9 3 + ea9 4 - c0))) (ks' := (ks + 244 * (ea9 3 + ea9 4 - c0))) (by omega) (by omega) ?_
            exact ih (i + 1) v_14 (zdlv S (i + 1)) ra9 ea9 (by omega) (by omega) (by rw [zr3, ← eS, zstep_dlv hdue]) hRC9 hRT9 (hkx.tr hkx9) (by omega)
        · obtain rfl := hv9.symm
          show vV _ _ _ _ _ _ _ _ _ _ _ _ _ v (kc + (ea 3 + ea 4 - c0)) (ks + 244 * (ea 3 + ea 4 - c0)) 71 [(5, .ref (na i)), (4, .int (nI i)), (3, .int (nI (zc S1 3))), (0, .ref o)] [.int 0]
          refine v_if_eq C 89 d_C_tick_71 (by decide) (fun _ => ?_) (fun z => absurd (by decide) z)
          refine v_iinc (y := (nI (i + 1))) (lv' := [(4, .int (nI (i + 1))), (5, .ref (na i)), (3, .int (nI (zc S1 3))), (0, .ref o)]) C 1 d_C_tick_89 rfl (nI_1 _) (by decide) rfl ?_
          refine v_goto C 31 d_C_tick_92 (by decide) ?_
          refine v_sub [0, 2, 3] rfl ?_
          exact ih (i + 1) v S ra ea (by omega) (by omega) (by rw [zr3, ← eS, zstep, if_neg (fun z => hb_68 ⟨z.2.1, z.2.2.elim Or.inl (fun y => Or.inr y.1)⟩)]) hRC hRT hkx hea
set_option maxHeartbeats 4000000 in
set_option maxRecDepth 100000 in
theorem c_C_tick (l : Launch) (G : vv_G) (v : vv_V) (o : Nat) (la : Nat → Nat) (cw : Nat) (S : zS) (ra ea ca oa na ia : Nat → Nat) (t : Int64) (hRC : RC G v o la cw S ra ea ca oa na ia) (hI : zInv S) : Mv l y_C_tick b_C_tick 6 (some FieldType.int) 8 194 G v [.ref o, .long t] (fun r v' => r = some (.int (oTick S t).1) ∧ RCe G v o la cw S oa v' (oTick S t).2) 18 4392 := by
  refine vv_metF (own := "CustomerNotices") (nm := "tick") pf_C_tick rfl rfl (Nat.le_of_ble_eq_true rfl) ?_
  intro p e s m below meth c C hin
  obtain ⟨hA, ⟨gw, hW, hWj⟩, hLs, hKs, hNs, hIs, hD1, hD2, hD3, hD4⟩ := id hRC
  show vV _ _ _ _ _ _ _ _ _ _ _ _ _ v 0 0 0 [(0, .ref o), (1, .long t)] []
  refine v_aload_n C 0 d_C_tick_0 rfl rfl ?_
  refine v_lload_n C 1 d_C_tick_1 rfl rfl ?_
  refine v_callV (rest := []) C (c_C_isTimeFromNow l G v o la cw S ra ea ca oa na ia t hRC) tw_273 tw_30 tw_270 tw_272 tw_5 mn_C_isTimeFromNow hA k_C.1 ⟨Nat.le_of_ble_eq_true rfl, Nat.le_of_ble_eq_true rfl⟩ rfl rfl (Nat.le_of_ble_eq_true rfl) d_C_tick_2 ⟨(by first | exact Nat.le_of_ble_eq_true rfl | (dsimp only; omega)), (by first | exact Nat.le_of_ble_eq_true rfl | (dsimp only; omega))⟩ (fun r_1 v_2 hp_3 => ?_)
  rcases hp_3 with ⟨rfl, hv9, hb_2⟩ | ⟨rfl, hv9, hb_2⟩
  · obtain rfl := hv9.symm
    show vV _ _ _ _ _ _ _ _ _ _ _ _ _ v 0 0 5 [(0, .ref o), (1, .long t)] [.int 1]
    refine v_if_ne C 11 d_C_tick_5 (by decide) (fun _ => ?_) (fun z => absurd z (by decide))
    refine v_aload_n C 0 d_C_tick_11 rfl rfl ?_
    refine v_lload_n C 1 d_C_tick_12 rfl rfl ?_
    refine v_put C k_C hA 6 (by decide) tw_84 (fun _ h => h) rfl rfl rfl (Nat.le_of_ble_eq_true rfl) d_C_tick_13 ?_
    refine v_view (fun v1 ev1 => ?_)
    have he_4 : v1 3 o = some (.inr (3, [.ref (la 0), .ref (la 1), .ref (la 2), .ref (la 3), .ref (la 4), .ref cw, .long t, .int (zi S 1 0)])) := by rw [ev1]; exact vv_up_s _ _ _ _
    refine v_aload_n C 0 d_C_tick_16 rfl rfl ?_
    have hRn := hRC.own (S' := zul S 0 0 t) (v' := v1) (by rw [ev1]; exact vkp.rf.up (Or.inl ⟨rfl, rfl⟩)) he_4 ⟨gw, (by rw [ev1]; exact (vv_up_k _ _ _ _ (by decide)).trans hW), hWj⟩ (fun _ => rfl) (fun f i h1 h2 => rfl) (fun f i h => by rw [zl_ul, if_neg h])
    have hkv : vkp (cYY S cw oa) v v1 := by rw [ev1]; exact vkp.rf.up (Or.inr (Or.inr (Or.inr (Or.inl rfl))))
    have hB9n : zB9 (zul S 0 0 t) := hI.2.2.2.2.2.2.2.2.2.1.k (fun _ _ _ => rfl) (fun _ => Or.inl rfl) (fun n => Or.inl (by rw [zl_ul, if_neg (by decide)])) (fun n => Or.inl (by rw [zl_ul, if_neg (by decide)])) (Or.inr (by rw [zl_ul, if_pos rfl, if_pos rfl]; have y := hI.2.2.2.2.2.2.2.2.2.1.2.2.1; have y1 := hb_2.1; have y2 := hb_2.2; omega))
    refine v_callV (rest := []) C (c_C_prepare l G v1 o la cw (zul S 0 0 t) ra ea ca oa na ia hRn (hI.1.k rfl rfl rfl (fun _ => rfl)) hI.2.1 hB9n) tw_391 tw_30 tw_388 tw_390 tw_12 mn_C_prepareCustomersForTick he_4 k_C.1 ⟨Nat.le_of_ble_eq_true rfl, Nat.le_of_ble_eq_true rfl⟩ rfl rfl (Nat.le_of_ble_eq_true rfl) d_C_tick_17 ⟨(by first | exact Nat.le_of_ble_eq_true rfl | (dsimp only; omega)), (by first | exact Nat.le_of_ble_eq_true rfl | (dsimp only; omega))⟩ (fun r_5 v_6 hp_7 => ?_)
    obtain ⟨rfl, ⟨hR0, hT0⟩, hkp⟩ := hp_7
    have hRC1 : RC G v_6 o la cw (ztick S t) ra ea ca oa na ia := hR0
    have hT1 : RT v_6 (ztick S t) ca oa := hT0
    have hI1 := hI.r12 hb_2
    have hle1 : ∀ n, 1 ≤ n → n ≤ zc (ztick S t) 1 → zi (ztick S t) 15 n = 0 → ¬ zi (ztick S t) 12 n = 7 → (zl (ztick S t) 30 (zn (zi (ztick S t) 10 n))).toInt ≤ (zl (ztick S t) 13 n).toInt := fun n h1 h2 h3 h4 => by
      unfold ztick at h2 h3 h4 ⊢
      rw [zr2_c, zr1_c] at h2
      rw [zr2_i] at h3 h4
      rw [zr2_i, zr2_l _ _ 13 _ (by decide)]
      exact zr2_le _ _ n h1 h2 h3 h4
    have hc3 : zc (ztick S t) 3 = zc S 3 := by unfold ztick; rw [zr2_c, zr1_c]; rfl
    have hc1 : zc (ztick S t) 1 = zc S 1 := by unfold ztick; rw [zr2_c, zr1_c]; rfl
    have hc0 : zc (ztick S t) 0 = zc S 0 := by unfold ztick; rw [zr2_c, zr1_c]; rfl
    have hop : oTick S t = (nI (zc (zr3 (ztick S t) (zc S 1)) 3 - zc S 3), zr3 (ztick S t) (zc S 1)) := by rw [oTick, if_pos hb_2]
    rw [← hc1, ← hc3] at hop
    obtain ⟨S1, eS1⟩ : ∃ z, z = ztick S t := ⟨_, rfl⟩
    rw [← eS1] at hRC1 hT1 hI1 hle1 hc3 hc1 hc0 hop
    obtain ⟨hA1, ⟨gw1, hW1, hWj1⟩, hLs1, hKs1, hNs1, hIs1, hD11, hD21, hD31, hD41⟩ := id hRC1
    show vV _ _ _ _ _ _ _ _ _ _ _ _ _ v_6 0 0 20 [(0, .ref o), (1, .long t)] []
    obtain ⟨⟨mo3, hl3⟩, hlb3, hlc3, hld3⟩ := hLs1 3 (by decide)
    refine v_aload_n C 0 d_C_tick_20 rfl rfl ?_
    refine v_get C k_C hA1 3 (by decide) tw_81 (fun _ h => h) rfl d_C_tick_21 ?_
    refine v_callV (rest := []) C (c_LA_size l G v_6 (la 3) (ra 3) (zc S1 3) (ea 3) _ (hLs1 3 (by decide))) tw_117 tw_33 tw_114 tw_115 tw_116 mn_AL_size hl3 k_AL.1 ⟨Nat.le_of_ble_eq_true rfl, Nat.le_of_ble_eq_true rfl⟩ rfl rfl (Nat.le_of_ble_eq_true rfl) d_C_tick_24 ⟨(by first | exact Nat.le_of_ble_eq_true rfl | (dsimp only; omega)), (by first | exact Nat.le_of_ble_eq_true rfl | (dsimp only; omega))⟩ (fun r_8 v_9 hp_10 => ?_)
    obtain ⟨rfl, hv9⟩ := hp_10
    obtain rfl := hv9.symm
    show vV _ _ _ _ _ _ _ _ _ _ _ _ _ v_6 0 0 27 [(0, .ref o), (1, .long t)] [.int (nI (zc S1 3))]
    refine v_istore_n (lv' := [(3, .int (nI (zc S1 3))), (0, .ref o), (1, .long t)]) C d_C_tick_27 rfl (by decide) rfl ?_
    refine v_iconst (x := 0) C d_C_tick_28 (by decide) ?_
    refine v_istore (lv' := [(4, .int 0), (3, .int (nI (zc S1 3))), (0, .ref o), (1, .long t)]) C d_C_tick_29 (by decide) rfl ?_
    refine v_sub [0, 1, 2] rfl ?_
    refine v_cs (kc' := (0 + (ea 3 + ea 4 - (ea 3 + ea 4)))) (ks' := (0 + 244 * (ea 3 + ea 4 - (ea 3 + ea 4)))) (by omega) (by omega) ?_
    refine lp_C_tick (v0 := v_6) (kc := 0) (ks := 0) (c0 := ea 3 + ea 4) (S1 := S1) C hI1 hle1 ⟨Nat.le_of_ble_eq_true rfl, Nat.le_of_ble_eq_true rfl⟩ ⟨Nat.le_of_ble_eq_true rfl, Nat.le_of_ble_eq_true rfl⟩ (fun va Sa raa eaa eSa hRCa hka hea => ?_) (zc S1 1 + 1) 0 v_6 S1 ra ea (by omega) (by omega) rfl hRC1 hT1 vkp.rf (Nat.le_refl _)
    obtain ⟨hAa, ⟨gwa, hWa, hWja⟩, hLsa, hKsa, hNsa, hIsa, hD1a, hD2a, hD3a, hD4a⟩ := id hRCa
    have he3 : eaa 3 ≤ 9 := (hLsa 3 (by decide)).2.2.1
    have he4 : eaa 4 ≤ 9 := (hLsa 4 (by decide)).2.2.1
    obtain ⟨⟨mo3, hl3⟩, hlb3, hlc3, hld3⟩ := hLsa 3 (by decide)
    have hge := (zr3_B3 hI1.2.2.1 (zc S1 1) (Nat.le_refl _)).2
    rw [← eSa] at hge hop
    show vV _ _ _ _ _ _ _ _ _ _ _ _ _ va (0 + (eaa 3 + eaa 4 - (ea 3 + ea 4))) (0 + 244 * (eaa 3 + eaa 4 - (ea 3 + ea 4))) 95 [(4, .int (nI (zc S1 1))), (3, .int (nI (zc S1 3))), (0, .ref o)] []
    refine v_aload_n C 2 d_C_tick_95 rfl rfl ?_
    refine v_get C k_C hAa 3 (by decide) tw_81 (fun _ h => h) rfl d_C_tick_96 ?_
    refine v_callV (rest := []) C (c_LA_size l G va (la 3) (raa 3) (zc Sa 3) (eaa 3) _ (hLsa 3 (by decide))) tw_117 tw_33 tw_114 tw_115 tw_116 mn_AL_size hl3 k_AL.1 ⟨Nat.le_of_ble_eq_true rfl, Nat.le_of_ble_eq_true rfl⟩ rfl rfl (Nat.le_of_ble_eq_true rfl) d_C_tick_99 ⟨(by first | exact Nat.le_of_ble_eq_true rfl | (dsimp only; omega)), (by first | exact Nat.le_of_ble_eq_true rfl | (dsimp only; omega))⟩ (fun r_11 v_12 hp_13 => ?_)
    obtain ⟨rfl, hv9⟩ := hp_13
    obtain rfl := hv9.symm
    show vV _ _ _ _ _ _ _ _ _ _ _ _ _ va (0 + (eaa 3 + eaa 4 - (ea 3 + ea 4))) (0 + 244 * (eaa 3 + eaa 4 - (ea 3 + ea 4))) 102 [(4, .int (nI (zc S1 1))), (3, .int (nI (zc S1 3))), (0, .ref o)] [.int (nI (zc Sa 3))]
    refine v_iload_n C 1 d_C_tick_102 rfl rfl ?_
    refine v_isub C d_C_tick_103 ?_
    exact v_iret C d_C_tick_104 (by first | exact Nat.le_of_ble_eq_true rfl | (show _ ≤ _; omega)) (by first | exact Nat.le_of_ble_eq_true rfl | (show _ ≤ _; omega)) ⟨(by rw [hop, nI_dif hge]), (by rw [hop]; exact RCe.mk hRCa ((hkv.tr (hkp.mono (fun _ _ z => Or.inl z))).tr (hka.mono tX_Y)) (by rw [eSa, (zr3_k S1 (zc S1 1)).1 0 (by decide) (by decide), hc0]))⟩
  · obtain rfl := hv9.symm
    show vV _ _ _ _ _ _ _ _ _ _ _ _ _ v 0 0 5 [(0, .ref o), (1, .long t)] [.int 0]
    refine v_if_ne C 11 d_C_tick_5 (by decide) (fun z => absurd (by decide) z) (fun _ => ?_)
    refine v_bipush (x := -12) C d_C_tick_8 (by decide) ?_
    exact v_iret C d_C_tick_10 (by first | exact Nat.le_of_ble_eq_true rfl | (show _ ≤ _; omega)) (by first | exact Nat.le_of_ble_eq_true rfl | (show _ ≤ _; omega)) ⟨(by  rw [oTick, if_neg hb_2] <;> (try rfl)), (by  rw [oTick, if_neg hb_2]; exact RCe.rf hRC)⟩
