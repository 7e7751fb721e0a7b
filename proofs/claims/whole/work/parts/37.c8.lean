theorem zo2_i (S : zS) (x k : Int32) (j f i : Nat) (h : f ≠ 15) : zi (zo2 S x k j) f i = zi S f i := by
  induction j with
  | zero => rfl
  | succ j ih =>
    unfold zo2
    split
    · rw [zi_ui, if_neg h, ih]
    · exact ih
theorem zo2_l (S : zS) (x k : Int32) (j f i : Nat) : zl (zo2 S x k j) f i = zl S f i := by
  induction j with
  | zero => rfl
  | succ j ih => unfold zo2; split <;> exact ih
theorem zo1_l (S : zS) (b j f i : Nat) : zl (zo1 S b j) f i = zl S f i := by
  induction j with
  | zero => rfl
  | succ j ih => exact ih
theorem kclr_v (g : Nat → Int32) (b n i : Nat) : kclr g b n i = if b ≤ i ∧ i < b + n then -1 else g i := by
  induction n with
  | zero => rw [if_neg (by omega)]; rfl
  | succ n ih =>
    unfold kclr
    simp only [upd]
    by_cases c : i = b + n
    · rw [if_pos c, if_pos (by omega)]
    · rw [if_neg c, ih]
      by_cases c2 : b ≤ i ∧ i < b + n
      · rw [if_pos c2, if_pos (by omega)]
      · rw [if_neg c2, if_neg (by omega)]
theorem zo1_8 (S : zS) (b n i : Nat) : zi (zo1 S b n) 8 i = if b ≤ i ∧ i < b + n then 0 else zi S 8 i := by
  induction n with
  | zero => rw [if_neg (by omega)]; rfl
  | succ n ih =>
    unfold zo1
    rw [zi_ui, if_pos rfl]
    by_cases c : i = b + n
    · rw [if_pos c, if_pos (by omega)]
    · rw [if_neg c, ih]
      by_cases c2 : b ≤ i ∧ i < b + n
      · rw [if_pos c2, if_pos (by omega)]
      · rw [if_neg c2, if_neg (by omega)]
set_option maxHeartbeats 4000000 in
set_option maxRecDepth 100000 in
theorem lp_C_out {p : Program} {l : Launch} {e : Env} {R : Room} {s : State} {m : MethodId} {args : Array Value} {below : List Frame} {meth : Method} {c : Code} {Q : State → Prop} {G : vv_G} {v0 : vv_V} {kc ks : Nat} {o : Nat} {la : Nat → Nat} {cw : Nat} {ra ea ca oa na ia : Nat → Nat} {S1 : zS} {x k : Int32} (C : vC p s m args meth c b_C_out 7 (some FieldType.int) "CustomerNotices" G) (hB : zc S1 1 ≤ 200 ∧ zc S1 0 ≤ 40) (hB2 : zB2 S1) (hRm : 3 ≤ R.frames ∧ 64 ≤ R.locals) (hRc : kc ≤ R.cells ∧ ks ≤ R.slots) (kx : ∀ (v : vv_V) (S : zS), S = zo2 S1 x k (zc S1 1) → RC G v o la cw S ra ea ca oa na ia → vkp cX v0 v → vV p l e R s m args below meth c Q G 7 v kc ks 104 [(5, .int (nI (zc S1 1))), (4, .int (nI (zom S1 x k (zc S1 1)))), (0, .ref o), (1, .int x), (2, .int k)] []) : ∀ (n : Nat) (i : Nat) (v : vv_V) (S : zS), i ≤ zc S1 1 → zc S1 1 + 1 ≤ i + n → S = zo2 S1 x k i → RC G v o la cw S ra ea ca oa na ia → vkp cX v0 v → vV p l e R s m args below meth c Q G 7 v kc ks 34 [(5, .int (nI i)), (4, .int (nI (zom S1 x k i))), (0, .ref o), (1, .int x), (2, .int k)] [] := by
  intro n
  induction n with
  | zero => intro i v S hi1 hi2 eS hRC hkx; exfalso; omega
  | succ n ih =>
    intro i v S hi1 hi2 eS hRC hkx
    have hcS : ∀ f, zc S f = zc S1 f := fun f => by rw [eS, zo2_c]
    have hc1S := hcS 1
    have hc0S := hcS 0
    have hB2S : zB2 S := fun n h1 h2 => by rw [hcS 0, eS, zo2_i _ _ _ _ _ _ (by decide), zo2_i _ _ _ _ _ _ (by decide)]; exact hB2 n h1 (by omega)
    obtain ⟨hA, ⟨gw, hW, hWj⟩, hLs, hKs, hNs, hIs, hD1, hD2, hD3, hD4⟩ := id hRC
    obtain ⟨⟨mo1, hl1⟩, hlb1, hlc1, hld1⟩ := hLs 1 (by decide)
    refine v_iload C 0 d_C_out_34 rfl ?_
    refine v_aload_n C 2 d_C_out_36 rfl rfl ?_
    refine v_get C k_C hA 1 (by decide) tw_79 (fun _ h => h) rfl d_C_out_37 ?_
    refine v_callV (rest := [.int (nI i)]) C (c_LA_size l G v (la 1) (ra 1) (zc S 1) (ea 1) _ (hLs 1 (by decide))) tw_117 tw_33 tw_114 tw_115 tw_116 mn_AL_size hl1 k_AL.1 ⟨Nat.le_trans (Nat.le_of_ble_eq_true rfl) hRm.1, Nat.le_trans (Nat.le_of_ble_eq_true rfl) hRm.2⟩ rfl rfl (Nat.le_of_ble_eq_true rfl) d_C_out_40 ⟨hRc.1, hRc.2⟩ (fun r_1 v_2 hp_3 => ?_)
    obtain ⟨rfl, hv9⟩ := hp_3
    obtain rfl := hv9.symm
    show vV _ _ _ _ _ _ _ _ _ _ _ _ _ v kc ks 43 [(5, .int (nI i)), (4, .int (nI (zom S1 x k i))), (0, .ref o), (1, .int x), (2, .int k)] [.int (nI (zc S 1)), .int (nI i)]
    refine v_icmp_ge C 104 d_C_out_43 (by decide) (fun c_43 => ?_) (fun c_43 => ?_)
    · have n_43 : (zc S 1) ≤ i := (nI_leI (a := (zc S 1)) (b := i) (by omega) (by omega)).mp c_43
      have hj4 : i = zc S1 1 := by omega
      subst hj4
      exact kx v S eS hRC hkx
    · have n_43 : ¬ (zc S 1) ≤ i := mt (nI_leI (a := (zc S 1)) (b := i) (by omega) (by omega)).mpr c_43
      refine v_aload_n C 2 d_C_out_46 rfl rfl ?_
      refine v_get C k_C hA 1 (by decide) tw_79 (fun _ h => h) rfl d_C_out_47 ?_
      refine v_iload C 0 d_C_out_50 rfl ?_
      refine v_callV (rest := []) C (c_LA_get l G v (la 1) (ra 1) (zc S 1) (ea 1) i _ (hLs 1 (by decide)) (by omega)) tw_218 tw_33 tw_215 tw_216 tw_217 mn_AL_get hl1 k_AL.1 ⟨Nat.le_trans (Nat.le_of_ble_eq_true rfl) hRm.1, Nat.le_trans (Nat.le_of_ble_eq_true rfl) hRm.2⟩ rfl rfl (Nat.le_of_ble_eq_true rfl) d_C_out_52 ⟨hRc.1, hRc.2⟩ (fun r_4 v_5 hp_6 => ?_)
      obtain ⟨rfl, hv9⟩ := hp_6
      obtain rfl := hv9.symm
      show vV _ _ _ _ _ _ _ _ _ _ _ _ _ v kc ks 55 [(5, .int (nI i)), (4, .int (nI (zom S1 x k i))), (0, .ref o), (1, .int x), (2, .int k)] [.ref (na i)]
      obtain ⟨ch, msg, sent, hn0, hns⟩ := hNs i (by omega)
      refine v_cast C tw_319 tw_688 hn0 k_N.1 d_C_out_55 ?_
      refine v_astore (lv' := [(6, .ref (na i)), (5, .int (nI i)), (4, .int (nI (zom S1 x k i))), (0, .ref o), (1, .int x), (2, .int k)]) C d_C_out_58 (by decide) rfl ?_
      refine v_aload C 0 d_C_out_60 rfl ?_
      refine v_get C k_N hn0 5 (by decide) tw_337 (fun _ h => h) rfl d_C_out_62 ?_
      refine v_if_ne C 98 d_C_out_65 (by decide) (fun c_65 => ?_) (fun c_65 => ?_)
      · refine v_iinc (y := (nI (i + 1))) (lv' := [(5, .int (nI (i + 1))), (6, .ref (na i)), (4, .int (nI (zom S1 x k i))), (0, .ref o), (1, .int x), (2, .int k)]) C 1 d_C_out_98 rfl (nI_1 _) (by decide) rfl ?_
        refine v_goto C 34 d_C_out_101 (by decide) ?_
        refine v_sub [0, 2, 3, 4, 5] rfl ?_
        have hcd : ¬ (zi S 15 (i + 1) = 0 ∧ zi S 10 (i + 1) = x ∧ zi S 12 (i + 1) = k) := fun z => c_65 z.1
        refine v_lv (lv' := [(5, .int (nI (i + 1))), (4, .int (nI (zom S1 x k (i + 1)))), (0, .ref o), (1, .int x), (2, .int k)]) (by rw [zom, ← eS, if_neg hcd]; rfl) ?_
        exact ih (i + 1) v S (by omega) (by omega) (by rw [zo2, ← eS, if_neg hcd]) hRC hkx
      · refine v_aload C 0 d_C_out_68 rfl ?_
        refine v_get C k_N hn0 1 (by decide) tw_329 (fun _ h => h) rfl d_C_out_70 ?_
        obtain ⟨cn, kd, e10, hc1, hc2, e12, hk7⟩ := hB2S (i + 1) (by omega) (by omega)
        obtain ⟨c9, rfl⟩ : ∃ c9, cn = c9 + 1 := ⟨cn - 1, by omega⟩
        have e109 : zn (zi S 10 (i + 1)) - 1 = c9 := by rw [e10, zn_nI (by omega), Nat.add_sub_cancel]
        refine v_tov (y := .ref (ca c9)) (by rw [e109]) ?_
        obtain ⟨⟨lw, mt0, hk0⟩, g, hg0, hgv⟩ := hKs c9 (by omega)
        refine v_get C k_K hk0 0 (by decide) tw_125 (fun _ h => h) rfl d_C_out_73 ?_
        refine v_iload_n C 4 d_C_out_76 rfl rfl ?_
        refine v_icmp_ne C 98 d_C_out_77 (by decide) (fun c_77 => ?_) (fun c_77 => ?_)
        · refine v_iinc (y := (nI (i + 1))) (lv' := [(5, .int (nI (i + 1))), (6, .ref (na i)), (4, .int (nI (zom S1 x k i))), (0, .ref o), (1, .int x), (2, .int k)]) C 1 d_C_out_98 rfl (nI_1 _) (by decide) rfl ?_
          refine v_goto C 34 d_C_out_101 (by decide) ?_
          refine v_sub [0, 2, 3, 4, 5] rfl ?_
          have hcd : ¬ (zi S 15 (i + 1) = 0 ∧ zi S 10 (i + 1) = x ∧ zi S 12 (i + 1) = k) := fun z => c_77 (by rw [← e10]; exact z.2.1)
          refine v_lv (lv' := [(5, .int (nI (i + 1))), (4, .int (nI (zom S1 x k (i + 1)))), (0, .ref o), (1, .int x), (2, .int k)]) (by rw [zom, ← eS, if_neg hcd]; rfl) ?_
          exact ih (i + 1) v S (by omega) (by omega) (by rw [zo2, ← eS, if_neg hcd]) hRC hkx
        · refine v_aload C 0 d_C_out_80 rfl ?_
          refine v_get C k_N hn0 3 (by decide) tw_333 (fun _ h => h) rfl d_C_out_82 ?_
          refine v_iload_n C 5 d_C_out_85 rfl rfl ?_
          refine v_icmp_ne C 98 d_C_out_86 (by decide) (fun c_86 => ?_) (fun c_86 => ?_)
          · refine v_iinc (y := (nI (i + 1))) (lv' := [(5, .int (nI (i + 1))), (6, .ref (na i)), (4, .int (nI (zom S1 x k i))), (0, .ref o), (1, .int x), (2, .int k)]) C 1 d_C_out_98 rfl (nI_1 _) (by decide) rfl ?_
            refine v_goto C 34 d_C_out_101 (by decide) ?_
            refine v_sub [0, 2, 3, 4, 5] rfl ?_
            have hcd : ¬ (zi S 15 (i + 1) = 0 ∧ zi S 10 (i + 1) = x ∧ zi S 12 (i + 1) = k) := fun z => c_86 z.2.2
            refine v_lv (lv' := [(5, .int (nI (i + 1))), (4, .int (nI (zom S1 x k (i + 1)))), (0, .ref o), (1, .int x), (2, .int k)]) (by rw [zom, ← eS, if_neg hcd]; rfl) ?_
            exact ih (i + 1) v S (by omega) (by omega) (by rw [zo2, ← eS, if_neg hcd]) hRC hkx
          · refine v_aload C 0 d_C_out_89 rfl ?_
            refine v_iconst (x := 3) C d_C_out_91 (by decide) ?_
            refine v_put C k_N hn0 5 (by decide) tw_337 (fun _ h => h) rfl rfl rfl (Nat.le_of_ble_eq_true rfl) d_C_out_92 ?_
            refine v_view (fun v1 ev1 => ?_)
            have he_7 : v1 3 o = some (.inr (3, [.ref (la 0), .ref (la 1), .ref (la 2), .ref (la 3), .ref (la 4), .ref cw, .long (zl S 0 0), .int (zi S 1 0)])) := by rw [ev1]; exact (vv_up_k _ _ _ _ (by decide)).trans hA
            have he_8 : v1 5 (la 1) = some (.inr (5, [.ref (ra 1), .int (nI (zc S 1)), .int mo1])) := by rw [ev1]; exact (vv_up_k _ _ _ _ (by decide)).trans hl1
            have he_9 : v1 2 (na i) = some (.inr (2, [.int (nI (i + 1)), .ref (ca (zn (zi S 10 (i + 1)) - 1)), .int (zi S 11 (i + 1)), .int (zi S 12 (i + 1)), .long (zl S 13 (i + 1)), .int 3, .long (zl S 14 (i + 1)), .int (zi S 16 (i + 1)), .int (zi S 17 (i + 1)), .int ch, .int msg, .long sent])) := by rw [ev1]; exact vv_up_s _ _ _ _
            have he_10 : v1 0 (ca c9) = some (.inr (0, [.int (nI (c9 + 1)), .int (zi S 4 (c9 + 1)), .int (zi S 5 (c9 + 1)), .int (zi S 6 (c9 + 1)), .int (zi S 7 (c9 + 1)), .long lw, .int mt0, .ref (oa c9)])) := by rw [ev1]; exact (vv_up_k _ _ _ _ (by decide)).trans hk0
            have he_11 : v1 50 (oa c9) = some (.inl (G.2.2.2.2 0, 32, .inl g)) := by rw [ev1]; exact (vv_up_k _ _ _ _ (by decide)).trans hg0
            refine v_iinc (y := (nI ((zom S1 x k i) + 1))) (lv' := [(4, .int (nI ((zom S1 x k i) + 1))), (6, .ref (na i)), (5, .int (nI i)), (0, .ref o), (1, .int x), (2, .int k)]) C 2 d_C_out_95 rfl (nI_1 _) (by decide) rfl ?_
            refine v_iinc (y := (nI (i + 1))) (lv' := [(5, .int (nI (i + 1))), (4, .int (nI ((zom S1 x k i) + 1))), (6, .ref (na i)), (0, .ref o), (1, .int x), (2, .int k)]) C 2 d_C_out_98 rfl (nI_1 _) (by decide) rfl ?_
            refine v_goto C 34 d_C_out_101 (by decide) ?_
            refine v_sub [0, 1, 3, 4, 5] rfl ?_
            have hcd : zi S 15 (i + 1) = 0 ∧ zi S 10 (i + 1) = x ∧ zi S 12 (i + 1) = k := ⟨c_65, by rw [e10]; exact c_77, c_86⟩
            refine v_lv (lv' := [(5, .int (nI (i + 1))), (4, .int (nI (zom S1 x k (i + 1)))), (0, .ref o), (1, .int x), (2, .int k)]) (by rw [zom, ← eS, if_pos hcd]; rfl) ?_
            exact ih (i + 1) v1 (zui S 15 (i + 1) 3) (by omega) (by omega) (by rw [zo2, ← eS, if_pos hcd]) (hRC.noti (S' := zui S 15 (i + 1) 3) (j0 := i) (by omega) (by omega) (by rw [ev1]; exact vkp.rf.up ⟨rfl, rfl⟩) ⟨ch, msg, sent, (by rw [he_9]; simp only [zi_ui, zl_ui, reduceIte, Nat.reduceEqDiff]), (fun i h1 h2 => by simp only [zi_ui, zl_ui, reduceIte, Nat.reduceEqDiff] at h2 ⊢; exact hns i h1 h2)⟩ (fun _ => rfl) (fun f i h15 h16 h17 => by rw [zi_ui, if_neg h15]) (fun f i h => by rw [zi_ui]; split; rw [if_neg (by omega)]; rfl) (fun _ _ _ => rfl) (fun _ _ => rfl)) (by rw [ev1]; exact hkx.up (Or.inr (Or.inl rfl)))
set_option maxHeartbeats 4000000 in
set_option maxRecDepth 100000 in
theorem c_C_out (l : Launch) (G : vv_G) (v : vv_V) (o : Nat) (la : Nat → Nat) (cw : Nat) (S : zS) (ra ea ca oa na ia : Nat → Nat) (x k : Int32) (hRC : RC G v o la cw S ra ea ca oa na ia) (hB : zB S) (hB2 : zB2 S) : Mv l y_C_out b_C_out 7 (some FieldType.int) 4 90 G v [.ref o, .int x, .int k] (fun r v' => r = some (.int (oOut S x k).1) ∧ RCe G v o la cw S oa v' (oOut S x k).2) 0 0 := by
  refine vv_metF (own := "CustomerNotices") (nm := "out") pf_C_out rfl rfl (Nat.le_of_ble_eq_true rfl) ?_
  intro p e s m below meth c C hin
  obtain ⟨hA, ⟨gw, hW, hWj⟩, hLs, hKs, hNs, hIs, hD1, hD2, hD3, hD4⟩ := id hRC
  obtain ⟨hb0, hb1, hb2, hb22⟩ := id hB
  show vV _ _ _ _ _ _ _ _ _ _ _ _ _ v 0 0 0 [(0, .ref o), (1, .int x), (2, .int k)] []
  refine v_aload_n C 0 d_C_out_0 rfl rfl ?_
  refine v_iload_n C 1 d_C_out_1 rfl rfl ?_
  refine v_callV (rest := []) C (c_C_findCustomer l G v o la cw S ra ea ca oa na ia x hRC (by omega)) tw_214 tw_30 tw_211 tw_213 tw_3 mn_C_findCustomer hA k_C.1 ⟨Nat.le_of_ble_eq_true rfl, Nat.le_of_ble_eq_true rfl⟩ rfl rfl (Nat.le_of_ble_eq_true rfl) d_C_out_2 ⟨(by first | exact Nat.le_of_ble_eq_true rfl | (dsimp only; omega)), (by first | exact Nat.le_of_ble_eq_true rfl | (dsimp only; omega))⟩ (fun r_1 v_2 hp_3 => ?_)
  rcases hp_3 with ⟨rfl, hv9, hno⟩ | ⟨j, rfl, hv9, hj, hxj⟩
  · obtain rfl := hv9.symm
    show vV _ _ _ _ _ _ _ _ _ _ _ _ _ v 0 0 5 [(0, .ref o), (1, .int x), (2, .int k)] [.null]
    refine v_astore_nN (lv' := [(3, .null), (0, .ref o), (1, .int x), (2, .int k)]) C d_C_out_5 rfl (by decide) rfl ?_
    refine v_aload_nN C 0 d_C_out_6 rfl rfl ?_
    refine v_ifnonnullN C d_C_out_7 ?_
    refine v_bipush (x := -11) C d_C_out_10 (by decide) ?_
    exact v_iret C d_C_out_12 (by first | exact Nat.le_of_ble_eq_true rfl | (show _ ≤ _; omega)) (by first | exact Nat.le_of_ble_eq_true rfl | (show _ ≤ _; omega)) ⟨(by  rw [oOut, if_neg hno] <;> (try rfl)), (by  rw [oOut, if_neg hno]; exact RCe.rf hRC)⟩
  · obtain rfl := hv9.symm
    subst hxj
    show vV _ _ _ _ _ _ _ _ _ _ _ _ _ v 0 0 5 [(0, .ref o), (1, .int (nI (j + 1))), (2, .int k)] [.ref (ca j)]
    obtain ⟨⟨lw, mt0, hk0⟩, g, hg0, hgv⟩ := hKs j (by omega)
    have hx0 : zIn (nI (j + 1)) 1 (zc S 0) := zIn_of (a := 1) (by omega) (by omega) (by omega)
    have hxn : zn (nI (j + 1)) = j + 1 := zn_nI (by omega)
    refine v_astore_n (lv' := [(3, .ref (ca j)), (0, .ref o), (1, .int (nI (j + 1))), (2, .int k)]) C d_C_out_5 rfl (by decide) rfl ?_
    refine v_aload_n C 0 d_C_out_6 rfl rfl ?_
    refine v_ifnonnull C 13 d_C_out_7 (by decide) ?_
    refine v_iload_n C 3 d_C_out_13 rfl rfl ?_
    refine v_callS (rest := []) C (c_C_isKind l G v k) tw_231 tw_30 tw_229 tw_230 mn_C_isKind ⟨Nat.le_of_ble_eq_true rfl, Nat.le_of_ble_eq_true rfl⟩ rfl rfl (Nat.le_of_ble_eq_true rfl) d_C_out_14 ⟨(by first | exact Nat.le_of_ble_eq_true rfl | (dsimp only; omega)), (by first | exact Nat.le_of_ble_eq_true rfl | (dsimp only; omega))⟩ (fun r_4 v_5 hp_6 => ?_)
    rcases hp_6 with ⟨rfl, hv9, hb_14⟩ | ⟨rfl, hv9, hb_14⟩
    · obtain rfl := hv9.symm
      show vV _ _ _ _ _ _ _ _ _ _ _ _ _ v 0 0 17 [(3, .ref (ca j)), (0, .ref o), (1, .int (nI (j + 1))), (2, .int k)] [.int 1]
      refine v_if_ne C 23 d_C_out_17 (by decide) (fun _ => ?_) (fun z => absurd z (by decide))
      have hz : zIn k 0 7 := hb_14
      obtain ⟨kd, rfl, hkd1, hkd2, hkd3⟩ := zIn_nI (a := 0) (b := 7) hz
      refine v_aload_n C 0 d_C_out_23 rfl rfl ?_
      refine v_iload_n C 3 d_C_out_24 rfl rfl ?_
      refine v_callV (rest := []) C (c_K_clearWishes l G v (ca j) (nI (j + 1)) (zi S 4 (j + 1)) (zi S 5 (j + 1)) (zi S 6 (j + 1)) (zi S 7 (j + 1)) lw mt0 (oa j) g kd hk0 hg0 (by omega)) tw_446 tw_35 tw_443 tw_444 tw_445 mn_K_clearWishes hk0 k_K.1 ⟨Nat.le_of_ble_eq_true rfl, Nat.le_of_ble_eq_true rfl⟩ rfl rfl (Nat.le_of_ble_eq_true rfl) d_C_out_25 ⟨(by first | exact Nat.le_of_ble_eq_true rfl | (dsimp only; omega)), (by first | exact Nat.le_of_ble_eq_true rfl | (dsimp only; omega))⟩ (fun r_7 v_8 hp_9 => ?_)
      obtain ⟨rfl, hK1, hO1, hkv⟩ := hp_9
      obtain ⟨S1, eS1⟩ : ∃ z, z = zo1 S (32 * (j + 1) + 4 * kd) 4 := ⟨_, rfl⟩
      have hRC1 := hRC.ords (S' := S1) hj hkv hO1 (fun i hi => by rw [eS1, zo1_8, kclr_v]; by_cases c9 : kd * 4 ≤ i ∧ i < kd * 4 + 4; { rw [if_pos c9, if_pos (by omega)]; rfl }; { rw [if_neg c9, if_neg (by omega)]; exact hgv i hi }) (fun j9 i9 h1 h2 => by rw [eS1, zo1_8, if_neg (by omega)]) (fun i => by rw [eS1, zo1_c]) (fun f i h => by rw [eS1, zo1_i _ _ _ _ _ h]) (fun f i => by rw [eS1, zo1_l])
      have hcA : ∀ f, zc S1 f = zc S f := fun f => by rw [eS1, zo1_c]
      have hcA1 := hcA 1
      have hcA0 := hcA 0
      have hB21 : zB2 S1 := fun n h1 h2 => by rw [hcA 0, eS1, zo1_i _ _ _ _ _ (by decide), zo1_i _ _ _ _ _ (by decide)]; exact hB2 n h1 (by omega)
      show vV _ _ _ _ _ _ _ _ _ _ _ _ _ v_8 0 0 28 [(3, .ref (ca j)), (0, .ref o), (1, .int (nI (j + 1))), (2, .int (nI kd))] []
      refine v_iconst (x := 0) C d_C_out_28 (by decide) ?_
      refine v_istore (lv' := [(4, .int 0), (3, .ref (ca j)), (0, .ref o), (1, .int (nI (j + 1))), (2, .int (nI kd))]) C d_C_out_29 (by decide) rfl ?_
      refine v_iconst (x := 0) C d_C_out_31 (by decide) ?_
      refine v_istore (lv' := [(5, .int 0), (4, .int 0), (3, .ref (ca j)), (0, .ref o), (1, .int (nI (j + 1))), (2, .int (nI kd))]) C d_C_out_32 (by decide) rfl ?_
      refine v_sub [0, 1, 3, 4, 5] rfl ?_
      refine lp_C_out (v0 := v_8) (S1 := S1) (x := nI (j + 1)) (k := nI kd) C ⟨by omega, by omega⟩ hB21 ⟨Nat.le_of_ble_eq_true rfl, Nat.le_of_ble_eq_true rfl⟩ ⟨Nat.le_refl _, Nat.le_refl _⟩ (fun va Sa eSa hRCa hka => ?_) (zc S1 1 + 1) 0 v_8 S1 (by omega) (by omega) rfl hRC1 vkp.rf
      have hop : oOut S (nI (j + 1)) (nI kd) = (nI (zom S1 (nI (j + 1)) (nI kd) (zc S1 1)), Sa) := by rw [oOut, if_pos hx0, if_pos hz, hxn, zn_nI hkd3, ← eS1, eSa, hcA1]
      show vV _ _ _ _ _ _ _ _ _ _ _ _ _ va 0 0 104 [(5, .int (nI (zc S1 1))), (4, .int (nI (zom S1 (nI (j + 1)) (nI kd) (zc S1 1)))), (0, .ref o), (1, .int (nI (j + 1))), (2, .int (nI kd))] []
      refine v_iload C 1 d_C_out_104 rfl ?_
      exact v_iret C d_C_out_106 (by first | exact Nat.le_of_ble_eq_true rfl | (show _ ≤ _; omega)) (by first | exact Nat.le_of_ble_eq_true rfl | (show _ ≤ _; omega)) ⟨(by rw [hop]), (by rw [hop]; exact RCe.mk hRCa ((hkv.mono (cY_50 hj)).tr (hka.mono cX_Y)) (by rw [eSa, zo2_c, hcA0]))⟩
    · obtain rfl := hv9.symm
      show vV _ _ _ _ _ _ _ _ _ _ _ _ _ v 0 0 17 [(3, .ref (ca j)), (0, .ref o), (1, .int (nI (j + 1))), (2, .int k)] [.int 0]
      refine v_if_ne C 23 d_C_out_17 (by decide) (fun z => absurd (by decide) z) (fun _ => ?_)
      refine v_bipush (x := -12) C d_C_out_20 (by decide) ?_
      exact v_iret C d_C_out_22 (by first | exact Nat.le_of_ble_eq_true rfl | (show _ ≤ _; omega)) (by first | exact Nat.le_of_ble_eq_true rfl | (show _ ≤ _; omega)) ⟨(by  rw [oOut, if_pos hx0, if_neg hb_14] <;> (try rfl)), (by  rw [oOut, if_pos hx0, if_neg hb_14]; exact RCe.rf hRC)⟩
