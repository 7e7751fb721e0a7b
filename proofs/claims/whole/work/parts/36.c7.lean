/-- the ranges that the program's arithmetic needs -/
def zB9 (S : zS) : Prop := (∀ n, -1 ≤ (zl S 14 n).toInt ∧ (zl S 14 n).toInt ≤ 1000000000) ∧ (∀ n, 0 ≤ (zl S 13 n).toInt ∧ (zl S 13 n).toInt ≤ 1000000000) ∧ (0 ≤ (zl S 0 0).toInt ∧ (zl S 0 0).toInt ≤ 1000000000) ∧ (∀ j, zIn (zi S 5 j) (-12) 14) ∧ (∀ j, zIn (zi S 6 j) 0 1439 ∧ zIn (zi S 7 j) 0 1439) ∧ zIn (zi S 1 0) 0 1440 ∧ (∀ n, zi S 15 n = 0 ∨ zi S 15 n = 1 ∨ zi S 15 n = 2 ∨ zi S 15 n = 3)
theorem abs_in {x b : Int64} (hx : -2000000000 ≤ x.toInt ∧ x.toInt ≤ 2000000000) (hb : 0 ≤ b.toInt ∧ b.toInt ≤ 1000000) : (if (0 : Int64).toInt ≤ x.toInt then x else -x).toInt ≤ b.toInt ↔ (-b).toInt ≤ x.toInt ∧ x.toInt ≤ b.toInt := by
  have e0 : (0 : Int64).toInt = 0 := rfl
  have nb : ∀ y : Int64, -2000000000 ≤ y.toInt ∧ y.toInt ≤ 2000000000 → (-y).toInt = - y.toInt := fun y hy => by
    rw [Int64.toInt_neg, Int.bmod_eq_of_le (by omega) (by omega)]
  rw [nb b ⟨by omega, by omega⟩, e0]
  split
  · omega
  · rw [nb x hx]; omega
theorem sub_r {w p : Int64} (hw : 0 ≤ w.toInt ∧ w.toInt ≤ 1000000000) (hp : -1 ≤ p.toInt ∧ p.toInt ≤ 1000000000) : -2000000000 ≤ (w - p).toInt ∧ (w - p).toInt ≤ 2000000000 := by
  rw [Int64.toInt_sub, Int.bmod_eq_of_le (by omega) (by omega)]
  omega
theorem zui_comm {S : zS} {f g i j : Nat} {x y : Int32} (h : f ≠ g) : zui (zui S f i x) g j y = zui (zui S g j y) f i x := by
  unfold zui
  refine Prod.ext rfl (Prod.ext ?_ rfl)
  funext f' i'
  dsimp only
  by_cases c1 : f' = f
  · subst c1
    simp [h]
  · by_cases c2 : f' = g
    · subst c2
      simp [c1]
    · simp [c1, c2]
theorem zundo_ui {S : zS} {f i n : Nat} {x : Int32} (h : f = 15 ∨ f = 17) : zundo (zui S f i x) n = zui (zundo S n) f i x := by
  have h10 : zi (zui S f i x) 10 n = zi S 10 n := by rw [zi_ui, if_neg (by omega)]
  have h11 : zi (zui S f i x) 11 n = zi S 11 n := by rw [zi_ui, if_neg (by omega)]
  have h12 : zi (zui S f i x) 12 n = zi S 12 n := by rw [zi_ui, if_neg (by omega)]
  unfold zundo
  rw [h10, h11, h12]
  have hp : zpf (zui S f i x) (zi S 10 n) (zi S 11 n) (zc (zui S f i x) 2) = zpf S (zi S 10 n) (zi S 11 n) (zc S 2) := zpf_ui (by omega) (by omega)
  rw [hp]
  by_cases c : zE (zi S 12 n)
  · rw [if_pos c, if_pos c]
    cases hq : zpf S (zi S 10 n) (zi S 11 n) (zc S 2) with
    | none => rfl
    | some k => exact zui_comm (by omega)
  · rw [if_neg c, if_neg c]
theorem zre_i (S : zS) (x it : Int32) (f i : Nat) (h : f ≠ 21) : zi (zre S x it) f i = zi S f i := by
  unfold zre
  split
  · rw [zi_ui, if_neg h]
  · rfl
theorem zre_c (S : zS) (x it : Int32) (i : Nat) : zc (zre S x it) i = zc S i := by
  unfold zre
  split <;> rfl
theorem zre_l (S : zS) (x it : Int32) (f i : Nat) : zl (zre S x it) f i = zl S f i := by
  unfold zre
  split <;> rfl
theorem zkeep_c0 (S : zS) (x it : Int32) : zc (zkeep S x it) 0 = zc S 0 := by
  unfold zkeep; split <;> rfl
theorem oAdP_c (S : zS) (x it : Int32) (w : Int64) : zc (oAdP S x it w).2 0 = zc S 0 := by
  unfold oAdP
  split
  · rfl
  · exact zkeep_c0 _ _ _
set_option maxHeartbeats 4000000 in
set_option maxRecDepth 100000 in
theorem c_C_promise (l : Launch) (G : vv_G) (v : vv_V) (o : Nat) (la : Nat → Nat) (cw : Nat) (S : zS) (ra ea ca oa na ia : Nat → Nat) (x it : Int32) (wn b : Int64) (hRC : RC G v o la cw S ra ea ca oa na ia) (hB : zB S) (hB4 : zB4 S) (hB4f : zB4f S) (hB6 : zB6 S) (hB7 : zB7 S) (hB9 : zB9 S) : Mv l y_C_promise b_C_promise 10 (some FieldType.int) 9 224 G v [.ref o, .int x, .int it, .long wn, .long b] (fun r v' => r = some (.int (oProm S x it wn b).1) ∧ RCe G v o la cw S oa v' (oProm S x it wn b).2) 4 504 := by
  refine vv_metF (own := "CustomerNotices") (nm := "promise") pf_C_promise rfl rfl (Nat.le_of_ble_eq_true rfl) ?_
  intro p e s m below meth c C hin
  obtain ⟨hA, ⟨gw, hW, hWj⟩, hLs, hKs, hNs, hIs, hD1, hD2, hD3, hD4⟩ := id hRC
  obtain ⟨n1, hn1⟩ : ∃ z, z = zc S 1 := ⟨_, rfl⟩
  obtain ⟨n2, hn2⟩ : ∃ z, z = zc S 2 := ⟨_, rfl⟩
  obtain ⟨hb0, hb1, hb2, hb22⟩ := id hB
  show vV _ _ _ _ _ _ _ _ _ _ _ _ _ v 0 0 0 [(0, .ref o), (1, .int x), (2, .int it), (3, .long wn), (5, .long b)] []
  refine v_aload_n C 0 d_C_promise_0 rfl rfl ?_
  refine v_iload_n C 1 d_C_promise_1 rfl rfl ?_
  refine v_callV (rest := []) C (c_C_findCustomer l G v o la cw S ra ea ca oa na ia x hRC (by omega)) tw_214 tw_30 tw_211 tw_213 tw_3 mn_C_findCustomer hA k_C.1 ⟨Nat.le_of_ble_eq_true rfl, Nat.le_of_ble_eq_true rfl⟩ rfl rfl (Nat.le_of_ble_eq_true rfl) d_C_promise_2 ⟨(by first | exact Nat.le_of_ble_eq_true rfl | (dsimp only; omega)), (by first | exact Nat.le_of_ble_eq_true rfl | (dsimp only; omega))⟩ (fun r_1 v_2 hp_3 => ?_)
  rcases hp_3 with ⟨rfl, hv9, hno⟩ | ⟨j, rfl, hv9, hj, hxj⟩
  · obtain rfl := hv9.symm
    show vV _ _ _ _ _ _ _ _ _ _ _ _ _ v 0 0 5 [(0, .ref o), (1, .int x), (2, .int it), (3, .long wn), (5, .long b)] [.null]
    refine v_astoreN (lv' := [(7, .null), (0, .ref o), (1, .int x), (2, .int it), (3, .long wn), (5, .long b)]) C d_C_promise_5 (by decide) rfl ?_
    refine v_aloadN C 0 d_C_promise_7 rfl ?_
    refine v_ifnonnullN C d_C_promise_9 ?_
    refine v_bipush (x := -11) C d_C_promise_12 (by decide) ?_
    exact v_iret C d_C_promise_14 (by first | exact Nat.le_of_ble_eq_true rfl | (show _ ≤ _; omega)) (by first | exact Nat.le_of_ble_eq_true rfl | (show _ ≤ _; omega)) ⟨(by  rw [oProm, if_neg hno] <;> (try rfl)), (by  rw [oProm, if_neg hno]; exact RCe.rf hRC)⟩
  · obtain rfl := hv9.symm
    subst hxj
    show vV _ _ _ _ _ _ _ _ _ _ _ _ _ v 0 0 5 [(0, .ref o), (1, .int (nI (j + 1))), (2, .int it), (3, .long wn), (5, .long b)] [.ref (ca j)]
    obtain ⟨⟨lw, mt0, hk0⟩, g, hg0, hgv⟩ := hKs j (by omega)
    have hx0 : zIn (nI (j + 1)) 1 (zc S 0) := zIn_of (a := 1) (by omega) (by omega) (by omega)
    have hxn : zn (nI (j + 1)) = j + 1 := zn_nI (by omega)
    refine v_astore (lv' := [(7, .ref (ca j)), (0, .ref o), (1, .int (nI (j + 1))), (2, .int it), (3, .long wn), (5, .long b)]) C d_C_promise_5 (by decide) rfl ?_
    refine v_aload C 0 d_C_promise_7 rfl ?_
    refine v_ifnonnull C 15 d_C_promise_9 (by decide) ?_
    refine v_iload_n C 3 d_C_promise_15 rfl rfl ?_
    refine v_callS (rest := []) C (c_C_isItemNumber l G v it) tw_268 tw_30 tw_266 tw_267 mn_C_isItemNumber ⟨Nat.le_of_ble_eq_true rfl, Nat.le_of_ble_eq_true rfl⟩ rfl rfl (Nat.le_of_ble_eq_true rfl) d_C_promise_16 ⟨(by first | exact Nat.le_of_ble_eq_true rfl | (dsimp only; omega)), (by first | exact Nat.le_of_ble_eq_true rfl | (dsimp only; omega))⟩ (fun r_4 v_5 hp_6 => ?_)
    rcases hp_6 with ⟨rfl, hv9, hb_16⟩ | ⟨rfl, hv9, hb_16⟩
    · obtain rfl := hv9.symm
      show vV _ _ _ _ _ _ _ _ _ _ _ _ _ v 0 0 19 [(7, .ref (ca j)), (0, .ref o), (1, .int (nI (j + 1))), (2, .int it), (3, .long wn), (5, .long b)] [.int 1]
      refine v_if_eq C 45 d_C_promise_19 (by decide) (fun z => absurd z (by decide)) (fun _ => ?_)
      refine v_lload_n C 4 d_C_promise_22 rfl rfl ?_
      refine v_lconst (x := 0) C d_C_promise_23 (by decide) ?_
      refine v_ldc2 (x := 1000000000) C d_C_promise_24 tw_274 ?_
      refine v_callS (rest := []) C (c_C_isWithin l G v wn 0 1000000000) tw_111 tw_30 tw_109 tw_110 mn_C_isWithin ⟨Nat.le_of_ble_eq_true rfl, Nat.le_of_ble_eq_true rfl⟩ rfl rfl (Nat.le_of_ble_eq_true rfl) d_C_promise_27 ⟨(by first | exact Nat.le_of_ble_eq_true rfl | (dsimp only; omega)), (by first | exact Nat.le_of_ble_eq_true rfl | (dsimp only; omega))⟩ (fun r_7 v_8 hp_9 => ?_)
      rcases hp_9 with ⟨rfl, hv9, hb_27⟩ | ⟨rfl, hv9, hb_27⟩
      · obtain rfl := hv9.symm
        show vV _ _ _ _ _ _ _ _ _ _ _ _ _ v 0 0 30 [(7, .ref (ca j)), (0, .ref o), (1, .int (nI (j + 1))), (2, .int it), (3, .long wn), (5, .long b)] [.int 1]
        refine v_if_eq C 45 d_C_promise_30 (by decide) (fun z => absurd z (by decide)) (fun _ => ?_)
        refine v_lload C 5 d_C_promise_33 rfl ?_
        refine v_lconst (x := 0) C d_C_promise_35 (by decide) ?_
        refine v_ldc2 (x := 1000000) C d_C_promise_36 tw_376 ?_
        refine v_callS (rest := []) C (c_C_isWithin l G v b 0 1000000) tw_111 tw_30 tw_109 tw_110 mn_C_isWithin ⟨Nat.le_of_ble_eq_true rfl, Nat.le_of_ble_eq_true rfl⟩ rfl rfl (Nat.le_of_ble_eq_true rfl) d_C_promise_39 ⟨(by first | exact Nat.le_of_ble_eq_true rfl | (dsimp only; omega)), (by first | exact Nat.le_of_ble_eq_true rfl | (dsimp only; omega))⟩ (fun r_10 v_11 hp_12 => ?_)
        rcases hp_12 with ⟨rfl, hv9, hb_39⟩ | ⟨rfl, hv9, hb_39⟩
        · obtain rfl := hv9.symm
          show vV _ _ _ _ _ _ _ _ _ _ _ _ _ v 0 0 42 [(7, .ref (ca j)), (0, .ref o), (1, .int (nI (j + 1))), (2, .int it), (3, .long wn), (5, .long b)] [.int 1]
          refine v_if_ne C 48 d_C_promise_42 (by decide) (fun _ => ?_) (fun z => absurd z (by decide))
          have hz : zIn it 1 9999 ∧ (0 ≤ wn.toInt ∧ wn.toInt ≤ 1000000000) ∧ (0 ≤ b.toInt ∧ b.toInt ≤ 1000000) := ⟨hb_16, hb_27, hb_39⟩
          have hkw := kwn_le g (3 * 4) 4
          have hkz := kwn_zwn (S := S) (g := g) (b := 3 * 4) (B := 32 * (j + 1) + 4 * 3) hB7 4 (fun i hi => by rw [hgv (3 * 4 + i) (by omega)]; congr 2; omega)
          refine v_aload_n C 1 d_C_promise_48 rfl rfl ?_
          refine v_iload_n C 2 d_C_promise_49 rfl rfl ?_
          refine v_iload_n C 3 d_C_promise_50 rfl rfl ?_
          refine v_callV (rest := []) C (c_C_findItem l G v o la cw S ra ea ca oa na ia (nI (j + 1)) it hRC (by omega) hB6) tw_278 tw_30 tw_275 tw_277 tw_6 mn_C_findItem hA k_C.1 ⟨Nat.le_of_ble_eq_true rfl, Nat.le_of_ble_eq_true rfl⟩ rfl rfl (Nat.le_of_ble_eq_true rfl) d_C_promise_51 ⟨(by first | exact Nat.le_of_ble_eq_true rfl | (dsimp only; omega)), (by first | exact Nat.le_of_ble_eq_true rfl | (dsimp only; omega))⟩ (fun r_13 v_14 hp_15 => ?_)
          rcases hp_15 with ⟨rfl, hv9, hpf⟩ | ⟨ki, rfl, hv9, hpf⟩
          · obtain rfl := hv9.symm
            show vV _ _ _ _ _ _ _ _ _ _ _ _ _ v 0 0 54 [(7, .ref (ca j)), (0, .ref o), (1, .int (nI (j + 1))), (2, .int it), (3, .long wn), (5, .long b)] [.null]
            refine v_astoreN (lv' := [(8, .null), (7, .ref (ca j)), (0, .ref o), (1, .int (nI (j + 1))), (2, .int it), (3, .long wn), (5, .long b)]) C d_C_promise_54 (by decide) rfl ?_
            refine v_aload C 1 d_C_promise_56 rfl ?_
            refine v_iconst (x := 3) C d_C_promise_58 (by decide) ?_
            refine v_callV (rest := []) C (c_K_countWishes l G v (ca j) (nI (j + 1)) (zi S 4 (j + 1)) (zi S 5 (j + 1)) (zi S 6 (j + 1)) (zi S 7 (j + 1)) lw mt0 (oa j) g 3 hk0 hg0 (by omega)) tw_246 tw_35 tw_243 tw_244 tw_245 mn_K_countWishes hk0 k_K.1 ⟨Nat.le_of_ble_eq_true rfl, Nat.le_of_ble_eq_true rfl⟩ rfl rfl (Nat.le_of_ble_eq_true rfl) d_C_promise_59 ⟨(by first | exact Nat.le_of_ble_eq_true rfl | (dsimp only; omega)), (by first | exact Nat.le_of_ble_eq_true rfl | (dsimp only; omega))⟩ (fun r_16 v_17 hp_18 => ?_)
            obtain ⟨rfl, hv9⟩ := hp_18
            obtain rfl := hv9.symm
            show vV _ _ _ _ _ _ _ _ _ _ _ _ _ v 0 0 62 [(8, .null), (7, .ref (ca j)), (0, .ref o), (1, .int (nI (j + 1))), (2, .int it), (3, .long wn), (5, .long b)] [.int (nI (kwn g (3 * 4) 4))]
            refine v_if_eq C 78 d_C_promise_62 (by decide) (fun c_62 => ?_) (fun c_62 => ?_)
            · have n_62 : (kwn g (3 * 4) 4) = 0 := (nI_eq (a := (kwn g (3 * 4) 4)) (b := 0) (by omega) (by omega)).mp c_62
              refine v_iconst (x := 0) C d_C_promise_78 (by decide) ?_
              exact v_iret C d_C_promise_79 (by first | exact Nat.le_of_ble_eq_true rfl | (show _ ≤ _; omega)) (by first | exact Nat.le_of_ble_eq_true rfl | (show _ ≤ _; omega)) ⟨(by rw [oProm, if_pos hx0, if_pos hz, if_neg (fun z => z.2 (by rw [hxn, ← hkz]; exact n_62))]), (by rw [oProm, if_pos hx0, if_pos hz, if_neg (fun z => z.2 (by rw [hxn, ← hkz]; exact n_62))]; exact RCe.rf hRC)⟩
            · have n_62 : ¬ (kwn g (3 * 4) 4) = 0 := mt (nI_eq (a := (kwn g (3 * 4) 4)) (b := 0) (by omega) (by omega)).mpr c_62
              refine v_aloadN C 0 d_C_promise_65 rfl ?_
              refine v_ifnullN C 80 d_C_promise_67 (by decide) ?_
              have hze : zended S (nI (j + 1)) it = 0 := by unfold zended; rw [hpf]
              have hop : oProm S (nI (j + 1)) it wn b = (if 0 < (zlast S (nI (j + 1)) it).toInt ∧ (-b).toInt ≤ (wn - zl S 14 (zn (zlast S (nI (j + 1)) it))).toInt ∧ (wn - zl S 14 (zn (zlast S (nI (j + 1)) it))).toInt ≤ b.toInt then (0, S) else (if 0 < (zlast S (nI (j + 1)) it).toInt ∧ zi S 15 (zn (zlast S (nI (j + 1)) it)) = 0 then (zlast S (nI (j + 1)) it, zul S 14 (zn (zlast S (nI (j + 1)) it)) wn) else oAdP S (nI (j + 1)) it wn)) := by rw [oProm, if_pos hx0, if_pos hz, if_pos ⟨hze, (by rw [hxn, ← hkz]; exact n_62)⟩]; rfl
              have hl0 : zlast S (nI (j + 1)) it = 0 := by unfold zlast; rw [hpf]
              have h00 : ¬ 0 < (0 : Int32).toInt := by decide
              have hopA : oProm S (nI (j + 1)) it wn b = oAdP S (nI (j + 1)) it wn := by rw [hop, hl0, if_neg (fun z => h00 z.1), if_neg (fun z => h00 z.1)]
              refine v_aloadN C 0 d_C_promise_80 rfl ?_
              refine v_ifnonnullN C d_C_promise_82 ?_
              refine v_null C d_C_promise_85 ?_
              refine v_goto C 94 d_C_promise_86 (by decide) ?_
              refine v_astoreN (lv' := [(9, .null), (8, .null), (7, .ref (ca j)), (0, .ref o), (1, .int (nI (j + 1))), (2, .int it), (3, .long wn), (5, .long b)]) C d_C_promise_94 (by decide) rfl ?_
              refine v_aloadN C 0 d_C_promise_96 rfl ?_
              refine v_ifnonnullN C d_C_promise_98 ?_
              refine v_aload_n C 3 d_C_promise_101 rfl rfl ?_
              refine v_aload C 2 d_C_promise_102 rfl ?_
              refine v_iload_n C 5 d_C_promise_104 rfl rfl ?_
              refine v_aloadN C 1 d_C_promise_105 rfl ?_
              refine v_lload_n C 6 d_C_promise_107 rfl rfl ?_
              refine v_callV (rest := []) C (c_C_addPromise0 l G v o la cw S ra ea ca oa na ia j it wn hRC hj hB hB4 hB4f hpf) tw_380 tw_30 tw_377 tw_379 tw_11 mn_C_addPromise hA k_C.1 ⟨Nat.le_of_ble_eq_true rfl, Nat.le_of_ble_eq_true rfl⟩ rfl rfl (Nat.le_of_ble_eq_true rfl) d_C_promise_108 ⟨(by first | exact Nat.le_of_ble_eq_true rfl | (dsimp only; omega)), (by first | exact Nat.le_of_ble_eq_true rfl | (dsimp only; omega))⟩ (fun r_19 v_20 hp_21 => ?_)
              refine v_cs (kc' := 4) (ks' := 504) rfl rfl ?_
              obtain ⟨rfl, ra8, ea8, na8, ia8, hRC8, hkX8⟩ := hp_21
              show vV _ _ _ _ _ _ _ _ _ _ _ _ _ v_20 4 504 111 [(9, .null), (8, .null), (7, .ref (ca j)), (0, .ref o), (1, .int (nI (j + 1))), (2, .int it), (3, .long wn), (5, .long b)] [.int ((oAdP S (nI (j + 1)) it wn).1)]
              exact v_iret C d_C_promise_111 (by first | exact Nat.le_of_ble_eq_true rfl | (show _ ≤ _; omega)) (by first | exact Nat.le_of_ble_eq_true rfl | (show _ ≤ _; omega)) ⟨(by rw [hopA]), (by rw [hopA]; exact RCe.mk hRC8 (hkX8.mono cX_Y) (oAdP_c S _ _ _))⟩
          · obtain rfl := hv9.symm
            obtain ⟨hki, hk19, hk20⟩ := zpf_lt hpf
            show vV _ _ _ _ _ _ _ _ _ _ _ _ _ v 0 0 54 [(7, .ref (ca j)), (0, .ref o), (1, .int (nI (j + 1))), (2, .int it), (3, .long wn), (5, .long b)] [.ref (ia ki)]
            have hi0 : v 1 (ia ki) = some (vi _ _ _ _) := hIs ki (by omega)
            refine v_astore (lv' := [(8, .ref (ia ki)), (7, .ref (ca j)), (0, .ref o), (1, .int (nI (j + 1))), (2, .int it), (3, .long wn), (5, .long b)]) C d_C_promise_54 (by decide) rfl ?_
            refine v_aload C 1 d_C_promise_56 rfl ?_
            refine v_iconst (x := 3) C d_C_promise_58 (by decide) ?_
            refine v_callV (rest := []) C (c_K_countWishes l G v (ca j) (nI (j + 1)) (zi S 4 (j + 1)) (zi S 5 (j + 1)) (zi S 6 (j + 1)) (zi S 7 (j + 1)) lw mt0 (oa j) g 3 hk0 hg0 (by omega)) tw_246 tw_35 tw_243 tw_244 tw_245 mn_K_countWishes hk0 k_K.1 ⟨Nat.le_of_ble_eq_true rfl, Nat.le_of_ble_eq_true rfl⟩ rfl rfl (Nat.le_of_ble_eq_true rfl) d_C_promise_59 ⟨(by first | exact Nat.le_of_ble_eq_true rfl | (dsimp only; omega)), (by first | exact Nat.le_of_ble_eq_true rfl | (dsimp only; omega))⟩ (fun r_22 v_23 hp_24 => ?_)
            obtain ⟨rfl, hv9⟩ := hp_24
            obtain rfl := hv9.symm
            show vV _ _ _ _ _ _ _ _ _ _ _ _ _ v 0 0 62 [(8, .ref (ia ki)), (7, .ref (ca j)), (0, .ref o), (1, .int (nI (j + 1))), (2, .int it), (3, .long wn), (5, .long b)] [.int (nI (kwn g (3 * 4) 4))]
            refine v_if_eq C 78 d_C_promise_62 (by decide) (fun c_62 => ?_) (fun c_62 => ?_)
            · have n_62 : (kwn g (3 * 4) 4) = 0 := (nI_eq (a := (kwn g (3 * 4) 4)) (b := 0) (by omega) (by omega)).mp c_62
              refine v_iconst (x := 0) C d_C_promise_78 (by decide) ?_
              exact v_iret C d_C_promise_79 (by first | exact Nat.le_of_ble_eq_true rfl | (show _ ≤ _; omega)) (by first | exact Nat.le_of_ble_eq_true rfl | (show _ ≤ _; omega)) ⟨(by rw [oProm, if_pos hx0, if_pos hz, if_neg (fun z => z.2 (by rw [hxn, ← hkz]; exact n_62))]), (by rw [oProm, if_pos hx0, if_pos hz, if_neg (fun z => z.2 (by rw [hxn, ← hkz]; exact n_62))]; exact RCe.rf hRC)⟩
            · have n_62 : ¬ (kwn g (3 * 4) 4) = 0 := mt (nI_eq (a := (kwn g (3 * 4) 4)) (b := 0) (by omega) (by omega)).mpr c_62
              refine v_aload C 0 d_C_promise_65 rfl ?_
              refine v_ifnull C d_C_promise_67 ?_
              refine v_aload C 0 d_C_promise_70 rfl ?_
              refine v_get C k_I hi0 2 (by decide) tw_304 (fun _ h => h) rfl d_C_promise_72 ?_
              refine v_if_eq C 80 d_C_promise_75 (by decide) (fun c_75 => ?_) (fun c_75 => ?_)
              · have hze : zended S (nI (j + 1)) it = 0 := by unfold zended; rw [hpf]; exact c_75
                have hop : oProm S (nI (j + 1)) it wn b = (if 0 < (zlast S (nI (j + 1)) it).toInt ∧ (-b).toInt ≤ (wn - zl S 14 (zn (zlast S (nI (j + 1)) it))).toInt ∧ (wn - zl S 14 (zn (zlast S (nI (j + 1)) it))).toInt ≤ b.toInt then (0, S) else (if 0 < (zlast S (nI (j + 1)) it).toInt ∧ zi S 15 (zn (zlast S (nI (j + 1)) it)) = 0 then (zlast S (nI (j + 1)) it, zul S 14 (zn (zlast S (nI (j + 1)) it)) wn) else oAdP S (nI (j + 1)) it wn)) := by rw [oProm, if_pos hx0, if_pos hz, if_pos ⟨hze, (by rw [hxn, ← hkz]; exact n_62)⟩]; rfl
                refine v_aload C 0 d_C_promise_80 rfl ?_
                refine v_ifnonnull C 89 d_C_promise_82 (by decide) ?_
                refine v_aload C 0 d_C_promise_89 rfl ?_
                refine v_get C k_I hi0 3 (by decide) tw_305 (fun _ h => h) rfl d_C_promise_91 ?_
                obtain ⟨nl, hl1, hl2⟩ := hb22 ki hki
                have hl0 : zlast S (nI (j + 1)) it = nI nl := by unfold zlast; rw [hpf]; exact hl2
                have h00 : ¬ 0 < (nI 0).toInt := by decide
                rcases nl with _ | m9
                · refine v_tov (y := .null) (by rw [hl2]; rfl) ?_
                  have hopA : oProm S (nI (j + 1)) it wn b = oAdP S (nI (j + 1)) it wn := by rw [hop, hl0, if_neg (fun z => h00 z.1), if_neg (fun z => h00 z.1)]
                  refine v_astoreN (lv' := [(9, .null), (8, .ref (ia ki)), (7, .ref (ca j)), (0, .ref o), (1, .int (nI (j + 1))), (2, .int it), (3, .long wn), (5, .long b)]) C d_C_promise_94 (by decide) rfl ?_
                  refine v_aloadN C 0 d_C_promise_96 rfl ?_
                  refine v_ifnonnullN C d_C_promise_98 ?_
                  refine v_aload_n C 3 d_C_promise_101 rfl rfl ?_
                  refine v_aload C 2 d_C_promise_102 rfl ?_
                  refine v_iload_n C 5 d_C_promise_104 rfl rfl ?_
                  refine v_aload C 1 d_C_promise_105 rfl ?_
                  refine v_lload_n C 6 d_C_promise_107 rfl rfl ?_
                  refine v_callV (rest := []) C (c_C_addPromise1 l G v o la cw S ra ea ca oa na ia j it ki wn hRC hj hB hB4 hB4f hki hpf) tw_380 tw_30 tw_377 tw_379 tw_11 mn_C_addPromise hA k_C.1 ⟨Nat.le_of_ble_eq_true rfl, Nat.le_of_ble_eq_true rfl⟩ rfl rfl (Nat.le_of_ble_eq_true rfl) d_C_promise_108 ⟨(by first | exact Nat.le_of_ble_eq_true rfl | (dsimp only; omega)), (by first | exact Nat.le_of_ble_eq_true rfl | (dsimp only; omega))⟩ (fun r_25 v_26 hp_27 => ?_)
                  refine v_cs (kc' := 4) (ks' := 504) rfl rfl ?_
                  obtain ⟨rfl, ra8, ea8, na8, ia8, hRC8, hkX8⟩ := hp_27
                  show vV _ _ _ _ _ _ _ _ _ _ _ _ _ v_26 4 504 111 [(9, .null), (8, .ref (ia ki)), (7, .ref (ca j)), (0, .ref o), (1, .int (nI (j + 1))), (2, .int it), (3, .long wn), (5, .long b)] [.int ((oAdP S (nI (j + 1)) it wn).1)]
                  exact v_iret C d_C_promise_111 (by first | exact Nat.le_of_ble_eq_true rfl | (show _ ≤ _; omega)) (by first | exact Nat.le_of_ble_eq_true rfl | (show _ ≤ _; omega)) ⟨(by rw [hopA]), (by rw [hopA]; exact RCe.mk hRC8 (hkX8.mono cX_Y) (oAdP_c S _ _ _))⟩
                · refine v_tov (y := .ref (na m9)) (by rw [hl2, zlp_n (by omega)]; rfl) ?_
                  obtain ⟨ch, msg, sent, hn0, hns⟩ := hNs m9 (by omega)
                  have hp9 : 0 < (nI (m9 + 1)).toInt := by rw [nI_toInt (by omega)]; omega
                  have habs := abs_in (sub_r hz.2.1 (hB9.1 (m9 + 1))) hz.2.2
                  refine v_astore (lv' := [(9, .ref (na m9)), (8, .ref (ia ki)), (7, .ref (ca j)), (0, .ref o), (1, .int (nI (j + 1))), (2, .int it), (3, .long wn), (5, .long b)]) C d_C_promise_94 (by decide) rfl ?_
                  refine v_aload C 0 d_C_promise_96 rfl ?_
                  refine v_ifnonnull C 112 d_C_promise_98 (by decide) ?_
                  refine v_lload_n C 6 d_C_promise_112 rfl rfl ?_
                  refine v_aload C 0 d_C_promise_113 rfl ?_
                  refine v_get C k_N hn0 6 (by decide) tw_339 (fun _ h => h) rfl d_C_promise_115 ?_
                  refine v_lsub C d_C_promise_118 ?_
                  refine v_callS (rest := []) C (c_Ma_abs l G v (wn - (zl S 14 (m9 + 1)))) tw_383 tw_37 tw_381 tw_382 mn_Ma_abs ⟨Nat.le_of_ble_eq_true rfl, Nat.le_of_ble_eq_true rfl⟩ rfl rfl (Nat.le_of_ble_eq_true rfl) d_C_promise_119 ⟨(by first | exact Nat.le_of_ble_eq_true rfl | (dsimp only; omega)), (by first | exact Nat.le_of_ble_eq_true rfl | (dsimp only; omega))⟩ (fun r_28 v_29 hp_30 => ?_)
                  obtain ⟨rfl, hv9⟩ := hp_30
                  obtain rfl := hv9.symm
                  show vV _ _ _ _ _ _ _ _ _ _ _ _ _ v 0 0 122 [(9, .ref (na m9)), (8, .ref (ia ki)), (7, .ref (ca j)), (0, .ref o), (1, .int (nI (j + 1))), (2, .int it), (3, .long wn), (5, .long b)] [.long (if (0 : Int64).toInt ≤ ((wn - (zl S 14 (m9 + 1)))).toInt then (wn - (zl S 14 (m9 + 1))) else -(wn - (zl S 14 (m9 + 1))))]
                  refine v_lload C 7 d_C_promise_122 rfl ?_
                  refine v_lcmp C d_C_promise_124 ?_
                  refine v_if_gt C 130 d_C_promise_125 (by decide) (fun c_125 => ?_) (fun c_125 => ?_)
                  · refine v_aload C 0 d_C_promise_130 rfl ?_
                    refine v_get C k_N hn0 5 (by decide) tw_337 (fun _ h => h) rfl d_C_promise_132 ?_
                    refine v_if_ne C 150 d_C_promise_135 (by decide) (fun c_135 => ?_) (fun c_135 => ?_)
                    · refine v_aload_n C 3 d_C_promise_150 rfl rfl ?_
                      refine v_aload C 2 d_C_promise_151 rfl ?_
                      refine v_iload_n C 5 d_C_promise_153 rfl rfl ?_
                      refine v_aload C 1 d_C_promise_154 rfl ?_
                      refine v_lload_n C 6 d_C_promise_156 rfl rfl ?_
                      refine v_callV (rest := []) C (c_C_addPromise1 l G v o la cw S ra ea ca oa na ia j it ki wn hRC hj hB hB4 hB4f hki hpf) tw_380 tw_30 tw_377 tw_379 tw_11 mn_C_addPromise hA k_C.1 ⟨Nat.le_of_ble_eq_true rfl, Nat.le_of_ble_eq_true rfl⟩ rfl rfl (Nat.le_of_ble_eq_true rfl) d_C_promise_157 ⟨(by first | exact Nat.le_of_ble_eq_true rfl | (dsimp only; omega)), (by first | exact Nat.le_of_ble_eq_true rfl | (dsimp only; omega))⟩ (fun r_31 v_32 hp_33 => ?_)
                      refine v_cs (kc' := 4) (ks' := 504) rfl rfl ?_
                      obtain ⟨rfl, ra8, ea8, na8, ia8, hRC8, hkX8⟩ := hp_33
                      show vV _ _ _ _ _ _ _ _ _ _ _ _ _ v_32 4 504 160 [(9, .ref (na m9)), (8, .ref (ia ki)), (7, .ref (ca j)), (0, .ref o), (1, .int (nI (j + 1))), (2, .int it), (3, .long wn), (5, .long b)] [.int ((oAdP S (nI (j + 1)) it wn).1)]
                      exact v_iret C d_C_promise_160 (by first | exact Nat.le_of_ble_eq_true rfl | (show _ ≤ _; omega)) (by first | exact Nat.le_of_ble_eq_true rfl | (show _ ≤ _; omega)) ⟨(by rw [hop, hl0, zn_nI (show m9 + 1 < 2 ^ 31 by omega), if_neg (fun z => absurd (habs.mpr z.2) (Int.not_le.mpr (lc_gt.mp c_125))), if_neg (fun z => c_135 z.2)]), (by rw [hop, hl0, zn_nI (show m9 + 1 < 2 ^ 31 by omega), if_neg (fun z => absurd (habs.mpr z.2) (Int.not_le.mpr (lc_gt.mp c_125))), if_neg (fun z => c_135 z.2)]; exact RCe.mk hRC8 (hkX8.mono cX_Y) (oAdP_c S _ _ _))⟩
                    · refine v_aload C 0 d_C_promise_138 rfl ?_
                      refine v_lload_n C 6 d_C_promise_140 rfl rfl ?_
                      refine v_put C k_N hn0 6 (by decide) tw_339 (fun _ h => h) rfl rfl rfl (Nat.le_of_ble_eq_true rfl) d_C_promise_141 ?_
                      refine v_view (fun v1 ev1 => ?_)
                      have he_34 : v1 3 o = some (.inr (3, [.ref (la 0), .ref (la 1), .ref (la 2), .ref (la 3), .ref (la 4), .ref cw, .long (zl S 0 0), .int (zi S 1 0)])) := by rw [ev1]; exact (vv_up_k _ _ _ _ (by decide)).trans hA
                      have he_35 : v1 0 (ca j) = some (.inr (0, [.int (nI (j + 1)), .int (zi S 4 (j + 1)), .int (zi S 5 (j + 1)), .int (zi S 6 (j + 1)), .int (zi S 7 (j + 1)), .long lw, .int mt0, .ref (oa j)])) := by rw [ev1]; exact (vv_up_k _ _ _ _ (by decide)).trans hk0
                      have he_36 : v1 50 (oa j) = some (.inl (G.2.2.2.2 0, 32, .inl g)) := by rw [ev1]; exact (vv_up_k _ _ _ _ (by decide)).trans hg0
                      have he_37 : v1 1 (ia ki) = some (.inr (1, [.int (zi S 19 ki), .int (zi S 20 ki), .int (zi S 21 ki), va_rf (zlp na (zi S 22 ki))])) := by rw [ev1]; exact (vv_up_k _ _ _ _ (by decide)).trans hi0
                      have he_38 : v1 2 (na m9) = some (.inr (2, [.int (nI (m9 + 1)), .ref (ca (zn (zi S 10 (m9 + 1)) - 1)), .int (zi S 11 (m9 + 1)), .int (zi S 12 (m9 + 1)), .long (zl S 13 (m9 + 1)), .int (zi S 15 (m9 + 1)), .long wn, .int (zi S 16 (m9 + 1)), .int (zi S 17 (m9 + 1)), .int ch, .int msg, .long sent])) := by rw [ev1]; exact vv_up_s _ _ _ _
                      refine v_aload C 0 d_C_promise_144 rfl ?_
                      refine v_get C k_N he_38 0 (by decide) tw_327 (fun _ h => h) rfl d_C_promise_146 ?_
                      exact v_iret C d_C_promise_149 (by first | exact Nat.le_of_ble_eq_true rfl | (show _ ≤ _; omega)) (by first | exact Nat.le_of_ble_eq_true rfl | (show _ ≤ _; omega)) ⟨(by rw [hop, hl0, zn_nI (show m9 + 1 < 2 ^ 31 by omega), if_neg (fun z => absurd (habs.mpr z.2) (Int.not_le.mpr (lc_gt.mp c_125))), if_pos ⟨hp9, c_135⟩]), (by rw [hop, hl0, zn_nI (show m9 + 1 < 2 ^ 31 by omega), if_neg (fun z => absurd (habs.mpr z.2) (Int.not_le.mpr (lc_gt.mp c_125))), if_pos ⟨hp9, c_135⟩]; exact RCe.mk (hRC.noti (S' := zul S 14 (m9 + 1) wn) (j0 := m9) (by omega) (by omega) (by rw [ev1]; exact vkp.rf.up ⟨rfl, rfl⟩) ⟨ch, msg, sent, (by rw [he_38, zl_ul, if_neg (by decide), zl_ul, if_pos rfl, if_pos rfl]; rfl), (fun i h1 h2 => by rw [zl_ul, if_neg (by decide)]; exact hns i h1 h2)⟩ (fun _ => rfl) (fun _ _ _ _ _ => rfl) (fun _ _ _ => rfl) (fun f i h => by rw [zl_ul, if_neg h]) (fun i h => by rw [zl_ul, if_pos rfl, if_neg (by omega)])) ((by rw [ev1]; exact vkp.rf.up (Or.inr (Or.inl rfl)) : vkp cX v v1).mono cX_Y) rfl)⟩
                  · refine v_iconst (x := 0) C d_C_promise_128 (by decide) ?_
                    exact v_iret C d_C_promise_129 (by first | exact Nat.le_of_ble_eq_true rfl | (show _ ≤ _; omega)) (by first | exact Nat.le_of_ble_eq_true rfl | (show _ ≤ _; omega)) ⟨(by rw [hop, hl0, zn_nI (show m9 + 1 < 2 ^ 31 by omega), if_pos ⟨hp9, habs.mp (Int.not_lt.mp (fun z => c_125 (lc_gt.mpr z)))⟩]), (by rw [hop, hl0, zn_nI (show m9 + 1 < 2 ^ 31 by omega), if_pos ⟨hp9, habs.mp (Int.not_lt.mp (fun z => c_125 (lc_gt.mpr z)))⟩]; exact RCe.rf hRC)⟩
              · refine v_iconst (x := 0) C d_C_promise_78 (by decide) ?_
                exact v_iret C d_C_promise_79 (by first | exact Nat.le_of_ble_eq_true rfl | (show _ ≤ _; omega)) (by first | exact Nat.le_of_ble_eq_true rfl | (show _ ≤ _; omega)) ⟨(by rw [oProm, if_pos hx0, if_pos hz, if_neg (fun z => c_75 (by have y := z.1; unfold zended at y; rw [hpf] at y; exact y))]), (by rw [oProm, if_pos hx0, if_pos hz, if_neg (fun z => c_75 (by have y := z.1; unfold zended at y; rw [hpf] at y; exact y))]; exact RCe.rf hRC)⟩
        · obtain rfl := hv9.symm
          show vV _ _ _ _ _ _ _ _ _ _ _ _ _ v 0 0 42 [(7, .ref (ca j)), (0, .ref o), (1, .int (nI (j + 1))), (2, .int it), (3, .long wn), (5, .long b)] [.int 0]
          refine v_if_ne C 48 d_C_promise_42 (by decide) (fun z => absurd (by decide) z) (fun _ => ?_)
          refine v_bipush (x := -12) C d_C_promise_45 (by decide) ?_
          exact v_iret C d_C_promise_47 (by first | exact Nat.le_of_ble_eq_true rfl | (show _ ≤ _; omega)) (by first | exact Nat.le_of_ble_eq_true rfl | (show _ ≤ _; omega)) ⟨(by  rw [oProm, if_pos hx0, if_neg (fun z => hb_39 z.2.2)] <;> (try rfl)), (by  rw [oProm, if_pos hx0, if_neg (fun z => hb_39 z.2.2)]; exact RCe.rf hRC)⟩
      · obtain rfl := hv9.symm
        show vV _ _ _ _ _ _ _ _ _ _ _ _ _ v 0 0 30 [(7, .ref (ca j)), (0, .ref o), (1, .int (nI (j + 1))), (2, .int it), (3, .long wn), (5, .long b)] [.int 0]
        refine v_if_eq C 45 d_C_promise_30 (by decide) (fun _ => ?_) (fun z => absurd (by decide) z)
        refine v_bipush (x := -12) C d_C_promise_45 (by decide) ?_
        exact v_iret C d_C_promise_47 (by first | exact Nat.le_of_ble_eq_true rfl | (show _ ≤ _; omega)) (by first | exact Nat.le_of_ble_eq_true rfl | (show _ ≤ _; omega)) ⟨(by  rw [oProm, if_pos hx0, if_neg (fun z => hb_27 z.2.1)] <;> (try rfl)), (by  rw [oProm, if_pos hx0, if_neg (fun z => hb_27 z.2.1)]; exact RCe.rf hRC)⟩
    · obtain rfl := hv9.symm
      show vV _ _ _ _ _ _ _ _ _ _ _ _ _ v 0 0 19 [(7, .ref (ca j)), (0, .ref o), (1, .int (nI (j + 1))), (2, .int it), (3, .long wn), (5, .long b)] [.int 0]
      refine v_if_eq C 45 d_C_promise_19 (by decide) (fun _ => ?_) (fun z => absurd (by decide) z)
      refine v_bipush (x := -12) C d_C_promise_45 (by decide) ?_
      exact v_iret C d_C_promise_47 (by first | exact Nat.le_of_ble_eq_true rfl | (show _ ≤ _; omega)) (by first | exact Nat.le_of_ble_eq_true rfl | (show _ ≤ _; omega)) ⟨(by  rw [oProm, if_pos hx0, if_neg (fun z => hb_16 z.1)] <;> (try rfl)), (by  rw [oProm, if_pos hx0, if_neg (fun z => hb_16 z.1)]; exact RCe.rf hRC)⟩
set_option maxHeartbeats 4000000 in
set_option maxRecDepth 100000 in
theorem c_C_correct (l : Launch) (G : vv_G) (v : vv_V) (o : Nat) (la : Nat → Nat) (cw : Nat) (S : zS) (ra ea ca oa na ia : Nat → Nat) (x : Int32) (t : Int64) (hRC : RC G v o la cw S ra ea ca oa na ia) (hB : zB S) (hB2 : zB2 S) (hB4 : zB4 S) (hB4f : zB4f S) (hB6 : zB6 S) (hB7 : zB7 S) (hB9 : zB9 S) : Mv l y_C_correct b_C_correct 6 (some FieldType.int) 9 221 G v [.ref o, .int x, .long t] (fun r v' => r = some (.int (oCorr S x t).1) ∧ RCe G v o la cw S oa v' (oCorr S x t).2) 2 256 := by
  refine vv_metF (own := "CustomerNotices") (nm := "correct") pf_C_correct rfl rfl (Nat.le_of_ble_eq_true rfl) ?_
  intro p e s m below meth c C hin
  obtain ⟨hA, ⟨gw, hW, hWj⟩, hLs, hKs, hNs, hIs, hD1, hD2, hD3, hD4⟩ := id hRC
  obtain ⟨n1, hn1⟩ : ∃ z, z = zc S 1 := ⟨_, rfl⟩
  obtain ⟨n2, hn2⟩ : ∃ z, z = zc S 2 := ⟨_, rfl⟩
  obtain ⟨hb0, hb1, hb2, hb22⟩ := id hB
  show vV _ _ _ _ _ _ _ _ _ _ _ _ _ v 0 0 0 [(0, .ref o), (1, .int x), (2, .long t)] []
  refine v_aload_n C 0 d_C_correct_0 rfl rfl ?_
  refine v_iload_n C 1 d_C_correct_1 rfl rfl ?_
  refine v_callV (rest := []) C (c_C_findNotice l G v o la cw S ra ea ca oa na ia x hRC (by omega)) tw_459 tw_30 tw_456 tw_458 tw_16 mn_C_findNotice hA k_C.1 ⟨Nat.le_of_ble_eq_true rfl, Nat.le_of_ble_eq_true rfl⟩ rfl rfl (Nat.le_of_ble_eq_true rfl) d_C_correct_2 ⟨(by first | exact Nat.le_of_ble_eq_true rfl | (dsimp only; omega)), (by first | exact Nat.le_of_ble_eq_true rfl | (dsimp only; omega))⟩ (fun r_1 v_2 hp_3 => ?_)
  rcases hp_3 with ⟨rfl, hv9, hno⟩ | ⟨j0, rfl, hv9, hj0, hxj⟩
  · obtain rfl := hv9.symm
    show vV _ _ _ _ _ _ _ _ _ _ _ _ _ v 0 0 5 [(0, .ref o), (1, .int x), (2, .long t)] [.null]
    refine v_astoreN (lv' := [(4, .null), (0, .ref o), (1, .int x), (2, .long t)]) C d_C_correct_5 (by decide) rfl ?_
    refine v_aloadN C 0 d_C_correct_7 rfl ?_
    refine v_ifnonnullN C d_C_correct_9 ?_
    refine v_bipush (x := -11) C d_C_correct_12 (by decide) ?_
    exact v_iret C d_C_correct_14 (by first | exact Nat.le_of_ble_eq_true rfl | (show _ ≤ _; omega)) (by first | exact Nat.le_of_ble_eq_true rfl | (show _ ≤ _; omega)) ⟨(by  rw [oCorr, if_neg hno] <;> (try rfl)), (by  rw [oCorr, if_neg hno]; exact RCe.rf hRC)⟩
  · obtain rfl := hv9.symm
    subst hxj
    show vV _ _ _ _ _ _ _ _ _ _ _ _ _ v 0 0 5 [(0, .ref o), (1, .int (nI (j0 + 1))), (2, .long t)] [.ref (na j0)]
    have hx0 : zIn (nI (j0 + 1)) 1 (zc S 1) := zIn_of (a := 1) (by omega) (by omega) (by omega)
    have hxn : zn (nI (j0 + 1)) = j0 + 1 := zn_nI (by omega)
    obtain ⟨ch, msg, sent, hn0, hns⟩ := hNs j0 (by omega)
    obtain ⟨cn, kd, e10, hc1, hc2, e12, hk7⟩ := hB2 (j0 + 1) (by omega) (by omega)
    obtain ⟨c9, rfl⟩ : ∃ c9, cn = c9 + 1 := ⟨cn - 1, by omega⟩
    have e109 : zn (zi S 10 (j0 + 1)) - 1 = c9 := by rw [e10, zn_nI (by omega), Nat.add_sub_cancel]
    have hn9 : v 2 (na j0) = some (.inr (2, [.int (nI (j0 + 1)), .ref (ca c9), .int (zi S 11 (j0 + 1)), .int (nI kd), .long (zl S 13 (j0 + 1)), .int (zi S 15 (j0 + 1)), .long (zl S 14 (j0 + 1)), .int (zi S 16 (j0 + 1)), .int (zi S 17 (j0 + 1)), .int ch, .int msg, .long sent])) := by rw [hn0, e109, e12]
    obtain ⟨⟨lw, mt0, hk0⟩, g, hg0, hgv⟩ := hKs c9 (by omega)
    refine v_astore (lv' := [(4, .ref (na j0)), (0, .ref o), (1, .int (nI (j0 + 1))), (2, .long t)]) C d_C_correct_5 (by decide) rfl ?_
    refine v_aload C 0 d_C_correct_7 rfl ?_
    refine v_ifnonnull C 15 d_C_correct_9 (by decide) ?_
    refine v_aload_n C 1 d_C_correct_15 rfl rfl ?_
    refine v_lload_n C 3 d_C_correct_16 rfl rfl ?_
    refine v_callV (rest := []) C (c_C_isTimeFromNow l G v o la cw S ra ea ca oa na ia t hRC) tw_273 tw_30 tw_270 tw_272 tw_5 mn_C_isTimeFromNow hA k_C.1 ⟨Nat.le_of_ble_eq_true rfl, Nat.le_of_ble_eq_true rfl⟩ rfl rfl (Nat.le_of_ble_eq_true rfl) d_C_correct_17 ⟨(by first | exact Nat.le_of_ble_eq_true rfl | (dsimp only; omega)), (by first | exact Nat.le_of_ble_eq_true rfl | (dsimp only; omega))⟩ (fun r_4 v_5 hp_6 => ?_)
    rcases hp_6 with ⟨rfl, hv9, hb_17⟩ | ⟨rfl, hv9, hb_17⟩
    · obtain rfl := hv9.symm
      show vV _ _ _ _ _ _ _ _ _ _ _ _ _ v 0 0 20 [(4, .ref (na j0)), (0, .ref o), (1, .int (nI (j0 + 1))), (2, .long t)] [.int 1]
      refine v_if_ne C 26 d_C_correct_20 (by decide) (fun _ => ?_) (fun z => absurd z (by decide))
      have hkw := kwn_le g (kd * 4) 4
      have hkz := kwn_zwn (S := S) (g := g) (b := kd * 4) (B := 32 * (c9 + 1) + 4 * kd) hB7 4 (fun i hi => by rw [hgv (kd * 4 + i) (by omega)]; congr 2; omega)
      refine v_aload C 0 d_C_correct_26 rfl ?_
      refine v_callV (rest := []) C (c_N_can l G v _ _ _ _ _ _ _ _ _ _ _ _ _ hn9) tw_463 tw_43 tw_460 tw_461 tw_462 mn_N_canBeCorrected hn9 k_N.1 ⟨Nat.le_of_ble_eq_true rfl, Nat.le_of_ble_eq_true rfl⟩ rfl rfl (Nat.le_of_ble_eq_true rfl) d_C_correct_28 ⟨(by first | exact Nat.le_of_ble_eq_true rfl | (dsimp only; omega)), (by first | exact Nat.le_of_ble_eq_true rfl | (dsimp only; omega))⟩ (fun r_7 v_8 hp_9 => ?_)
      rcases hp_9 with ⟨rfl, hv9, hb_28⟩ | ⟨rfl, hv9, hb_28⟩
      · obtain rfl := hv9.symm
        show vV _ _ _ _ _ _ _ _ _ _ _ _ _ v 0 0 31 [(4, .ref (na j0)), (0, .ref o), (1, .int (nI (j0 + 1))), (2, .long t)] [.int 1]
        refine v_if_ne C 37 d_C_correct_31 (by decide) (fun _ => ?_) (fun z => absurd z (by decide))
        have hcan : ¬ (zi S 15 (j0 + 1) = 2 ∨ zi S 15 (j0 + 1) = 3 ∨ ¬ zi S 17 (j0 + 1) = 0 ∨ ¬ zi S 16 (j0 + 1) = 0) := by
          rintro (z | z | z | z)
          · rcases hb_28.1 with q | q <;> rw [q] at z <;> exact absurd z (by decide)
          · rcases hb_28.1 with q | q <;> rw [q] at z <;> exact absurd z (by decide)
          · exact z hb_28.2.1
          · exact z hb_28.2.2
        have hop : oCorr S (nI (j0 + 1)) t = (if zi S 15 (j0 + 1) = 0 then (0, zundo (zui S 15 (j0 + 1) 3) (j0 + 1)) else (if 0 < kwn g (kd * 4) 4 ∧ zc S 1 = 200 then (-14, S) else (if 0 < kwn g (kd * 4) 4 then (nI (zc S 1 + 1), zput (zundo (zui S 17 (j0 + 1) 1) (j0 + 1)) (zi S 10 (j0 + 1)) (zi S 11 (j0 + 1)) (zi S 12 (j0 + 1)) t (-1) 1) else (0, zundo (zui S 17 (j0 + 1) 1) (j0 + 1))))) := by rw [oCorr, if_pos hx0, if_pos hb_17, hxn, if_neg hcan, show zwn S (32 * zn (zi S 10 (j0 + 1)) + 4 * zn (zi S 12 (j0 + 1))) 4 = kwn g (kd * 4) 4 by rw [e10, e12, zn_nI (by omega), zn_nI (by omega), hkz]]
        refine v_aload C 0 d_C_correct_37 rfl ?_
        refine v_get C k_N hn9 5 (by decide) tw_337 (fun _ h => h) rfl d_C_correct_39 ?_
        refine v_iconst (x := 1) C d_C_correct_42 (by decide) ?_
        refine v_icmp_ne C 66 d_C_correct_43 (by decide) (fun c_43 => ?_) (fun c_43 => ?_)
        · refine v_iconst (x := 0) C d_C_correct_66 (by decide) ?_
          refine v_istore (lv' := [(5, .int 0), (4, .ref (na j0)), (0, .ref o), (1, .int (nI (j0 + 1))), (2, .long t)]) C d_C_correct_67 (by decide) rfl ?_
          refine v_iload C 0 d_C_correct_69 rfl ?_
          refine v_if_eq C 84 d_C_correct_71 (by decide) (fun _ => ?_) (fun z => absurd (by decide) z)
          refine v_aload C 1 d_C_correct_84 rfl ?_
          refine v_get C k_N hn9 3 (by decide) tw_333 (fun _ h => h) rfl d_C_correct_86 ?_
          refine v_callS (rest := []) C (c_C_isEnd l G v (nI kd)) tw_282 tw_30 tw_280 tw_281 mn_C_isEnd ⟨Nat.le_of_ble_eq_true rfl, Nat.le_of_ble_eq_true rfl⟩ rfl rfl (Nat.le_of_ble_eq_true rfl) d_C_correct_89 ⟨(by first | exact Nat.le_of_ble_eq_true rfl | (dsimp only; omega)), (by first | exact Nat.le_of_ble_eq_true rfl | (dsimp only; omega))⟩ (fun r_10 v_11 hp_12 => ?_)
          rcases hp_12 with ⟨rfl, hv9, hb_89⟩ | ⟨rfl, hv9, hb_89⟩
          · obtain rfl := hv9.symm
            show vV _ _ _ _ _ _ _ _ _ _ _ _ _ v 0 0 92 [(5, .int 0), (4, .ref (na j0)), (0, .ref o), (1, .int (nI (j0 + 1))), (2, .long t)] [.int 1]
            refine v_if_eq C 112 d_C_correct_92 (by decide) (fun z => absurd z (by decide)) (fun _ => ?_)
            refine v_aload_n C 2 d_C_correct_95 rfl rfl ?_
            refine v_aload C 1 d_C_correct_96 rfl ?_
            refine v_get C k_N hn9 1 (by decide) tw_329 (fun _ h => h) rfl d_C_correct_98 ?_
            refine v_get C k_K hk0 0 (by decide) tw_125 (fun _ h => h) rfl d_C_correct_101 ?_
            refine v_aload C 1 d_C_correct_104 rfl ?_
            refine v_get C k_N hn9 2 (by decide) tw_331 (fun _ h => h) rfl d_C_correct_106 ?_
            refine v_callV (rest := []) C (c_C_reopenItem l G v o la cw S ra ea ca oa na ia (nI (c9 + 1)) (zi S 11 (j0 + 1)) hRC (by omega) hB6) tw_467 tw_30 tw_464 tw_466 tw_17 mn_C_reopenItem hA k_C.1 ⟨Nat.le_of_ble_eq_true rfl, Nat.le_of_ble_eq_true rfl⟩ rfl rfl (Nat.le_of_ble_eq_true rfl) d_C_correct_109 ⟨(by first | exact Nat.le_of_ble_eq_true rfl | (dsimp only; omega)), (by first | exact Nat.le_of_ble_eq_true rfl | (dsimp only; omega))⟩ (fun r_13 v_14 hp_15 => ?_)
            obtain ⟨rfl, hRC6, hkX6⟩ := hp_15
            obtain ⟨S6, eS6⟩ : ∃ z, z = zre S (nI (c9 + 1)) (zi S 11 (j0 + 1)) := ⟨_, rfl⟩
            rw [← eS6] at hRC6
            have hc6 : ∀ i, zc S6 i = zc S i := fun i => by rw [eS6, zre_c]
            have hc61 := hc6 1
            have hc60 := hc6 0
            have hi6 : ∀ f i, f ≠ 21 → zi S6 f i = zi S f i := fun f i h => by rw [eS6, zre_i _ _ _ _ _ h]
            have hl6 : ∀ f i, zl S6 f i = zl S f i := fun f i => by rw [eS6, zre_l]
            have hu6 : zundo S (j0 + 1) = S6 := by rw [eS6]; unfold zundo zre; rw [e12, if_pos hb_89, e10]; cases zpf S (nI (c9 + 1)) (zi S 11 (j0 + 1)) (zc S 2) <;> rfl
            have e1096 : zn (zi S6 10 (j0 + 1)) - 1 = c9 := by rw [hi6 _ _ (by decide), e109]
            have e126 : zi S6 12 (j0 + 1) = nI kd := by rw [hi6 _ _ (by decide), e12]
            obtain ⟨hA6, ⟨gw6, hW6, hWj6⟩, hLs6, hKs6, hNs6, hIs6, hD16, hD26, hD36, hD46⟩ := id hRC6
            obtain ⟨ch, msg, sent, hn06, hns6⟩ := hNs6 j0 (by omega)
            have hn96 : v_14 2 (na j0) = some (.inr (2, [.int (nI (j0 + 1)), .ref (ca c9), .int (zi S6 11 (j0 + 1)), .int (nI kd), .long (zl S6 13 (j0 + 1)), .int (zi S6 15 (j0 + 1)), .long (zl S6 14 (j0 + 1)), .int (zi S6 16 (j0 + 1)), .int (zi S6 17 (j0 + 1)), .int ch, .int msg, .long sent])) := by rw [hn06, e1096, e126]
            show vV _ _ _ _ _ _ _ _ _ _ _ _ _ v_14 0 0 112 [(5, .int 0), (4, .ref (na j0)), (0, .ref o), (1, .int (nI (j0 + 1))), (2, .long t)] []
            refine v_aload C 1 d_C_correct_112 rfl ?_
            refine v_get C k_N hn96 5 (by decide) tw_337 (fun _ h => h) rfl d_C_correct_114 ?_
            refine v_if_ne C 128 d_C_correct_117 (by decide) (fun c_117 => ?_) (fun c_117 => ?_)
            · have y9 : ¬ zi S 15 (j0 + 1) = 0 := by rw [← hi6 15 (j0 + 1) (by decide)]; exact c_117
              exact absurd hb_28.1 (by rintro (q | q); exact y9 q; exact c_43 q)
            · refine v_aload C 1 d_C_correct_120 rfl ?_
              refine v_iconst (x := 3) C d_C_correct_122 (by decide) ?_
              refine v_put C k_N hn96 5 (by decide) tw_337 (fun _ h => h) rfl rfl rfl (Nat.le_of_ble_eq_true rfl) d_C_correct_123 ?_
              refine v_view (fun v1 ev1 => ?_)
              have he_16 : v1 3 o = some (.inr (3, [.ref (la 0), .ref (la 1), .ref (la 2), .ref (la 3), .ref (la 4), .ref cw, .long (zl S6 0 0), .int (zi S6 1 0)])) := by rw [ev1]; exact (vv_up_k _ _ _ _ (by decide)).trans hA6
              have he_17 : v1 2 (na j0) = some (.inr (2, [.int (nI (j0 + 1)), .ref (ca c9), .int (zi S6 11 (j0 + 1)), .int (nI kd), .long (zl S6 13 (j0 + 1)), .int 3, .long (zl S6 14 (j0 + 1)), .int (zi S6 16 (j0 + 1)), .int (zi S6 17 (j0 + 1)), .int ch, .int msg, .long sent])) := by rw [ev1]; exact vv_up_s _ _ _ _
              refine v_iconst (x := 0) C d_C_correct_126 (by decide) ?_
              exact v_iret C d_C_correct_127 (by first | exact Nat.le_of_ble_eq_true rfl | (show _ ≤ _; omega)) (by first | exact Nat.le_of_ble_eq_true rfl | (show _ ≤ _; omega)) ⟨(by rw [hop, if_pos (show zi S 15 (j0 + 1) = 0 by rw [← hi6 15 (j0 + 1) (by decide)]; exact c_117)]), (by rw [hop, if_pos (show zi S 15 (j0 + 1) = 0 by rw [← hi6 15 (j0 + 1) (by decide)]; exact c_117)]; dsimp only; rw [zundo_ui (Or.inl rfl), hu6]; exact RCe.mk (hRC6.noti (v' := v1) (S' := zui S6 15 (j0 + 1) 3) (j0 := j0) (by omega) (by omega) (by rw [ev1]; exact vkp.rf.up ⟨rfl, rfl⟩) ⟨ch, msg, sent, (by rw [he_17]; simp only [zi_ui, zl_ui, if_pos rfl, reduceIte, Nat.reduceEqDiff, e1096, e126]), (fun i h1 h2 => by simp only [zi_ui, zl_ui, reduceIte, Nat.reduceEqDiff] at h2 ⊢; exact hns6 i h1 h2)⟩ (fun _ => rfl) (fun f i h15 h16 h17 => by rw [zi_ui, if_neg h15]) (fun f i h => by rw [zi_ui]; split; rw [if_neg (by omega)]; rfl) (fun _ _ _ => rfl) (fun _ _ => rfl)) ((by rw [ev1]; exact (hkX6).up (Or.inr (Or.inl rfl)) : vkp cX v v1).mono cX_Y) (hc6 0))⟩
          · obtain rfl := hv9.symm
            show vV _ _ _ _ _ _ _ _ _ _ _ _ _ v 0 0 92 [(5, .int 0), (4, .ref (na j0)), (0, .ref o), (1, .int (nI (j0 + 1))), (2, .long t)] [.int 0]
            refine v_if_eq C 112 d_C_correct_92 (by decide) (fun _ => ?_) (fun z => absurd (by decide) z)
            refine v_aload C 1 d_C_correct_112 rfl ?_
            refine v_get C k_N hn9 5 (by decide) tw_337 (fun _ h => h) rfl d_C_correct_114 ?_
            refine v_if_ne C 128 d_C_correct_117 (by decide) (fun c_117 => ?_) (fun c_117 => ?_)
            · have y9 : ¬ zi S 15 (j0 + 1) = 0 := by exact c_117
              exact absurd hb_28.1 (by rintro (q | q); exact y9 q; exact c_43 q)
            · refine v_aload C 1 d_C_correct_120 rfl ?_
              refine v_iconst (x := 3) C d_C_correct_122 (by decide) ?_
              refine v_put C k_N hn9 5 (by decide) tw_337 (fun _ h => h) rfl rfl rfl (Nat.le_of_ble_eq_true rfl) d_C_correct_123 ?_
              refine v_view (fun v2 ev2 => ?_)
              have he_18 : v2 3 o = some (.inr (3, [.ref (la 0), .ref (la 1), .ref (la 2), .ref (la 3), .ref (la 4), .ref cw, .long (zl S 0 0), .int (zi S 1 0)])) := by rw [ev2]; exact (vv_up_k _ _ _ _ (by decide)).trans hA
              have he_19 : v2 2 (na j0) = some (.inr (2, [.int (nI (j0 + 1)), .ref (ca c9), .int (zi S 11 (j0 + 1)), .int (nI kd), .long (zl S 13 (j0 + 1)), .int 3, .long (zl S 14 (j0 + 1)), .int (zi S 16 (j0 + 1)), .int (zi S 17 (j0 + 1)), .int ch, .int msg, .long sent])) := by rw [ev2]; exact vv_up_s _ _ _ _
              have he_20 : v2 0 (ca c9) = some (.inr (0, [.int (nI (c9 + 1)), .int (zi S 4 (c9 + 1)), .int (zi S 5 (c9 + 1)), .int (zi S 6 (c9 + 1)), .int (zi S 7 (c9 + 1)), .long lw, .int mt0, .ref (oa c9)])) := by rw [ev2]; exact (vv_up_k _ _ _ _ (by decide)).trans hk0
              have he_21 : v2 50 (oa c9) = some (.inl (G.2.2.2.2 0, 32, .inl g)) := by rw [ev2]; exact (vv_up_k _ _ _ _ (by decide)).trans hg0
              refine v_iconst (x := 0) C d_C_correct_126 (by decide) ?_
              exact v_iret C d_C_correct_127 (by first | exact Nat.le_of_ble_eq_true rfl | (show _ ≤ _; omega)) (by first | exact Nat.le_of_ble_eq_true rfl | (show _ ≤ _; omega)) ⟨(by rw [hop, if_pos (show zi S 15 (j0 + 1) = 0 from c_117)]), (by rw [hop, if_pos (show zi S 15 (j0 + 1) = 0 from c_117)]; dsimp only; rw [zundo_ui (Or.inl rfl), zundo_n (by rw [e12]; exact hb_89)]; exact RCe.mk (hRC.noti (v' := v2) (S' := zui S 15 (j0 + 1) 3) (j0 := j0) (by omega) (by omega) (by rw [ev2]; exact vkp.rf.up ⟨rfl, rfl⟩) ⟨ch, msg, sent, (by rw [he_19]; simp only [zi_ui, zl_ui, if_pos rfl, reduceIte, Nat.reduceEqDiff, e109, e12]), (fun i h1 h2 => by simp only [zi_ui, zl_ui, reduceIte, Nat.reduceEqDiff] at h2 ⊢; exact hns i h1 h2)⟩ (fun _ => rfl) (fun f i h15 h16 h17 => by rw [zi_ui, if_neg h15]) (fun f i h => by rw [zi_ui]; split; rw [if_neg (by omega)]; rfl) (fun _ _ _ => rfl) (fun _ _ => rfl)) ((by rw [ev2]; exact (vkp.rf).up (Or.inr (Or.inl rfl)) : vkp cX v v2).mono cX_Y) rfl)⟩
        · refine v_aload C 0 d_C_correct_46 rfl ?_
          refine v_get C k_N hn9 1 (by decide) tw_329 (fun _ h => h) rfl d_C_correct_48 ?_
          refine v_aload C 0 d_C_correct_51 rfl ?_
          refine v_get C k_N hn9 3 (by decide) tw_333 (fun _ h => h) rfl d_C_correct_53 ?_
          refine v_callV (rest := []) C (c_K_countWishes l G v (ca c9) (nI (c9 + 1)) (zi S 4 (c9 + 1)) (zi S 5 (c9 + 1)) (zi S 6 (c9 + 1)) (zi S 7 (c9 + 1)) lw mt0 (oa c9) g kd hk0 hg0 (by omega)) tw_246 tw_35 tw_243 tw_244 tw_245 mn_K_countWishes hk0 k_K.1 ⟨Nat.le_of_ble_eq_true rfl, Nat.le_of_ble_eq_true rfl⟩ rfl rfl (Nat.le_of_ble_eq_true rfl) d_C_correct_56 ⟨(by first | exact Nat.le_of_ble_eq_true rfl | (dsimp only; omega)), (by first | exact Nat.le_of_ble_eq_true rfl | (dsimp only; omega))⟩ (fun r_22 v_23 hp_24 => ?_)
          obtain ⟨rfl, hv9⟩ := hp_24
          obtain rfl := hv9.symm
          show vV _ _ _ _ _ _ _ _ _ _ _ _ _ v 0 0 59 [(4, .ref (na j0)), (0, .ref o), (1, .int (nI (j0 + 1))), (2, .long t)] [.int (nI (kwn g (kd * 4) 4))]
          refine v_if_le C 66 d_C_correct_59 (by decide) (fun c_59 => ?_) (fun c_59 => ?_)
          · have n_59 : (kwn g (kd * 4) 4) ≤ 0 := (nI_leI (a := (kwn g (kd * 4) 4)) (b := 0) (by omega) (by omega)).mp c_59
            refine v_iconst (x := 0) C d_C_correct_66 (by decide) ?_
            refine v_istore (lv' := [(5, .int 0), (4, .ref (na j0)), (0, .ref o), (1, .int (nI (j0 + 1))), (2, .long t)]) C d_C_correct_67 (by decide) rfl ?_
            refine v_iload C 0 d_C_correct_69 rfl ?_
            refine v_if_eq C 84 d_C_correct_71 (by decide) (fun _ => ?_) (fun z => absurd (by decide) z)
            refine v_aload C 1 d_C_correct_84 rfl ?_
            refine v_get C k_N hn9 3 (by decide) tw_333 (fun _ h => h) rfl d_C_correct_86 ?_
            refine v_callS (rest := []) C (c_C_isEnd l G v (nI kd)) tw_282 tw_30 tw_280 tw_281 mn_C_isEnd ⟨Nat.le_of_ble_eq_true rfl, Nat.le_of_ble_eq_true rfl⟩ rfl rfl (Nat.le_of_ble_eq_true rfl) d_C_correct_89 ⟨(by first | exact Nat.le_of_ble_eq_true rfl | (dsimp only; omega)), (by first | exact Nat.le_of_ble_eq_true rfl | (dsimp only; omega))⟩ (fun r_25 v_26 hp_27 => ?_)
            rcases hp_27 with ⟨rfl, hv9, hb_89⟩ | ⟨rfl, hv9, hb_89⟩
            · obtain rfl := hv9.symm
              show vV _ _ _ _ _ _ _ _ _ _ _ _ _ v 0 0 92 [(5, .int 0), (4, .ref (na j0)), (0, .ref o), (1, .int (nI (j0 + 1))), (2, .long t)] [.int 1]
              refine v_if_eq C 112 d_C_correct_92 (by decide) (fun z => absurd z (by decide)) (fun _ => ?_)
              refine v_aload_n C 2 d_C_correct_95 rfl rfl ?_
              refine v_aload C 1 d_C_correct_96 rfl ?_
              refine v_get C k_N hn9 1 (by decide) tw_329 (fun _ h => h) rfl d_C_correct_98 ?_
              refine v_get C k_K hk0 0 (by decide) tw_125 (fun _ h => h) rfl d_C_correct_101 ?_
              refine v_aload C 1 d_C_correct_104 rfl ?_
              refine v_get C k_N hn9 2 (by decide) tw_331 (fun _ h => h) rfl d_C_correct_106 ?_
              refine v_callV (rest := []) C (c_C_reopenItem l G v o la cw S ra ea ca oa na ia (nI (c9 + 1)) (zi S 11 (j0 + 1)) hRC (by omega) hB6) tw_467 tw_30 tw_464 tw_466 tw_17 mn_C_reopenItem hA k_C.1 ⟨Nat.le_of_ble_eq_true rfl, Nat.le_of_ble_eq_true rfl⟩ rfl rfl (Nat.le_of_ble_eq_true rfl) d_C_correct_109 ⟨(by first | exact Nat.le_of_ble_eq_true rfl | (dsimp only; omega)), (by first | exact Nat.le_of_ble_eq_true rfl | (dsimp only; omega))⟩ (fun r_28 v_29 hp_30 => ?_)
              obtain ⟨rfl, hRC6, hkX6⟩ := hp_30
              obtain ⟨S6, eS6⟩ : ∃ z, z = zre S (nI (c9 + 1)) (zi S 11 (j0 + 1)) := ⟨_, rfl⟩
              rw [← eS6] at hRC6
              have hc6 : ∀ i, zc S6 i = zc S i := fun i => by rw [eS6, zre_c]
              have hc61 := hc6 1
              have hc60 := hc6 0
              have hi6 : ∀ f i, f ≠ 21 → zi S6 f i = zi S f i := fun f i h => by rw [eS6, zre_i _ _ _ _ _ h]
              have hl6 : ∀ f i, zl S6 f i = zl S f i := fun f i => by rw [eS6, zre_l]
              have hu6 : zundo S (j0 + 1) = S6 := by rw [eS6]; unfold zundo zre; rw [e12, if_pos hb_89, e10]; cases zpf S (nI (c9 + 1)) (zi S 11 (j0 + 1)) (zc S 2) <;> rfl
              have e1096 : zn (zi S6 10 (j0 + 1)) - 1 = c9 := by rw [hi6 _ _ (by decide), e109]
              have e126 : zi S6 12 (j0 + 1) = nI kd := by rw [hi6 _ _ (by decide), e12]
              obtain ⟨hA6, ⟨gw6, hW6, hWj6⟩, hLs6, hKs6, hNs6, hIs6, hD16, hD26, hD36, hD46⟩ := id hRC6
              obtain ⟨ch, msg, sent, hn06, hns6⟩ := hNs6 j0 (by omega)
              have hn96 : v_29 2 (na j0) = some (.inr (2, [.int (nI (j0 + 1)), .ref (ca c9), .int (zi S6 11 (j0 + 1)), .int (nI kd), .long (zl S6 13 (j0 + 1)), .int (zi S6 15 (j0 + 1)), .long (zl S6 14 (j0 + 1)), .int (zi S6 16 (j0 + 1)), .int (zi S6 17 (j0 + 1)), .int ch, .int msg, .long sent])) := by rw [hn06, e1096, e126]
              show vV _ _ _ _ _ _ _ _ _ _ _ _ _ v_29 0 0 112 [(5, .int 0), (4, .ref (na j0)), (0, .ref o), (1, .int (nI (j0 + 1))), (2, .long t)] []
              refine v_aload C 1 d_C_correct_112 rfl ?_
              refine v_get C k_N hn96 5 (by decide) tw_337 (fun _ h => h) rfl d_C_correct_114 ?_
              refine v_if_ne C 128 d_C_correct_117 (by decide) (fun c_117 => ?_) (fun c_117 => ?_)
              · have h150 : ¬ zi S 15 (j0 + 1) = 0 := by rw [c_43]; decide
                refine v_aload C 1 d_C_correct_128 rfl ?_
                refine v_iconst (x := 1) C d_C_correct_130 (by decide) ?_
                refine v_put C k_N hn96 8 (by decide) tw_343 (fun _ h => h) rfl (by decide) (by decide) (Nat.le_of_ble_eq_true rfl) d_C_correct_131 ?_
                refine v_view (fun v3 ev3 => ?_)
                have he_31 : v3 3 o = some (.inr (3, [.ref (la 0), .ref (la 1), .ref (la 2), .ref (la 3), .ref (la 4), .ref cw, .long (zl S6 0 0), .int (zi S6 1 0)])) := by rw [ev3]; exact (vv_up_k _ _ _ _ (by decide)).trans hA6
                have he_32 : v3 2 (na j0) = some (.inr (2, [.int (nI (j0 + 1)), .ref (ca c9), .int (zi S6 11 (j0 + 1)), .int (nI kd), .long (zl S6 13 (j0 + 1)), .int (zi S6 15 (j0 + 1)), .long (zl S6 14 (j0 + 1)), .int (zi S6 16 (j0 + 1)), .int 1, .int ch, .int msg, .long sent])) := by rw [ev3]; exact vv_up_s _ _ _ _
                have hRC7 := hRC6.noti (v' := v3) (S' := zui S6 17 (j0 + 1) 1) (j0 := j0) (by omega) (by omega) (by rw [ev3]; exact vkp.rf.up ⟨rfl, rfl⟩) ⟨ch, msg, sent, (by rw [he_32]; simp only [zi_ui, zl_ui, if_pos rfl, reduceIte, Nat.reduceEqDiff, e1096, e126]), (fun i h1 h2 => by simp only [zi_ui, zl_ui, reduceIte, Nat.reduceEqDiff] at h2 ⊢; exact hns6 i h1 h2)⟩ (fun _ => rfl) (fun f i h15 h16 h17 => by rw [zi_ui, if_neg h17]) (fun f i h => by rw [zi_ui]; split; rw [if_neg (by omega)]; rfl) (fun _ _ _ => rfl) (fun _ _ => rfl)
                obtain ⟨S7, eS7⟩ : ∃ z, z = zui S6 17 (j0 + 1) 1 := ⟨_, rfl⟩
                rw [← eS7] at hRC7
                have hkX7 : vkp cX v v3 := by rw [ev3]; exact (hkX6).up (Or.inr (Or.inl rfl))
                have hc71 : zc S7 1 = zc S 1 := (by rw [eS7]; exact hc6 1)
                have hc70 : zc S7 0 = zc S 0 := (by rw [eS7]; exact hc6 0)
                have hBz : zB S7 := hB.k hc70 hc71 (by rw [eS7]; exact hc6 2) (fun j => by rw [eS7, zi_ui, if_neg (by decide), hi6 _ _ (by decide)])
                have hB4z : zB4 S7 := hB4.k hc71 (by rw [eS7]; exact hc6 3) (fun j => by rw [eS7, zi_ui, if_neg (by decide), hi6 _ _ (by decide)])
                have hB4fz : zB4f S7 := hB4f.k hc71 (by rw [eS7]; exact hc6 4) (fun j => by rw [eS7, zi_ui, if_neg (by decide), hi6 _ _ (by decide)])
                have hi7 : ∀ f, f ≠ 17 → f ≠ 21 → zi S7 f (j0 + 1) = zi S f (j0 + 1) := fun f h1 h2 => by rw [eS7, zi_ui, if_neg h1, hi6 _ _ h2]
                obtain ⟨hA7, ⟨gw7, hW7, hWj7⟩, hLs7, hKs7, hNs7, hIs7, hD17, hD27, hD37, hD47⟩ := id hRC7
                obtain ⟨ch, msg, sent, hn07, hns7⟩ := hNs7 j0 (by omega)
                refine v_iload C 0 d_C_correct_134 rfl ?_
                refine v_if_eq C 149 d_C_correct_136 (by decide) (fun _ => ?_) (fun z => absurd (by decide) z)
                refine v_iconst (x := 0) C d_C_correct_149 (by decide) ?_
                exact v_iret C d_C_correct_150 (by first | exact Nat.le_of_ble_eq_true rfl | (show _ ≤ _; omega)) (by first | exact Nat.le_of_ble_eq_true rfl | (show _ ≤ _; omega)) ⟨(by rw [hop, if_neg h150, if_neg (show ¬ (0 < kwn g (kd * 4) 4 ∧ zc S 1 = 200) by omega), if_neg (show ¬ 0 < kwn g (kd * 4) 4 by omega)]), (by rw [hop, if_neg h150, if_neg (show ¬ (0 < kwn g (kd * 4) 4 ∧ zc S 1 = 200) by omega), if_neg (show ¬ 0 < kwn g (kd * 4) 4 by omega)]; dsimp only; rw [zundo_ui (Or.inr rfl), hu6]; rw [← eS7]; exact RCe.mk hRC7 (hkX7.mono cX_Y) hc70)⟩
              · have y9 : zi S 15 (j0 + 1) = 0 := by rw [← hi6 15 (j0 + 1) (by decide)]; exact c_117
                rw [c_43] at y9
                exact absurd y9 (by decide)
            · obtain rfl := hv9.symm
              show vV _ _ _ _ _ _ _ _ _ _ _ _ _ v 0 0 92 [(5, .int 0), (4, .ref (na j0)), (0, .ref o), (1, .int (nI (j0 + 1))), (2, .long t)] [.int 0]
              refine v_if_eq C 112 d_C_correct_92 (by decide) (fun _ => ?_) (fun z => absurd (by decide) z)
              refine v_aload C 1 d_C_correct_112 rfl ?_
              refine v_get C k_N hn9 5 (by decide) tw_337 (fun _ h => h) rfl d_C_correct_114 ?_
              refine v_if_ne C 128 d_C_correct_117 (by decide) (fun c_117 => ?_) (fun c_117 => ?_)
              · have h150 : ¬ zi S 15 (j0 + 1) = 0 := by rw [c_43]; decide
                refine v_aload C 1 d_C_correct_128 rfl ?_
                refine v_iconst (x := 1) C d_C_correct_130 (by decide) ?_
                refine v_put C k_N hn9 8 (by decide) tw_343 (fun _ h => h) rfl (by decide) (by decide) (Nat.le_of_ble_eq_true rfl) d_C_correct_131 ?_
                refine v_view (fun v4 ev4 => ?_)
                have he_33 : v4 3 o = some (.inr (3, [.ref (la 0), .ref (la 1), .ref (la 2), .ref (la 3), .ref (la 4), .ref cw, .long (zl S 0 0), .int (zi S 1 0)])) := by rw [ev4]; exact (vv_up_k _ _ _ _ (by decide)).trans hA
                have he_34 : v4 2 (na j0) = some (.inr (2, [.int (nI (j0 + 1)), .ref (ca c9), .int (zi S 11 (j0 + 1)), .int (nI kd), .long (zl S 13 (j0 + 1)), .int (zi S 15 (j0 + 1)), .long (zl S 14 (j0 + 1)), .int (zi S 16 (j0 + 1)), .int 1, .int ch, .int msg, .long sent])) := by rw [ev4]; exact vv_up_s _ _ _ _
                have he_35 : v4 0 (ca c9) = some (.inr (0, [.int (nI (c9 + 1)), .int (zi S 4 (c9 + 1)), .int (zi S 5 (c9 + 1)), .int (zi S 6 (c9 + 1)), .int (zi S 7 (c9 + 1)), .long lw, .int mt0, .ref (oa c9)])) := by rw [ev4]; exact (vv_up_k _ _ _ _ (by decide)).trans hk0
                have he_36 : v4 50 (oa c9) = some (.inl (G.2.2.2.2 0, 32, .inl g)) := by rw [ev4]; exact (vv_up_k _ _ _ _ (by decide)).trans hg0
                have hRC7 := hRC.noti (v' := v4) (S' := zui S 17 (j0 + 1) 1) (j0 := j0) (by omega) (by omega) (by rw [ev4]; exact vkp.rf.up ⟨rfl, rfl⟩) ⟨ch, msg, sent, (by rw [he_34]; simp only [zi_ui, zl_ui, if_pos rfl, reduceIte, Nat.reduceEqDiff, e109, e12]), (fun i h1 h2 => by simp only [zi_ui, zl_ui, reduceIte, Nat.reduceEqDiff] at h2 ⊢; exact hns i h1 h2)⟩ (fun _ => rfl) (fun f i h15 h16 h17 => by rw [zi_ui, if_neg h17]) (fun f i h => by rw [zi_ui]; split; rw [if_neg (by omega)]; rfl) (fun _ _ _ => rfl) (fun _ _ => rfl)
                obtain ⟨S7, eS7⟩ : ∃ z, z = zui S 17 (j0 + 1) 1 := ⟨_, rfl⟩
                rw [← eS7] at hRC7
                have hkX7 : vkp cX v v4 := by rw [ev4]; exact (vkp.rf).up (Or.inr (Or.inl rfl))
                have hc71 : zc S7 1 = zc S 1 := (by rw [eS7]; rfl)
                have hc70 : zc S7 0 = zc S 0 := (by rw [eS7]; rfl)
                have hBz : zB S7 := hB.k hc70 hc71 (by rw [eS7]; rfl) (fun j => by rw [eS7, zi_ui, if_neg (by decide)])
                have hB4z : zB4 S7 := hB4.k hc71 (by rw [eS7]; rfl) (fun j => by rw [eS7, zi_ui, if_neg (by decide)])
                have hB4fz : zB4f S7 := hB4f.k hc71 (by rw [eS7]; rfl) (fun j => by rw [eS7, zi_ui, if_neg (by decide)])
                have hi7 : ∀ f, f ≠ 17 → f ≠ 21 → zi S7 f (j0 + 1) = zi S f (j0 + 1) := fun f h1 h2 => by rw [eS7, zi_ui, if_neg h1]
                obtain ⟨hA7, ⟨gw7, hW7, hWj7⟩, hLs7, hKs7, hNs7, hIs7, hD17, hD27, hD37, hD47⟩ := id hRC7
                obtain ⟨ch, msg, sent, hn07, hns7⟩ := hNs7 j0 (by omega)
                refine v_iload C 0 d_C_correct_134 rfl ?_
                refine v_if_eq C 149 d_C_correct_136 (by decide) (fun _ => ?_) (fun z => absurd (by decide) z)
                refine v_iconst (x := 0) C d_C_correct_149 (by decide) ?_
                exact v_iret C d_C_correct_150 (by first | exact Nat.le_of_ble_eq_true rfl | (show _ ≤ _; omega)) (by first | exact Nat.le_of_ble_eq_true rfl | (show _ ≤ _; omega)) ⟨(by rw [hop, if_neg h150, if_neg (show ¬ (0 < kwn g (kd * 4) 4 ∧ zc S 1 = 200) by omega), if_neg (show ¬ 0 < kwn g (kd * 4) 4 by omega)]), (by rw [hop, if_neg h150, if_neg (show ¬ (0 < kwn g (kd * 4) 4 ∧ zc S 1 = 200) by omega), if_neg (show ¬ 0 < kwn g (kd * 4) 4 by omega)]; dsimp only; rw [zundo_ui (Or.inr rfl), zundo_n (by rw [e12]; exact hb_89)]; rw [← eS7]; exact RCe.mk hRC7 (hkX7.mono cX_Y) hc70)⟩
              · have y9 : zi S 15 (j0 + 1) = 0 := by exact c_117
                rw [c_43] at y9
                exact absurd y9 (by decide)
          · have n_59 : ¬ (kwn g (kd * 4) 4) ≤ 0 := mt (nI_leI (a := (kwn g (kd * 4) 4)) (b := 0) (by omega) (by omega)).mpr c_59
            refine v_iconst (x := 1) C d_C_correct_62 (by decide) ?_
            refine v_goto C 67 d_C_correct_63 (by decide) ?_
            refine v_istore (lv' := [(5, .int 1), (4, .ref (na j0)), (0, .ref o), (1, .int (nI (j0 + 1))), (2, .long t)]) C d_C_correct_67 (by decide) rfl ?_
            refine v_iload C 0 d_C_correct_69 rfl ?_
            refine v_if_eq C 84 d_C_correct_71 (by decide) (fun z => absurd z (by decide)) (fun _ => ?_)
            refine v_aload_n C 2 d_C_correct_74 rfl rfl ?_
            refine v_callV (rest := []) C (c_C_noticesAreFull l G v o la cw S ra ea ca oa na ia hRC (by omega)) tw_286 tw_30 tw_283 tw_285 tw_7 mn_C_noticesAreFull hA k_C.1 ⟨Nat.le_of_ble_eq_true rfl, Nat.le_of_ble_eq_true rfl⟩ rfl rfl (Nat.le_of_ble_eq_true rfl) d_C_correct_75 ⟨(by first | exact Nat.le_of_ble_eq_true rfl | (dsimp only; omega)), (by first | exact Nat.le_of_ble_eq_true rfl | (dsimp only; omega))⟩ (fun r_37 v_38 hp_39 => ?_)
            rcases hp_39 with ⟨rfl, hv9, hb_75⟩ | ⟨rfl, hv9, hb_75⟩
            · obtain rfl := hv9.symm
              show vV _ _ _ _ _ _ _ _ _ _ _ _ _ v 0 0 78 [(5, .int 1), (4, .ref (na j0)), (0, .ref o), (1, .int (nI (j0 + 1))), (2, .long t)] [.int 1]
              refine v_if_eq C 84 d_C_correct_78 (by decide) (fun z => absurd z (by decide)) (fun _ => ?_)
              refine v_bipush (x := -14) C d_C_correct_81 (by decide) ?_
              exact v_iret C d_C_correct_83 (by first | exact Nat.le_of_ble_eq_true rfl | (show _ ≤ _; omega)) (by first | exact Nat.le_of_ble_eq_true rfl | (show _ ≤ _; omega)) ⟨(by rw [hop, if_neg (show ¬ zi S 15 (j0 + 1) = 0 by rw [c_43]; decide), if_pos ⟨by omega, by omega⟩]), (by rw [hop, if_neg (show ¬ zi S 15 (j0 + 1) = 0 by rw [c_43]; decide), if_pos ⟨by omega, by omega⟩]; exact RCe.rf hRC)⟩
            · obtain rfl := hv9.symm
              show vV _ _ _ _ _ _ _ _ _ _ _ _ _ v 0 0 78 [(5, .int 1), (4, .ref (na j0)), (0, .ref o), (1, .int (nI (j0 + 1))), (2, .long t)] [.int 0]
              refine v_if_eq C 84 d_C_correct_78 (by decide) (fun _ => ?_) (fun z => absurd (by decide) z)
              refine v_aload C 1 d_C_correct_84 rfl ?_
              refine v_get C k_N hn9 3 (by decide) tw_333 (fun _ h => h) rfl d_C_correct_86 ?_
              refine v_callS (rest := []) C (c_C_isEnd l G v (nI kd)) tw_282 tw_30 tw_280 tw_281 mn_C_isEnd ⟨Nat.le_of_ble_eq_true rfl, Nat.le_of_ble_eq_true rfl⟩ rfl rfl (Nat.le_of_ble_eq_true rfl) d_C_correct_89 ⟨(by first | exact Nat.le_of_ble_eq_true rfl | (dsimp only; omega)), (by first | exact Nat.le_of_ble_eq_true rfl | (dsimp only; omega))⟩ (fun r_40 v_41 hp_42 => ?_)
              rcases hp_42 with ⟨rfl, hv9, hb_89⟩ | ⟨rfl, hv9, hb_89⟩
              · obtain rfl := hv9.symm
                show vV _ _ _ _ _ _ _ _ _ _ _ _ _ v 0 0 92 [(5, .int 1), (4, .ref (na j0)), (0, .ref o), (1, .int (nI (j0 + 1))), (2, .long t)] [.int 1]
                refine v_if_eq C 112 d_C_correct_92 (by decide) (fun z => absurd z (by decide)) (fun _ => ?_)
                refine v_aload_n C 2 d_C_correct_95 rfl rfl ?_
                refine v_aload C 1 d_C_correct_96 rfl ?_
                refine v_get C k_N hn9 1 (by decide) tw_329 (fun _ h => h) rfl d_C_correct_98 ?_
                refine v_get C k_K hk0 0 (by decide) tw_125 (fun _ h => h) rfl d_C_correct_101 ?_
                refine v_aload C 1 d_C_correct_104 rfl ?_
                refine v_get C k_N hn9 2 (by decide) tw_331 (fun _ h => h) rfl d_C_correct_106 ?_
                refine v_callV (rest := []) C (c_C_reopenItem l G v o la cw S ra ea ca oa na ia (nI (c9 + 1)) (zi S 11 (j0 + 1)) hRC (by omega) hB6) tw_467 tw_30 tw_464 tw_466 tw_17 mn_C_reopenItem hA k_C.1 ⟨Nat.le_of_ble_eq_true rfl, Nat.le_of_ble_eq_true rfl⟩ rfl rfl (Nat.le_of_ble_eq_true rfl) d_C_correct_109 ⟨(by first | exact Nat.le_of_ble_eq_true rfl | (dsimp only; omega)), (by first | exact Nat.le_of_ble_eq_true rfl | (dsimp only; omega))⟩ (fun r_43 v_44 hp_45 => ?_)
                obtain ⟨rfl, hRC6, hkX6⟩ := hp_45
                obtain ⟨S6, eS6⟩ : ∃ z, z = zre S (nI (c9 + 1)) (zi S 11 (j0 + 1)) := ⟨_, rfl⟩
                rw [← eS6] at hRC6
                have hc6 : ∀ i, zc S6 i = zc S i := fun i => by rw [eS6, zre_c]
                have hc61 := hc6 1
                have hc60 := hc6 0
                have hi6 : ∀ f i, f ≠ 21 → zi S6 f i = zi S f i := fun f i h => by rw [eS6, zre_i _ _ _ _ _ h]
                have hl6 : ∀ f i, zl S6 f i = zl S f i := fun f i => by rw [eS6, zre_l]
                have hu6 : zundo S (j0 + 1) = S6 := by rw [eS6]; unfold zundo zre; rw [e12, if_pos hb_89, e10]; cases zpf S (nI (c9 + 1)) (zi S 11 (j0 + 1)) (zc S 2) <;> rfl
                have e1096 : zn (zi S6 10 (j0 + 1)) - 1 = c9 := by rw [hi6 _ _ (by decide), e109]
                have e126 : zi S6 12 (j0 + 1) = nI kd := by rw [hi6 _ _ (by decide), e12]
                obtain ⟨hA6, ⟨gw6, hW6, hWj6⟩, hLs6, hKs6, hNs6, hIs6, hD16, hD26, hD36, hD46⟩ := id hRC6
                obtain ⟨ch, msg, sent, hn06, hns6⟩ := hNs6 j0 (by omega)
                have hn96 : v_44 2 (na j0) = some (.inr (2, [.int (nI (j0 + 1)), .ref (ca c9), .int (zi S6 11 (j0 + 1)), .int (nI kd), .long (zl S6 13 (j0 + 1)), .int (zi S6 15 (j0 + 1)), .long (zl S6 14 (j0 + 1)), .int (zi S6 16 (j0 + 1)), .int (zi S6 17 (j0 + 1)), .int ch, .int msg, .long sent])) := by rw [hn06, e1096, e126]
                show vV _ _ _ _ _ _ _ _ _ _ _ _ _ v_44 0 0 112 [(5, .int 1), (4, .ref (na j0)), (0, .ref o), (1, .int (nI (j0 + 1))), (2, .long t)] []
                refine v_aload C 1 d_C_correct_112 rfl ?_
                refine v_get C k_N hn96 5 (by decide) tw_337 (fun _ h => h) rfl d_C_correct_114 ?_
                refine v_if_ne C 128 d_C_correct_117 (by decide) (fun c_117 => ?_) (fun c_117 => ?_)
                · have h150 : ¬ zi S 15 (j0 + 1) = 0 := by rw [c_43]; decide
                  refine v_aload C 1 d_C_correct_128 rfl ?_
                  refine v_iconst (x := 1) C d_C_correct_130 (by decide) ?_
                  refine v_put C k_N hn96 8 (by decide) tw_343 (fun _ h => h) rfl (by decide) (by decide) (Nat.le_of_ble_eq_true rfl) d_C_correct_131 ?_
                  refine v_view (fun v5 ev5 => ?_)
                  have he_46 : v5 3 o = some (.inr (3, [.ref (la 0), .ref (la 1), .ref (la 2), .ref (la 3), .ref (la 4), .ref cw, .long (zl S6 0 0), .int (zi S6 1 0)])) := by rw [ev5]; exact (vv_up_k _ _ _ _ (by decide)).trans hA6
                  have he_47 : v5 2 (na j0) = some (.inr (2, [.int (nI (j0 + 1)), .ref (ca c9), .int (zi S6 11 (j0 + 1)), .int (nI kd), .long (zl S6 13 (j0 + 1)), .int (zi S6 15 (j0 + 1)), .long (zl S6 14 (j0 + 1)), .int (zi S6 16 (j0 + 1)), .int 1, .int ch, .int msg, .long sent])) := by rw [ev5]; exact vv_up_s _ _ _ _
                  have hRC7 := hRC6.noti (v' := v5) (S' := zui S6 17 (j0 + 1) 1) (j0 := j0) (by omega) (by omega) (by rw [ev5]; exact vkp.rf.up ⟨rfl, rfl⟩) ⟨ch, msg, sent, (by rw [he_47]; simp only [zi_ui, zl_ui, if_pos rfl, reduceIte, Nat.reduceEqDiff, e1096, e126]), (fun i h1 h2 => by simp only [zi_ui, zl_ui, reduceIte, Nat.reduceEqDiff] at h2 ⊢; exact hns6 i h1 h2)⟩ (fun _ => rfl) (fun f i h15 h16 h17 => by rw [zi_ui, if_neg h17]) (fun f i h => by rw [zi_ui]; split; rw [if_neg (by omega)]; rfl) (fun _ _ _ => rfl) (fun _ _ => rfl)
                  obtain ⟨S7, eS7⟩ : ∃ z, z = zui S6 17 (j0 + 1) 1 := ⟨_, rfl⟩
                  rw [← eS7] at hRC7
                  have hkX7 : vkp cX v v5 := by rw [ev5]; exact (hkX6).up (Or.inr (Or.inl rfl))
                  have hc71 : zc S7 1 = zc S 1 := (by rw [eS7]; exact hc6 1)
                  have hc70 : zc S7 0 = zc S 0 := (by rw [eS7]; exact hc6 0)
                  have hBz : zB S7 := hB.k hc70 hc71 (by rw [eS7]; exact hc6 2) (fun j => by rw [eS7, zi_ui, if_neg (by decide), hi6 _ _ (by decide)])
                  have hB4z : zB4 S7 := hB4.k hc71 (by rw [eS7]; exact hc6 3) (fun j => by rw [eS7, zi_ui, if_neg (by decide), hi6 _ _ (by decide)])
                  have hB4fz : zB4f S7 := hB4f.k hc71 (by rw [eS7]; exact hc6 4) (fun j => by rw [eS7, zi_ui, if_neg (by decide), hi6 _ _ (by decide)])
                  have hi7 : ∀ f, f ≠ 17 → f ≠ 21 → zi S7 f (j0 + 1) = zi S f (j0 + 1) := fun f h1 h2 => by rw [eS7, zi_ui, if_neg h1, hi6 _ _ h2]
                  obtain ⟨hA7, ⟨gw7, hW7, hWj7⟩, hLs7, hKs7, hNs7, hIs7, hD17, hD27, hD37, hD47⟩ := id hRC7
                  obtain ⟨ch, msg, sent, hn07, hns7⟩ := hNs7 j0 (by omega)
                  refine v_iload C 0 d_C_correct_134 rfl ?_
                  refine v_if_eq C 149 d_C_correct_136 (by decide) (fun z => absurd z (by decide)) (fun _ => ?_)
                  refine v_aload_n C 2 d_C_correct_139 rfl rfl ?_
                  refine v_aload C 1 d_C_correct_140 rfl ?_
                  refine v_lload_n C 4 d_C_correct_142 rfl rfl ?_
                  refine v_callV (rest := []) C (c_C_addCorrection l G v5 o la cw S7 ra ea ca oa na ia j0 t hRC7 (by omega) (by omega) hBz hB4z hB4fz) tw_471 tw_30 tw_468 tw_470 tw_18 mn_C_addCorrection hA7 k_C.1 ⟨Nat.le_of_ble_eq_true rfl, Nat.le_of_ble_eq_true rfl⟩ rfl rfl (Nat.le_of_ble_eq_true rfl) d_C_correct_143 ⟨(by first | exact Nat.le_of_ble_eq_true rfl | (dsimp only; omega)), (by first | exact Nat.le_of_ble_eq_true rfl | (dsimp only; omega))⟩ (fun r_48 v_49 hp_50 => ?_)
                  refine v_cs (kc' := 2) (ks' := 256) rfl rfl ?_
                  obtain ⟨rfl, ra8, ea8, na8, hRC8, hkX8⟩ := hp_50
                  show vV _ _ _ _ _ _ _ _ _ _ _ _ _ v_49 2 256 146 [(5, .int 1), (4, .ref (na j0)), (0, .ref o), (1, .int (nI (j0 + 1))), (2, .long t)] [.int (nI (zc S7 1 + 1))]
                  refine v_goto C 150 d_C_correct_146 (by decide) ?_
                  exact v_iret C d_C_correct_150 (by first | exact Nat.le_of_ble_eq_true rfl | (show _ ≤ _; omega)) (by first | exact Nat.le_of_ble_eq_true rfl | (show _ ≤ _; omega)) ⟨(by rw [hop, if_neg h150, if_neg (show ¬ (0 < kwn g (kd * 4) 4 ∧ zc S 1 = 200) by omega), if_pos (show 0 < kwn g (kd * 4) 4 by omega)]; rw [hc71]), (by rw [hop, if_neg h150, if_neg (show ¬ (0 < kwn g (kd * 4) 4 ∧ zc S 1 = 200) by omega), if_pos (show 0 < kwn g (kd * 4) 4 by omega)]; dsimp only; rw [zundo_ui (Or.inr rfl), hu6]; rw [← eS7, ← hi7 10 (by decide) (by decide), ← hi7 11 (by decide) (by decide), ← hi7 12 (by decide) (by decide)]; exact RCe.mk hRC8 ((hkX7.tr hkX8).mono cX_Y) hc70)⟩
                · have y9 : zi S 15 (j0 + 1) = 0 := by rw [← hi6 15 (j0 + 1) (by decide)]; exact c_117
                  rw [c_43] at y9
                  exact absurd y9 (by decide)
              · obtain rfl := hv9.symm
                show vV _ _ _ _ _ _ _ _ _ _ _ _ _ v 0 0 92 [(5, .int 1), (4, .ref (na j0)), (0, .ref o), (1, .int (nI (j0 + 1))), (2, .long t)] [.int 0]
                refine v_if_eq C 112 d_C_correct_92 (by decide) (fun _ => ?_) (fun z => absurd (by decide) z)
                refine v_aload C 1 d_C_correct_112 rfl ?_
                refine v_get C k_N hn9 5 (by decide) tw_337 (fun _ h => h) rfl d_C_correct_114 ?_
                refine v_if_ne C 128 d_C_correct_117 (by decide) (fun c_117 => ?_) (fun c_117 => ?_)
                · have h150 : ¬ zi S 15 (j0 + 1) = 0 := by rw [c_43]; decide
                  refine v_aload C 1 d_C_correct_128 rfl ?_
                  refine v_iconst (x := 1) C d_C_correct_130 (by decide) ?_
                  refine v_put C k_N hn9 8 (by decide) tw_343 (fun _ h => h) rfl (by decide) (by decide) (Nat.le_of_ble_eq_true rfl) d_C_correct_131 ?_
                  refine v_view (fun v6 ev6 => ?_)
                  have he_51 : v6 3 o = some (.inr (3, [.ref (la 0), .ref (la 1), .ref (la 2), .ref (la 3), .ref (la 4), .ref cw, .long (zl S 0 0), .int (zi S 1 0)])) := by rw [ev6]; exact (vv_up_k _ _ _ _ (by decide)).trans hA
                  have he_52 : v6 2 (na j0) = some (.inr (2, [.int (nI (j0 + 1)), .ref (ca c9), .int (zi S 11 (j0 + 1)), .int (nI kd), .long (zl S 13 (j0 + 1)), .int (zi S 15 (j0 + 1)), .long (zl S 14 (j0 + 1)), .int (zi S 16 (j0 + 1)), .int 1, .int ch, .int msg, .long sent])) := by rw [ev6]; exact vv_up_s _ _ _ _
                  have he_53 : v6 0 (ca c9) = some (.inr (0, [.int (nI (c9 + 1)), .int (zi S 4 (c9 + 1)), .int (zi S 5 (c9 + 1)), .int (zi S 6 (c9 + 1)), .int (zi S 7 (c9 + 1)), .long lw, .int mt0, .ref (oa c9)])) := by rw [ev6]; exact (vv_up_k _ _ _ _ (by decide)).trans hk0
                  have he_54 : v6 50 (oa c9) = some (.inl (G.2.2.2.2 0, 32, .inl g)) := by rw [ev6]; exact (vv_up_k _ _ _ _ (by decide)).trans hg0
                  have hRC7 := hRC.noti (v' := v6) (S' := zui S 17 (j0 + 1) 1) (j0 := j0) (by omega) (by omega) (by rw [ev6]; exact vkp.rf.up ⟨rfl, rfl⟩) ⟨ch, msg, sent, (by rw [he_52]; simp only [zi_ui, zl_ui, if_pos rfl, reduceIte, Nat.reduceEqDiff, e109, e12]), (fun i h1 h2 => by simp only [zi_ui, zl_ui, reduceIte, Nat.reduceEqDiff] at h2 ⊢; exact hns i h1 h2)⟩ (fun _ => rfl) (fun f i h15 h16 h17 => by rw [zi_ui, if_neg h17]) (fun f i h => by rw [zi_ui]; split; rw [if_neg (by omega)]; rfl) (fun _ _ _ => rfl) (fun _ _ => rfl)
                  obtain ⟨S7, eS7⟩ : ∃ z, z = zui S 17 (j0 + 1) 1 := ⟨_, rfl⟩
                  rw [← eS7] at hRC7
                  have hkX7 : vkp cX v v6 := by rw [ev6]; exact (vkp.rf).up (Or.inr (Or.inl rfl))
                  have hc71 : zc S7 1 = zc S 1 := (by rw [eS7]; rfl)
                  have hc70 : zc S7 0 = zc S 0 := (by rw [eS7]; rfl)
                  have hBz : zB S7 := hB.k hc70 hc71 (by rw [eS7]; rfl) (fun j => by rw [eS7, zi_ui, if_neg (by decide)])
                  have hB4z : zB4 S7 := hB4.k hc71 (by rw [eS7]; rfl) (fun j => by rw [eS7, zi_ui, if_neg (by decide)])
                  have hB4fz : zB4f S7 := hB4f.k hc71 (by rw [eS7]; rfl) (fun j => by rw [eS7, zi_ui, if_neg (by decide)])
                  have hi7 : ∀ f, f ≠ 17 → f ≠ 21 → zi S7 f (j0 + 1) = zi S f (j0 + 1) := fun f h1 h2 => by rw [eS7, zi_ui, if_neg h1]
                  obtain ⟨hA7, ⟨gw7, hW7, hWj7⟩, hLs7, hKs7, hNs7, hIs7, hD17, hD27, hD37, hD47⟩ := id hRC7
                  obtain ⟨ch, msg, sent, hn07, hns7⟩ := hNs7 j0 (by omega)
                  refine v_iload C 0 d_C_correct_134 rfl ?_
                  refine v_if_eq C 149 d_C_correct_136 (by decide) (fun z => absurd z (by decide)) (fun _ => ?_)
                  refine v_aload_n C 2 d_C_correct_139 rfl rfl ?_
                  refine v_aload C 1 d_C_correct_140 rfl ?_
                  refine v_lload_n C 4 d_C_correct_142 rfl rfl ?_
                  refine v_callV (rest := []) C (c_C_addCorrection l G v6 o la cw S7 ra ea ca oa na ia j0 t hRC7 (by omega) (by omega) hBz hB4z hB4fz) tw_471 tw_30 tw_468 tw_470 tw_18 mn_C_addCorrection hA7 k_C.1 ⟨Nat.le_of_ble_eq_true rfl, Nat.le_of_ble_eq_true rfl⟩ rfl rfl (Nat.le_of_ble_eq_true rfl) d_C_correct_143 ⟨(by first | exact Nat.le_of_ble_eq_true rfl | (dsimp only; omega)), (by first | exact Nat.le_of_ble_eq_true rfl | (dsimp only; omega))⟩ (fun r_55 v_56 hp_57 => ?_)
                  refine v_cs (kc' := 2) (ks' := 256) rfl rfl ?_
                  obtain ⟨rfl, ra8, ea8, na8, hRC8, hkX8⟩ := hp_57
                  show vV _ _ _ _ _ _ _ _ _ _ _ _ _ v_56 2 256 146 [(5, .int 1), (4, .ref (na j0)), (0, .ref o), (1, .int (nI (j0 + 1))), (2, .long t)] [.int (nI (zc S7 1 + 1))]
                  refine v_goto C 150 d_C_correct_146 (by decide) ?_
                  exact v_iret C d_C_correct_150 (by first | exact Nat.le_of_ble_eq_true rfl | (show _ ≤ _; omega)) (by first | exact Nat.le_of_ble_eq_true rfl | (show _ ≤ _; omega)) ⟨(by rw [hop, if_neg h150, if_neg (show ¬ (0 < kwn g (kd * 4) 4 ∧ zc S 1 = 200) by omega), if_pos (show 0 < kwn g (kd * 4) 4 by omega)]; rw [hc71]), (by rw [hop, if_neg h150, if_neg (show ¬ (0 < kwn g (kd * 4) 4 ∧ zc S 1 = 200) by omega), if_pos (show 0 < kwn g (kd * 4) 4 by omega)]; dsimp only; rw [zundo_ui (Or.inr rfl), zundo_n (by rw [e12]; exact hb_89)]; rw [← eS7, ← hi7 10 (by decide) (by decide), ← hi7 11 (by decide) (by decide), ← hi7 12 (by decide) (by decide)]; exact RCe.mk hRC8 ((hkX7.tr hkX8).mono cX_Y) hc70)⟩
                · have y9 : zi S 15 (j0 + 1) = 0 := by exact c_117
                  rw [c_43] at y9
                  exact absurd y9 (by decide)
      · obtain rfl := hv9.symm
        show vV _ _ _ _ _ _ _ _ _ _ _ _ _ v 0 0 31 [(4, .ref (na j0)), (0, .ref o), (1, .int (nI (j0 + 1))), (2, .long t)] [.int 0]
        refine v_if_ne C 37 d_C_correct_31 (by decide) (fun z => absurd (by decide) z) (fun _ => ?_)
        refine v_bipush (x := -13) C d_C_correct_34 (by decide) ?_
        exact v_iret C d_C_correct_36 (by first | exact Nat.le_of_ble_eq_true rfl | (show _ ≤ _; omega)) (by first | exact Nat.le_of_ble_eq_true rfl | (show _ ≤ _; omega)) ⟨(by rw [oCorr, if_pos hx0, if_pos hb_17, if_pos (show zi S 15 (zn (nI (j0 + 1))) = 2 ∨ zi S 15 (zn (nI (j0 + 1))) = 3 ∨ ¬ zi S 17 (zn (nI (j0 + 1))) = 0 ∨ ¬ zi S 16 (zn (nI (j0 + 1))) = 0 by rw [hxn]; by_cases q1 : zi S 17 (j0 + 1) = 0; { by_cases q2 : zi S 16 (j0 + 1) = 0; { rcases hB9.2.2.2.2.2.2 (j0 + 1) with q | q | q | q; exact absurd ⟨Or.inl q, q1, q2⟩ hb_28; exact absurd ⟨Or.inr q, q1, q2⟩ hb_28; exact Or.inl q; exact Or.inr (Or.inl q) }; { exact Or.inr (Or.inr (Or.inr q2)) } }; { exact Or.inr (Or.inr (Or.inl q1)) })]), (by rw [oCorr, if_pos hx0, if_pos hb_17, if_pos (show zi S 15 (zn (nI (j0 + 1))) = 2 ∨ zi S 15 (zn (nI (j0 + 1))) = 3 ∨ ¬ zi S 17 (zn (nI (j0 + 1))) = 0 ∨ ¬ zi S 16 (zn (nI (j0 + 1))) = 0 by rw [hxn]; by_cases q1 : zi S 17 (j0 + 1) = 0; { by_cases q2 : zi S 16 (j0 + 1) = 0; { rcases hB9.2.2.2.2.2.2 (j0 + 1) with q | q | q | q; exact absurd ⟨Or.inl q, q1, q2⟩ hb_28; exact absurd ⟨Or.inr q, q1, q2⟩ hb_28; exact Or.inl q; exact Or.inr (Or.inl q) }; { exact Or.inr (Or.inr (Or.inr q2)) } }; { exact Or.inr (Or.inr (Or.inl q1)) })]; exact RCe.rf hRC)⟩
    · obtain rfl := hv9.symm
      show vV _ _ _ _ _ _ _ _ _ _ _ _ _ v 0 0 20 [(4, .ref (na j0)), (0, .ref o), (1, .int (nI (j0 + 1))), (2, .long t)] [.int 0]
      refine v_if_ne C 26 d_C_correct_20 (by decide) (fun z => absurd (by decide) z) (fun _ => ?_)
      refine v_bipush (x := -12) C d_C_correct_23 (by decide) ?_
      exact v_iret C d_C_correct_25 (by first | exact Nat.le_of_ble_eq_true rfl | (show _ ≤ _; omega)) (by first | exact Nat.le_of_ble_eq_true rfl | (show _ ≤ _; omega)) ⟨(by  rw [oCorr, if_pos hx0, if_neg hb_17] <;> (try rfl)), (by  rw [oCorr, if_pos hx0, if_neg hb_17]; exact RCe.rf hRC)⟩
