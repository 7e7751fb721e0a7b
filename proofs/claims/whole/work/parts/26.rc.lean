theorem LA.get {G : vv_G} {v : vv_V} {a arr n e i : Nat} {f : Nat → Nat} (h : LA G v a arr n e f) (hi : i < n) : ∃ cap g, v 53 arr = some (vq G cap g) ∧ n ≤ cap ∧ cap ≤ 1000 ∧ g i = some (f i) := by
  obtain ⟨-, h1, h2, h3⟩ := h
  rcases h3 with ⟨rfl, -, -⟩ | ⟨-, g, hg, hf⟩
  · have : zcp 0 = 0 := rfl
    omega
  · have := zcp_9 e h2
    exact ⟨zcp e, g, hg, h1, by omega, hf i hi⟩
def cF (S : zS) (ca na ia : Nat → Nat) (i : Nat) : Nat → Nat := if i = 0 then ca else if i = 1 then na else if i = 2 then ia else if i = 3 then (fun j => na (zn (zi S 24 j) - 1)) else (fun j => na (zn (zi S 29 j) - 1))
def zlp (na : Nat → Nat) (x : Int32) : Option Nat := if x = 0 then none else some (na (zn x - 1))
abbrev vc (la : Nat → Nat) (cw : Nat) (S : zS) : va_E := .inr (3, [.ref (la 0), .ref (la 1), .ref (la 2), .ref (la 3), .ref (la 4), .ref cw, .long (zl S 0 0), .int (zi S 1 0)])
def RCk (G : vv_G) (v : vv_V) (S : zS) (ca oa : Nat → Nat) (j : Nat) : Prop := (∃ lw mt0, v 0 (ca j) = some (vk (nI (j + 1)) (zi S 4 (j + 1)) (zi S 5 (j + 1)) (zi S 6 (j + 1)) (zi S 7 (j + 1)) lw mt0 (oa j))) ∧ ∃ g, v 50 (oa j) = some (va32 G 32 g) ∧ ∀ i, i < 32 → g i = zi S 8 (32 * (j + 1) + i) - 1
def RCn (v : vv_V) (S : zS) (ca na : Nat → Nat) (j : Nat) : Prop := ∃ ch ms st, v 2 (na j) = some (vn (nI (j + 1)) (ca (zn (zi S 10 (j + 1)) - 1)) (zi S 11 (j + 1)) (zi S 12 (j + 1)) (zl S 13 (j + 1)) (zi S 15 (j + 1)) (zl S 14 (j + 1)) (zi S 16 (j + 1)) (zi S 17 (j + 1)) ch ms st) ∧ ∀ i, i < zc S 3 → zi S 24 i = nI (j + 1) → ch = zi S 25 i ∧ ms = zi S 26 i ∧ st = zl S 27 i
def RCi (v : vv_V) (S : zS) (na ia : Nat → Nat) (k : Nat) : Prop := v 1 (ia k) = some (vi (zi S 19 k) (zi S 20 k) (zi S 21 k) (zlp na (zi S 22 k)))
/-- the class's object at o holds S: its lists at la (arrays ra, grown ea times), customers at ca (their orders at oa), notices at na, items at ia, the channels at cw -/
def RC (G : vv_G) (v : vv_V) (o : Nat) (la : Nat → Nat) (cw : Nat) (S : zS) (ra ea ca oa na ia : Nat → Nat) : Prop :=
  v 3 o = some (vc la cw S) ∧ (∃ g, v 51 cw = some (vaZ G 4 g) ∧ ∀ j, j < 4 → g j = 1 - zi S 2 j) ∧ (∀ i, i < 5 → LA G v (la i) (ra i) (zc S i) (ea i) (cF S ca na ia i)) ∧ (∀ j, j < zc S 0 → RCk G v S ca oa j) ∧ (∀ j, j < zc S 1 → RCn v S ca na j) ∧ (∀ k, k < zc S 2 → RCi v S na ia k) ∧
  (∀ i j, i < 5 → j < 5 → la i = la j → i = j) ∧ (∀ i j, i < 5 → j < 5 → 0 < ea i → 0 < ea j → ra i = ra j → i = j) ∧ (∀ i j, i < zc S 0 → j < zc S 0 → oa i = oa j → i = j) ∧ (∀ i j, i < zc S 2 → j < zc S 2 → ia i = ia j → i = j)
def cYY (S : zS) (cw : Nat) (oa : Nat → Nat) (k x : Nat) : Prop := k = 0 ∨ k = 1 ∨ k = 2 ∨ k = 3 ∨ k = 5 ∨ k = 53 ∨ (k = 51 ∧ x = cw) ∨ (k = 50 ∧ ∃ j, j < zc S 0 ∧ x = oa j)
/-- the class behind a call: it holds S' -/
def RCe (G : vv_G) (v : vv_V) (o : Nat) (la : Nat → Nat) (cw : Nat) (S : zS) (oa : Nat → Nat) (v' : vv_V) (S' : zS) : Prop := ∃ ra' ea' ca' oa' na' ia' : Nat → Nat, RC G v' o la cw S' ra' ea' ca' oa' na' ia' ∧ vkp (cYY S cw oa) v v' ∧ ∀ j, j < zc S' 0 → (j < zc S 0 ∧ oa' j = oa j) ∨ ∀ k, v k (oa' j) = none
theorem RCe.rf {G : vv_G} {v : vv_V} {o : Nat} {la : Nat → Nat} {cw : Nat} {S : zS} {ra ea ca oa na ia : Nat → Nat} (h : RC G v o la cw S ra ea ca oa na ia) : RCe G v o la cw S oa v S := ⟨ra, ea, ca, oa, na, ia, h, vkp.rf, fun j hj => Or.inl ⟨hj, rfl⟩⟩
theorem c_LA_size (l : Launch) (G : vv_G) (v : vv_V) (a arr n e : Nat) (f : Nat → Nat) (h : LA G v a arr n e f) : Mv l y_AL_size b_AL_size 1 (some FieldType.int) 0 0 G v [.ref a] (fun r v' => r = some (.int (nI n)) ∧ v' = v) 0 0 := by
  obtain ⟨⟨mo, h0⟩, -⟩ := h
  exact c_AL_size l G v a arr n mo h0
theorem c_LA_get (l : Launch) (G : vv_G) (v : vv_V) (a arr n e i : Nat) (f : Nat → Nat) (h : LA G v a arr n e f) (hi : i < n) : Mv l y_AL_get b_AL_get 2 (some (FieldType.object "java/lang/Object")) 2 43 G v [.ref a, .int (nI i)] (fun r v' => r = some (.ref (f i)) ∧ v' = v) 0 0 := by
  obtain ⟨cap, g, h1, h2, h3, h4⟩ := h.get hi
  obtain ⟨⟨mo, h0⟩, -⟩ := h
  exact c_AL_get l G v a arr n cap i (f i) mo g h0 h1 hi h2 h3 h4
set_option maxHeartbeats 4000000 in
set_option maxRecDepth 100000 in
theorem c_C_noticesAreFull (l : Launch) (G : vv_G) (v : vv_V) (o : Nat) (la : Nat → Nat) (cw : Nat) (S : zS) (ra ea ca oa na ia : Nat → Nat)  (hRC : RC G v o la cw S ra ea ca oa na ia) (hB : zc S 1 ≤ 1000) : Mv l y_C_noticesAreFull b_C_noticesAreFull 1 (some FieldType.boolean) 1 20 G v [.ref o] (fun r v' => (r = some (.int 1) ∧ v' = v ∧ (200 ≤ zc S 1)) ∨ (r = some (.int 0) ∧ v' = v ∧ ¬ (200 ≤ zc S 1))) 0 0 := by
  refine vv_metF (own := "CustomerNotices") (nm := "noticesAreFull") pf_C_noticesAreFull rfl rfl (Nat.le_of_ble_eq_true rfl) ?_
  intro p e s m below meth c C hin
  obtain ⟨hA, ⟨gw, hW, hWj⟩, hLs, hKs, hNs, hIs, hD1, hD2, hD3, hD4⟩ := id hRC
  obtain ⟨⟨mo1, hl1⟩, hlb1, hlc1, hld1⟩ := hLs 1 (by decide)
  show vV _ _ _ _ _ _ _ _ _ _ _ _ _ v 0 0 0 [(0, .ref o)] []
  refine v_aload_n C 0 d_C_noticesAreFull_0 rfl rfl ?_
  refine v_get C k_C hA 1 (by decide) tw_79 (fun _ h => h) rfl d_C_noticesAreFull_1 ?_
  refine v_callV (rest := []) C (c_LA_size l G v (la 1) (ra 1) (zc S 1) (ea 1) _ (hLs 1 (by decide))) tw_117 tw_33 tw_114 tw_115 tw_116 mn_AL_size hl1 k_AL.1 ⟨Nat.le_of_ble_eq_true rfl, Nat.le_of_ble_eq_true rfl⟩ rfl rfl (Nat.le_of_ble_eq_true rfl) d_C_noticesAreFull_4 ⟨(by first | exact Nat.le_of_ble_eq_true rfl | (dsimp only; omega)), (by first | exact Nat.le_of_ble_eq_true rfl | (dsimp only; omega))⟩ (fun r_1 v_2 hp_3 => ?_)
  obtain ⟨rfl, hv9⟩ := hp_3
  obtain rfl := hv9.symm
  show vV _ _ _ _ _ _ _ _ _ _ _ _ _ v 0 0 7 [(0, .ref o)] [.int (nI (zc S 1))]
  refine v_sipush (x := 200) C d_C_noticesAreFull_7 (by decide) ?_
  refine v_icmp_lt C 17 d_C_noticesAreFull_10 (by decide) (fun c_10 => ?_) (fun c_10 => ?_)
  · have n_10 : (zc S 1) < 200 := (nI_ltI (a := (zc S 1)) (b := 200) (by omega) (by omega)).mp c_10
    refine v_iconst (x := 0) C d_C_noticesAreFull_17 (by decide) ?_
    exact v_zret C d_C_noticesAreFull_18 (by first | exact Nat.le_of_ble_eq_true rfl | (show _ ≤ _; omega)) (by first | exact Nat.le_of_ble_eq_true rfl | (show _ ≤ _; omega)) (by decide) (Or.inr ⟨rfl, rfl, (by omega)⟩)
  · have n_10 : ¬ (zc S 1) < 200 := mt (nI_ltI (a := (zc S 1)) (b := 200) (by omega) (by omega)).mpr c_10
    refine v_iconst (x := 1) C d_C_noticesAreFull_13 (by decide) ?_
    refine v_goto C 18 d_C_noticesAreFull_14 (by decide) ?_
    exact v_zret C d_C_noticesAreFull_18 (by first | exact Nat.le_of_ble_eq_true rfl | (show _ ≤ _; omega)) (by first | exact Nat.le_of_ble_eq_true rfl | (show _ ≤ _; omega)) (by decide) (Or.inl ⟨rfl, rfl, (by omega)⟩)
set_option maxHeartbeats 4000000 in
set_option maxRecDepth 100000 in
theorem c_C_itemsAreFull (l : Launch) (G : vv_G) (v : vv_V) (o : Nat) (la : Nat → Nat) (cw : Nat) (S : zS) (ra ea ca oa na ia : Nat → Nat)  (hRC : RC G v o la cw S ra ea ca oa na ia) (hB : zc S 2 ≤ 1000) : Mv l y_C_itemsAreFull b_C_itemsAreFull 1 (some FieldType.boolean) 1 20 G v [.ref o] (fun r v' => (r = some (.int 1) ∧ v' = v ∧ (60 ≤ zc S 2)) ∨ (r = some (.int 0) ∧ v' = v ∧ ¬ (60 ≤ zc S 2))) 0 0 := by
  refine vv_metF (own := "CustomerNotices") (nm := "itemsAreFull") pf_C_itemsAreFull rfl rfl (Nat.le_of_ble_eq_true rfl) ?_
  intro p e s m below meth c C hin
  obtain ⟨hA, ⟨gw, hW, hWj⟩, hLs, hKs, hNs, hIs, hD1, hD2, hD3, hD4⟩ := id hRC
  obtain ⟨⟨mo2, hl2⟩, hlb2, hlc2, hld2⟩ := hLs 2 (by decide)
  show vV _ _ _ _ _ _ _ _ _ _ _ _ _ v 0 0 0 [(0, .ref o)] []
  refine v_aload_n C 0 d_C_itemsAreFull_0 rfl rfl ?_
  refine v_get C k_C hA 2 (by decide) tw_80 (fun _ h => h) rfl d_C_itemsAreFull_1 ?_
  refine v_callV (rest := []) C (c_LA_size l G v (la 2) (ra 2) (zc S 2) (ea 2) _ (hLs 2 (by decide))) tw_117 tw_33 tw_114 tw_115 tw_116 mn_AL_size hl2 k_AL.1 ⟨Nat.le_of_ble_eq_true rfl, Nat.le_of_ble_eq_true rfl⟩ rfl rfl (Nat.le_of_ble_eq_true rfl) d_C_itemsAreFull_4 ⟨(by first | exact Nat.le_of_ble_eq_true rfl | (dsimp only; omega)), (by first | exact Nat.le_of_ble_eq_true rfl | (dsimp only; omega))⟩ (fun r_1 v_2 hp_3 => ?_)
  obtain ⟨rfl, hv9⟩ := hp_3
  obtain rfl := hv9.symm
  show vV _ _ _ _ _ _ _ _ _ _ _ _ _ v 0 0 7 [(0, .ref o)] [.int (nI (zc S 2))]
  refine v_bipush (x := 60) C d_C_itemsAreFull_7 (by decide) ?_
  refine v_icmp_lt C 16 d_C_itemsAreFull_9 (by decide) (fun c_9 => ?_) (fun c_9 => ?_)
  · have n_9 : (zc S 2) < 60 := (nI_ltI (a := (zc S 2)) (b := 60) (by omega) (by omega)).mp c_9
    refine v_iconst (x := 0) C d_C_itemsAreFull_16 (by decide) ?_
    exact v_zret C d_C_itemsAreFull_17 (by first | exact Nat.le_of_ble_eq_true rfl | (show _ ≤ _; omega)) (by first | exact Nat.le_of_ble_eq_true rfl | (show _ ≤ _; omega)) (by decide) (Or.inr ⟨rfl, rfl, (by omega)⟩)
  · have n_9 : ¬ (zc S 2) < 60 := mt (nI_ltI (a := (zc S 2)) (b := 60) (by omega) (by omega)).mpr c_9
    refine v_iconst (x := 1) C d_C_itemsAreFull_12 (by decide) ?_
    refine v_goto C 17 d_C_itemsAreFull_13 (by decide) ?_
    exact v_zret C d_C_itemsAreFull_17 (by first | exact Nat.le_of_ble_eq_true rfl | (show _ ≤ _; omega)) (by first | exact Nat.le_of_ble_eq_true rfl | (show _ ≤ _; omega)) (by decide) (Or.inl ⟨rfl, rfl, (by omega)⟩)
set_option maxHeartbeats 4000000 in
set_option maxRecDepth 100000 in
theorem c_C_isTimeFromNow (l : Launch) (G : vv_G) (v : vv_V) (o : Nat) (la : Nat → Nat) (cw : Nat) (S : zS) (ra ea ca oa na ia : Nat → Nat) (t : Int64) (hRC : RC G v o la cw S ra ea ca oa na ia)  : Mv l y_C_isTimeFromNow b_C_isTimeFromNow 3 (some FieldType.boolean) 1 25 G v [.ref o, .long t] (fun r v' => (r = some (.int 1) ∧ v' = v ∧ (zTm S t)) ∨ (r = some (.int 0) ∧ v' = v ∧ ¬ (zTm S t))) 0 0 := by
  refine vv_metF (own := "CustomerNotices") (nm := "isTimeFromNow") pf_C_isTimeFromNow rfl rfl (Nat.le_of_ble_eq_true rfl) ?_
  intro p e s m below meth c C hin
  obtain ⟨hA, ⟨gw, hW, hWj⟩, hLs, hKs, hNs, hIs, hD1, hD2, hD3, hD4⟩ := id hRC
  show vV _ _ _ _ _ _ _ _ _ _ _ _ _ v 0 0 0 [(0, .ref o), (1, .long t)] []
  refine v_lload_n C 1 d_C_isTimeFromNow_0 rfl rfl ?_
  refine v_aload_n C 0 d_C_isTimeFromNow_1 rfl rfl ?_
  refine v_get C k_C hA 6 (by decide) tw_84 (fun _ h => h) rfl d_C_isTimeFromNow_2 ?_
  refine v_ldc2 (x := 1000000000) C d_C_isTimeFromNow_5 tw_274 ?_
  refine v_callS (rest := []) C (c_C_isWithin l G v t (zl S 0 0) 1000000000) tw_111 tw_30 tw_109 tw_110 mn_C_isWithin ⟨Nat.le_of_ble_eq_true rfl, Nat.le_of_ble_eq_true rfl⟩ rfl rfl (Nat.le_of_ble_eq_true rfl) d_C_isTimeFromNow_8 ⟨(by first | exact Nat.le_of_ble_eq_true rfl | (dsimp only; omega)), (by first | exact Nat.le_of_ble_eq_true rfl | (dsimp only; omega))⟩ (fun r_1 v_2 hp_3 => ?_)
  rcases hp_3 with ⟨rfl, hv9, hb_8⟩ | ⟨rfl, hv9, hb_8⟩
  · obtain rfl := hv9.symm
    show vV _ _ _ _ _ _ _ _ _ _ _ _ _ v 0 0 11 [(0, .ref o), (1, .long t)] [.int 1]
    exact v_zret C d_C_isTimeFromNow_11 (by first | exact Nat.le_of_ble_eq_true rfl | (show _ ≤ _; omega)) (by first | exact Nat.le_of_ble_eq_true rfl | (show _ ≤ _; omega)) (by decide) (Or.inl ⟨rfl, rfl, hb_8⟩)
  · obtain rfl := hv9.symm
    show vV _ _ _ _ _ _ _ _ _ _ _ _ _ v 0 0 11 [(0, .ref o), (1, .long t)] [.int 0]
    exact v_zret C d_C_isTimeFromNow_11 (by first | exact Nat.le_of_ble_eq_true rfl | (show _ ≤ _; omega)) (by first | exact Nat.le_of_ble_eq_true rfl | (show _ ≤ _; omega)) (by decide) (Or.inr ⟨rfl, rfl, hb_8⟩)
set_option maxHeartbeats 4000000 in
set_option maxRecDepth 100000 in
theorem c_C_findCustomer (l : Launch) (G : vv_G) (v : vv_V) (o : Nat) (la : Nat → Nat) (cw : Nat) (S : zS) (ra ea ca oa na ia : Nat → Nat) (x : Int32) (hRC : RC G v o la cw S ra ea ca oa na ia) (hB : zc S 0 ≤ 1000) : Mv l y_C_findCustomer b_C_findCustomer 2 (some (FieldType.object "CustomerNotices$Customer")) 3 64 G v [.ref o, .int x] (fun r v' => (r = some .null ∧ v' = v ∧ ¬ zIn x 1 (zc S 0)) ∨ (∃ j : Nat, r = some (.ref (ca j)) ∧ v' = v ∧ j < zc S 0 ∧ x = nI (j + 1))) 0 0 := by
  refine vv_metF (own := "CustomerNotices") (nm := "findCustomer") pf_C_findCustomer rfl rfl (Nat.le_of_ble_eq_true rfl) ?_
  intro p e s m below meth c C hin
  obtain ⟨hA, ⟨gw, hW, hWj⟩, hLs, hKs, hNs, hIs, hD1, hD2, hD3, hD4⟩ := id hRC
  obtain ⟨⟨mo0, hl0⟩, hlb0, hlc0, hld0⟩ := hLs 0 (by decide)
  show vV _ _ _ _ _ _ _ _ _ _ _ _ _ v 0 0 0 [(0, .ref o), (1, .int x)] []
  refine v_iload_n C 1 d_C_findCustomer_0 rfl rfl ?_
  refine v_iconst (x := 1) C d_C_findCustomer_1 (by decide) ?_
  refine v_icmp_lt C 16 d_C_findCustomer_2 (by decide) (fun c_2 => ?_) (fun c_2 => ?_)
  · refine v_null C d_C_findCustomer_16 ?_
    exact v_aret C (Or.inl ⟨_, rfl⟩) (Or.inl rfl) d_C_findCustomer_17 (by first | exact Nat.le_of_ble_eq_true rfl | (show _ ≤ _; omega)) (by first | exact Nat.le_of_ble_eq_true rfl | (show _ ≤ _; omega)) (Or.inl ⟨rfl, rfl, fun z => absurd z.1 (Int.not_le.mpr (Int32.lt_iff_toInt_lt.mp c_2))⟩)
  · refine v_iload_n C 1 d_C_findCustomer_5 rfl rfl ?_
    refine v_aload_n C 0 d_C_findCustomer_6 rfl rfl ?_
    refine v_get C k_C hA 0 (by decide) tw_78 (fun _ h => h) rfl d_C_findCustomer_7 ?_
    refine v_callV (rest := [.int x]) C (c_LA_size l G v (la 0) (ra 0) (zc S 0) (ea 0) _ (hLs 0 (by decide))) tw_117 tw_33 tw_114 tw_115 tw_116 mn_AL_size hl0 k_AL.1 ⟨Nat.le_of_ble_eq_true rfl, Nat.le_of_ble_eq_true rfl⟩ rfl rfl (Nat.le_of_ble_eq_true rfl) d_C_findCustomer_10 ⟨(by first | exact Nat.le_of_ble_eq_true rfl | (dsimp only; omega)), (by first | exact Nat.le_of_ble_eq_true rfl | (dsimp only; omega))⟩ (fun r_1 v_2 hp_3 => ?_)
    obtain ⟨rfl, hv9⟩ := hp_3
    obtain rfl := hv9.symm
    show vV _ _ _ _ _ _ _ _ _ _ _ _ _ v 0 0 13 [(0, .ref o), (1, .int x)] [.int (nI (zc S 0)), .int x]
    refine v_icmp_le C 18 d_C_findCustomer_13 (by decide) (fun c_13 => ?_) (fun c_13 => ?_)
    · obtain ⟨n, hxn, hn1, hn2, hn3⟩ := zIn_nI (x := x) (a := 1) (b := zc S 0) ⟨(by have z := mt Int32.lt_iff_toInt_lt.mpr c_2; exact Int.not_lt.mp z), (by have z := Int32.le_iff_toInt_le.mp c_13; rw [nI_toInt (by omega)] at z; exact z)⟩
      subst hxn
      refine v_aload_n C 0 d_C_findCustomer_18 rfl rfl ?_
      refine v_get C k_C hA 0 (by decide) tw_78 (fun _ h => h) rfl d_C_findCustomer_19 ?_
      refine v_iload_n C 1 d_C_findCustomer_22 rfl rfl ?_
      refine v_iconst (x := 1) C d_C_findCustomer_23 (by decide) ?_
      refine v_isub C d_C_findCustomer_24 ?_
      refine v_toi (y := nI (n - 1)) (by obtain ⟨n9, rfl⟩ : ∃ n9, n = n9 + 1 := ⟨n - 1, by omega⟩; exact nI_pred n9) ?_
      refine v_callV (rest := []) C (c_LA_get l G v (la 0) (ra 0) (zc S 0) (ea 0) (n - 1) _ (hLs 0 (by decide)) (by omega)) tw_218 tw_33 tw_215 tw_216 tw_217 mn_AL_get hl0 k_AL.1 ⟨Nat.le_of_ble_eq_true rfl, Nat.le_of_ble_eq_true rfl⟩ rfl rfl (Nat.le_of_ble_eq_true rfl) d_C_findCustomer_25 ⟨(by first | exact Nat.le_of_ble_eq_true rfl | (dsimp only; omega)), (by first | exact Nat.le_of_ble_eq_true rfl | (dsimp only; omega))⟩ (fun r_4 v_5 hp_6 => ?_)
      obtain ⟨rfl, hv9⟩ := hp_6
      obtain rfl := hv9.symm
      show vV _ _ _ _ _ _ _ _ _ _ _ _ _ v 0 0 28 [(0, .ref o), (1, .int (nI n))] [.ref (ca (n - 1))]
      obtain ⟨⟨lw, mt0, hk0⟩, g, hg0, hgv⟩ := hKs (n - 1) (by omega)
      refine v_cast C tw_118 tw_686 hk0 k_K.1 d_C_findCustomer_28 ?_
      exact v_aret C (Or.inl ⟨_, rfl⟩) (Or.inr ⟨_, rfl⟩) d_C_findCustomer_31 (by first | exact Nat.le_of_ble_eq_true rfl | (show _ ≤ _; omega)) (by first | exact Nat.le_of_ble_eq_true rfl | (show _ ≤ _; omega)) (Or.inr ⟨n - 1, rfl, rfl, (by omega), (by rw [Nat.sub_add_cancel hn1])⟩)
    · refine v_null C d_C_findCustomer_16 ?_
      exact v_aret C (Or.inl ⟨_, rfl⟩) (Or.inl rfl) d_C_findCustomer_17 (by first | exact Nat.le_of_ble_eq_true rfl | (show _ ≤ _; omega)) (by first | exact Nat.le_of_ble_eq_true rfl | (show _ ≤ _; omega)) (Or.inl ⟨rfl, rfl, fun z => c_13 (Int32.le_iff_toInt_le.mpr (by rw [nI_toInt (by omega)]; exact z.2))⟩)
set_option maxHeartbeats 4000000 in
set_option maxRecDepth 100000 in
theorem c_C_findNotice (l : Launch) (G : vv_G) (v : vv_V) (o : Nat) (la : Nat → Nat) (cw : Nat) (S : zS) (ra ea ca oa na ia : Nat → Nat) (x : Int32) (hRC : RC G v o la cw S ra ea ca oa na ia) (hB : zc S 1 ≤ 1000) : Mv l y_C_findNotice b_C_findNotice 2 (some (FieldType.object "CustomerNotices$Notice")) 3 64 G v [.ref o, .int x] (fun r v' => (r = some .null ∧ v' = v ∧ ¬ zIn x 1 (zc S 1)) ∨ (∃ j : Nat, r = some (.ref (na j)) ∧ v' = v ∧ j < zc S 1 ∧ x = nI (j + 1))) 0 0 := by
  refine vv_metF (own := "CustomerNotices") (nm := "findNotice") pf_C_findNotice rfl rfl (Nat.le_of_ble_eq_true rfl) ?_
  intro p e s m below meth c C hin
  obtain ⟨hA, ⟨gw, hW, hWj⟩, hLs, hKs, hNs, hIs, hD1, hD2, hD3, hD4⟩ := id hRC
  obtain ⟨⟨mo1, hl1⟩, hlb1, hlc1, hld1⟩ := hLs 1 (by decide)
  show vV _ _ _ _ _ _ _ _ _ _ _ _ _ v 0 0 0 [(0, .ref o), (1, .int x)] []
  refine v_iload_n C 1 d_C_findNotice_0 rfl rfl ?_
  refine v_iconst (x := 1) C d_C_findNotice_1 (by decide) ?_
  refine v_icmp_lt C 16 d_C_findNotice_2 (by decide) (fun c_2 => ?_) (fun c_2 => ?_)
  · refine v_null C d_C_findNotice_16 ?_
    exact v_aret C (Or.inl ⟨_, rfl⟩) (Or.inl rfl) d_C_findNotice_17 (by first | exact Nat.le_of_ble_eq_true rfl | (show _ ≤ _; omega)) (by first | exact Nat.le_of_ble_eq_true rfl | (show _ ≤ _; omega)) (Or.inl ⟨rfl, rfl, fun z => absurd z.1 (Int.not_le.mpr (Int32.lt_iff_toInt_lt.mp c_2))⟩)
  · refine v_iload_n C 1 d_C_findNotice_5 rfl rfl ?_
    refine v_aload_n C 0 d_C_findNotice_6 rfl rfl ?_
    refine v_get C k_C hA 1 (by decide) tw_79 (fun _ h => h) rfl d_C_findNotice_7 ?_
    refine v_callV (rest := [.int x]) C (c_LA_size l G v (la 1) (ra 1) (zc S 1) (ea 1) _ (hLs 1 (by decide))) tw_117 tw_33 tw_114 tw_115 tw_116 mn_AL_size hl1 k_AL.1 ⟨Nat.le_of_ble_eq_true rfl, Nat.le_of_ble_eq_true rfl⟩ rfl rfl (Nat.le_of_ble_eq_true rfl) d_C_findNotice_10 ⟨(by first | exact Nat.le_of_ble_eq_true rfl | (dsimp only; omega)), (by first | exact Nat.le_of_ble_eq_true rfl | (dsimp only; omega))⟩ (fun r_1 v_2 hp_3 => ?_)
    obtain ⟨rfl, hv9⟩ := hp_3
    obtain rfl := hv9.symm
    show vV _ _ _ _ _ _ _ _ _ _ _ _ _ v 0 0 13 [(0, .ref o), (1, .int x)] [.int (nI (zc S 1)), .int x]
    refine v_icmp_le C 18 d_C_findNotice_13 (by decide) (fun c_13 => ?_) (fun c_13 => ?_)
    · obtain ⟨n, hxn, hn1, hn2, hn3⟩ := zIn_nI (x := x) (a := 1) (b := zc S 1) ⟨(by have z := mt Int32.lt_iff_toInt_lt.mpr c_2; exact Int.not_lt.mp z), (by have z := Int32.le_iff_toInt_le.mp c_13; rw [nI_toInt (by omega)] at z; exact z)⟩
      subst hxn
      refine v_aload_n C 0 d_C_findNotice_18 rfl rfl ?_
      refine v_get C k_C hA 1 (by decide) tw_79 (fun _ h => h) rfl d_C_findNotice_19 ?_
      refine v_iload_n C 1 d_C_findNotice_22 rfl rfl ?_
      refine v_iconst (x := 1) C d_C_findNotice_23 (by decide) ?_
      refine v_isub C d_C_findNotice_24 ?_
      refine v_toi (y := nI (n - 1)) (by obtain ⟨n9, rfl⟩ : ∃ n9, n = n9 + 1 := ⟨n - 1, by omega⟩; exact nI_pred n9) ?_
      refine v_callV (rest := []) C (c_LA_get l G v (la 1) (ra 1) (zc S 1) (ea 1) (n - 1) _ (hLs 1 (by decide)) (by omega)) tw_218 tw_33 tw_215 tw_216 tw_217 mn_AL_get hl1 k_AL.1 ⟨Nat.le_of_ble_eq_true rfl, Nat.le_of_ble_eq_true rfl⟩ rfl rfl (Nat.le_of_ble_eq_true rfl) d_C_findNotice_25 ⟨(by first | exact Nat.le_of_ble_eq_true rfl | (dsimp only; omega)), (by first | exact Nat.le_of_ble_eq_true rfl | (dsimp only; omega))⟩ (fun r_4 v_5 hp_6 => ?_)
      obtain ⟨rfl, hv9⟩ := hp_6
      obtain rfl := hv9.symm
      show vV _ _ _ _ _ _ _ _ _ _ _ _ _ v 0 0 28 [(0, .ref o), (1, .int (nI n))] [.ref (na (n - 1))]
      obtain ⟨ch, msg, sent, hn0, hns⟩ := hNs (n - 1) (by omega)
      refine v_cast C tw_319 tw_688 hn0 k_N.1 d_C_findNotice_28 ?_
      exact v_aret C (Or.inl ⟨_, rfl⟩) (Or.inr ⟨_, rfl⟩) d_C_findNotice_31 (by first | exact Nat.le_of_ble_eq_true rfl | (show _ ≤ _; omega)) (by first | exact Nat.le_of_ble_eq_true rfl | (show _ ≤ _; omega)) (Or.inr ⟨n - 1, rfl, rfl, (by omega), (by rw [Nat.sub_add_cancel hn1])⟩)
    · refine v_null C d_C_findNotice_16 ?_
      exact v_aret C (Or.inl ⟨_, rfl⟩) (Or.inl rfl) d_C_findNotice_17 (by first | exact Nat.le_of_ble_eq_true rfl | (show _ ≤ _; omega)) (by first | exact Nat.le_of_ble_eq_true rfl | (show _ ≤ _; omega)) (Or.inl ⟨rfl, rfl, fun z => c_13 (Int32.le_iff_toInt_le.mpr (by rw [nI_toInt (by omega)]; exact z.2))⟩)
