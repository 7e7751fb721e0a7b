def zdet (S : zS) (i : Nat) (wh : Int32) : Int32 :=
  if wh = 0 then zi S 24 i else if wh = 1 then zi S 10 (zn (zi S 24 i)) else if wh = 2 then zi S 11 (zn (zi S 24 i)) else if wh = 3 then zi S 12 (zn (zi S 24 i)) else if wh = 4 then zi S 25 i
  else if wh = 5 then 32 * zi S 4 (zn (zi S 10 (zn (zi S 24 i)))) + 2 * zi S 12 (zn (zi S 24 i)) + (if zi S 16 (zn (zi S 24 i)) = 0 then 0 else 1) else if wh = 6 then zi S 26 i else if wh = 7 then (zl S 27 i).toInt32 else (zl S 14 (zn (zi S 24 i))).toInt32
def oSent (S : zS) (i wh : Int32) : Int32 × zS := (if zIn wh 0 8 then (if zIn i 0 ((zc S 3 : Int) - 1) then zdet S (zn i) wh else -1) else -12, S)
/-- what was sent are notices -/
def zB4 (S : zS) : Prop := ∀ i, i < zc S 3 → ∃ n : Nat, zi S 24 i = nI n ∧ 1 ≤ n ∧ n ≤ zc S 1
def zo1 (S : zS) (b : Nat) : Nat → zS
  | 0 => S
  | j + 1 => zui (zo1 S b j) 8 (b + j) 0
def zo2 (S : zS) (x k : Int32) : Nat → zS
  | 0 => S
  | j + 1 => if zi (zo2 S x k j) 15 (j + 1) = 0 ∧ zi (zo2 S x k j) 10 (j + 1) = x ∧ zi (zo2 S x k j) 12 (j + 1) = k then zui (zo2 S x k j) 15 (j + 1) 3 else zo2 S x k j
def zom (S : zS) (x k : Int32) : Nat → Nat
  | 0 => 0
  | j + 1 => zom S x k j + (if zi (zo2 S x k j) 15 (j + 1) = 0 ∧ zi (zo2 S x k j) 10 (j + 1) = x ∧ zi (zo2 S x k j) 12 (j + 1) = k then 1 else 0)
theorem zo1_c (S : zS) (b j i : Nat) : zc (zo1 S b j) i = zc S i := by
  induction j with
  | zero => rfl
  | succ j ih => exact ih
theorem zo1_i (S : zS) (b j f i : Nat) (h : f ≠ 8) : zi (zo1 S b j) f i = zi S f i := by
  induction j with
  | zero => rfl
  | succ j ih => unfold zo1; rw [zi_ui, if_neg h, ih]
theorem zo2_c (S : zS) (x k : Int32) (j i : Nat) : zc (zo2 S x k j) i = zc S i := by
  induction j with
  | zero => rfl
  | succ j ih => unfold zo2; split <;> exact ih
def oOut (S : zS) (x k : Int32) : Int32 × zS := if zIn x 1 (zc S 0) then (if zIn k 0 7 then (nI (zom (zo1 S (32 * zn x + 4 * zn k) 4) x k (zc S 1)), zo2 (zo1 S (32 * zn x + 4 * zn k) 4) x k (zc S 1)) else (-12, S)) else (-11, S)
def zundo (S : zS) (n : Nat) : zS := if zE (zi S 12 n) then (match zpf S (zi S 10 n) (zi S 11 n) (zc S 2) with
  | some j => zui S 21 j 0
  | none => S) else S
theorem zundo_s {S : zS} {n j : Nat} (h : zE (zi S 12 n)) (hp : zpf S (zi S 10 n) (zi S 11 n) (zc S 2) = some j) : zundo S n = zui S 21 j 0 := by
  unfold zundo; rw [if_pos h, hp]
theorem zundo_n {S : zS} {n : Nat} (h : ¬ zE (zi S 12 n)) : zundo S n = S := by
  unfold zundo; rw [if_neg h]
theorem zundo_c (S : zS) (n i : Nat) : zc (zundo S n) i = zc S i := by
  unfold zundo
  split
  · split <;> rfl
  · rfl
theorem zundo_i (S : zS) (n f i : Nat) (h : f ≠ 21) : zi (zundo S n) f i = zi S f i := by
  unfold zundo
  split
  · split
    · rw [zi_ui, if_neg h]
    · rfl
  · rfl
/-- an end that was told has its pair -/
def zB5 (S : zS) : Prop := ∀ n, 1 ≤ n → n ≤ zc S 1 → zE (zi S 12 n) → ∃ j, zpf S (zi S 10 n) (zi S 11 n) (zc S 2) = some j
def oCorr (S : zS) (x : Int32) (t : Int64) : Int32 × zS :=
  if zIn x 1 (zc S 1) then (if zTm S t then (if zi S 15 (zn x) = 2 ∨ zi S 15 (zn x) = 3 ∨ ¬ zi S 17 (zn x) = 0 ∨ ¬ zi S 16 (zn x) = 0 then (-13, S) else (if zi S 15 (zn x) = 0 then (0, zundo (zui S 15 (zn x) 3) (zn x)) else
    (if 0 < zwn S (32 * zn (zi S 10 (zn x)) + 4 * zn (zi S 12 (zn x))) 4 ∧ zc S 1 = 200 then (-14, S) else (if 0 < zwn S (32 * zn (zi S 10 (zn x)) + 4 * zn (zi S 12 (zn x))) 4 then (nI (zc S 1 + 1), zput (zundo (zui S 17 (zn x) 1) (zn x)) (zi S 10 (zn x)) (zi S 11 (zn x)) (zi S 12 (zn x)) t (-1) 1) else (0, zundo (zui S 17 (zn x) 1) (zn x)))))) else (-12, S)) else (-11, S)
theorem zpf_ui {S : zS} {f i n : Nat} {x a b : Int32} (h1 : f ≠ 19) (h2 : f ≠ 20) : zpf (zui S f i x) a b n = zpf S a b n := by
  induction n with
  | zero => rfl
  | succ n ih =>
    unfold zpf
    rw [ih, zi_ui, if_neg (Ne.symm h1), zi_ui, if_neg (Ne.symm h2)]
set_option maxHeartbeats 4000000 in
set_option maxRecDepth 100000 in
theorem c_M_sent (l : Launch) (G : vv_G) (v : vv_V) (o : Nat) (ad : Nat → Nat) (S : zS) (i wh : Int32) (hR : RM G v o ad S) (hB : zc S 0 ≤ 40 ∧ zc S 1 ≤ 200 ∧ zc S 3 ≤ 200) (hB2 : zB2 S) (hB4 : zB4 S) : Mv l y_M_sent b_M_sent 4 (some FieldType.int) 1 25 G v [.ref o, .int i, .int wh] (fun r v' => r = some (.int (oSent S i wh).1) ∧ RM G v' o ad (oSent S i wh).2 ∧ vkeep (mX o ad) v v') 0 0 := by
  refine vv_metF (own := "CustomerNoticesModel") (nm := "sent") pf_M_sent rfl rfl (Nat.le_of_ble_eq_true rfl) ?_
  intro p e s m below meth c C hin
  have hk : vkeep (mX o ad) v v := vkeep.rf
  show vV _ _ _ _ _ _ _ _ _ _ _ _ _ v 0 0 0 [(0, .ref o), (1, .int i), (2, .int wh)] []
  refine v_iload_n C 2 d_M_sent_0 rfl rfl ?_
  refine v_i2l (y := (Int32.toInt64 wh)) C d_M_sent_1 rfl ?_
  refine v_lconst (x := 0) C d_M_sent_2 (by decide) ?_
  refine v_ldc2 (x := 8) C d_M_sent_3 tw_660 ?_
  refine v_callS (rest := []) C (c_M_isIn l G v (Int32.toInt64 wh) 0 8) tw_588 tw_34 tw_586 tw_587 mn_M_isIn ⟨Nat.le_of_ble_eq_true rfl, Nat.le_of_ble_eq_true rfl⟩ rfl rfl (Nat.le_of_ble_eq_true rfl) d_M_sent_6 ⟨(by first | exact Nat.le_of_ble_eq_true rfl | (show _ ≤ _; omega)), (by first | exact Nat.le_of_ble_eq_true rfl | (show _ ≤ _; omega))⟩ (fun r_1 v_2 hp_3 => ?_)
  rcases hp_3 with ⟨rfl, hv9, hb_6⟩ | ⟨rfl, hv9, hb_6⟩
  · obtain rfl := hv9.symm
    show vV _ _ _ _ _ _ _ _ _ _ _ _ _ v 0 0 9 [(0, .ref o), (1, .int i), (2, .int wh)] [.int 1]
    refine v_if_ne C 15 d_M_sent_9 (by decide) (fun _ => ?_) (fun z => absurd z (by decide))
    rw [i64_toInt] at hb_6
    have hw0 : zIn wh 0 8 := hb_6
    have e1 : ((nI (zc S 3) - 1 : Int32)).toInt = (zc S 3 : Int) - 1 := pk_sub_toInt (b := 1) (by omega) (by decide)
    refine v_iload_n C 1 d_M_sent_15 rfl rfl ?_
    refine v_i2l (y := (Int32.toInt64 i)) C d_M_sent_16 rfl ?_
    refine v_lconst (x := 0) C d_M_sent_17 (by decide) ?_
    refine v_aload_n C 0 d_M_sent_18 rfl rfl ?_
    refine v_get C k_M hR.1 23 (by decide) tw_506 (fun _ h => h) rfl d_M_sent_19 ?_
    refine v_iconst (x := 1) C d_M_sent_22 (by decide) ?_
    refine v_isub C d_M_sent_23 ?_
    refine v_i2l (y := (Int32.toInt64 ((nI (zc S 3)) - 1))) C d_M_sent_24 rfl ?_
    refine v_callS (rest := []) C (c_M_isIn l G v (Int32.toInt64 i) 0 (Int32.toInt64 ((nI (zc S 3)) - 1))) tw_588 tw_34 tw_586 tw_587 mn_M_isIn ⟨Nat.le_of_ble_eq_true rfl, Nat.le_of_ble_eq_true rfl⟩ rfl rfl (Nat.le_of_ble_eq_true rfl) d_M_sent_25 ⟨(by first | exact Nat.le_of_ble_eq_true rfl | (show _ ≤ _; omega)), (by first | exact Nat.le_of_ble_eq_true rfl | (show _ ≤ _; omega))⟩ (fun r_4 v_5 hp_6 => ?_)
    rcases hp_6 with ⟨rfl, hv9, hb_25⟩ | ⟨rfl, hv9, hb_25⟩
    · obtain rfl := hv9.symm
      show vV _ _ _ _ _ _ _ _ _ _ _ _ _ v 0 0 28 [(0, .ref o), (1, .int i), (2, .int wh)] [.int 1]
      refine v_if_ne C 33 d_M_sent_28 (by decide) (fun _ => ?_) (fun z => absurd z (by decide))
      rw [i64_toInt, i64_toInt, e1] at hb_25
      have hx0 : zIn i 0 ((zc S 3 : Int) - 1) := hb_25
      obtain ⟨ni, rfl, hn1, hn2, hn3⟩ := zIn_nI (a := 0) (b := zc S 3 - 1) ⟨hx0.1, by have := hx0.1; have := hx0.2; omega⟩
      have hn4 : ni < zc S 3 := by have := hx0.2; rw [nI_toInt hn3] at this; omega
      obtain ⟨nn, e24, hm1, hm2⟩ := hB4 ni hn4
      obtain ⟨cn, kd, e10, hc1, hc2, e12, hk7⟩ := hB2 nn hm1 hm2
      have e25 : zn (zi S 24 ni) = nn := by rw [e24]; exact zn_nI (by omega)
      have e13 : zn (zi S 10 nn) = cn := by rw [e10]; exact zn_nI (by omega)
      refine v_aload_n C 0 d_M_sent_33 rfl rfl ?_
      refine v_get C k_M hR.1 24 (by decide) tw_507 (fun _ h => h) rfl d_M_sent_34 ?_
      refine v_iload_n C 1 d_M_sent_37 rfl rfl ?_
      refine v_ialdN C (hR.oi (f := 24) (by decide)) (by show _ < 200; omega) (by decide) d_M_sent_38 ?_
      refine v_toi (y := (nI nn)) e24 ?_
      refine v_istore_n (lv' := [(3, .int (nI nn)), (0, .ref o), (1, .int (nI ni)), (2, .int wh)]) C d_M_sent_39 rfl (by decide) rfl ?_
      refine v_iload_n C 3 d_M_sent_40 rfl rfl ?_
      obtain ⟨wn, rfl, hwn1, hwn2, hwn3⟩ := zIn_nI (a := 0) (b := 8) hw0
      rcases (show wn = 0 ∨ wn = 1 ∨ wn = 2 ∨ wn = 3 ∨ wn = 4 ∨ wn = 5 ∨ wn = 6 ∨ wn = 7 ∨ wn = 8 by omega) with rfl | rfl | rfl | rfl | rfl | rfl | rfl | rfl | rfl
      · refine v_tableIn C 88 d_M_sent_41 (by decide) (by decide) (off := 47) (by decide) (by decide) ?_
        refine v_iload_n C 0 d_M_sent_88 rfl rfl ?_
        exact v_iret C d_M_sent_89 (by first | exact Nat.le_of_ble_eq_true rfl | (show _ ≤ _; omega)) (by first | exact Nat.le_of_ble_eq_true rfl | (show _ ≤ _; omega)) ⟨(by rw [oSent, if_pos hw0, if_pos hx0, zn_nI hn3, zdet, if_pos (by decide), e24] <;> (try rfl)), hR, hk⟩
      · refine v_tableIn C 90 d_M_sent_41 (by decide) (by decide) (off := 49) (by decide) (by decide) ?_
        refine v_aload_n C 1 d_M_sent_90 rfl rfl ?_
        refine v_get C k_M hR.1 10 (by decide) tw_493 (fun _ h => h) rfl d_M_sent_91 ?_
        refine v_iload_n C 0 d_M_sent_94 rfl rfl ?_
        refine v_ialdN C (hR.oi (f := 10) (by decide)) (by show _ < 201; omega) (by decide) d_M_sent_95 ?_
        exact v_iret C d_M_sent_96 (by first | exact Nat.le_of_ble_eq_true rfl | (show _ ≤ _; omega)) (by first | exact Nat.le_of_ble_eq_true rfl | (show _ ≤ _; omega)) ⟨(by rw [oSent, if_pos hw0, if_pos hx0, zn_nI hn3, zdet, if_neg (by decide), if_pos (by decide), e25] <;> (try rfl)), hR, hk⟩
      · refine v_tableIn C 97 d_M_sent_41 (by decide) (by decide) (off := 56) (by decide) (by decide) ?_
        refine v_aload_n C 1 d_M_sent_97 rfl rfl ?_
        refine v_get C k_M hR.1 11 (by decide) tw_494 (fun _ h => h) rfl d_M_sent_98 ?_
        refine v_iload_n C 0 d_M_sent_101 rfl rfl ?_
        refine v_ialdN C (hR.oi (f := 11) (by decide)) (by show _ < 201; omega) (by decide) d_M_sent_102 ?_
        exact v_iret C d_M_sent_103 (by first | exact Nat.le_of_ble_eq_true rfl | (show _ ≤ _; omega)) (by first | exact Nat.le_of_ble_eq_true rfl | (show _ ≤ _; omega)) ⟨(by rw [oSent, if_pos hw0, if_pos hx0, zn_nI hn3, zdet, if_neg (by decide), if_neg (by decide), if_pos (by decide), e25] <;> (try rfl)), hR, hk⟩
      · refine v_tableIn C 104 d_M_sent_41 (by decide) (by decide) (off := 63) (by decide) (by decide) ?_
        refine v_aload_n C 1 d_M_sent_104 rfl rfl ?_
        refine v_get C k_M hR.1 12 (by decide) tw_495 (fun _ h => h) rfl d_M_sent_105 ?_
        refine v_iload_n C 0 d_M_sent_108 rfl rfl ?_
        refine v_ialdN C (hR.oi (f := 12) (by decide)) (by show _ < 201; omega) (by decide) d_M_sent_109 ?_
        exact v_iret C d_M_sent_110 (by first | exact Nat.le_of_ble_eq_true rfl | (show _ ≤ _; omega)) (by first | exact Nat.le_of_ble_eq_true rfl | (show _ ≤ _; omega)) ⟨(by rw [oSent, if_pos hw0, if_pos hx0, zn_nI hn3, zdet, if_neg (by decide), if_neg (by decide), if_neg (by decide), if_pos (by decide), e25] <;> (try rfl)), hR, hk⟩
      · refine v_tableIn C 111 d_M_sent_41 (by decide) (by decide) (off := 70) (by decide) (by decide) ?_
        refine v_aload_n C 1 d_M_sent_111 rfl rfl ?_
        refine v_get C k_M hR.1 25 (by decide) tw_508 (fun _ h => h) rfl d_M_sent_112 ?_
        refine v_iload_n C 2 d_M_sent_115 rfl rfl ?_
        refine v_ialdN C (hR.oi (f := 25) (by decide)) (by show _ < 200; omega) (by decide) d_M_sent_116 ?_
        exact v_iret C d_M_sent_117 (by first | exact Nat.le_of_ble_eq_true rfl | (show _ ≤ _; omega)) (by first | exact Nat.le_of_ble_eq_true rfl | (show _ ≤ _; omega)) ⟨(by rw [oSent, if_pos hw0, if_pos hx0, zn_nI hn3, zdet, if_neg (by decide), if_neg (by decide), if_neg (by decide), if_neg (by decide), if_pos (by decide)] <;> (try rfl)), hR, hk⟩
      · refine v_tableIn C 118 d_M_sent_41 (by decide) (by decide) (off := 77) (by decide) (by decide) ?_
        refine v_bipush (x := 32) C d_M_sent_118 (by decide) ?_
        refine v_aload_n C 1 d_M_sent_120 rfl rfl ?_
        refine v_get C k_M hR.1 4 (by decide) tw_487 (fun _ h => h) rfl d_M_sent_121 ?_
        refine v_aload_n C 1 d_M_sent_124 rfl rfl ?_
        refine v_get C k_M hR.1 10 (by decide) tw_493 (fun _ h => h) rfl d_M_sent_125 ?_
        refine v_iload_n C 0 d_M_sent_128 rfl rfl ?_
        refine v_ialdN C (hR.oi (f := 10) (by decide)) (by show _ < 201; omega) (by decide) d_M_sent_129 ?_
        refine v_toi (y := (nI cn)) e10 ?_
        refine v_ialdN C (hR.oi (f := 4) (by decide)) (by show _ < 41; omega) (by decide) d_M_sent_130 ?_
        refine v_imul C d_M_sent_131 ?_
        refine v_iconst (x := 2) C d_M_sent_132 (by decide) ?_
        refine v_aload_n C 1 d_M_sent_133 rfl rfl ?_
        refine v_get C k_M hR.1 12 (by decide) tw_495 (fun _ h => h) rfl d_M_sent_134 ?_
        refine v_iload_n C 0 d_M_sent_137 rfl rfl ?_
        refine v_ialdN C (hR.oi (f := 12) (by decide)) (by show _ < 201; omega) (by decide) d_M_sent_138 ?_
        refine v_imul C d_M_sent_139 ?_
        refine v_iadd C d_M_sent_140 ?_
        refine v_aload_n C 1 d_M_sent_141 rfl rfl ?_
        refine v_get C k_M hR.1 16 (by decide) tw_499 (fun _ h => h) rfl d_M_sent_142 ?_
        refine v_iload_n C 0 d_M_sent_145 rfl rfl ?_
        refine v_zaldN C (hR.oz (f := 16) (by decide)) (by show _ < 201; omega) (by decide) d_M_sent_146 ?_
        refine v_if_eq C 154 d_M_sent_147 (by decide) (fun c_147 => ?_) (fun c_147 => ?_)
        · refine v_iconst (x := 0) C d_M_sent_154 (by decide) ?_
          refine v_iadd C d_M_sent_155 ?_
          exact v_iret C d_M_sent_156 (by first | exact Nat.le_of_ble_eq_true rfl | (show _ ≤ _; omega)) (by first | exact Nat.le_of_ble_eq_true rfl | (show _ ≤ _; omega)) ⟨(by rw [oSent, if_pos hw0, if_pos hx0, zn_nI hn3, zdet, if_neg (by decide), if_neg (by decide), if_neg (by decide), if_neg (by decide), if_neg (by decide), if_pos (by decide), e25, e13, if_pos c_147] <;> (try rfl)), hR, hk⟩
        · refine v_iconst (x := 1) C d_M_sent_150 (by decide) ?_
          refine v_goto C 155 d_M_sent_151 (by decide) ?_
          refine v_iadd C d_M_sent_155 ?_
          exact v_iret C d_M_sent_156 (by first | exact Nat.le_of_ble_eq_true rfl | (show _ ≤ _; omega)) (by first | exact Nat.le_of_ble_eq_true rfl | (show _ ≤ _; omega)) ⟨(by rw [oSent, if_pos hw0, if_pos hx0, zn_nI hn3, zdet, if_neg (by decide), if_neg (by decide), if_neg (by decide), if_neg (by decide), if_neg (by decide), if_pos (by decide), e25, e13, if_neg c_147] <;> (try rfl)), hR, hk⟩
      · refine v_tableIn C 157 d_M_sent_41 (by decide) (by decide) (off := 116) (by decide) (by decide) ?_
        refine v_aload_n C 1 d_M_sent_157 rfl rfl ?_
        refine v_get C k_M hR.1 26 (by decide) tw_509 (fun _ h => h) rfl d_M_sent_158 ?_
        refine v_iload_n C 2 d_M_sent_161 rfl rfl ?_
        refine v_ialdN C (hR.oi (f := 26) (by decide)) (by show _ < 200; omega) (by decide) d_M_sent_162 ?_
        exact v_iret C d_M_sent_163 (by first | exact Nat.le_of_ble_eq_true rfl | (show _ ≤ _; omega)) (by first | exact Nat.le_of_ble_eq_true rfl | (show _ ≤ _; omega)) ⟨(by rw [oSent, if_pos hw0, if_pos hx0, zn_nI hn3, zdet, if_neg (by decide), if_neg (by decide), if_neg (by decide), if_neg (by decide), if_neg (by decide), if_neg (by decide), if_pos (by decide)] <;> (try rfl)), hR, hk⟩
      · refine v_tableIn C 164 d_M_sent_41 (by decide) (by decide) (off := 123) (by decide) (by decide) ?_
        refine v_aload_n C 1 d_M_sent_164 rfl rfl ?_
        refine v_get C k_M hR.1 27 (by decide) tw_510 (fun _ h => h) rfl d_M_sent_165 ?_
        refine v_iload_n C 2 d_M_sent_168 rfl rfl ?_
        refine v_laldN C (hR.ol (f := 27) (by decide)) (by show _ < 200; omega) (by decide) d_M_sent_169 ?_
        refine v_l2i (y := (Int64.toInt32 (zl S 27 ni))) C d_M_sent_170 rfl ?_
        exact v_iret C d_M_sent_171 (by first | exact Nat.le_of_ble_eq_true rfl | (show _ ≤ _; omega)) (by first | exact Nat.le_of_ble_eq_true rfl | (show _ ≤ _; omega)) ⟨(by rw [oSent, if_pos hw0, if_pos hx0, zn_nI hn3, zdet, if_neg (by decide), if_neg (by decide), if_neg (by decide), if_neg (by decide), if_neg (by decide), if_neg (by decide), if_neg (by decide), if_pos (by decide)] <;> (try rfl)), hR, hk⟩
      · refine v_tableOut C 172 d_M_sent_41 (by decide) (by decide) ?_
        refine v_aload_n C 1 d_M_sent_172 rfl rfl ?_
        refine v_get C k_M hR.1 14 (by decide) tw_497 (fun _ h => h) rfl d_M_sent_173 ?_
        refine v_iload_n C 0 d_M_sent_176 rfl rfl ?_
        refine v_laldN C (hR.ol (f := 14) (by decide)) (by show _ < 201; omega) (by decide) d_M_sent_177 ?_
        refine v_l2i (y := (Int64.toInt32 (zl S 14 nn))) C d_M_sent_178 rfl ?_
        exact v_iret C d_M_sent_179 (by first | exact Nat.le_of_ble_eq_true rfl | (show _ ≤ _; omega)) (by first | exact Nat.le_of_ble_eq_true rfl | (show _ ≤ _; omega)) ⟨(by rw [oSent, if_pos hw0, if_pos hx0, zn_nI hn3, zdet, if_neg (by decide), if_neg (by decide), if_neg (by decide), if_neg (by decide), if_neg (by decide), if_neg (by decide), if_neg (by decide), if_neg (by decide), e25] <;> (try rfl)), hR, hk⟩
    · obtain rfl := hv9.symm
      show vV _ _ _ _ _ _ _ _ _ _ _ _ _ v 0 0 28 [(0, .ref o), (1, .int i), (2, .int wh)] [.int 0]
      refine v_if_ne C 33 d_M_sent_28 (by decide) (fun z => absurd (by decide) z) (fun _ => ?_)
      refine v_iconst (x := -1) C d_M_sent_31 (by decide) ?_
      exact v_iret C d_M_sent_32 (by first | exact Nat.le_of_ble_eq_true rfl | (show _ ≤ _; omega)) (by first | exact Nat.le_of_ble_eq_true rfl | (show _ ≤ _; omega)) ⟨(by rw [i64_toInt, i64_toInt, e1] at hb_25; rw [oSent, if_pos hw0, if_neg (show ¬ zIn i 0 ((zc S 3 : Int) - 1) from hb_25)]), hR, hk⟩
  · obtain rfl := hv9.symm
    show vV _ _ _ _ _ _ _ _ _ _ _ _ _ v 0 0 9 [(0, .ref o), (1, .int i), (2, .int wh)] [.int 0]
    refine v_if_ne C 15 d_M_sent_9 (by decide) (fun z => absurd (by decide) z) (fun _ => ?_)
    refine v_bipush (x := -12) C d_M_sent_12 (by decide) ?_
    exact v_iret C d_M_sent_14 (by first | exact Nat.le_of_ble_eq_true rfl | (show _ ≤ _; omega)) (by first | exact Nat.le_of_ble_eq_true rfl | (show _ ≤ _; omega)) ⟨(by rw [i64_toInt] at hb_6; rw [oSent, if_neg (show ¬ zIn wh 0 8 from hb_6)]), hR, hk⟩
set_option maxHeartbeats 4000000 in
set_option maxRecDepth 100000 in
theorem lp_M_out1 {p : Program} {l : Launch} {e : Env} {R : Room} {s : State} {m : MethodId} {args : Array Value} {below : List Frame} {meth : Method} {c : Code} {Q : State → Prop} {G : vv_G} {o : Nat} {ad : Nat → Nat} {S : zS} {v0 : vv_V} {kc ks cu kd : Nat} (C : vC p s m args meth c b_M_out 5 (some FieldType.int) "CustomerNoticesModel" G) (hcu : cu ≤ 40) (hkd : kd ≤ 7) (kx : ∀ v : vv_V, RM G v o ad (zo1 S ((32 * cu) + (4 * kd)) 4) → vkeep (mX o ad) v0 v → vV p l e R s m args below meth c Q G 5 v kc ks 55 [(3, .int (nI 4)), (0, .ref o), (1, .int (nI cu)), (2, .int (nI kd))] []) : ∀ (n : Nat) (j : Nat) (v : vv_V), j ≤ 4 → 5 ≤ j + n → RM G v o ad (zo1 S ((32 * cu) + (4 * kd)) j) → vkeep (mX o ad) v0 v → vV p l e R s m args below meth c Q G 5 v kc ks 28 [(3, .int (nI j)), (0, .ref o), (1, .int (nI cu)), (2, .int (nI kd))] [] := by
  intro n
  induction n with
  | zero => intro j v h1 h2 hR hk; exfalso; omega
  | succ n ih =>
    intro j v h1 h2 hR hk
    refine v_iload_n C 0 d_M_out_28 rfl rfl ?_
    refine v_iconst (x := 4) C d_M_out_29 (by decide) ?_
    refine v_icmp_ge C 55 d_M_out_30 (by decide) (fun c_30 => ?_) (fun c_30 => ?_)
    · have n_30 : 4 ≤ j := (nI_leI (a := 4) (b := j) (by omega) (by omega)).mp c_30
      have hj4 : j = 4 := by omega
      subst hj4
      exact kx v hR hk
    · have n_30 : ¬ 4 ≤ j := mt (nI_leI (a := 4) (b := j) (by omega) (by omega)).mpr c_30
      refine v_aload_n C 1 d_M_out_33 rfl rfl ?_
      refine v_get C k_M hR.1 8 (by decide) tw_491 (fun _ h => h) rfl d_M_out_34 ?_
      refine v_bipush (x := 32) C d_M_out_37 (by decide) ?_
      refine v_iload_n C 2 d_M_out_39 rfl rfl ?_
      refine v_imul C d_M_out_40 ?_
      refine v_toi (y := nI (32 * cu)) (pk_mul 32 cu) ?_
      refine v_iconst (x := 4) C d_M_out_41 (by decide) ?_
      refine v_iload_n C 3 d_M_out_42 rfl rfl ?_
      refine v_imul C d_M_out_43 ?_
      refine v_toi (y := nI (4 * kd)) (pk_mul 4 kd) ?_
      refine v_iadd C d_M_out_44 ?_
      refine v_toi (y := nI ((32 * cu) + (4 * kd))) (nI_add (32 * cu) (4 * kd)) ?_
      refine v_iload_n C 0 d_M_out_45 rfl rfl ?_
      refine v_iadd C d_M_out_46 ?_
      refine v_toi (y := nI (((32 * cu) + (4 * kd)) + j)) (nI_add ((32 * cu) + (4 * kd)) j) ?_
      refine v_iconst (x := 0) C d_M_out_47 (by decide) ?_
      refine v_iastN C (hR.oi (f := 8) (by decide)) (by show _ < 1312; omega) (by decide) d_M_out_48 ?_
      refine v_view (fun v1 ev1 => ?_)
      obtain ⟨S_1, eS_1⟩ : ∃ z, z = zui (zo1 S ((32 * cu) + (4 * kd)) j) 8 (((32 * cu) + (4 * kd)) + j) 0 := ⟨_, rfl⟩
      have hR_1 : RM G v1 o ad S_1 := by rw [eS_1]; exact (by rw [ev1]; exact hR.puti 8 (by decide) (((32 * cu) + (4 * kd)) + j) 0)
      have hk_1 : vkeep (mX o ad) v0 v1 := by rw [ev1]; exact hk.up (mX_f (by decide))
      refine v_iinc (y := (nI (j + 1))) (lv' := [(3, .int (nI (j + 1))), (0, .ref o), (1, .int (nI cu)), (2, .int (nI kd))]) C 0 d_M_out_49 rfl (nI_1 _) (by decide) rfl ?_
      refine v_goto C 28 d_M_out_52 (by decide) ?_
      refine v_sub [0, 1, 2, 3] rfl ?_
      exact ih (j + 1) v1 (by omega) (by omega) (by subst eS_1; exact hR_1) hk_1
set_option maxHeartbeats 4000000 in
set_option maxRecDepth 100000 in
theorem lp_M_out2 {p : Program} {l : Launch} {e : Env} {R : Room} {s : State} {m : MethodId} {args : Array Value} {below : List Frame} {meth : Method} {c : Code} {Q : State → Prop} {G : vv_G} {o : Nat} {ad : Nat → Nat} {S : zS} {v0 : vv_V} {kc ks : Nat} {x k : Int32} (C : vC p s m args meth c b_M_out 5 (some FieldType.int) "CustomerNoticesModel" G) (hB : zc S 1 ≤ 200) (kx : ∀ v : vv_V, RM G v o ad (zo2 S x k (zc S 1)) → vkeep (mX o ad) v0 v → vV p l e R s m args below meth c Q G 5 v kc ks 118 [(4, .int (nI (zc S 1 + 1))), (3, .int (nI (zom S x k (zc S 1)))), (0, .ref o), (1, .int x), (2, .int k)] []) : ∀ (n : Nat) (j : Nat) (v : vv_V), j ≤ zc S 1 → zc S 1 + 1 ≤ j + n → RM G v o ad (zo2 S x k j) → vkeep (mX o ad) v0 v → vV p l e R s m args below meth c Q G 5 v kc ks 60 [(4, .int (nI (j + 1))), (3, .int (nI (zom S x k j))), (0, .ref o), (1, .int x), (2, .int k)] [] := by
  intro n
  induction n with
  | zero => intro j v h1 h2 hR hk; exfalso; omega
  | succ n ih =>
    intro j v h1 h2 hR hk
    refine v_iload C 0 d_M_out_60 rfl ?_
    refine v_aload_n C 2 d_M_out_62 rfl rfl ?_
    refine v_get C k_M hR.1 9 (by decide) tw_492 (fun _ h => h) rfl d_M_out_63 ?_
    refine v_toi (y := nI (zc S 1)) (by rw [zo2_c]) ?_
    refine v_icmp_gt C 118 d_M_out_66 (by decide) (fun c_66 => ?_) (fun c_66 => ?_)
    · have n_66 : (zc S 1) < (j + 1) := (nI_ltI (a := (zc S 1)) (b := (j + 1)) (by omega) (by omega)).mp c_66
      have hj4 : j = zc S 1 := by omega
      subst hj4
      exact kx v hR hk
    · have n_66 : ¬ (zc S 1) < (j + 1) := mt (nI_ltI (a := (zc S 1)) (b := (j + 1)) (by omega) (by omega)).mpr c_66
      refine v_aload_n C 2 d_M_out_69 rfl rfl ?_
      refine v_get C k_M hR.1 15 (by decide) tw_498 (fun _ h => h) rfl d_M_out_70 ?_
      refine v_iload C 0 d_M_out_73 rfl ?_
      refine v_ialdN C (hR.oi (f := 15) (by decide)) (by show _ < 201; omega) (by decide) d_M_out_75 ?_
      refine v_if_ne C 112 d_M_out_76 (by decide) (fun c_76 => ?_) (fun c_76 => ?_)
      · refine v_iinc (y := (nI ((j + 1) + 1))) (lv' := [(4, .int (nI ((j + 1) + 1))), (3, .int (nI (zom S x k j))), (0, .ref o), (1, .int x), (2, .int k)]) C 0 d_M_out_112 rfl (nI_1 _) (by decide) rfl ?_
        refine v_goto C 60 d_M_out_115 (by decide) ?_
        refine v_lv (lv' := [(4, .int (nI ((j + 1) + 1))), (3, .int (nI (zom S x k (j + 1)))), (0, .ref o), (1, .int x), (2, .int k)]) (by rw [zom, if_neg (fun z => c_76 z.1)]; rfl) ?_
        refine v_sub [0, 1, 2, 3, 4] rfl ?_
        exact ih (j + 1) v (by omega) (by omega) (by rw [zo2, if_neg (fun z => c_76 z.1)]; exact hR) hk
      · refine v_aload_n C 2 d_M_out_79 rfl rfl ?_
        refine v_get C k_M hR.1 10 (by decide) tw_493 (fun _ h => h) rfl d_M_out_80 ?_
        refine v_iload C 0 d_M_out_83 rfl ?_
        refine v_ialdN C (hR.oi (f := 10) (by decide)) (by show _ < 201; omega) (by decide) d_M_out_85 ?_
        refine v_iload_n C 3 d_M_out_86 rfl rfl ?_
        refine v_icmp_ne C 112 d_M_out_87 (by decide) (fun c_87 => ?_) (fun c_87 => ?_)
        · refine v_iinc (y := (nI ((j + 1) + 1))) (lv' := [(4, .int (nI ((j + 1) + 1))), (3, .int (nI (zom S x k j))), (0, .ref o), (1, .int x), (2, .int k)]) C 0 d_M_out_112 rfl (nI_1 _) (by decide) rfl ?_
          refine v_goto C 60 d_M_out_115 (by decide) ?_
          refine v_lv (lv' := [(4, .int (nI ((j + 1) + 1))), (3, .int (nI (zom S x k (j + 1)))), (0, .ref o), (1, .int x), (2, .int k)]) (by rw [zom, if_neg (fun z => c_87 z.2.1)]; rfl) ?_
          refine v_sub [0, 1, 2, 3, 4] rfl ?_
          exact ih (j + 1) v (by omega) (by omega) (by rw [zo2, if_neg (fun z => c_87 z.2.1)]; exact hR) hk
        · refine v_aload_n C 2 d_M_out_90 rfl rfl ?_
          refine v_get C k_M hR.1 12 (by decide) tw_495 (fun _ h => h) rfl d_M_out_91 ?_
          refine v_iload C 0 d_M_out_94 rfl ?_
          refine v_ialdN C (hR.oi (f := 12) (by decide)) (by show _ < 201; omega) (by decide) d_M_out_96 ?_
          refine v_iload_n C 4 d_M_out_97 rfl rfl ?_
          refine v_icmp_ne C 112 d_M_out_98 (by decide) (fun c_98 => ?_) (fun c_98 => ?_)
          · refine v_iinc (y := (nI ((j + 1) + 1))) (lv' := [(4, .int (nI ((j + 1) + 1))), (3, .int (nI (zom S x k j))), (0, .ref o), (1, .int x), (2, .int k)]) C 0 d_M_out_112 rfl (nI_1 _) (by decide) rfl ?_
            refine v_goto C 60 d_M_out_115 (by decide) ?_
            refine v_lv (lv' := [(4, .int (nI ((j + 1) + 1))), (3, .int (nI (zom S x k (j + 1)))), (0, .ref o), (1, .int x), (2, .int k)]) (by rw [zom, if_neg (fun z => c_98 z.2.2)]; rfl) ?_
            refine v_sub [0, 1, 2, 3, 4] rfl ?_
            exact ih (j + 1) v (by omega) (by omega) (by rw [zo2, if_neg (fun z => c_98 z.2.2)]; exact hR) hk
          · refine v_aload_n C 2 d_M_out_101 rfl rfl ?_
            refine v_get C k_M hR.1 15 (by decide) tw_498 (fun _ h => h) rfl d_M_out_102 ?_
            refine v_iload C 0 d_M_out_105 rfl ?_
            refine v_iconst (x := 3) C d_M_out_107 (by decide) ?_
            refine v_iastN C (hR.oi (f := 15) (by decide)) (by show _ < 201; omega) (by decide) d_M_out_108 ?_
            refine v_view (fun v1 ev1 => ?_)
            obtain ⟨S_1, eS_1⟩ : ∃ z, z = zui (zo2 S x k j) 15 (j + 1) 3 := ⟨_, rfl⟩
            have hR_1 : RM G v1 o ad S_1 := by rw [eS_1]; exact (by rw [ev1]; exact hR.puti 15 (by decide) (j + 1) 3)
            have hk_1 : vkeep (mX o ad) v0 v1 := by rw [ev1]; exact hk.up (mX_f (by decide))
            refine v_iinc (y := (nI ((zom S x k j) + 1))) (lv' := [(3, .int (nI ((zom S x k j) + 1))), (4, .int (nI (j + 1))), (0, .ref o), (1, .int x), (2, .int k)]) C 1 d_M_out_109 rfl (nI_1 _) (by decide) rfl ?_
            refine v_iinc (y := (nI ((j + 1) + 1))) (lv' := [(4, .int (nI ((j + 1) + 1))), (3, .int (nI ((zom S x k j) + 1))), (0, .ref o), (1, .int x), (2, .int k)]) C 1 d_M_out_112 rfl (nI_1 _) (by decide) rfl ?_
            refine v_goto C 60 d_M_out_115 (by decide) ?_
            refine v_lv (lv' := [(4, .int (nI ((j + 1) + 1))), (3, .int (nI (zom S x k (j + 1)))), (0, .ref o), (1, .int x), (2, .int k)]) (by rw [zom, if_pos ⟨c_76, c_87, c_98⟩]) ?_
            refine v_sub [0, 1, 2, 3, 4] rfl ?_
            exact ih (j + 1) v1 (by omega) (by omega) (by rw [zo2, if_pos ⟨c_76, c_87, c_98⟩]; subst eS_1; exact hR_1) hk_1
set_option maxHeartbeats 4000000 in
set_option maxRecDepth 100000 in
theorem c_M_out (l : Launch) (G : vv_G) (v : vv_V) (o : Nat) (ad : Nat → Nat) (S : zS) (x k : Int32) (hR : RM G v o ad S) (hB : zc S 0 ≤ 40 ∧ zc S 1 ≤ 200) : Mv l y_M_out b_M_out 5 (some FieldType.int) 2 46 G v [.ref o, .int x, .int k] (fun r v' => r = some (.int (oOut S x k).1) ∧ RM G v' o ad (oOut S x k).2 ∧ vkeep (mX o ad) v v') 0 0 := by
  refine vv_metF (own := "CustomerNoticesModel") (nm := "out") pf_M_out rfl rfl (Nat.le_of_ble_eq_true rfl) ?_
  intro p e s m below meth c C hin
  have hk : vkeep (mX o ad) v v := vkeep.rf
  show vV _ _ _ _ _ _ _ _ _ _ _ _ _ v 0 0 0 [(0, .ref o), (1, .int x), (2, .int k)] []
  refine v_aload_n C 0 d_M_out_0 rfl rfl ?_
  refine v_iload_n C 1 d_M_out_1 rfl rfl ?_
  refine v_callV (rest := []) C (c_M_isCustomer l G v o ad S x hR (by omega)) tw_598 tw_34 tw_595 tw_597 tw_19 mn_M_isCustomer hR.1 k_M.1 ⟨Nat.le_of_ble_eq_true rfl, Nat.le_of_ble_eq_true rfl⟩ rfl rfl (Nat.le_of_ble_eq_true rfl) d_M_out_2 ⟨(by first | exact Nat.le_of_ble_eq_true rfl | (show _ ≤ _; omega)), (by first | exact Nat.le_of_ble_eq_true rfl | (show _ ≤ _; omega))⟩ (fun r_1 v_2 hp_3 => ?_)
  rcases hp_3 with ⟨rfl, hv9, hb_2⟩ | ⟨rfl, hv9, hb_2⟩
  · obtain rfl := hv9.symm
    show vV _ _ _ _ _ _ _ _ _ _ _ _ _ v 0 0 5 [(0, .ref o), (1, .int x), (2, .int k)] [.int 1]
    refine v_if_ne C 11 d_M_out_5 (by decide) (fun _ => ?_) (fun z => absurd z (by decide))
    refine v_iload_n C 2 d_M_out_11 rfl rfl ?_
    refine v_i2l (y := (Int32.toInt64 k)) C d_M_out_12 rfl ?_
    refine v_lconst (x := 0) C d_M_out_13 (by decide) ?_
    refine v_ldc2 (x := 7) C d_M_out_14 tw_599 ?_
    refine v_callS (rest := []) C (c_M_isIn l G v (Int32.toInt64 k) 0 7) tw_588 tw_34 tw_586 tw_587 mn_M_isIn ⟨Nat.le_of_ble_eq_true rfl, Nat.le_of_ble_eq_true rfl⟩ rfl rfl (Nat.le_of_ble_eq_true rfl) d_M_out_17 ⟨(by first | exact Nat.le_of_ble_eq_true rfl | (show _ ≤ _; omega)), (by first | exact Nat.le_of_ble_eq_true rfl | (show _ ≤ _; omega))⟩ (fun r_4 v_5 hp_6 => ?_)
    rcases hp_6 with ⟨rfl, hv9, hb_17⟩ | ⟨rfl, hv9, hb_17⟩
    · obtain rfl := hv9.symm
      show vV _ _ _ _ _ _ _ _ _ _ _ _ _ v 0 0 20 [(0, .ref o), (1, .int x), (2, .int k)] [.int 1]
      refine v_if_ne C 26 d_M_out_20 (by decide) (fun _ => ?_) (fun z => absurd z (by decide))
      rw [i64_toInt] at hb_17
      have hz : zIn k 0 7 := hb_17
      have hx0 := hb_2
      obtain ⟨cu, rfl, hcu1, hcu2, hcu3⟩ := zIn_nI (a := 1) (b := zc S 0) hx0
      obtain ⟨kd, rfl, hkd1, hkd2, hkd3⟩ := zIn_nI (a := 0) (b := 7) hz
      refine v_iconst (x := 0) C d_M_out_26 (by decide) ?_
      refine v_istore_n (lv' := [(3, .int 0), (0, .ref o), (1, .int (nI cu)), (2, .int (nI kd))]) C d_M_out_27 rfl (by decide) rfl ?_
      refine v_sub [0, 1, 2, 3] rfl ?_
      refine lp_M_out1 (S := S) (v0 := v) C (by omega) (by omega) (fun va hRa hka => ?_) 5 0 _ (by omega) (by omega) hR hk
      show vV _ _ _ _ _ _ _ _ _ _ _ _ _ va 0 0 55 [(3, .int (nI 4)), (0, .ref o), (1, .int (nI cu)), (2, .int (nI kd))] []
      refine v_iconst (x := 0) C d_M_out_55 (by decide) ?_
      refine v_istore_n (lv' := [(3, .int 0), (0, .ref o), (1, .int (nI cu)), (2, .int (nI kd))]) C d_M_out_56 rfl (by decide) rfl ?_
      refine v_iconst (x := 1) C d_M_out_57 (by decide) ?_
      refine v_istore (lv' := [(4, .int 1), (3, .int 0), (0, .ref o), (1, .int (nI cu)), (2, .int (nI kd))]) C d_M_out_58 (by decide) rfl ?_
      refine v_sub [0, 1, 2, 3, 4] rfl ?_
      have q1 : zc (zo1 S ((32 * cu) + (4 * kd)) 4) 1 = zc S 1 := zo1_c _ _ _ _
      refine lp_M_out2 (S := zo1 S ((32 * cu) + (4 * kd)) 4) (v0 := v) C (by rw [q1]; omega) (fun vb hRb hkb => ?_) (zc S 1 + 1) 0 _ (Nat.zero_le _) (by rw [q1]; omega) hRa hka
      rw [q1] at hRb
      rw [q1]
      show vV _ _ _ _ _ _ _ _ _ _ _ _ _ vb 0 0 118 [(4, .int (nI (zc S 1 + 1))), (3, .int (nI (zom (zo1 S ((32 * cu) + (4 * kd)) 4) (nI cu) (nI kd) (zc S 1)))), (0, .ref o), (1, .int (nI cu)), (2, .int (nI kd))] []
      refine v_iload_n C 1 d_M_out_118 rfl rfl ?_
      exact v_iret C d_M_out_119 (by first | exact Nat.le_of_ble_eq_true rfl | (show _ ≤ _; omega)) (by first | exact Nat.le_of_ble_eq_true rfl | (show _ ≤ _; omega)) ⟨(by  rw [oOut, if_pos hx0, if_pos hz, zn_nI hcu3, zn_nI hkd3] <;> (try rfl)), (by  rw [oOut, if_pos hx0, if_pos hz, zn_nI hcu3, zn_nI hkd3]; exact hRb), hkb⟩
    · obtain rfl := hv9.symm
      show vV _ _ _ _ _ _ _ _ _ _ _ _ _ v 0 0 20 [(0, .ref o), (1, .int x), (2, .int k)] [.int 0]
      refine v_if_ne C 26 d_M_out_20 (by decide) (fun z => absurd (by decide) z) (fun _ => ?_)
      refine v_bipush (x := -12) C d_M_out_23 (by decide) ?_
      exact v_iret C d_M_out_25 (by first | exact Nat.le_of_ble_eq_true rfl | (show _ ≤ _; omega)) (by first | exact Nat.le_of_ble_eq_true rfl | (show _ ≤ _; omega)) ⟨(by rw [i64_toInt] at hb_17; rw [oOut, if_pos hb_2, if_neg (show ¬ zIn k 0 7 from hb_17)] <;> (try rfl)), (by rw [i64_toInt] at hb_17; rw [oOut, if_pos hb_2, if_neg (show ¬ zIn k 0 7 from hb_17)]; exact hR), hk⟩
  · obtain rfl := hv9.symm
    show vV _ _ _ _ _ _ _ _ _ _ _ _ _ v 0 0 5 [(0, .ref o), (1, .int x), (2, .int k)] [.int 0]
    refine v_if_ne C 11 d_M_out_5 (by decide) (fun z => absurd (by decide) z) (fun _ => ?_)
    refine v_bipush (x := -11) C d_M_out_8 (by decide) ?_
    exact v_iret C d_M_out_10 (by first | exact Nat.le_of_ble_eq_true rfl | (show _ ≤ _; omega)) (by first | exact Nat.le_of_ble_eq_true rfl | (show _ ≤ _; omega)) ⟨(by  rw [oOut, if_neg hb_2] <;> (try rfl)), (by  rw [oOut, if_neg hb_2]; exact hR), hk⟩
set_option maxHeartbeats 4000000 in
set_option maxRecDepth 100000 in
theorem c_M_undo (l : Launch) (G : vv_G) (v : vv_V) (o : Nat) (ad : Nat → Nat) (S : zS) (n : Nat) (hR : RM G v o ad S) (h2 : n ≤ 200) (hB : zc S 2 ≤ 60) (hE : zE (zi S 12 n) → ∃ j, zpf S (zi S 10 n) (zi S 11 n) (zc S 2) = some j) : Mv l y_M_undo b_M_undo 2 none 1 24 G v [.ref o, .int (nI n)] (fun r v' => r = none ∧ RM G v' o ad (zundo S n) ∧ vkeep (mX o ad) v v') 0 0 := by
  refine vv_metF (own := "CustomerNoticesModel") (nm := "undo") pf_M_undo rfl rfl (Nat.le_of_ble_eq_true rfl) ?_
  intro p e s m below meth c C hin
  have hk : vkeep (mX o ad) v v := vkeep.rf
  show vV _ _ _ _ _ _ _ _ _ _ _ _ _ v 0 0 0 [(0, .ref o), (1, .int (nI n))] []
  refine v_aload_n C 0 d_M_undo_0 rfl rfl ?_
  refine v_get C k_M hR.1 12 (by decide) tw_495 (fun _ h => h) rfl d_M_undo_1 ?_
  refine v_iload_n C 1 d_M_undo_4 rfl rfl ?_
  refine v_ialdN C (hR.oi (f := 12) (by decide)) (by show _ < 201; omega) (by decide) d_M_undo_5 ?_
  refine v_iconst (x := 5) C d_M_undo_6 (by decide) ?_
  refine v_icmp_eq C 21 d_M_undo_7 (by decide) (fun c_7 => ?_) (fun c_7 => ?_)
  · refine v_aload_n C 0 d_M_undo_21 rfl rfl ?_
    refine v_get C k_M hR.1 21 (by decide) tw_504 (fun _ h => h) rfl d_M_undo_22 ?_
    refine v_aload_n C 0 d_M_undo_25 rfl rfl ?_
    refine v_aload_n C 0 d_M_undo_26 rfl rfl ?_
    refine v_get C k_M hR.1 10 (by decide) tw_493 (fun _ h => h) rfl d_M_undo_27 ?_
    refine v_iload_n C 1 d_M_undo_30 rfl rfl ?_
    refine v_ialdN C (hR.oi (f := 10) (by decide)) (by show _ < 201; omega) (by decide) d_M_undo_31 ?_
    refine v_aload_n C 0 d_M_undo_32 rfl rfl ?_
    refine v_get C k_M hR.1 11 (by decide) tw_494 (fun _ h => h) rfl d_M_undo_33 ?_
    refine v_iload_n C 1 d_M_undo_36 rfl rfl ?_
    refine v_ialdN C (hR.oi (f := 11) (by decide)) (by show _ < 201; omega) (by decide) d_M_undo_37 ?_
    refine v_callV (rest := [.ref (ad 21)]) C (c_M_pairOf l G v o ad S (zi S 10 n) (zi S 11 n) hR (by omega)) tw_623 tw_34 tw_620 tw_622 tw_22 mn_M_pairOf hR.1 k_M.1 ⟨Nat.le_of_ble_eq_true rfl, Nat.le_of_ble_eq_true rfl⟩ rfl rfl (Nat.le_of_ble_eq_true rfl) d_M_undo_38 ⟨(by first | exact Nat.le_of_ble_eq_true rfl | (show _ ≤ _; omega)), (by first | exact Nat.le_of_ble_eq_true rfl | (show _ ≤ _; omega))⟩ (fun r_1 v_2 hp_3 => ?_)
    obtain ⟨rfl, hv9⟩ := hp_3
    obtain rfl := hv9.symm
    rcases hpr : zpf S (zi S 10 n) (zi S 11 n) (zc S 2) with _ | pk
    · show vV _ _ _ _ _ _ _ _ _ _ _ _ _ v 0 0 41 [(0, .ref o), (1, .int (nI n))] [.int (-1), .ref (ad 21)]
      obtain ⟨jj, hj⟩ := hE (Or.inl c_7)
      rw [hj] at hpr
      cases hpr
    · have hpl := zpf_lt hpr
      show vV _ _ _ _ _ _ _ _ _ _ _ _ _ v 0 0 41 [(0, .ref o), (1, .int (nI n))] [.int (nI pk), .ref (ad 21)]
      refine v_iconst (x := 0) C d_M_undo_41 (by decide) ?_
      refine v_zastN C (hR.oz (f := 21) (by decide)) (by show _ < 60; omega) (by decide) d_M_undo_42 ?_
      refine v_view (fun v1 ev1 => ?_)
      obtain ⟨S_4, eS_4⟩ : ∃ z, z = zui S 21 pk 0 := ⟨_, rfl⟩
      have hR_4 : RM G v1 o ad S_4 := by rw [eS_4]; exact (by rw [ev1]; exact hR.putz 21 (by decide) pk 0 0 (by decide))
      have hk_4 : vkeep (mX o ad) v v1 := by rw [ev1]; exact hk.up (mX_f (by decide))
      exact v_vret C d_M_undo_43 (by first | exact Nat.le_of_ble_eq_true rfl | (show _ ≤ _; omega)) (by first | exact Nat.le_of_ble_eq_true rfl | (show _ ≤ _; omega)) ⟨rfl, (by rw [zundo_s (Or.inl c_7) hpr]; subst eS_4; exact hR_4), hk_4⟩
  · refine v_aload_n C 0 d_M_undo_10 rfl rfl ?_
    refine v_get C k_M hR.1 12 (by decide) tw_495 (fun _ h => h) rfl d_M_undo_11 ?_
    refine v_iload_n C 1 d_M_undo_14 rfl rfl ?_
    refine v_ialdN C (hR.oi (f := 12) (by decide)) (by show _ < 201; omega) (by decide) d_M_undo_15 ?_
    refine v_bipush (x := 6) C d_M_undo_16 (by decide) ?_
    refine v_icmp_ne C 43 d_M_undo_18 (by decide) (fun c_18 => ?_) (fun c_18 => ?_)
    · exact v_vret C d_M_undo_43 (by first | exact Nat.le_of_ble_eq_true rfl | (show _ ≤ _; omega)) (by first | exact Nat.le_of_ble_eq_true rfl | (show _ ≤ _; omega)) ⟨rfl, (by rw [zundo_n (fun z => by rcases z with z | z; exact c_7 z; exact c_18 z)]; exact hR), hk⟩
    · refine v_aload_n C 0 d_M_undo_21 rfl rfl ?_
      refine v_get C k_M hR.1 21 (by decide) tw_504 (fun _ h => h) rfl d_M_undo_22 ?_
      refine v_aload_n C 0 d_M_undo_25 rfl rfl ?_
      refine v_aload_n C 0 d_M_undo_26 rfl rfl ?_
      refine v_get C k_M hR.1 10 (by decide) tw_493 (fun _ h => h) rfl d_M_undo_27 ?_
      refine v_iload_n C 1 d_M_undo_30 rfl rfl ?_
      refine v_ialdN C (hR.oi (f := 10) (by decide)) (by show _ < 201; omega) (by decide) d_M_undo_31 ?_
      refine v_aload_n C 0 d_M_undo_32 rfl rfl ?_
      refine v_get C k_M hR.1 11 (by decide) tw_494 (fun _ h => h) rfl d_M_undo_33 ?_
      refine v_iload_n C 1 d_M_undo_36 rfl rfl ?_
      refine v_ialdN C (hR.oi (f := 11) (by decide)) (by show _ < 201; omega) (by decide) d_M_undo_37 ?_
      refine v_callV (rest := [.ref (ad 21)]) C (c_M_pairOf l G v o ad S (zi S 10 n) (zi S 11 n) hR (by omega)) tw_623 tw_34 tw_620 tw_622 tw_22 mn_M_pairOf hR.1 k_M.1 ⟨Nat.le_of_ble_eq_true rfl, Nat.le_of_ble_eq_true rfl⟩ rfl rfl (Nat.le_of_ble_eq_true rfl) d_M_undo_38 ⟨(by first | exact Nat.le_of_ble_eq_true rfl | (show _ ≤ _; omega)), (by first | exact Nat.le_of_ble_eq_true rfl | (show _ ≤ _; omega))⟩ (fun r_5 v_6 hp_7 => ?_)
      obtain ⟨rfl, hv9⟩ := hp_7
      obtain rfl := hv9.symm
      rcases hpr : zpf S (zi S 10 n) (zi S 11 n) (zc S 2) with _ | pk
      · show vV _ _ _ _ _ _ _ _ _ _ _ _ _ v 0 0 41 [(0, .ref o), (1, .int (nI n))] [.int (-1), .ref (ad 21)]
        obtain ⟨jj, hj⟩ := hE (Or.inr c_18)
        rw [hj] at hpr
        cases hpr
      · have hpl := zpf_lt hpr
        show vV _ _ _ _ _ _ _ _ _ _ _ _ _ v 0 0 41 [(0, .ref o), (1, .int (nI n))] [.int (nI pk), .ref (ad 21)]
        refine v_iconst (x := 0) C d_M_undo_41 (by decide) ?_
        refine v_zastN C (hR.oz (f := 21) (by decide)) (by show _ < 60; omega) (by decide) d_M_undo_42 ?_
        refine v_view (fun v2 ev2 => ?_)
        obtain ⟨S_8, eS_8⟩ : ∃ z, z = zui S 21 pk 0 := ⟨_, rfl⟩
        have hR_8 : RM G v2 o ad S_8 := by rw [eS_8]; exact (by rw [ev2]; exact hR.putz 21 (by decide) pk 0 0 (by decide))
        have hk_8 : vkeep (mX o ad) v v2 := by rw [ev2]; exact hk.up (mX_f (by decide))
        exact v_vret C d_M_undo_43 (by first | exact Nat.le_of_ble_eq_true rfl | (show _ ≤ _; omega)) (by first | exact Nat.le_of_ble_eq_true rfl | (show _ ≤ _; omega)) ⟨rfl, (by rw [zundo_s (Or.inr c_18) hpr]; subst eS_8; exact hR_8), hk_8⟩
set_option maxHeartbeats 4000000 in
set_option maxRecDepth 100000 in
theorem c_M_correct (l : Launch) (G : vv_G) (v : vv_V) (o : Nat) (ad : Nat → Nat) (S : zS) (x : Int32) (t : Int64) (hR : RM G v o ad S) (hB : zc S 0 ≤ 40 ∧ zc S 1 ≤ 200 ∧ zc S 2 ≤ 60) (hB2 : zB2 S) (hB5 : zB5 S) : Mv l y_M_correct b_M_correct 5 (some FieldType.int) 2 47 G v [.ref o, .int x, .long t] (fun r v' => r = some (.int (oCorr S x t).1) ∧ RM G v' o ad (oCorr S x t).2 ∧ vkeep (mX o ad) v v') 0 0 := by
  refine vv_metF (own := "CustomerNoticesModel") (nm := "correct") pf_M_correct rfl rfl (Nat.le_of_ble_eq_true rfl) ?_
  intro p e s m below meth c C hin
  have hk : vkeep (mX o ad) v v := vkeep.rf
  have hBp := hB.2.2
  show vV _ _ _ _ _ _ _ _ _ _ _ _ _ v 0 0 0 [(0, .ref o), (1, .int x), (2, .long t)] []
  refine v_iload_n C 1 d_M_correct_0 rfl rfl ?_
  refine v_i2l (y := (Int32.toInt64 x)) C d_M_correct_1 rfl ?_
  refine v_lconst (x := 1) C d_M_correct_2 (by decide) ?_
  refine v_aload_n C 0 d_M_correct_3 rfl rfl ?_
  refine v_get C k_M hR.1 9 (by decide) tw_492 (fun _ h => h) rfl d_M_correct_4 ?_
  refine v_i2l (y := (Int32.toInt64 (nI (zc S 1)))) C d_M_correct_7 rfl ?_
  refine v_callS (rest := []) C (c_M_isIn l G v (Int32.toInt64 x) 1 (Int32.toInt64 (nI (zc S 1)))) tw_588 tw_34 tw_586 tw_587 mn_M_isIn ⟨Nat.le_of_ble_eq_true rfl, Nat.le_of_ble_eq_true rfl⟩ rfl rfl (Nat.le_of_ble_eq_true rfl) d_M_correct_8 ⟨(by first | exact Nat.le_of_ble_eq_true rfl | (show _ ≤ _; omega)), (by first | exact Nat.le_of_ble_eq_true rfl | (show _ ≤ _; omega))⟩ (fun r_1 v_2 hp_3 => ?_)
  rcases hp_3 with ⟨rfl, hv9, hb_8⟩ | ⟨rfl, hv9, hb_8⟩
  · obtain rfl := hv9.symm
    show vV _ _ _ _ _ _ _ _ _ _ _ _ _ v 0 0 11 [(0, .ref o), (1, .int x), (2, .long t)] [.int 1]
    refine v_if_ne C 17 d_M_correct_11 (by decide) (fun _ => ?_) (fun z => absurd z (by decide))
    refine v_aload_n C 0 d_M_correct_17 rfl rfl ?_
    refine v_lload_n C 2 d_M_correct_18 rfl rfl ?_
    refine v_callV (rest := []) C (c_M_isTime l G v o ad S t hR) tw_618 tw_34 tw_615 tw_617 tw_21 mn_M_isTime hR.1 k_M.1 ⟨Nat.le_of_ble_eq_true rfl, Nat.le_of_ble_eq_true rfl⟩ rfl rfl (Nat.le_of_ble_eq_true rfl) d_M_correct_19 ⟨(by first | exact Nat.le_of_ble_eq_true rfl | (show _ ≤ _; omega)), (by first | exact Nat.le_of_ble_eq_true rfl | (show _ ≤ _; omega))⟩ (fun r_4 v_5 hp_6 => ?_)
    rcases hp_6 with ⟨rfl, hv9, hb_19⟩ | ⟨rfl, hv9, hb_19⟩
    · obtain rfl := hv9.symm
      show vV _ _ _ _ _ _ _ _ _ _ _ _ _ v 0 0 22 [(0, .ref o), (1, .int x), (2, .long t)] [.int 1]
      refine v_if_ne C 28 d_M_correct_22 (by decide) (fun _ => ?_) (fun z => absurd z (by decide))
      rw [i64_toInt, i64_toInt, nI_toInt (by omega)] at hb_8
      have hx0 : zIn x 1 (zc S 1) := hb_8
      obtain ⟨n, rfl, hn1, hn2, hn3⟩ := zIn_nI (a := 1) (b := zc S 1) hx0
      obtain ⟨cn, kd, e10, hc1, hc2, e12, hk7⟩ := hB2 n hn1 hn2
      have e13 : zn (zi S 10 n) = cn := by rw [e10]; exact zn_nI (by omega)
      have e14 : zn (zi S 12 n) = kd := by rw [e12]; exact zn_nI (by omega)
      refine v_aload_n C 0 d_M_correct_28 rfl rfl ?_
      refine v_get C k_M hR.1 15 (by decide) tw_498 (fun _ h => h) rfl d_M_correct_29 ?_
      refine v_iload_n C 1 d_M_correct_32 rfl rfl ?_
      refine v_ialdN C (hR.oi (f := 15) (by decide)) (by show _ < 201; omega) (by decide) d_M_correct_33 ?_
      refine v_iconst (x := 2) C d_M_correct_34 (by decide) ?_
      refine v_icmp_eq C 66 d_M_correct_35 (by decide) (fun c_35 => ?_) (fun c_35 => ?_)
      · refine v_bipush (x := -13) C d_M_correct_66 (by decide) ?_
        exact v_iret C d_M_correct_68 (by first | exact Nat.le_of_ble_eq_true rfl | (show _ ≤ _; omega)) (by first | exact Nat.le_of_ble_eq_true rfl | (show _ ≤ _; omega)) ⟨(by  rw [oCorr, zn_nI hn3, if_pos hx0, if_pos hb_19, if_pos (Or.inl c_35)] <;> (try rfl)), (by  rw [oCorr, zn_nI hn3, if_pos hx0, if_pos hb_19, if_pos (Or.inl c_35)]; exact hR), hk⟩
      · refine v_aload_n C 0 d_M_correct_38 rfl rfl ?_
        refine v_get C k_M hR.1 15 (by decide) tw_498 (fun _ h => h) rfl d_M_correct_39 ?_
        refine v_iload_n C 1 d_M_correct_42 rfl rfl ?_
        refine v_ialdN C (hR.oi (f := 15) (by decide)) (by show _ < 201; omega) (by decide) d_M_correct_43 ?_
        refine v_iconst (x := 3) C d_M_correct_44 (by decide) ?_
        refine v_icmp_eq C 66 d_M_correct_45 (by decide) (fun c_45 => ?_) (fun c_45 => ?_)
        · refine v_bipush (x := -13) C d_M_correct_66 (by decide) ?_
          exact v_iret C d_M_correct_68 (by first | exact Nat.le_of_ble_eq_true rfl | (show _ ≤ _; omega)) (by first | exact Nat.le_of_ble_eq_true rfl | (show _ ≤ _; omega)) ⟨(by  rw [oCorr, zn_nI hn3, if_pos hx0, if_pos hb_19, if_pos (Or.inr (Or.inl c_45))] <;> (try rfl)), (by  rw [oCorr, zn_nI hn3, if_pos hx0, if_pos hb_19, if_pos (Or.inr (Or.inl c_45))]; exact hR), hk⟩
        · refine v_aload_n C 0 d_M_correct_48 rfl rfl ?_
          refine v_get C k_M hR.1 17 (by decide) tw_500 (fun _ h => h) rfl d_M_correct_49 ?_
          refine v_iload_n C 1 d_M_correct_52 rfl rfl ?_
          refine v_zaldN C (hR.oz (f := 17) (by decide)) (by show _ < 201; omega) (by decide) d_M_correct_53 ?_
          refine v_if_ne C 66 d_M_correct_54 (by decide) (fun c_54 => ?_) (fun c_54 => ?_)
          · refine v_bipush (x := -13) C d_M_correct_66 (by decide) ?_
            exact v_iret C d_M_correct_68 (by first | exact Nat.le_of_ble_eq_true rfl | (show _ ≤ _; omega)) (by first | exact Nat.le_of_ble_eq_true rfl | (show _ ≤ _; omega)) ⟨(by  rw [oCorr, zn_nI hn3, if_pos hx0, if_pos hb_19, if_pos (Or.inr (Or.inr (Or.inl c_54)))] <;> (try rfl)), (by  rw [oCorr, zn_nI hn3, if_pos hx0, if_pos hb_19, if_pos (Or.inr (Or.inr (Or.inl c_54)))]; exact hR), hk⟩
          · refine v_aload_n C 0 d_M_correct_57 rfl rfl ?_
            refine v_get C k_M hR.1 16 (by decide) tw_499 (fun _ h => h) rfl d_M_correct_58 ?_
            refine v_iload_n C 1 d_M_correct_61 rfl rfl ?_
            refine v_zaldN C (hR.oz (f := 16) (by decide)) (by show _ < 201; omega) (by decide) d_M_correct_62 ?_
            refine v_if_eq C 69 d_M_correct_63 (by decide) (fun c_63 => ?_) (fun c_63 => ?_)
            · refine v_aload_n C 0 d_M_correct_69 rfl rfl ?_
              refine v_get C k_M hR.1 15 (by decide) tw_498 (fun _ h => h) rfl d_M_correct_70 ?_
              refine v_iload_n C 1 d_M_correct_73 rfl rfl ?_
              refine v_ialdN C (hR.oi (f := 15) (by decide)) (by show _ < 201; omega) (by decide) d_M_correct_74 ?_
              refine v_if_ne C 92 d_M_correct_75 (by decide) (fun c_75 => ?_) (fun c_75 => ?_)
              · refine v_aload_n C 0 d_M_correct_92 rfl rfl ?_
                refine v_aload_n C 0 d_M_correct_93 rfl rfl ?_
                refine v_get C k_M hR.1 10 (by decide) tw_493 (fun _ h => h) rfl d_M_correct_94 ?_
                refine v_iload_n C 1 d_M_correct_97 rfl rfl ?_
                refine v_ialdN C (hR.oi (f := 10) (by decide)) (by show _ < 201; omega) (by decide) d_M_correct_98 ?_
                refine v_toi (y := (nI cn)) e10 ?_
                refine v_aload_n C 0 d_M_correct_99 rfl rfl ?_
                refine v_get C k_M hR.1 12 (by decide) tw_495 (fun _ h => h) rfl d_M_correct_100 ?_
                refine v_iload_n C 1 d_M_correct_103 rfl rfl ?_
                refine v_ialdN C (hR.oi (f := 12) (by decide)) (by show _ < 201; omega) (by decide) d_M_correct_104 ?_
                refine v_toi (y := (nI kd)) e12 ?_
                have hwl_105 := zwn_le S (32 * cn + 4 * kd) 4
                refine v_callV (rest := []) C (c_M_wished l G v o ad S cn kd hR (by omega) (by omega)) tw_604 tw_34 tw_601 tw_603 tw_20 mn_M_wished hR.1 k_M.1 ⟨Nat.le_of_ble_eq_true rfl, Nat.le_of_ble_eq_true rfl⟩ rfl rfl (Nat.le_of_ble_eq_true rfl) d_M_correct_105 ⟨(by first | exact Nat.le_of_ble_eq_true rfl | (show _ ≤ _; omega)), (by first | exact Nat.le_of_ble_eq_true rfl | (show _ ≤ _; omega))⟩ (fun r_7 v_8 hp_9 => ?_)
                obtain ⟨rfl, hv9⟩ := hp_9
                obtain rfl := hv9.symm
                show vV _ _ _ _ _ _ _ _ _ _ _ _ _ v 0 0 108 [(0, .ref o), (1, .int (nI n)), (2, .long t)] [.int (nI (zwn S (32 * cn + 4 * kd) 4))]
                refine v_if_le C 115 d_M_correct_108 (by decide) (fun c_108 => ?_) (fun c_108 => ?_)
                · have n_108 : (zwn S (32 * cn + 4 * kd) 4) ≤ 0 := (nI_leI (a := (zwn S (32 * cn + 4 * kd) 4)) (b := 0) (by omega) (by omega)).mp c_108
                  refine v_iconst (x := 0) C d_M_correct_115 (by decide) ?_
                  refine v_istore (lv' := [(4, .int 0), (0, .ref o), (1, .int (nI n)), (2, .long t)]) C d_M_correct_116 (by decide) rfl ?_
                  refine v_iload C 0 d_M_correct_118 rfl ?_
                  refine v_if_eq C 136 d_M_correct_120 (by decide) (fun _ => ?_) (fun z => absurd (by decide) z)
                  refine v_aload_n C 1 d_M_correct_136 rfl rfl ?_
                  refine v_get C k_M hR.1 17 (by decide) tw_500 (fun _ h => h) rfl d_M_correct_137 ?_
                  refine v_iload_n C 2 d_M_correct_140 rfl rfl ?_
                  refine v_iconst (x := 1) C d_M_correct_141 (by decide) ?_
                  refine v_zastN C (hR.oz (f := 17) (by decide)) (by show _ < 201; omega) (by decide) d_M_correct_142 ?_
                  refine v_view (fun v1 ev1 => ?_)
                  obtain ⟨S_10, eS_10⟩ : ∃ z, z = zui S 17 n 1 := ⟨_, rfl⟩
                  have hR_10 : RM G v1 o ad S_10 := by rw [eS_10]; exact (by rw [ev1]; exact hR.putz 17 (by decide) n 1 1 (by decide))
                  have hk_10 : vkeep (mX o ad) v v1 := by rw [ev1]; exact hk.up (mX_f (by decide))
                  refine v_aload_n C 1 d_M_correct_143 rfl rfl ?_
                  refine v_iload_n C 2 d_M_correct_144 rfl rfl ?_
                  refine v_callV (rest := []) C (c_M_undo l G v1 o ad S_10 n hR_10 (by omega) (by rw [eS_10]; exact hBp) (by rw [eS_10]; intro h; obtain ⟨j, hj⟩ := hB5 n hn1 hn2 h; exact ⟨j, (zpf_ui (by decide) (by decide)).trans hj⟩)) tw_680 tw_34 tw_677 tw_679 tw_28 mn_M_undo hR_10.1 k_M.1 ⟨Nat.le_of_ble_eq_true rfl, Nat.le_of_ble_eq_true rfl⟩ rfl rfl (Nat.le_of_ble_eq_true rfl) d_M_correct_145 ⟨(by first | exact Nat.le_of_ble_eq_true rfl | (show _ ≤ _; omega)), (by first | exact Nat.le_of_ble_eq_true rfl | (show _ ≤ _; omega))⟩ (fun r_11 v_12 hp_13 => ?_)
                  obtain ⟨rfl, hRc_hp_13, hkc_hp_13⟩ := hp_13
                  obtain ⟨S_14, eS_14⟩ : ∃ z, z = zundo S_10 n := ⟨_, rfl⟩
                  have hR_14 : RM G v_12 o ad S_14 := by rw [eS_14]; exact hRc_hp_13
                  have hk_14 : vkeep (mX o ad) v v_12 := hk_10.tr hkc_hp_13
                  show vV _ _ _ _ _ _ _ _ _ _ _ _ _ v_12 0 0 148 [(4, .int 0), (0, .ref o), (1, .int (nI n)), (2, .long t)] []
                  have hc1 : zc S_14 1 = zc S 1 := by rw [eS_14, zundo_c, eS_10]; rfl
                  refine v_iload C 0 d_M_correct_148 rfl ?_
                  refine v_if_eq C 183 d_M_correct_150 (by decide) (fun _ => ?_) (fun z => absurd (by decide) z)
                  refine v_iconst (x := 0) C d_M_correct_183 (by decide) ?_
                  exact v_iret C d_M_correct_184 (by first | exact Nat.le_of_ble_eq_true rfl | (show _ ≤ _; omega)) (by first | exact Nat.le_of_ble_eq_true rfl | (show _ ≤ _; omega)) ⟨(by  rw [oCorr, zn_nI hn3, if_pos hx0, if_pos hb_19, if_neg (by intro z; rcases z with z | z | z | z; exact c_35 z; exact c_45 z; exact z c_54; exact z c_63), if_neg c_75, e13, e14, if_neg (by intro z; first | exact n_130 z.2 | (have z1 := z.1; omega)), if_neg (by omega)] <;> (try rfl)), (by  rw [oCorr, zn_nI hn3, if_pos hx0, if_pos hb_19, if_neg (by intro z; rcases z with z | z | z | z; exact c_35 z; exact c_45 z; exact z c_54; exact z c_63), if_neg c_75, e13, e14, if_neg (by intro z; first | exact n_130 z.2 | (have z1 := z.1; omega)), if_neg (by omega)]; subst eS_10 eS_14; exact hR_14), hk_14⟩
                · have n_108 : ¬ (zwn S (32 * cn + 4 * kd) 4) ≤ 0 := mt (nI_leI (a := (zwn S (32 * cn + 4 * kd) 4)) (b := 0) (by omega) (by omega)).mpr c_108
                  refine v_iconst (x := 1) C d_M_correct_111 (by decide) ?_
                  refine v_goto C 116 d_M_correct_112 (by decide) ?_
                  refine v_istore (lv' := [(4, .int 1), (0, .ref o), (1, .int (nI n)), (2, .long t)]) C d_M_correct_116 (by decide) rfl ?_
                  refine v_iload C 0 d_M_correct_118 rfl ?_
                  refine v_if_eq C 136 d_M_correct_120 (by decide) (fun z => absurd z (by decide)) (fun _ => ?_)
                  refine v_aload_n C 1 d_M_correct_123 rfl rfl ?_
                  refine v_get C k_M hR.1 9 (by decide) tw_492 (fun _ h => h) rfl d_M_correct_124 ?_
                  refine v_sipush (x := 200) C d_M_correct_127 (by decide) ?_
                  refine v_icmp_ne C 136 d_M_correct_130 (by decide) (fun c_130 => ?_) (fun c_130 => ?_)
                  · have n_130 : ¬ (zc S 1) = 200 := mt (nI_eq (a := (zc S 1)) (b := 200) (by omega) (by omega)).mpr c_130
                    refine v_aload_n C 1 d_M_correct_136 rfl rfl ?_
                    refine v_get C k_M hR.1 17 (by decide) tw_500 (fun _ h => h) rfl d_M_correct_137 ?_
                    refine v_iload_n C 2 d_M_correct_140 rfl rfl ?_
                    refine v_iconst (x := 1) C d_M_correct_141 (by decide) ?_
                    refine v_zastN C (hR.oz (f := 17) (by decide)) (by show _ < 201; omega) (by decide) d_M_correct_142 ?_
                    refine v_view (fun v2 ev2 => ?_)
                    obtain ⟨S_15, eS_15⟩ : ∃ z, z = zui S 17 n 1 := ⟨_, rfl⟩
                    have hR_15 : RM G v2 o ad S_15 := by rw [eS_15]; exact (by rw [ev2]; exact hR.putz 17 (by decide) n 1 1 (by decide))
                    have hk_15 : vkeep (mX o ad) v v2 := by rw [ev2]; exact hk.up (mX_f (by decide))
                    refine v_aload_n C 1 d_M_correct_143 rfl rfl ?_
                    refine v_iload_n C 2 d_M_correct_144 rfl rfl ?_
                    refine v_callV (rest := []) C (c_M_undo l G v2 o ad S_15 n hR_15 (by omega) (by rw [eS_15]; exact hBp) (by rw [eS_15]; intro h; obtain ⟨j, hj⟩ := hB5 n hn1 hn2 h; exact ⟨j, (zpf_ui (by decide) (by decide)).trans hj⟩)) tw_680 tw_34 tw_677 tw_679 tw_28 mn_M_undo hR_15.1 k_M.1 ⟨Nat.le_of_ble_eq_true rfl, Nat.le_of_ble_eq_true rfl⟩ rfl rfl (Nat.le_of_ble_eq_true rfl) d_M_correct_145 ⟨(by first | exact Nat.le_of_ble_eq_true rfl | (show _ ≤ _; omega)), (by first | exact Nat.le_of_ble_eq_true rfl | (show _ ≤ _; omega))⟩ (fun r_16 v_17 hp_18 => ?_)
                    obtain ⟨rfl, hRc_hp_18, hkc_hp_18⟩ := hp_18
                    obtain ⟨S_19, eS_19⟩ : ∃ z, z = zundo S_15 n := ⟨_, rfl⟩
                    have hR_19 : RM G v_17 o ad S_19 := by rw [eS_19]; exact hRc_hp_18
                    have hk_19 : vkeep (mX o ad) v v_17 := hk_15.tr hkc_hp_18
                    show vV _ _ _ _ _ _ _ _ _ _ _ _ _ v_17 0 0 148 [(4, .int 1), (0, .ref o), (1, .int (nI n)), (2, .long t)] []
                    have hc1 : zc S_19 1 = zc S 1 := by rw [eS_19, zundo_c, eS_15]; rfl
                    refine v_iload C 0 d_M_correct_148 rfl ?_
                    refine v_if_eq C 183 d_M_correct_150 (by decide) (fun z => absurd z (by decide)) (fun _ => ?_)
                    refine v_aload_n C 1 d_M_correct_153 rfl rfl ?_
                    refine v_aload_n C 1 d_M_correct_154 rfl rfl ?_
                    refine v_get C k_M hR_19.1 10 (by decide) tw_493 (fun _ h => h) rfl d_M_correct_155 ?_
                    refine v_iload_n C 2 d_M_correct_158 rfl rfl ?_
                    refine v_ialdN C (hR_19.oi (f := 10) (by decide)) (by show _ < 201; omega) (by decide) d_M_correct_159 ?_
                    refine v_toi (y := (zi S 10 n)) (by rw [eS_19, zundo_i _ _ _ _ (by decide), eS_15]; rfl) ?_
                    refine v_aload_n C 1 d_M_correct_160 rfl rfl ?_
                    refine v_get C k_M hR_19.1 11 (by decide) tw_494 (fun _ h => h) rfl d_M_correct_161 ?_
                    refine v_iload_n C 2 d_M_correct_164 rfl rfl ?_
                    refine v_ialdN C (hR_19.oi (f := 11) (by decide)) (by show _ < 201; omega) (by decide) d_M_correct_165 ?_
                    refine v_toi (y := (zi S 11 n)) (by rw [eS_19, zundo_i _ _ _ _ (by decide), eS_15]; rfl) ?_
                    refine v_aload_n C 1 d_M_correct_166 rfl rfl ?_
                    refine v_get C k_M hR_19.1 12 (by decide) tw_495 (fun _ h => h) rfl d_M_correct_167 ?_
                    refine v_iload_n C 2 d_M_correct_170 rfl rfl ?_
                    refine v_ialdN C (hR_19.oi (f := 12) (by decide)) (by show _ < 201; omega) (by decide) d_M_correct_171 ?_
                    refine v_toi (y := (zi S 12 n)) (by rw [eS_19, zundo_i _ _ _ _ (by decide), eS_15]; rfl) ?_
                    refine v_lload_n C 3 d_M_correct_172 rfl rfl ?_
                    refine v_ldc2 (x := -1) C d_M_correct_173 tw_628 ?_
                    refine v_iconst (x := 1) C d_M_correct_176 (by decide) ?_
                    refine v_callV (rest := []) C (c_M_put l G v_17 o ad S_19 (zi S 10 n) (zi S 11 n) (zi S 12 n) t (-1) 1 hR_19 (by rw [hc1]; omega) (by first | exact Or.inl rfl | exact Or.inr rfl)) tw_632 tw_34 tw_629 tw_631 tw_24 mn_M_put hR_19.1 k_M.1 ⟨Nat.le_of_ble_eq_true rfl, Nat.le_of_ble_eq_true rfl⟩ rfl rfl (Nat.le_of_ble_eq_true rfl) d_M_correct_177 ⟨(by first | exact Nat.le_of_ble_eq_true rfl | (show _ ≤ _; omega)), (by first | exact Nat.le_of_ble_eq_true rfl | (show _ ≤ _; omega))⟩ (fun r_20 v_21 hp_22 => ?_)
                    obtain ⟨rfl, hRc_hp_22, hkc_hp_22⟩ := hp_22
                    obtain ⟨S_23, eS_23⟩ : ∃ z, z = zput S_19 (zi S 10 n) (zi S 11 n) (zi S 12 n) t (-1) 1 := ⟨_, rfl⟩
                    have hR_23 : RM G v_21 o ad S_23 := by rw [eS_23]; exact hRc_hp_22
                    have hk_23 : vkeep (mX o ad) v v_21 := hk_19.tr hkc_hp_22
                    show vV _ _ _ _ _ _ _ _ _ _ _ _ _ v_21 0 0 180 [(4, .int 1), (0, .ref o), (1, .int (nI n)), (2, .long t)] [.int (nI (zc S_19 1 + 1))]
                    refine v_toi (y := nI (zc S 1 + 1)) (by rw [hc1]) ?_
                    refine v_goto C 184 d_M_correct_180 (by decide) ?_
                    exact v_iret C d_M_correct_184 (by first | exact Nat.le_of_ble_eq_true rfl | (show _ ≤ _; omega)) (by first | exact Nat.le_of_ble_eq_true rfl | (show _ ≤ _; omega)) ⟨(by  rw [oCorr, zn_nI hn3, if_pos hx0, if_pos hb_19, if_neg (by intro z; rcases z with z | z | z | z; exact c_35 z; exact c_45 z; exact z c_54; exact z c_63), if_neg c_75, e13, e14, if_neg (by intro z; first | exact n_130 z.2 | (have z1 := z.1; omega)), if_pos (by omega)] <;> (try rfl)), (by  rw [oCorr, zn_nI hn3, if_pos hx0, if_pos hb_19, if_neg (by intro z; rcases z with z | z | z | z; exact c_35 z; exact c_45 z; exact z c_54; exact z c_63), if_neg c_75, e13, e14, if_neg (by intro z; first | exact n_130 z.2 | (have z1 := z.1; omega)), if_pos (by omega)]; subst eS_15 eS_19 eS_23; exact hR_23), hk_23⟩
                  · have n_130 : (zc S 1) = 200 := (nI_eq (a := (zc S 1)) (b := 200) (by omega) (by omega)).mp c_130
                    refine v_bipush (x := -14) C d_M_correct_133 (by decide) ?_
                    exact v_iret C d_M_correct_135 (by first | exact Nat.le_of_ble_eq_true rfl | (show _ ≤ _; omega)) (by first | exact Nat.le_of_ble_eq_true rfl | (show _ ≤ _; omega)) ⟨(by  rw [oCorr, zn_nI hn3, if_pos hx0, if_pos hb_19, if_neg (by intro z; rcases z with z | z | z | z; exact c_35 z; exact c_45 z; exact z c_54; exact z c_63), if_neg c_75, e13, e14, if_pos ⟨by omega, n_130⟩] <;> (try rfl)), (by  rw [oCorr, zn_nI hn3, if_pos hx0, if_pos hb_19, if_neg (by intro z; rcases z with z | z | z | z; exact c_35 z; exact c_45 z; exact z c_54; exact z c_63), if_neg c_75, e13, e14, if_pos ⟨by omega, n_130⟩]; exact hR), hk⟩
              · refine v_aload_n C 0 d_M_correct_78 rfl rfl ?_
                refine v_get C k_M hR.1 15 (by decide) tw_498 (fun _ h => h) rfl d_M_correct_79 ?_
                refine v_iload_n C 1 d_M_correct_82 rfl rfl ?_
                refine v_iconst (x := 3) C d_M_correct_83 (by decide) ?_
                refine v_iastN C (hR.oi (f := 15) (by decide)) (by show _ < 201; omega) (by decide) d_M_correct_84 ?_
                refine v_view (fun v3 ev3 => ?_)
                obtain ⟨S_24, eS_24⟩ : ∃ z, z = zui S 15 n 3 := ⟨_, rfl⟩
                have hR_24 : RM G v3 o ad S_24 := by rw [eS_24]; exact (by rw [ev3]; exact hR.puti 15 (by decide) n 3)
                have hk_24 : vkeep (mX o ad) v v3 := by rw [ev3]; exact hk.up (mX_f (by decide))
                refine v_aload_n C 0 d_M_correct_85 rfl rfl ?_
                refine v_iload_n C 1 d_M_correct_86 rfl rfl ?_
                refine v_callV (rest := []) C (c_M_undo l G v3 o ad S_24 n hR_24 (by omega) (by rw [eS_24]; exact hBp) (by rw [eS_24]; intro h; obtain ⟨j, hj⟩ := hB5 n hn1 hn2 h; exact ⟨j, (zpf_ui (by decide) (by decide)).trans hj⟩)) tw_680 tw_34 tw_677 tw_679 tw_28 mn_M_undo hR_24.1 k_M.1 ⟨Nat.le_of_ble_eq_true rfl, Nat.le_of_ble_eq_true rfl⟩ rfl rfl (Nat.le_of_ble_eq_true rfl) d_M_correct_87 ⟨(by first | exact Nat.le_of_ble_eq_true rfl | (show _ ≤ _; omega)), (by first | exact Nat.le_of_ble_eq_true rfl | (show _ ≤ _; omega))⟩ (fun r_25 v_26 hp_27 => ?_)
                obtain ⟨rfl, hRc_hp_27, hkc_hp_27⟩ := hp_27
                obtain ⟨S_28, eS_28⟩ : ∃ z, z = zundo S_24 n := ⟨_, rfl⟩
                have hR_28 : RM G v_26 o ad S_28 := by rw [eS_28]; exact hRc_hp_27
                have hk_28 : vkeep (mX o ad) v v_26 := hk_24.tr hkc_hp_27
                show vV _ _ _ _ _ _ _ _ _ _ _ _ _ v_26 0 0 90 [(0, .ref o), (1, .int (nI n)), (2, .long t)] []
                refine v_iconst (x := 0) C d_M_correct_90 (by decide) ?_
                exact v_iret C d_M_correct_91 (by first | exact Nat.le_of_ble_eq_true rfl | (show _ ≤ _; omega)) (by first | exact Nat.le_of_ble_eq_true rfl | (show _ ≤ _; omega)) ⟨(by  rw [oCorr, zn_nI hn3, if_pos hx0, if_pos hb_19, if_neg (by intro z; rcases z with z | z | z | z; exact c_35 z; exact c_45 z; exact z c_54; exact z c_63), if_pos c_75] <;> (try rfl)), (by  rw [oCorr, zn_nI hn3, if_pos hx0, if_pos hb_19, if_neg (by intro z; rcases z with z | z | z | z; exact c_35 z; exact c_45 z; exact z c_54; exact z c_63), if_pos c_75]; subst eS_24 eS_28; exact hR_28), hk_28⟩
            · refine v_bipush (x := -13) C d_M_correct_66 (by decide) ?_
              exact v_iret C d_M_correct_68 (by first | exact Nat.le_of_ble_eq_true rfl | (show _ ≤ _; omega)) (by first | exact Nat.le_of_ble_eq_true rfl | (show _ ≤ _; omega)) ⟨(by  rw [oCorr, zn_nI hn3, if_pos hx0, if_pos hb_19, if_pos (Or.inr (Or.inr (Or.inr c_63)))] <;> (try rfl)), (by  rw [oCorr, zn_nI hn3, if_pos hx0, if_pos hb_19, if_pos (Or.inr (Or.inr (Or.inr c_63)))]; exact hR), hk⟩
    · obtain rfl := hv9.symm
      show vV _ _ _ _ _ _ _ _ _ _ _ _ _ v 0 0 22 [(0, .ref o), (1, .int x), (2, .long t)] [.int 0]
      refine v_if_ne C 28 d_M_correct_22 (by decide) (fun z => absurd (by decide) z) (fun _ => ?_)
      refine v_bipush (x := -12) C d_M_correct_25 (by decide) ?_
      exact v_iret C d_M_correct_27 (by first | exact Nat.le_of_ble_eq_true rfl | (show _ ≤ _; omega)) (by first | exact Nat.le_of_ble_eq_true rfl | (show _ ≤ _; omega)) ⟨(by rw [i64_toInt, i64_toInt, nI_toInt (by omega)] at hb_8; rw [oCorr, if_pos (show zIn x 1 (zc S 1) from hb_8), if_neg hb_19] <;> (try rfl)), (by rw [i64_toInt, i64_toInt, nI_toInt (by omega)] at hb_8; rw [oCorr, if_pos (show zIn x 1 (zc S 1) from hb_8), if_neg hb_19]; exact hR), hk⟩
  · obtain rfl := hv9.symm
    show vV _ _ _ _ _ _ _ _ _ _ _ _ _ v 0 0 11 [(0, .ref o), (1, .int x), (2, .long t)] [.int 0]
    refine v_if_ne C 17 d_M_correct_11 (by decide) (fun z => absurd (by decide) z) (fun _ => ?_)
    refine v_bipush (x := -11) C d_M_correct_14 (by decide) ?_
    exact v_iret C d_M_correct_16 (by first | exact Nat.le_of_ble_eq_true rfl | (show _ ≤ _; omega)) (by first | exact Nat.le_of_ble_eq_true rfl | (show _ ≤ _; omega)) ⟨(by rw [i64_toInt, i64_toInt, nI_toInt (by omega)] at hb_8; rw [oCorr, if_neg (show ¬ zIn x 1 (zc S 1) from hb_8)] <;> (try rfl)), (by rw [i64_toInt, i64_toInt, nI_toInt (by omega)] at hb_8; rw [oCorr, if_neg (show ¬ zIn x 1 (zc S 1) from hb_8)]; exact hR), hk⟩
