theorem vkp_fr2 {v v1 : vv_V} {o q : Nat} {eo : va_E} (h : vkp (fun k x => k = 3 ∧ x = o) v v1) (ho : v1 3 o = some eo) (hf : ∀ k, v1 k q = none) (k : Nat) : v k q = none := by
  cases hv : v k q with
  | none => rfl
  | some e =>
    by_cases c : k = 3 ∧ q = o
    · have z := hf 3
      rw [c.2, ho] at z
      cases z
    · have := h k q e c hv
      rw [hf k] at this
      cases this
def la5 (a b c d e : Nat) (i : Nat) : Nat := if i = 0 then a else if i = 1 then b else if i = 2 then c else if i = 3 then d else e
theorem la5_inj {a b c d e : Nat} (h1 : a ≠ b) (h2 : a ≠ c) (h3 : a ≠ d) (h4 : a ≠ e) (h5 : b ≠ c) (h6 : b ≠ d) (h7 : b ≠ e) (h8 : c ≠ d) (h9 : c ≠ e) (h10 : d ≠ e) : ∀ i j, i < 5 → j < 5 → la5 a b c d e i = la5 a b c d e j → i = j := by
  intro i j hi hj hh
  rcases (show i = 0 ∨ i = 1 ∨ i = 2 ∨ i = 3 ∨ i = 4 by omega) with rfl | rfl | rfl | rfl | rfl <;> rcases (show j = 0 ∨ j = 1 ∨ j = 2 ∨ j = 3 ∨ j = 4 by omega) with rfl | rfl | rfl | rfl | rfl <;> simp [la5] at hh ⊢ <;> omega
theorem LA.z {G : vv_G} {v : vv_V} {a : Nat} {f g : Nat → Nat} {g9 : Nat → Option Nat} (h : v 5 a = some (.inr (5, [.ref G.2.2.1, .int 0, .int 0]))) (h9 : v 99 G.2.2.1 = some (vq G 0 g9)) : LA G v a G.2.2.1 0 0 f := ⟨⟨0, h⟩, Nat.zero_le _, Nat.zero_le _, Or.inl ⟨rfl, rfl, g9, h9⟩⟩
set_option maxHeartbeats 4000000 in
set_option maxRecDepth 100000 in
theorem c_C_init (l : Launch) (G : vv_G) (v : vv_V) (o : Nat) (g9 : Nat → Option Nat) (h0 : v 3 o = some (.inr (3, [.null, .null, .null, .null, .null, .null, .long 0, .int 0]))) (h99 : v 99 G.2.2.1 = some (vq G 0 g9)) : Mv l y_C_init b_C_init 2 none 4 72 G v [.ref o] (fun r v' => r = none ∧ ∃ la cw, RC G v' o la cw z0 (fun _ => G.2.2.1) (fun _ => 0) (fun _ => 0) (fun _ => 0) (fun _ => 0) (fun _ => 0) ∧ vkp (fun k x => k = 3 ∧ x = o) v v') 6 19 := by
  refine vv_metF (own := "CustomerNotices") (nm := "<init>") pf_C_init rfl rfl (Nat.le_of_ble_eq_true rfl) ?_
  intro p e s m below meth c C hin
  have hk : vkp (fun k x => k = 3 ∧ x = o) v v := vkp.rf
  show vV _ _ _ _ _ _ _ _ _ _ _ _ _ v 0 0 0 [(0, .ref o)] []
  refine v_aload_n C 0 d_C_init_0 rfl rfl ?_
  refine v_objInit C tw_49 tw_50 tw_obj d_C_init_1 (Nat.le_of_ble_eq_true rfl) (Nat.le_of_ble_eq_true rfl) ?_
  refine v_aload_n C 0 d_C_init_4 rfl rfl ?_
  refine v_new (fs := [.null, .int 0, .int 0]) C k_AL tw_52 tw_53 tw_33 (by decide) (by first | exact Nat.le_of_ble_eq_true rfl | (dsimp only; omega)) (by first | exact Nat.le_of_ble_eq_true rfl | (dsimp only; omega)) d_C_init_5 (fun q_1 hfr_2 => ?_)
  refine v_cs (kc' := 1) (ks' := 3) rfl rfl ?_
  refine v_view (fun v1 ev1 => ?_)
  have he_3 : v1 3 o = some (.inr (3, [.null, .null, .null, .null, .null, .null, .long 0, .int 0])) := by rw [ev1]; exact (vv_up_a _ _ _ _ (fun z => by subst z; have y := hfr_2 3; rw [h0] at y; cases y)).trans h0
  have he_4 : v1 5 q_1 = some (.inr (5, [.null, .int 0, .int 0])) := by rw [ev1]; exact vv_up_s _ _ _ _
  have hkv1 : vkp (fun k x => k = 3 ∧ x = o) v v1 := by rw [ev1]; exact hk.nu hfr_2
  have hfq : ∀ k, v k q_1 = none := vkp_fr2 hk h0 hfr_2
  have hf_q_1 := hfq
  refine v_dup C d_C_init_8 rfl ?_
  refine v_callI (rest := [.ref q_1, .ref o]) C (c_AL_init l G v1 q_1 he_4) tw_56 tw_33 tw_54 tw_55 rfl mn_AL_init ⟨Nat.le_of_ble_eq_true rfl, Nat.le_of_ble_eq_true rfl⟩ rfl rfl (Nat.le_of_ble_eq_true rfl) d_C_init_9 ⟨(by first | exact Nat.le_of_ble_eq_true rfl | (dsimp only; omega)), (by first | exact Nat.le_of_ble_eq_true rfl | (dsimp only; omega))⟩ (fun r_5 v_6 hp_7 => ?_)
  obtain ⟨rfl, hq1_8, hq3_8⟩ := hp_7
  have hkq_8 : vkp (fun k x => k = 3 ∧ x = o) v v_6 := (hkv1).fr hfq hq3_8
  have he_9 : v_6 3 o = some (.inr (3, [.null, .null, .null, .null, .null, .null, .long 0, .int 0])) := hq3_8 _ _ _ (fun z => absurd z.1 (by decide)) he_3
  show vV _ _ _ _ _ _ _ _ _ _ _ _ _ v_6 1 3 12 [(0, .ref o)] [.ref q_1, .ref o]
  refine v_putF C hin k_C he_9 0 (by decide) tw_78 (fun _ h => h) rfl rfl rfl rfl (Nat.le_of_ble_eq_true rfl) d_C_init_12 ?_
  refine v_view (fun v2 ev2 => ?_)
  have he_10 : v2 3 o = some (.inr (3, [.ref q_1, .null, .null, .null, .null, .null, .long 0, .int 0])) := by rw [ev2]; exact vv_up_s _ _ _ _
  have he_11 : v2 5 q_1 = some (.inr (5, [.ref G.2.2.1, .int 0, .int 0])) := by rw [ev2]; exact (vv_up_k _ _ _ _ (by decide)).trans hq1_8
  have hkv2 : vkp (fun k x => k = 3 ∧ x = o) v v2 := by rw [ev2]; exact hkq_8.up (⟨rfl, rfl⟩)
  refine v_aload_n C 0 d_C_init_15 rfl rfl ?_
  refine v_new (fs := [.null, .int 0, .int 0]) C k_AL tw_52 tw_53 tw_33 (by decide) (by first | exact Nat.le_of_ble_eq_true rfl | (dsimp only; omega)) (by first | exact Nat.le_of_ble_eq_true rfl | (dsimp only; omega)) d_C_init_16 (fun q_12 hfr_13 => ?_)
  refine v_cs (kc' := 2) (ks' := 6) rfl rfl ?_
  have hne_14 : q_1 ≠ q_12 := fun z => by have y := hfr_13 5; rw [← z, he_11] at y; cases y
  refine v_view (fun v3 ev3 => ?_)
  have he_15 : v3 3 o = some (.inr (3, [.ref q_1, .null, .null, .null, .null, .null, .long 0, .int 0])) := by rw [ev3]; exact (vv_up_a _ _ _ _ (fun z => by subst z; have y := hfr_13 3; rw [he_10] at y; cases y)).trans he_10
  have he_16 : v3 5 q_1 = some (.inr (5, [.ref G.2.2.1, .int 0, .int 0])) := by rw [ev3]; exact (vv_up_a _ _ _ _ (fun z => by subst z; have y := hfr_13 5; rw [he_11] at y; cases y)).trans he_11
  have he_17 : v3 5 q_12 = some (.inr (5, [.null, .int 0, .int 0])) := by rw [ev3]; exact vv_up_s _ _ _ _
  have hkv3 : vkp (fun k x => k = 3 ∧ x = o) v v3 := by rw [ev3]; exact hkv2.nu hfr_13
  have hfq : ∀ k, v k q_12 = none := vkp_fr2 hkv2 he_10 hfr_13
  have hf_q_12 := hfq
  refine v_dup C d_C_init_19 rfl ?_
  refine v_callI (rest := [.ref q_12, .ref o]) C (c_AL_init l G v3 q_12 he_17) tw_56 tw_33 tw_54 tw_55 rfl mn_AL_init ⟨Nat.le_of_ble_eq_true rfl, Nat.le_of_ble_eq_true rfl⟩ rfl rfl (Nat.le_of_ble_eq_true rfl) d_C_init_20 ⟨(by first | exact Nat.le_of_ble_eq_true rfl | (dsimp only; omega)), (by first | exact Nat.le_of_ble_eq_true rfl | (dsimp only; omega))⟩ (fun r_18 v_19 hp_20 => ?_)
  obtain ⟨rfl, hq1_21, hq3_21⟩ := hp_20
  have hkq_21 : vkp (fun k x => k = 3 ∧ x = o) v v_19 := (hkv3).fr hfq hq3_21
  have he_22 : v_19 3 o = some (.inr (3, [.ref q_1, .null, .null, .null, .null, .null, .long 0, .int 0])) := hq3_21 _ _ _ (fun z => absurd z.1 (by decide)) he_15
  have he_23 : v_19 5 q_1 = some (.inr (5, [.ref G.2.2.1, .int 0, .int 0])) := hq3_21 _ _ _ (fun z => absurd z.2 hne_14) he_16
  show vV _ _ _ _ _ _ _ _ _ _ _ _ _ v_19 2 6 23 [(0, .ref o)] [.ref q_12, .ref o]
  refine v_putF C hin k_C he_22 1 (by decide) tw_79 (fun _ h => h) rfl rfl rfl rfl (Nat.le_of_ble_eq_true rfl) d_C_init_23 ?_
  refine v_view (fun v4 ev4 => ?_)
  have he_24 : v4 3 o = some (.inr (3, [.ref q_1, .ref q_12, .null, .null, .null, .null, .long 0, .int 0])) := by rw [ev4]; exact vv_up_s _ _ _ _
  have he_25 : v4 5 q_1 = some (.inr (5, [.ref G.2.2.1, .int 0, .int 0])) := by rw [ev4]; exact (vv_up_k _ _ _ _ (by decide)).trans he_23
  have he_26 : v4 5 q_12 = some (.inr (5, [.ref G.2.2.1, .int 0, .int 0])) := by rw [ev4]; exact (vv_up_k _ _ _ _ (by decide)).trans hq1_21
  have hkv4 : vkp (fun k x => k = 3 ∧ x = o) v v4 := by rw [ev4]; exact hkq_21.up (⟨rfl, rfl⟩)
  refine v_aload_n C 0 d_C_init_26 rfl rfl ?_
  refine v_new (fs := [.null, .int 0, .int 0]) C k_AL tw_52 tw_53 tw_33 (by decide) (by first | exact Nat.le_of_ble_eq_true rfl | (dsimp only; omega)) (by first | exact Nat.le_of_ble_eq_true rfl | (dsimp only; omega)) d_C_init_27 (fun q_27 hfr_28 => ?_)
  refine v_cs (kc' := 3) (ks' := 9) rfl rfl ?_
  have hne_29 : q_1 ≠ q_27 := fun z => by have y := hfr_28 5; rw [← z, he_25] at y; cases y
  have hne_30 : q_12 ≠ q_27 := fun z => by have y := hfr_28 5; rw [← z, he_26] at y; cases y
  refine v_view (fun v5 ev5 => ?_)
  have he_31 : v5 3 o = some (.inr (3, [.ref q_1, .ref q_12, .null, .null, .null, .null, .long 0, .int 0])) := by rw [ev5]; exact (vv_up_a _ _ _ _ (fun z => by subst z; have y := hfr_28 3; rw [he_24] at y; cases y)).trans he_24
  have he_32 : v5 5 q_1 = some (.inr (5, [.ref G.2.2.1, .int 0, .int 0])) := by rw [ev5]; exact (vv_up_a _ _ _ _ (fun z => by subst z; have y := hfr_28 5; rw [he_25] at y; cases y)).trans he_25
  have he_33 : v5 5 q_12 = some (.inr (5, [.ref G.2.2.1, .int 0, .int 0])) := by rw [ev5]; exact (vv_up_a _ _ _ _ (fun z => by subst z; have y := hfr_28 5; rw [he_26] at y; cases y)).trans he_26
  have he_34 : v5 5 q_27 = some (.inr (5, [.null, .int 0, .int 0])) := by rw [ev5]; exact vv_up_s _ _ _ _
  have hkv5 : vkp (fun k x => k = 3 ∧ x = o) v v5 := by rw [ev5]; exact hkv4.nu hfr_28
  have hfq : ∀ k, v k q_27 = none := vkp_fr2 hkv4 he_24 hfr_28
  have hf_q_27 := hfq
  refine v_dup C d_C_init_30 rfl ?_
  refine v_callI (rest := [.ref q_27, .ref o]) C (c_AL_init l G v5 q_27 he_34) tw_56 tw_33 tw_54 tw_55 rfl mn_AL_init ⟨Nat.le_of_ble_eq_true rfl, Nat.le_of_ble_eq_true rfl⟩ rfl rfl (Nat.le_of_ble_eq_true rfl) d_C_init_31 ⟨(by first | exact Nat.le_of_ble_eq_true rfl | (dsimp only; omega)), (by first | exact Nat.le_of_ble_eq_true rfl | (dsimp only; omega))⟩ (fun r_35 v_36 hp_37 => ?_)
  obtain ⟨rfl, hq1_38, hq3_38⟩ := hp_37
  have hkq_38 : vkp (fun k x => k = 3 ∧ x = o) v v_36 := (hkv5).fr hfq hq3_38
  have he_39 : v_36 3 o = some (.inr (3, [.ref q_1, .ref q_12, .null, .null, .null, .null, .long 0, .int 0])) := hq3_38 _ _ _ (fun z => absurd z.1 (by decide)) he_31
  have he_40 : v_36 5 q_1 = some (.inr (5, [.ref G.2.2.1, .int 0, .int 0])) := hq3_38 _ _ _ (fun z => absurd z.2 hne_29) he_32
  have he_41 : v_36 5 q_12 = some (.inr (5, [.ref G.2.2.1, .int 0, .int 0])) := hq3_38 _ _ _ (fun z => absurd z.2 hne_30) he_33
  show vV _ _ _ _ _ _ _ _ _ _ _ _ _ v_36 3 9 34 [(0, .ref o)] [.ref q_27, .ref o]
  refine v_putF C hin k_C he_39 2 (by decide) tw_80 (fun _ h => h) rfl rfl rfl rfl (Nat.le_of_ble_eq_true rfl) d_C_init_34 ?_
  refine v_view (fun v6 ev6 => ?_)
  have he_42 : v6 3 o = some (.inr (3, [.ref q_1, .ref q_12, .ref q_27, .null, .null, .null, .long 0, .int 0])) := by rw [ev6]; exact vv_up_s _ _ _ _
  have he_43 : v6 5 q_1 = some (.inr (5, [.ref G.2.2.1, .int 0, .int 0])) := by rw [ev6]; exact (vv_up_k _ _ _ _ (by decide)).trans he_40
  have he_44 : v6 5 q_12 = some (.inr (5, [.ref G.2.2.1, .int 0, .int 0])) := by rw [ev6]; exact (vv_up_k _ _ _ _ (by decide)).trans he_41
  have he_45 : v6 5 q_27 = some (.inr (5, [.ref G.2.2.1, .int 0, .int 0])) := by rw [ev6]; exact (vv_up_k _ _ _ _ (by decide)).trans hq1_38
  have hkv6 : vkp (fun k x => k = 3 ∧ x = o) v v6 := by rw [ev6]; exact hkq_38.up (⟨rfl, rfl⟩)
  refine v_aload_n C 0 d_C_init_37 rfl rfl ?_
  refine v_new (fs := [.null, .int 0, .int 0]) C k_AL tw_52 tw_53 tw_33 (by decide) (by first | exact Nat.le_of_ble_eq_true rfl | (dsimp only; omega)) (by first | exact Nat.le_of_ble_eq_true rfl | (dsimp only; omega)) d_C_init_38 (fun q_46 hfr_47 => ?_)
  refine v_cs (kc' := 4) (ks' := 12) rfl rfl ?_
  have hne_48 : q_1 ≠ q_46 := fun z => by have y := hfr_47 5; rw [← z, he_43] at y; cases y
  have hne_49 : q_12 ≠ q_46 := fun z => by have y := hfr_47 5; rw [← z, he_44] at y; cases y
  have hne_50 : q_27 ≠ q_46 := fun z => by have y := hfr_47 5; rw [← z, he_45] at y; cases y
  refine v_view (fun v7 ev7 => ?_)
  have he_51 : v7 3 o = some (.inr (3, [.ref q_1, .ref q_12, .ref q_27, .null, .null, .null, .long 0, .int 0])) := by rw [ev7]; exact (vv_up_a _ _ _ _ (fun z => by subst z; have y := hfr_47 3; rw [he_42] at y; cases y)).trans he_42
  have he_52 : v7 5 q_1 = some (.inr (5, [.ref G.2.2.1, .int 0, .int 0])) := by rw [ev7]; exact (vv_up_a _ _ _ _ (fun z => by subst z; have y := hfr_47 5; rw [he_43] at y; cases y)).trans he_43
  have he_53 : v7 5 q_12 = some (.inr (5, [.ref G.2.2.1, .int 0, .int 0])) := by rw [ev7]; exact (vv_up_a _ _ _ _ (fun z => by subst z; have y := hfr_47 5; rw [he_44] at y; cases y)).trans he_44
  have he_54 : v7 5 q_27 = some (.inr (5, [.ref G.2.2.1, .int 0, .int 0])) := by rw [ev7]; exact (vv_up_a _ _ _ _ (fun z => by subst z; have y := hfr_47 5; rw [he_45] at y; cases y)).trans he_45
  have he_55 : v7 5 q_46 = some (.inr (5, [.null, .int 0, .int 0])) := by rw [ev7]; exact vv_up_s _ _ _ _
  have hkv7 : vkp (fun k x => k = 3 ∧ x = o) v v7 := by rw [ev7]; exact hkv6.nu hfr_47
  have hfq : ∀ k, v k q_46 = none := vkp_fr2 hkv6 he_42 hfr_47
  have hf_q_46 := hfq
  refine v_dup C d_C_init_41 rfl ?_
  refine v_callI (rest := [.ref q_46, .ref o]) C (c_AL_init l G v7 q_46 he_55) tw_56 tw_33 tw_54 tw_55 rfl mn_AL_init ⟨Nat.le_of_ble_eq_true rfl, Nat.le_of_ble_eq_true rfl⟩ rfl rfl (Nat.le_of_ble_eq_true rfl) d_C_init_42 ⟨(by first | exact Nat.le_of_ble_eq_true rfl | (dsimp only; omega)), (by first | exact Nat.le_of_ble_eq_true rfl | (dsimp only; omega))⟩ (fun r_56 v_57 hp_58 => ?_)
  obtain ⟨rfl, hq1_59, hq3_59⟩ := hp_58
  have hkq_59 : vkp (fun k x => k = 3 ∧ x = o) v v_57 := (hkv7).fr hfq hq3_59
  have he_60 : v_57 3 o = some (.inr (3, [.ref q_1, .ref q_12, .ref q_27, .null, .null, .null, .long 0, .int 0])) := hq3_59 _ _ _ (fun z => absurd z.1 (by decide)) he_51
  have he_61 : v_57 5 q_1 = some (.inr (5, [.ref G.2.2.1, .int 0, .int 0])) := hq3_59 _ _ _ (fun z => absurd z.2 hne_48) he_52
  have he_62 : v_57 5 q_12 = some (.inr (5, [.ref G.2.2.1, .int 0, .int 0])) := hq3_59 _ _ _ (fun z => absurd z.2 hne_49) he_53
  have he_63 : v_57 5 q_27 = some (.inr (5, [.ref G.2.2.1, .int 0, .int 0])) := hq3_59 _ _ _ (fun z => absurd z.2 hne_50) he_54
  show vV _ _ _ _ _ _ _ _ _ _ _ _ _ v_57 4 12 45 [(0, .ref o)] [.ref q_46, .ref o]
  refine v_putF C hin k_C he_60 3 (by decide) tw_81 (fun _ h => h) rfl rfl rfl rfl (Nat.le_of_ble_eq_true rfl) d_C_init_45 ?_
  refine v_view (fun v8 ev8 => ?_)
  have he_64 : v8 3 o = some (.inr (3, [.ref q_1, .ref q_12, .ref q_27, .ref q_46, .null, .null, .long 0, .int 0])) := by rw [ev8]; exact vv_up_s _ _ _ _
  have he_65 : v8 5 q_1 = some (.inr (5, [.ref G.2.2.1, .int 0, .int 0])) := by rw [ev8]; exact (vv_up_k _ _ _ _ (by decide)).trans he_61
  have he_66 : v8 5 q_12 = some (.inr (5, [.ref G.2.2.1, .int 0, .int 0])) := by rw [ev8]; exact (vv_up_k _ _ _ _ (by decide)).trans he_62
  have he_67 : v8 5 q_27 = some (.inr (5, [.ref G.2.2.1, .int 0, .int 0])) := by rw [ev8]; exact (vv_up_k _ _ _ _ (by decide)).trans he_63
  have he_68 : v8 5 q_46 = some (.inr (5, [.ref G.2.2.1, .int 0, .int 0])) := by rw [ev8]; exact (vv_up_k _ _ _ _ (by decide)).trans hq1_59
  have hkv8 : vkp (fun k x => k = 3 ∧ x = o) v v8 := by rw [ev8]; exact hkq_59.up (⟨rfl, rfl⟩)
  refine v_aload_n C 0 d_C_init_48 rfl rfl ?_
  refine v_new (fs := [.null, .int 0, .int 0]) C k_AL tw_52 tw_53 tw_33 (by decide) (by first | exact Nat.le_of_ble_eq_true rfl | (dsimp only; omega)) (by first | exact Nat.le_of_ble_eq_true rfl | (dsimp only; omega)) d_C_init_49 (fun q_69 hfr_70 => ?_)
  refine v_cs (kc' := 5) (ks' := 15) rfl rfl ?_
  have hne_71 : q_1 ≠ q_69 := fun z => by have y := hfr_70 5; rw [← z, he_65] at y; cases y
  have hne_72 : q_12 ≠ q_69 := fun z => by have y := hfr_70 5; rw [← z, he_66] at y; cases y
  have hne_73 : q_27 ≠ q_69 := fun z => by have y := hfr_70 5; rw [← z, he_67] at y; cases y
  have hne_74 : q_46 ≠ q_69 := fun z => by have y := hfr_70 5; rw [← z, he_68] at y; cases y
  refine v_view (fun v9 ev9 => ?_)
  have he_75 : v9 3 o = some (.inr (3, [.ref q_1, .ref q_12, .ref q_27, .ref q_46, .null, .null, .long 0, .int 0])) := by rw [ev9]; exact (vv_up_a _ _ _ _ (fun z => by subst z; have y := hfr_70 3; rw [he_64] at y; cases y)).trans he_64
  have he_76 : v9 5 q_1 = some (.inr (5, [.ref G.2.2.1, .int 0, .int 0])) := by rw [ev9]; exact (vv_up_a _ _ _ _ (fun z => by subst z; have y := hfr_70 5; rw [he_65] at y; cases y)).trans he_65
  have he_77 : v9 5 q_12 = some (.inr (5, [.ref G.2.2.1, .int 0, .int 0])) := by rw [ev9]; exact (vv_up_a _ _ _ _ (fun z => by subst z; have y := hfr_70 5; rw [he_66] at y; cases y)).trans he_66
  have he_78 : v9 5 q_27 = some (.inr (5, [.ref G.2.2.1, .int 0, .int 0])) := by rw [ev9]; exact (vv_up_a _ _ _ _ (fun z => by subst z; have y := hfr_70 5; rw [he_67] at y; cases y)).trans he_67
  have he_79 : v9 5 q_46 = some (.inr (5, [.ref G.2.2.1, .int 0, .int 0])) := by rw [ev9]; exact (vv_up_a _ _ _ _ (fun z => by subst z; have y := hfr_70 5; rw [he_68] at y; cases y)).trans he_68
  have he_80 : v9 5 q_69 = some (.inr (5, [.null, .int 0, .int 0])) := by rw [ev9]; exact vv_up_s _ _ _ _
  have hkv9 : vkp (fun k x => k = 3 ∧ x = o) v v9 := by rw [ev9]; exact hkv8.nu hfr_70
  have hfq : ∀ k, v k q_69 = none := vkp_fr2 hkv8 he_64 hfr_70
  have hf_q_69 := hfq
  refine v_dup C d_C_init_52 rfl ?_
  refine v_callI (rest := [.ref q_69, .ref o]) C (c_AL_init l G v9 q_69 he_80) tw_56 tw_33 tw_54 tw_55 rfl mn_AL_init ⟨Nat.le_of_ble_eq_true rfl, Nat.le_of_ble_eq_true rfl⟩ rfl rfl (Nat.le_of_ble_eq_true rfl) d_C_init_53 ⟨(by first | exact Nat.le_of_ble_eq_true rfl | (dsimp only; omega)), (by first | exact Nat.le_of_ble_eq_true rfl | (dsimp only; omega))⟩ (fun r_81 v_82 hp_83 => ?_)
  obtain ⟨rfl, hq1_84, hq3_84⟩ := hp_83
  have hkq_84 : vkp (fun k x => k = 3 ∧ x = o) v v_82 := (hkv9).fr hfq hq3_84
  have he_85 : v_82 3 o = some (.inr (3, [.ref q_1, .ref q_12, .ref q_27, .ref q_46, .null, .null, .long 0, .int 0])) := hq3_84 _ _ _ (fun z => absurd z.1 (by decide)) he_75
  have he_86 : v_82 5 q_1 = some (.inr (5, [.ref G.2.2.1, .int 0, .int 0])) := hq3_84 _ _ _ (fun z => absurd z.2 hne_71) he_76
  have he_87 : v_82 5 q_12 = some (.inr (5, [.ref G.2.2.1, .int 0, .int 0])) := hq3_84 _ _ _ (fun z => absurd z.2 hne_72) he_77
  have he_88 : v_82 5 q_27 = some (.inr (5, [.ref G.2.2.1, .int 0, .int 0])) := hq3_84 _ _ _ (fun z => absurd z.2 hne_73) he_78
  have he_89 : v_82 5 q_46 = some (.inr (5, [.ref G.2.2.1, .int 0, .int 0])) := hq3_84 _ _ _ (fun z => absurd z.2 hne_74) he_79
  show vV _ _ _ _ _ _ _ _ _ _ _ _ _ v_82 5 15 56 [(0, .ref o)] [.ref q_69, .ref o]
  refine v_putF C hin k_C he_85 4 (by decide) tw_82 (fun _ h => h) rfl rfl rfl rfl (Nat.le_of_ble_eq_true rfl) d_C_init_56 ?_
  refine v_view (fun v10 ev10 => ?_)
  have he_90 : v10 3 o = some (.inr (3, [.ref q_1, .ref q_12, .ref q_27, .ref q_46, .ref q_69, .null, .long 0, .int 0])) := by rw [ev10]; exact vv_up_s _ _ _ _
  have he_91 : v10 5 q_1 = some (.inr (5, [.ref G.2.2.1, .int 0, .int 0])) := by rw [ev10]; exact (vv_up_k _ _ _ _ (by decide)).trans he_86
  have he_92 : v10 5 q_12 = some (.inr (5, [.ref G.2.2.1, .int 0, .int 0])) := by rw [ev10]; exact (vv_up_k _ _ _ _ (by decide)).trans he_87
  have he_93 : v10 5 q_27 = some (.inr (5, [.ref G.2.2.1, .int 0, .int 0])) := by rw [ev10]; exact (vv_up_k _ _ _ _ (by decide)).trans he_88
  have he_94 : v10 5 q_46 = some (.inr (5, [.ref G.2.2.1, .int 0, .int 0])) := by rw [ev10]; exact (vv_up_k _ _ _ _ (by decide)).trans he_89
  have he_95 : v10 5 q_69 = some (.inr (5, [.ref G.2.2.1, .int 0, .int 0])) := by rw [ev10]; exact (vv_up_k _ _ _ _ (by decide)).trans hq1_84
  have hkv10 : vkp (fun k x => k = 3 ∧ x = o) v v10 := by rw [ev10]; exact hkq_84.up (⟨rfl, rfl⟩)
  refine v_aload_n C 0 d_C_init_59 rfl rfl ?_
  refine v_iconst (x := 4) C d_C_init_60 (by decide) ?_
  refine v_newaz (n := 4) C (by decide) (by decide) (by decide) (by first | exact Nat.le_of_ble_eq_true rfl | (dsimp only; omega)) (by first | exact Nat.le_of_ble_eq_true rfl | (dsimp only; omega)) d_C_init_61 (fun q_96 hfr_97 => ?_)
  refine v_cs (kc' := 6) (ks' := 19) rfl rfl ?_
  have hne_98 : q_1 ≠ q_96 := fun z => by have y := hfr_97 5; rw [← z, he_91] at y; cases y
  have hne_99 : q_12 ≠ q_96 := fun z => by have y := hfr_97 5; rw [← z, he_92] at y; cases y
  have hne_100 : q_27 ≠ q_96 := fun z => by have y := hfr_97 5; rw [← z, he_93] at y; cases y
  have hne_101 : q_46 ≠ q_96 := fun z => by have y := hfr_97 5; rw [← z, he_94] at y; cases y
  have hne_102 : q_69 ≠ q_96 := fun z => by have y := hfr_97 5; rw [← z, he_95] at y; cases y
  refine v_view (fun v11 ev11 => ?_)
  have he_103 : v11 3 o = some (.inr (3, [.ref q_1, .ref q_12, .ref q_27, .ref q_46, .ref q_69, .null, .long 0, .int 0])) := by rw [ev11]; exact (vv_up_a _ _ _ _ (fun z => by subst z; have y := hfr_97 3; rw [he_90] at y; cases y)).trans he_90
  have he_104 : v11 5 q_1 = some (.inr (5, [.ref G.2.2.1, .int 0, .int 0])) := by rw [ev11]; exact (vv_up_a _ _ _ _ (fun z => by subst z; have y := hfr_97 5; rw [he_91] at y; cases y)).trans he_91
  have he_105 : v11 5 q_12 = some (.inr (5, [.ref G.2.2.1, .int 0, .int 0])) := by rw [ev11]; exact (vv_up_a _ _ _ _ (fun z => by subst z; have y := hfr_97 5; rw [he_92] at y; cases y)).trans he_92
  have he_106 : v11 5 q_27 = some (.inr (5, [.ref G.2.2.1, .int 0, .int 0])) := by rw [ev11]; exact (vv_up_a _ _ _ _ (fun z => by subst z; have y := hfr_97 5; rw [he_93] at y; cases y)).trans he_93
  have he_107 : v11 5 q_46 = some (.inr (5, [.ref G.2.2.1, .int 0, .int 0])) := by rw [ev11]; exact (vv_up_a _ _ _ _ (fun z => by subst z; have y := hfr_97 5; rw [he_94] at y; cases y)).trans he_94
  have he_108 : v11 5 q_69 = some (.inr (5, [.ref G.2.2.1, .int 0, .int 0])) := by rw [ev11]; exact (vv_up_a _ _ _ _ (fun z => by subst z; have y := hfr_97 5; rw [he_95] at y; cases y)).trans he_95
  have he_109 : v11 51 q_96 = some (.inl (G.2.2.2.2 1, 4, .inl (fun _ => 0))) := by rw [ev11]; exact vv_up_s _ _ _ _
  have hkv11 : vkp (fun k x => k = 3 ∧ x = o) v v11 := by rw [ev11]; exact hkv10.nu hfr_97
  have hfcw : ∀ k, v k q_96 = none := vkp_fr2 hkv10 he_90 hfr_97
  refine v_putF C hin k_C he_103 5 (by decide) tw_83 (fun _ h => h) rfl rfl rfl rfl (Nat.le_of_ble_eq_true rfl) d_C_init_63 ?_
  refine v_view (fun v12 ev12 => ?_)
  have he_110 : v12 3 o = some (.inr (3, [.ref q_1, .ref q_12, .ref q_27, .ref q_46, .ref q_69, .ref q_96, .long 0, .int 0])) := by rw [ev12]; exact vv_up_s _ _ _ _
  have he_111 : v12 5 q_1 = some (.inr (5, [.ref G.2.2.1, .int 0, .int 0])) := by rw [ev12]; exact (vv_up_k _ _ _ _ (by decide)).trans he_104
  have he_112 : v12 5 q_12 = some (.inr (5, [.ref G.2.2.1, .int 0, .int 0])) := by rw [ev12]; exact (vv_up_k _ _ _ _ (by decide)).trans he_105
  have he_113 : v12 5 q_27 = some (.inr (5, [.ref G.2.2.1, .int 0, .int 0])) := by rw [ev12]; exact (vv_up_k _ _ _ _ (by decide)).trans he_106
  have he_114 : v12 5 q_46 = some (.inr (5, [.ref G.2.2.1, .int 0, .int 0])) := by rw [ev12]; exact (vv_up_k _ _ _ _ (by decide)).trans he_107
  have he_115 : v12 5 q_69 = some (.inr (5, [.ref G.2.2.1, .int 0, .int 0])) := by rw [ev12]; exact (vv_up_k _ _ _ _ (by decide)).trans he_108
  have he_116 : v12 51 q_96 = some (.inl (G.2.2.2.2 1, 4, .inl (fun _ => 0))) := by rw [ev12]; exact (vv_up_k _ _ _ _ (by decide)).trans he_109
  have hkv12 : vkp (fun k x => k = 3 ∧ x = o) v v12 := by rw [ev12]; exact hkv11.up (⟨rfl, rfl⟩)
  refine v_iconst (x := 0) C d_C_init_66 (by decide) ?_
  refine v_istore_n (lv' := [(1, .int 0), (0, .ref o)]) C d_C_init_67 rfl (by decide) rfl ?_
  refine v_iload_n C 0 d_C_init_68 rfl rfl ?_
  refine v_iconst (x := 4) C d_C_init_69 (by decide) ?_
  refine v_icmp_ge C 86 d_C_init_70 (by decide) (fun z => absurd z (by decide)) (fun _ => ?_)
  refine v_aload_n C 1 d_C_init_73 rfl rfl ?_
  refine v_get C k_C he_110 5 (by decide) tw_83 (fun _ h => h) rfl d_C_init_74 ?_
  refine v_iload_n C 0 d_C_init_77 rfl rfl ?_
  refine v_iconst (x := 1) C d_C_init_78 (by decide) ?_
  refine v_toi2 (y := nI 0) rfl ?_
  refine v_zastN C he_116 (by omega) (by omega) d_C_init_79 ?_
  refine v_view (fun v13 ev13 => ?_)
  have he_117 : v13 3 o = some (.inr (3, [.ref q_1, .ref q_12, .ref q_27, .ref q_46, .ref q_69, .ref q_96, .long 0, .int 0])) := by rw [ev13]; exact (vv_up_k _ _ _ _ (by decide)).trans he_110
  have he_118 : v13 5 q_1 = some (.inr (5, [.ref G.2.2.1, .int 0, .int 0])) := by rw [ev13]; exact (vv_up_k _ _ _ _ (by decide)).trans he_111
  have he_119 : v13 5 q_12 = some (.inr (5, [.ref G.2.2.1, .int 0, .int 0])) := by rw [ev13]; exact (vv_up_k _ _ _ _ (by decide)).trans he_112
  have he_120 : v13 5 q_27 = some (.inr (5, [.ref G.2.2.1, .int 0, .int 0])) := by rw [ev13]; exact (vv_up_k _ _ _ _ (by decide)).trans he_113
  have he_121 : v13 5 q_46 = some (.inr (5, [.ref G.2.2.1, .int 0, .int 0])) := by rw [ev13]; exact (vv_up_k _ _ _ _ (by decide)).trans he_114
  have he_122 : v13 5 q_69 = some (.inr (5, [.ref G.2.2.1, .int 0, .int 0])) := by rw [ev13]; exact (vv_up_k _ _ _ _ (by decide)).trans he_115
  have he_123 : v13 51 q_96 = some (.inl (G.2.2.2.2 1, 4, .inl (upd (fun _ => 0) 0 (vp_nar .boolean 1)))) := by rw [ev13]; exact vv_up_s _ _ _ _
  have hkv13 : vkp (fun k x => k = 3 ∧ x = o) v v13 := (hkv12).fr hfcw (by rw [ev13]; exact vkp.rf.up ⟨rfl, rfl⟩)
  refine v_iinc (y := 1) (lv' := [(1, .int 1), (0, .ref o)]) C 0 d_C_init_80 rfl (by decide) (by decide) rfl ?_
  refine v_goto C 68 d_C_init_83 (by decide) ?_
  refine v_iload_n C 0 d_C_init_68 rfl rfl ?_
  refine v_iconst (x := 4) C d_C_init_69 (by decide) ?_
  refine v_icmp_ge C 86 d_C_init_70 (by decide) (fun z => absurd z (by decide)) (fun _ => ?_)
  refine v_aload_n C 1 d_C_init_73 rfl rfl ?_
  refine v_get C k_C he_117 5 (by decide) tw_83 (fun _ h => h) rfl d_C_init_74 ?_
  refine v_iload_n C 0 d_C_init_77 rfl rfl ?_
  refine v_iconst (x := 1) C d_C_init_78 (by decide) ?_
  refine v_toi2 (y := nI 1) rfl ?_
  refine v_zastN C he_123 (by omega) (by omega) d_C_init_79 ?_
  refine v_view (fun v14 ev14 => ?_)
  have he_124 : v14 3 o = some (.inr (3, [.ref q_1, .ref q_12, .ref q_27, .ref q_46, .ref q_69, .ref q_96, .long 0, .int 0])) := by rw [ev14]; exact (vv_up_k _ _ _ _ (by decide)).trans he_117
  have he_125 : v14 5 q_1 = some (.inr (5, [.ref G.2.2.1, .int 0, .int 0])) := by rw [ev14]; exact (vv_up_k _ _ _ _ (by decide)).trans he_118
  have he_126 : v14 5 q_12 = some (.inr (5, [.ref G.2.2.1, .int 0, .int 0])) := by rw [ev14]; exact (vv_up_k _ _ _ _ (by decide)).trans he_119
  have he_127 : v14 5 q_27 = some (.inr (5, [.ref G.2.2.1, .int 0, .int 0])) := by rw [ev14]; exact (vv_up_k _ _ _ _ (by decide)).trans he_120
  have he_128 : v14 5 q_46 = some (.inr (5, [.ref G.2.2.1, .int 0, .int 0])) := by rw [ev14]; exact (vv_up_k _ _ _ _ (by decide)).trans he_121
  have he_129 : v14 5 q_69 = some (.inr (5, [.ref G.2.2.1, .int 0, .int 0])) := by rw [ev14]; exact (vv_up_k _ _ _ _ (by decide)).trans he_122
  have he_130 : v14 51 q_96 = some (.inl (G.2.2.2.2 1, 4, .inl (upd (upd (fun _ => 0) 0 (vp_nar .boolean 1)) 1 (vp_nar .boolean 1)))) := by rw [ev14]; exact vv_up_s _ _ _ _
  have hkv14 : vkp (fun k x => k = 3 ∧ x = o) v v14 := (hkv13).fr hfcw (by rw [ev14]; exact vkp.rf.up ⟨rfl, rfl⟩)
  refine v_iinc (y := 2) (lv' := [(1, .int 2), (0, .ref o)]) C 0 d_C_init_80 rfl (by decide) (by decide) rfl ?_
  refine v_goto C 68 d_C_init_83 (by decide) ?_
  refine v_iload_n C 0 d_C_init_68 rfl rfl ?_
  refine v_iconst (x := 4) C d_C_init_69 (by decide) ?_
  refine v_icmp_ge C 86 d_C_init_70 (by decide) (fun z => absurd z (by decide)) (fun _ => ?_)
  refine v_aload_n C 1 d_C_init_73 rfl rfl ?_
  refine v_get C k_C he_124 5 (by decide) tw_83 (fun _ h => h) rfl d_C_init_74 ?_
  refine v_iload_n C 0 d_C_init_77 rfl rfl ?_
  refine v_iconst (x := 1) C d_C_init_78 (by decide) ?_
  refine v_toi2 (y := nI 2) rfl ?_
  refine v_zastN C he_130 (by omega) (by omega) d_C_init_79 ?_
  refine v_view (fun v15 ev15 => ?_)
  have he_131 : v15 3 o = some (.inr (3, [.ref q_1, .ref q_12, .ref q_27, .ref q_46, .ref q_69, .ref q_96, .long 0, .int 0])) := by rw [ev15]; exact (vv_up_k _ _ _ _ (by decide)).trans he_124
  have he_132 : v15 5 q_1 = some (.inr (5, [.ref G.2.2.1, .int 0, .int 0])) := by rw [ev15]; exact (vv_up_k _ _ _ _ (by decide)).trans he_125
  have he_133 : v15 5 q_12 = some (.inr (5, [.ref G.2.2.1, .int 0, .int 0])) := by rw [ev15]; exact (vv_up_k _ _ _ _ (by decide)).trans he_126
  have he_134 : v15 5 q_27 = some (.inr (5, [.ref G.2.2.1, .int 0, .int 0])) := by rw [ev15]; exact (vv_up_k _ _ _ _ (by decide)).trans he_127
  have he_135 : v15 5 q_46 = some (.inr (5, [.ref G.2.2.1, .int 0, .int 0])) := by rw [ev15]; exact (vv_up_k _ _ _ _ (by decide)).trans he_128
  have he_136 : v15 5 q_69 = some (.inr (5, [.ref G.2.2.1, .int 0, .int 0])) := by rw [ev15]; exact (vv_up_k _ _ _ _ (by decide)).trans he_129
  have he_137 : v15 51 q_96 = some (.inl (G.2.2.2.2 1, 4, .inl (upd (upd (upd (fun _ => 0) 0 (vp_nar .boolean 1)) 1 (vp_nar .boolean 1)) 2 (vp_nar .boolean 1)))) := by rw [ev15]; exact vv_up_s _ _ _ _
  have hkv15 : vkp (fun k x => k = 3 ∧ x = o) v v15 := (hkv14).fr hfcw (by rw [ev15]; exact vkp.rf.up ⟨rfl, rfl⟩)
  refine v_iinc (y := 3) (lv' := [(1, .int 3), (0, .ref o)]) C 0 d_C_init_80 rfl (by decide) (by decide) rfl ?_
  refine v_goto C 68 d_C_init_83 (by decide) ?_
  refine v_iload_n C 0 d_C_init_68 rfl rfl ?_
  refine v_iconst (x := 4) C d_C_init_69 (by decide) ?_
  refine v_icmp_ge C 86 d_C_init_70 (by decide) (fun z => absurd z (by decide)) (fun _ => ?_)
  refine v_aload_n C 1 d_C_init_73 rfl rfl ?_
  refine v_get C k_C he_131 5 (by decide) tw_83 (fun _ h => h) rfl d_C_init_74 ?_
  refine v_iload_n C 0 d_C_init_77 rfl rfl ?_
  refine v_iconst (x := 1) C d_C_init_78 (by decide) ?_
  refine v_toi2 (y := nI 3) rfl ?_
  refine v_zastN C he_137 (by omega) (by omega) d_C_init_79 ?_
  refine v_view (fun v16 ev16 => ?_)
  have he_138 : v16 3 o = some (.inr (3, [.ref q_1, .ref q_12, .ref q_27, .ref q_46, .ref q_69, .ref q_96, .long 0, .int 0])) := by rw [ev16]; exact (vv_up_k _ _ _ _ (by decide)).trans he_131
  have he_139 : v16 5 q_1 = some (.inr (5, [.ref G.2.2.1, .int 0, .int 0])) := by rw [ev16]; exact (vv_up_k _ _ _ _ (by decide)).trans he_132
  have he_140 : v16 5 q_12 = some (.inr (5, [.ref G.2.2.1, .int 0, .int 0])) := by rw [ev16]; exact (vv_up_k _ _ _ _ (by decide)).trans he_133
  have he_141 : v16 5 q_27 = some (.inr (5, [.ref G.2.2.1, .int 0, .int 0])) := by rw [ev16]; exact (vv_up_k _ _ _ _ (by decide)).trans he_134
  have he_142 : v16 5 q_46 = some (.inr (5, [.ref G.2.2.1, .int 0, .int 0])) := by rw [ev16]; exact (vv_up_k _ _ _ _ (by decide)).trans he_135
  have he_143 : v16 5 q_69 = some (.inr (5, [.ref G.2.2.1, .int 0, .int 0])) := by rw [ev16]; exact (vv_up_k _ _ _ _ (by decide)).trans he_136
  have he_144 : v16 51 q_96 = some (.inl (G.2.2.2.2 1, 4, .inl (upd (upd (upd (upd (fun _ => 0) 0 (vp_nar .boolean 1)) 1 (vp_nar .boolean 1)) 2 (vp_nar .boolean 1)) 3 (vp_nar .boolean 1)))) := by rw [ev16]; exact vv_up_s _ _ _ _
  have hkv16 : vkp (fun k x => k = 3 ∧ x = o) v v16 := (hkv15).fr hfcw (by rw [ev16]; exact vkp.rf.up ⟨rfl, rfl⟩)
  refine v_iinc (y := 4) (lv' := [(1, .int 4), (0, .ref o)]) C 0 d_C_init_80 rfl (by decide) (by decide) rfl ?_
  refine v_goto C 68 d_C_init_83 (by decide) ?_
  refine v_iload_n C 0 d_C_init_68 rfl rfl ?_
  refine v_iconst (x := 4) C d_C_init_69 (by decide) ?_
  refine v_icmp_ge C 86 d_C_init_70 (by decide) (fun _ => ?_) (fun z => absurd (by decide) z)
  refine v_aload_n C 1 d_C_init_86 rfl rfl ?_
  refine v_lconst (x := 0) C d_C_init_87 (by decide) ?_
  refine v_put C k_C he_138 6 (by decide) tw_84 (fun _ h => h) rfl rfl rfl (Nat.le_of_ble_eq_true rfl) d_C_init_88 ?_
  refine v_view (fun v17 ev17 => ?_)
  have he_145 : v17 3 o = some (.inr (3, [.ref q_1, .ref q_12, .ref q_27, .ref q_46, .ref q_69, .ref q_96, .long 0, .int 0])) := by rw [ev17]; exact vv_up_s _ _ _ _
  have he_146 : v17 5 q_1 = some (.inr (5, [.ref G.2.2.1, .int 0, .int 0])) := by rw [ev17]; exact (vv_up_k _ _ _ _ (by decide)).trans he_139
  have he_147 : v17 5 q_12 = some (.inr (5, [.ref G.2.2.1, .int 0, .int 0])) := by rw [ev17]; exact (vv_up_k _ _ _ _ (by decide)).trans he_140
  have he_148 : v17 5 q_27 = some (.inr (5, [.ref G.2.2.1, .int 0, .int 0])) := by rw [ev17]; exact (vv_up_k _ _ _ _ (by decide)).trans he_141
  have he_149 : v17 5 q_46 = some (.inr (5, [.ref G.2.2.1, .int 0, .int 0])) := by rw [ev17]; exact (vv_up_k _ _ _ _ (by decide)).trans he_142
  have he_150 : v17 5 q_69 = some (.inr (5, [.ref G.2.2.1, .int 0, .int 0])) := by rw [ev17]; exact (vv_up_k _ _ _ _ (by decide)).trans he_143
  have he_151 : v17 51 q_96 = some (.inl (G.2.2.2.2 1, 4, .inl (upd (upd (upd (upd (fun _ => 0) 0 (vp_nar .boolean 1)) 1 (vp_nar .boolean 1)) 2 (vp_nar .boolean 1)) 3 (vp_nar .boolean 1)))) := by rw [ev17]; exact (vv_up_k _ _ _ _ (by decide)).trans he_144
  have hkv17 : vkp (fun k x => k = 3 ∧ x = o) v v17 := by rw [ev17]; exact hkv16.up (⟨rfl, rfl⟩)
  refine v_aload_n C 1 d_C_init_91 rfl rfl ?_
  refine v_iconst (x := 0) C d_C_init_92 (by decide) ?_
  refine v_put C k_C he_145 7 (by decide) tw_85 (fun _ h => h) rfl rfl rfl (Nat.le_of_ble_eq_true rfl) d_C_init_93 ?_
  refine v_view (fun v18 ev18 => ?_)
  have he_152 : v18 3 o = some (.inr (3, [.ref q_1, .ref q_12, .ref q_27, .ref q_46, .ref q_69, .ref q_96, .long 0, .int 0])) := by rw [ev18]; exact vv_up_s _ _ _ _
  have he_153 : v18 5 q_1 = some (.inr (5, [.ref G.2.2.1, .int 0, .int 0])) := by rw [ev18]; exact (vv_up_k _ _ _ _ (by decide)).trans he_146
  have he_154 : v18 5 q_12 = some (.inr (5, [.ref G.2.2.1, .int 0, .int 0])) := by rw [ev18]; exact (vv_up_k _ _ _ _ (by decide)).trans he_147
  have he_155 : v18 5 q_27 = some (.inr (5, [.ref G.2.2.1, .int 0, .int 0])) := by rw [ev18]; exact (vv_up_k _ _ _ _ (by decide)).trans he_148
  have he_156 : v18 5 q_46 = some (.inr (5, [.ref G.2.2.1, .int 0, .int 0])) := by rw [ev18]; exact (vv_up_k _ _ _ _ (by decide)).trans he_149
  have he_157 : v18 5 q_69 = some (.inr (5, [.ref G.2.2.1, .int 0, .int 0])) := by rw [ev18]; exact (vv_up_k _ _ _ _ (by decide)).trans he_150
  have he_158 : v18 51 q_96 = some (.inl (G.2.2.2.2 1, 4, .inl (upd (upd (upd (upd (fun _ => 0) 0 (vp_nar .boolean 1)) 1 (vp_nar .boolean 1)) 2 (vp_nar .boolean 1)) 3 (vp_nar .boolean 1)))) := by rw [ev18]; exact (vv_up_k _ _ _ _ (by decide)).trans he_151
  have hkv18 : vkp (fun k x => k = 3 ∧ x = o) v v18 := by rw [ev18]; exact hkv17.up (⟨rfl, rfl⟩)
  exact v_vret C d_C_init_96 (by first | exact Nat.le_of_ble_eq_true rfl | (show _ ≤ _; omega)) (by first | exact Nat.le_of_ble_eq_true rfl | (show _ ≤ _; omega)) ⟨rfl, (la5 q_1 q_12 q_27 q_46 q_69), q_96, ⟨he_152, ⟨_, he_158, (fun j hj => by rcases (show j = 0 ∨ j = 1 ∨ j = 2 ∨ j = 3 by omega) with rfl | rfl | rfl | rfl <;> rfl)⟩, (fun i hi => by rcases (show i = 0 ∨ i = 1 ∨ i = 2 ∨ i = 3 ∨ i = 4 by omega) with rfl | rfl | rfl | rfl | rfl; exact LA.z (g := fun _ => 0) he_153 (hkv18 _ _ _ (fun z => absurd z.1 (by decide)) h99); exact LA.z (g := fun _ => 0) he_154 (hkv18 _ _ _ (fun z => absurd z.1 (by decide)) h99); exact LA.z (g := fun _ => 0) he_155 (hkv18 _ _ _ (fun z => absurd z.1 (by decide)) h99); exact LA.z (g := fun _ => 0) he_156 (hkv18 _ _ _ (fun z => absurd z.1 (by decide)) h99); exact LA.z (g := fun _ => 0) he_157 (hkv18 _ _ _ (fun z => absurd z.1 (by decide)) h99)), (fun j hj => absurd hj (Nat.not_lt_zero _)), (fun j hj => absurd hj (Nat.not_lt_zero _)), (fun j hj => absurd hj (Nat.not_lt_zero _)), la5_inj hne_14 hne_29 hne_48 hne_71 hne_30 hne_49 hne_72 hne_50 hne_73 hne_74, (fun i j _ _ h => absurd h (Nat.lt_irrefl _)), (fun i j h => absurd h (Nat.not_lt_zero _)), (fun i j h => absurd h (Nat.not_lt_zero _))⟩, hkv18⟩
