set_option maxHeartbeats 4000000 in
set_option maxRecDepth 100000 in
theorem c_M_init (l : Launch) (G : vv_G) (v : vv_V) (o : Nat) (ho : v 4 o = some (.inr (4, [.long 0, .int 0, .null, .int 0, .null, .null, .null, .null, .null, .int 0, .null, .null, .null, .null, .null, .null, .null, .null, .int 0, .null, .null, .null, .null, .int 0, .null, .null, .null, .null, .int 0, .null, .null, .null]))) : Mv l y_M_init b_M_init 1 none 1 12 G v [.ref o] (fun r v' => r = none ∧ ∃ ad : Nat → Nat, RM G v' o ad z0 ∧ vkeep (fun a => a = o) v v' ∧ ∀ f, mA f = true → ∀ k, v k (ad f) = none) 25 4410 := by
  refine vv_metF (own := "CustomerNoticesModel") (nm := "<init>") pf_M_init rfl rfl (Nat.le_of_ble_eq_true rfl) ?_
  intro p e s m below meth c C hin
  have hk : vkeep (fun a => a = o) v v := vkeep.rf
  have hdom : ∀ x ∈ ([] : List Nat), ∃ (k : Nat) (e : va_E), v k x = some e := fun _ h => absurd h List.not_mem_nil
  have hnd : ([] : List Nat).Nodup := List.nodup_nil
  show vV _ _ _ _ _ _ _ _ _ _ _ _ _ v 0 0 0 [(0, .ref o)] []
  refine v_aload_n C 0 d_M_init_0 rfl rfl ?_
  refine v_objInit C tw_482 tw_50 tw_obj d_M_init_1 (Nat.le_of_ble_eq_true rfl) (Nat.le_of_ble_eq_true rfl) ?_
  refine v_aload_n C 0 d_M_init_4 rfl rfl ?_
  refine v_iconst (x := 4) C d_M_init_5 (by decide) ?_
  refine v_newaz (n := 4) C (by decide) (by decide) (by decide) (by first | exact Nat.le_of_ble_eq_true rfl | (show _ ≤ _; omega)) (by first | exact Nat.le_of_ble_eq_true rfl | (show _ ≤ _; omega)) d_M_init_6 (fun q_1 hfr_2 => ?_)
  refine v_cs (kc' := 1) (ks' := 4) rfl rfl ?_
  have fr_q_1 := hk.fr ho hfr_2
  have nd_q_1 := vdom.new hdom hfr_2 hnd
  refine v_view (fun v1 ev1 => ?_)
  have he_3 : v1 4 o = some (.inr (4, [.long 0, .int 0, .null, .int 0, .null, .null, .null, .null, .null, .int 0, .null, .null, .null, .null, .null, .null, .null, .null, .int 0, .null, .null, .null, .null, .int 0, .null, .null, .null, .null, .int 0, .null, .null, .null])) := by rw [ev1]; exact (vv_up_a _ _ _ _ (fun z => by subst z; have y := hfr_2 4; rw [ho] at y; cases y)).trans ho
  have he_4 : v1 51 q_1 = some (.inl (G.2.2.2.2 1, 4, .inl (fun _ => 0))) := by rw [ev1]; exact vv_up_s _ _ _ _
  have hkv1 : vkeep (fun a => a = o) v v1 := by rw [ev1]; exact hk.nu hfr_2
  have hdv1 : ∀ x ∈ [q_1], ∃ (k : Nat) (e : va_E), v1 k x = some e := by rw [ev1]; exact vdom.cons hdom
  refine v_putF C hin k_M he_3 2 (by decide) tw_485 (fun _ h => h) rfl rfl rfl rfl (Nat.le_of_ble_eq_true rfl) d_M_init_8 ?_
  refine v_view (fun v2 ev2 => ?_)
  have he_5 : v2 4 o = some (.inr (4, [.long 0, .int 0, .ref q_1, .int 0, .null, .null, .null, .null, .null, .int 0, .null, .null, .null, .null, .null, .null, .null, .null, .int 0, .null, .null, .null, .null, .int 0, .null, .null, .null, .null, .int 0, .null, .null, .null])) := by rw [ev2]; exact vv_up_s _ _ _ _
  have he_6 : v2 51 q_1 = some (.inl (G.2.2.2.2 1, 4, .inl (fun _ => 0))) := by rw [ev2]; exact (vv_up_k _ _ _ _ (by decide)).trans he_4
  have hkv2 : vkeep (fun a => a = o) v v2 := by rw [ev2]; exact hkv1.up rfl
  have hdv2 : ∀ x ∈ [q_1], ∃ (k : Nat) (e : va_E), v2 k x = some e := by rw [ev2]; exact vdom.up hdv1
  refine v_aload_n C 0 d_M_init_11 rfl rfl ?_
  refine v_bipush (x := 41) C d_M_init_12 (by decide) ?_
  refine v_newai (n := 41) C (by decide) (by decide) (by decide) (by first | exact Nat.le_of_ble_eq_true rfl | (show _ ≤ _; omega)) (by first | exact Nat.le_of_ble_eq_true rfl | (show _ ≤ _; omega)) d_M_init_14 (fun q_7 hfr_8 => ?_)
  refine v_cs (kc' := 2) (ks' := 45) rfl rfl ?_
  have fr_q_7 := hkv2.fr he_5 hfr_8
  have nd_q_7 := vdom.new hdv2 hfr_8 nd_q_1
  refine v_view (fun v3 ev3 => ?_)
  have he_9 : v3 4 o = some (.inr (4, [.long 0, .int 0, .ref q_1, .int 0, .null, .null, .null, .null, .null, .int 0, .null, .null, .null, .null, .null, .null, .null, .null, .int 0, .null, .null, .null, .null, .int 0, .null, .null, .null, .null, .int 0, .null, .null, .null])) := by rw [ev3]; exact (vv_up_a _ _ _ _ (fun z => by subst z; have y := hfr_8 4; rw [he_5] at y; cases y)).trans he_5
  have he_10 : v3 51 q_1 = some (.inl (G.2.2.2.2 1, 4, .inl (fun _ => 0))) := by rw [ev3]; exact (vv_up_a _ _ _ _ (fun z => by subst z; have y := hfr_8 51; rw [he_6] at y; cases y)).trans he_6
  have he_11 : v3 50 q_7 = some (.inl (G.2.2.2.2 0, 41, .inl (fun _ => 0))) := by rw [ev3]; exact vv_up_s _ _ _ _
  have hkv3 : vkeep (fun a => a = o) v v3 := by rw [ev3]; exact hkv2.nu hfr_8
  have hdv3 : ∀ x ∈ [q_7, q_1], ∃ (k : Nat) (e : va_E), v3 k x = some e := by rw [ev3]; exact vdom.cons hdv2
  refine v_putF C hin k_M he_9 4 (by decide) tw_487 (fun _ h => h) rfl rfl rfl rfl (Nat.le_of_ble_eq_true rfl) d_M_init_16 ?_
  refine v_view (fun v4 ev4 => ?_)
  have he_12 : v4 4 o = some (.inr (4, [.long 0, .int 0, .ref q_1, .int 0, .ref q_7, .null, .null, .null, .null, .int 0, .null, .null, .null, .null, .null, .null, .null, .null, .int 0, .null, .null, .null, .null, .int 0, .null, .null, .null, .null, .int 0, .null, .null, .null])) := by rw [ev4]; exact vv_up_s _ _ _ _
  have he_13 : v4 51 q_1 = some (.inl (G.2.2.2.2 1, 4, .inl (fun _ => 0))) := by rw [ev4]; exact (vv_up_k _ _ _ _ (by decide)).trans he_10
  have he_14 : v4 50 q_7 = some (.inl (G.2.2.2.2 0, 41, .inl (fun _ => 0))) := by rw [ev4]; exact (vv_up_k _ _ _ _ (by decide)).trans he_11
  have hkv4 : vkeep (fun a => a = o) v v4 := by rw [ev4]; exact hkv3.up rfl
  have hdv4 : ∀ x ∈ [q_7, q_1], ∃ (k : Nat) (e : va_E), v4 k x = some e := by rw [ev4]; exact vdom.up hdv3
  refine v_aload_n C 0 d_M_init_19 rfl rfl ?_
  refine v_bipush (x := 41) C d_M_init_20 (by decide) ?_
  refine v_newai (n := 41) C (by decide) (by decide) (by decide) (by first | exact Nat.le_of_ble_eq_true rfl | (show _ ≤ _; omega)) (by first | exact Nat.le_of_ble_eq_true rfl | (show _ ≤ _; omega)) d_M_init_22 (fun q_15 hfr_16 => ?_)
  refine v_cs (kc' := 3) (ks' := 86) rfl rfl ?_
  have fr_q_15 := hkv4.fr he_12 hfr_16
  have nd_q_15 := vdom.new hdv4 hfr_16 nd_q_7
  refine v_view (fun v5 ev5 => ?_)
  have he_17 : v5 4 o = some (.inr (4, [.long 0, .int 0, .ref q_1, .int 0, .ref q_7, .null, .null, .null, .null, .int 0, .null, .null, .null, .null, .null, .null, .null, .null, .int 0, .null, .null, .null, .null, .int 0, .null, .null, .null, .null, .int 0, .null, .null, .null])) := by rw [ev5]; exact (vv_up_a _ _ _ _ (fun z => by subst z; have y := hfr_16 4; rw [he_12] at y; cases y)).trans he_12
  have he_18 : v5 51 q_1 = some (.inl (G.2.2.2.2 1, 4, .inl (fun _ => 0))) := by rw [ev5]; exact (vv_up_a _ _ _ _ (fun z => by subst z; have y := hfr_16 51; rw [he_13] at y; cases y)).trans he_13
  have he_19 : v5 50 q_7 = some (.inl (G.2.2.2.2 0, 41, .inl (fun _ => 0))) := by rw [ev5]; exact (vv_up_a _ _ _ _ (fun z => by subst z; have y := hfr_16 50; rw [he_14] at y; cases y)).trans he_14
  have he_20 : v5 50 q_15 = some (.inl (G.2.2.2.2 0, 41, .inl (fun _ => 0))) := by rw [ev5]; exact vv_up_s _ _ _ _
  have hkv5 : vkeep (fun a => a = o) v v5 := by rw [ev5]; exact hkv4.nu hfr_16
  have hdv5 : ∀ x ∈ [q_15, q_7, q_1], ∃ (k : Nat) (e : va_E), v5 k x = some e := by rw [ev5]; exact vdom.cons hdv4
  refine v_putF C hin k_M he_17 5 (by decide) tw_488 (fun _ h => h) rfl rfl rfl rfl (Nat.le_of_ble_eq_true rfl) d_M_init_24 ?_
  refine v_view (fun v6 ev6 => ?_)
  have he_21 : v6 4 o = some (.inr (4, [.long 0, .int 0, .ref q_1, .int 0, .ref q_7, .ref q_15, .null, .null, .null, .int 0, .null, .null, .null, .null, .null, .null, .null, .null, .int 0, .null, .null, .null, .null, .int 0, .null, .null, .null, .null, .int 0, .null, .null, .null])) := by rw [ev6]; exact vv_up_s _ _ _ _
  have he_22 : v6 51 q_1 = some (.inl (G.2.2.2.2 1, 4, .inl (fun _ => 0))) := by rw [ev6]; exact (vv_up_k _ _ _ _ (by decide)).trans he_18
  have he_23 : v6 50 q_7 = some (.inl (G.2.2.2.2 0, 41, .inl (fun _ => 0))) := by rw [ev6]; exact (vv_up_k _ _ _ _ (by decide)).trans he_19
  have he_24 : v6 50 q_15 = some (.inl (G.2.2.2.2 0, 41, .inl (fun _ => 0))) := by rw [ev6]; exact (vv_up_k _ _ _ _ (by decide)).trans he_20
  have hkv6 : vkeep (fun a => a = o) v v6 := by rw [ev6]; exact hkv5.up rfl
  have hdv6 : ∀ x ∈ [q_15, q_7, q_1], ∃ (k : Nat) (e : va_E), v6 k x = some e := by rw [ev6]; exact vdom.up hdv5
  refine v_aload_n C 0 d_M_init_27 rfl rfl ?_
  refine v_bipush (x := 41) C d_M_init_28 (by decide) ?_
  refine v_newai (n := 41) C (by decide) (by decide) (by decide) (by first | exact Nat.le_of_ble_eq_true rfl | (show _ ≤ _; omega)) (by first | exact Nat.le_of_ble_eq_true rfl | (show _ ≤ _; omega)) d_M_init_30 (fun q_25 hfr_26 => ?_)
  refine v_cs (kc' := 4) (ks' := 127) rfl rfl ?_
  have fr_q_25 := hkv6.fr he_21 hfr_26
  have nd_q_25 := vdom.new hdv6 hfr_26 nd_q_15
  refine v_view (fun v7 ev7 => ?_)
  have he_27 : v7 4 o = some (.inr (4, [.long 0, .int 0, .ref q_1, .int 0, .ref q_7, .ref q_15, .null, .null, .null, .int 0, .null, .null, .null, .null, .null, .null, .null, .null, .int 0, .null, .null, .null, .null, .int 0, .null, .null, .null, .null, .int 0, .null, .null, .null])) := by rw [ev7]; exact (vv_up_a _ _ _ _ (fun z => by subst z; have y := hfr_26 4; rw [he_21] at y; cases y)).trans he_21
  have he_28 : v7 51 q_1 = some (.inl (G.2.2.2.2 1, 4, .inl (fun _ => 0))) := by rw [ev7]; exact (vv_up_a _ _ _ _ (fun z => by subst z; have y := hfr_26 51; rw [he_22] at y; cases y)).trans he_22
  have he_29 : v7 50 q_7 = some (.inl (G.2.2.2.2 0, 41, .inl (fun _ => 0))) := by rw [ev7]; exact (vv_up_a _ _ _ _ (fun z => by subst z; have y := hfr_26 50; rw [he_23] at y; cases y)).trans he_23
  have he_30 : v7 50 q_15 = some (.inl (G.2.2.2.2 0, 41, .inl (fun _ => 0))) := by rw [ev7]; exact (vv_up_a _ _ _ _ (fun z => by subst z; have y := hfr_26 50; rw [he_24] at y; cases y)).trans he_24
  have he_31 : v7 50 q_25 = some (.inl (G.2.2.2.2 0, 41, .inl (fun _ => 0))) := by rw [ev7]; exact vv_up_s _ _ _ _
  have hkv7 : vkeep (fun a => a = o) v v7 := by rw [ev7]; exact hkv6.nu hfr_26
  have hdv7 : ∀ x ∈ [q_25, q_15, q_7, q_1], ∃ (k : Nat) (e : va_E), v7 k x = some e := by rw [ev7]; exact vdom.cons hdv6
  refine v_putF C hin k_M he_27 6 (by decide) tw_489 (fun _ h => h) rfl rfl rfl rfl (Nat.le_of_ble_eq_true rfl) d_M_init_32 ?_
  refine v_view (fun v8 ev8 => ?_)
  have he_32 : v8 4 o = some (.inr (4, [.long 0, .int 0, .ref q_1, .int 0, .ref q_7, .ref q_15, .ref q_25, .null, .null, .int 0, .null, .null, .null, .null, .null, .null, .null, .null, .int 0, .null, .null, .null, .null, .int 0, .null, .null, .null, .null, .int 0, .null, .null, .null])) := by rw [ev8]; exact vv_up_s _ _ _ _
  have he_33 : v8 51 q_1 = some (.inl (G.2.2.2.2 1, 4, .inl (fun _ => 0))) := by rw [ev8]; exact (vv_up_k _ _ _ _ (by decide)).trans he_28
  have he_34 : v8 50 q_7 = some (.inl (G.2.2.2.2 0, 41, .inl (fun _ => 0))) := by rw [ev8]; exact (vv_up_k _ _ _ _ (by decide)).trans he_29
  have he_35 : v8 50 q_15 = some (.inl (G.2.2.2.2 0, 41, .inl (fun _ => 0))) := by rw [ev8]; exact (vv_up_k _ _ _ _ (by decide)).trans he_30
  have he_36 : v8 50 q_25 = some (.inl (G.2.2.2.2 0, 41, .inl (fun _ => 0))) := by rw [ev8]; exact (vv_up_k _ _ _ _ (by decide)).trans he_31
  have hkv8 : vkeep (fun a => a = o) v v8 := by rw [ev8]; exact hkv7.up rfl
  have hdv8 : ∀ x ∈ [q_25, q_15, q_7, q_1], ∃ (k : Nat) (e : va_E), v8 k x = some e := by rw [ev8]; exact vdom.up hdv7
  refine v_aload_n C 0 d_M_init_35 rfl rfl ?_
  refine v_bipush (x := 41) C d_M_init_36 (by decide) ?_
  refine v_newai (n := 41) C (by decide) (by decide) (by decide) (by first | exact Nat.le_of_ble_eq_true rfl | (show _ ≤ _; omega)) (by first | exact Nat.le_of_ble_eq_true rfl | (show _ ≤ _; omega)) d_M_init_38 (fun q_37 hfr_38 => ?_)
  refine v_cs (kc' := 5) (ks' := 168) rfl rfl ?_
  have fr_q_37 := hkv8.fr he_32 hfr_38
  have nd_q_37 := vdom.new hdv8 hfr_38 nd_q_25
  refine v_view (fun v9 ev9 => ?_)
  have he_39 : v9 4 o = some (.inr (4, [.long 0, .int 0, .ref q_1, .int 0, .ref q_7, .ref q_15, .ref q_25, .null, .null, .int 0, .null, .null, .null, .null, .null, .null, .null, .null, .int 0, .null, .null, .null, .null, .int 0, .null, .null, .null, .null, .int 0, .null, .null, .null])) := by rw [ev9]; exact (vv_up_a _ _ _ _ (fun z => by subst z; have y := hfr_38 4; rw [he_32] at y; cases y)).trans he_32
  have he_40 : v9 51 q_1 = some (.inl (G.2.2.2.2 1, 4, .inl (fun _ => 0))) := by rw [ev9]; exact (vv_up_a _ _ _ _ (fun z => by subst z; have y := hfr_38 51; rw [he_33] at y; cases y)).trans he_33
  have he_41 : v9 50 q_7 = some (.inl (G.2.2.2.2 0, 41, .inl (fun _ => 0))) := by rw [ev9]; exact (vv_up_a _ _ _ _ (fun z => by subst z; have y := hfr_38 50; rw [he_34] at y; cases y)).trans he_34
  have he_42 : v9 50 q_15 = some (.inl (G.2.2.2.2 0, 41, .inl (fun _ => 0))) := by rw [ev9]; exact (vv_up_a _ _ _ _ (fun z => by subst z; have y := hfr_38 50; rw [he_35] at y; cases y)).trans he_35
  have he_43 : v9 50 q_25 = some (.inl (G.2.2.2.2 0, 41, .inl (fun _ => 0))) := by rw [ev9]; exact (vv_up_a _ _ _ _ (fun z => by subst z; have y := hfr_38 50; rw [he_36] at y; cases y)).trans he_36
  have he_44 : v9 50 q_37 = some (.inl (G.2.2.2.2 0, 41, .inl (fun _ => 0))) := by rw [ev9]; exact vv_up_s _ _ _ _
  have hkv9 : vkeep (fun a => a = o) v v9 := by rw [ev9]; exact hkv8.nu hfr_38
  have hdv9 : ∀ x ∈ [q_37, q_25, q_15, q_7, q_1], ∃ (k : Nat) (e : va_E), v9 k x = some e := by rw [ev9]; exact vdom.cons hdv8
  refine v_putF C hin k_M he_39 7 (by decide) tw_490 (fun _ h => h) rfl rfl rfl rfl (Nat.le_of_ble_eq_true rfl) d_M_init_40 ?_
  refine v_view (fun v10 ev10 => ?_)
  have he_45 : v10 4 o = some (.inr (4, [.long 0, .int 0, .ref q_1, .int 0, .ref q_7, .ref q_15, .ref q_25, .ref q_37, .null, .int 0, .null, .null, .null, .null, .null, .null, .null, .null, .int 0, .null, .null, .null, .null, .int 0, .null, .null, .null, .null, .int 0, .null, .null, .null])) := by rw [ev10]; exact vv_up_s _ _ _ _
  have he_46 : v10 51 q_1 = some (.inl (G.2.2.2.2 1, 4, .inl (fun _ => 0))) := by rw [ev10]; exact (vv_up_k _ _ _ _ (by decide)).trans he_40
  have he_47 : v10 50 q_7 = some (.inl (G.2.2.2.2 0, 41, .inl (fun _ => 0))) := by rw [ev10]; exact (vv_up_k _ _ _ _ (by decide)).trans he_41
  have he_48 : v10 50 q_15 = some (.inl (G.2.2.2.2 0, 41, .inl (fun _ => 0))) := by rw [ev10]; exact (vv_up_k _ _ _ _ (by decide)).trans he_42
  have he_49 : v10 50 q_25 = some (.inl (G.2.2.2.2 0, 41, .inl (fun _ => 0))) := by rw [ev10]; exact (vv_up_k _ _ _ _ (by decide)).trans he_43
  have he_50 : v10 50 q_37 = some (.inl (G.2.2.2.2 0, 41, .inl (fun _ => 0))) := by rw [ev10]; exact (vv_up_k _ _ _ _ (by decide)).trans he_44
  have hkv10 : vkeep (fun a => a = o) v v10 := by rw [ev10]; exact hkv9.up rfl
  have hdv10 : ∀ x ∈ [q_37, q_25, q_15, q_7, q_1], ∃ (k : Nat) (e : va_E), v10 k x = some e := by rw [ev10]; exact vdom.up hdv9
  refine v_aload_n C 0 d_M_init_43 rfl rfl ?_
  refine v_sipush (x := 1312) C d_M_init_44 (by decide) ?_
  refine v_newai (n := 1312) C (by decide) (by decide) (by decide) (by first | exact Nat.le_of_ble_eq_true rfl | (show _ ≤ _; omega)) (by first | exact Nat.le_of_ble_eq_true rfl | (show _ ≤ _; omega)) d_M_init_47 (fun q_51 hfr_52 => ?_)
  refine v_cs (kc' := 6) (ks' := 1480) rfl rfl ?_
  have fr_q_51 := hkv10.fr he_45 hfr_52
  have nd_q_51 := vdom.new hdv10 hfr_52 nd_q_37
  refine v_view (fun v11 ev11 => ?_)
  have he_53 : v11 4 o = some (.inr (4, [.long 0, .int 0, .ref q_1, .int 0, .ref q_7, .ref q_15, .ref q_25, .ref q_37, .null, .int 0, .null, .null, .null, .null, .null, .null, .null, .null, .int 0, .null, .null, .null, .null, .int 0, .null, .null, .null, .null, .int 0, .null, .null, .null])) := by rw [ev11]; exact (vv_up_a _ _ _ _ (fun z => by subst z; have y := hfr_52 4; rw [he_45] at y; cases y)).trans he_45
  have he_54 : v11 51 q_1 = some (.inl (G.2.2.2.2 1, 4, .inl (fun _ => 0))) := by rw [ev11]; exact (vv_up_a _ _ _ _ (fun z => by subst z; have y := hfr_52 51; rw [he_46] at y; cases y)).trans he_46
  have he_55 : v11 50 q_7 = some (.inl (G.2.2.2.2 0, 41, .inl (fun _ => 0))) := by rw [ev11]; exact (vv_up_a _ _ _ _ (fun z => by subst z; have y := hfr_52 50; rw [he_47] at y; cases y)).trans he_47
  have he_56 : v11 50 q_15 = some (.inl (G.2.2.2.2 0, 41, .inl (fun _ => 0))) := by rw [ev11]; exact (vv_up_a _ _ _ _ (fun z => by subst z; have y := hfr_52 50; rw [he_48] at y; cases y)).trans he_48
  have he_57 : v11 50 q_25 = some (.inl (G.2.2.2.2 0, 41, .inl (fun _ => 0))) := by rw [ev11]; exact (vv_up_a _ _ _ _ (fun z => by subst z; have y := hfr_52 50; rw [he_49] at y; cases y)).trans he_49
  have he_58 : v11 50 q_37 = some (.inl (G.2.2.2.2 0, 41, .inl (fun _ => 0))) := by rw [ev11]; exact (vv_up_a _ _ _ _ (fun z => by subst z; have y := hfr_52 50; rw [he_50] at y; cases y)).trans he_50
  have he_59 : v11 50 q_51 = some (.inl (G.2.2.2.2 0, 1312, .inl (fun _ => 0))) := by rw [ev11]; exact vv_up_s _ _ _ _
  have hkv11 : vkeep (fun a => a = o) v v11 := by rw [ev11]; exact hkv10.nu hfr_52
  have hdv11 : ∀ x ∈ [q_51, q_37, q_25, q_15, q_7, q_1], ∃ (k : Nat) (e : va_E), v11 k x = some e := by rw [ev11]; exact vdom.cons hdv10
  refine v_putF C hin k_M he_53 8 (by decide) tw_491 (fun _ h => h) rfl rfl rfl rfl (Nat.le_of_ble_eq_true rfl) d_M_init_49 ?_
  refine v_view (fun v12 ev12 => ?_)
  have he_60 : v12 4 o = some (.inr (4, [.long 0, .int 0, .ref q_1, .int 0, .ref q_7, .ref q_15, .ref q_25, .ref q_37, .ref q_51, .int 0, .null, .null, .null, .null, .null, .null, .null, .null, .int 0, .null, .null, .null, .null, .int 0, .null, .null, .null, .null, .int 0, .null, .null, .null])) := by rw [ev12]; exact vv_up_s _ _ _ _
  have he_61 : v12 51 q_1 = some (.inl (G.2.2.2.2 1, 4, .inl (fun _ => 0))) := by rw [ev12]; exact (vv_up_k _ _ _ _ (by decide)).trans he_54
  have he_62 : v12 50 q_7 = some (.inl (G.2.2.2.2 0, 41, .inl (fun _ => 0))) := by rw [ev12]; exact (vv_up_k _ _ _ _ (by decide)).trans he_55
  have he_63 : v12 50 q_15 = some (.inl (G.2.2.2.2 0, 41, .inl (fun _ => 0))) := by rw [ev12]; exact (vv_up_k _ _ _ _ (by decide)).trans he_56
  have he_64 : v12 50 q_25 = some (.inl (G.2.2.2.2 0, 41, .inl (fun _ => 0))) := by rw [ev12]; exact (vv_up_k _ _ _ _ (by decide)).trans he_57
  have he_65 : v12 50 q_37 = some (.inl (G.2.2.2.2 0, 41, .inl (fun _ => 0))) := by rw [ev12]; exact (vv_up_k _ _ _ _ (by decide)).trans he_58
  have he_66 : v12 50 q_51 = some (.inl (G.2.2.2.2 0, 1312, .inl (fun _ => 0))) := by rw [ev12]; exact (vv_up_k _ _ _ _ (by decide)).trans he_59
  have hkv12 : vkeep (fun a => a = o) v v12 := by rw [ev12]; exact hkv11.up rfl
  have hdv12 : ∀ x ∈ [q_51, q_37, q_25, q_15, q_7, q_1], ∃ (k : Nat) (e : va_E), v12 k x = some e := by rw [ev12]; exact vdom.up hdv11
  refine v_aload_n C 0 d_M_init_52 rfl rfl ?_
  refine v_sipush (x := 201) C d_M_init_53 (by decide) ?_
  refine v_newai (n := 201) C (by decide) (by decide) (by decide) (by first | exact Nat.le_of_ble_eq_true rfl | (show _ ≤ _; omega)) (by first | exact Nat.le_of_ble_eq_true rfl | (show _ ≤ _; omega)) d_M_init_56 (fun q_67 hfr_68 => ?_)
  refine v_cs (kc' := 7) (ks' := 1681) rfl rfl ?_
  have fr_q_67 := hkv12.fr he_60 hfr_68
  have nd_q_67 := vdom.new hdv12 hfr_68 nd_q_51
  refine v_view (fun v13 ev13 => ?_)
  have he_69 : v13 4 o = some (.inr (4, [.long 0, .int 0, .ref q_1, .int 0, .ref q_7, .ref q_15, .ref q_25, .ref q_37, .ref q_51, .int 0, .null, .null, .null, .null, .null, .null, .null, .null, .int 0, .null, .null, .null, .null, .int 0, .null, .null, .null, .null, .int 0, .null, .null, .null])) := by rw [ev13]; exact (vv_up_a _ _ _ _ (fun z => by subst z; have y := hfr_68 4; rw [he_60] at y; cases y)).trans he_60
  have he_70 : v13 51 q_1 = some (.inl (G.2.2.2.2 1, 4, .inl (fun _ => 0))) := by rw [ev13]; exact (vv_up_a _ _ _ _ (fun z => by subst z; have y := hfr_68 51; rw [he_61] at y; cases y)).trans he_61
  have he_71 : v13 50 q_7 = some (.inl (G.2.2.2.2 0, 41, .inl (fun _ => 0))) := by rw [ev13]; exact (vv_up_a _ _ _ _ (fun z => by subst z; have y := hfr_68 50; rw [he_62] at y; cases y)).trans he_62
  have he_72 : v13 50 q_15 = some (.inl (G.2.2.2.2 0, 41, .inl (fun _ => 0))) := by rw [ev13]; exact (vv_up_a _ _ _ _ (fun z => by subst z; have y := hfr_68 50; rw [he_63] at y; cases y)).trans he_63
  have he_73 : v13 50 q_25 = some (.inl (G.2.2.2.2 0, 41, .inl (fun _ => 0))) := by rw [ev13]; exact (vv_up_a _ _ _ _ (fun z => by subst z; have y := hfr_68 50; rw [he_64] at y; cases y)).trans he_64
  have he_74 : v13 50 q_37 = some (.inl (G.2.2.2.2 0, 41, .inl (fun _ => 0))) := by rw [ev13]; exact (vv_up_a _ _ _ _ (fun z => by subst z; have y := hfr_68 50; rw [he_65] at y; cases y)).trans he_65
  have he_75 : v13 50 q_51 = some (.inl (G.2.2.2.2 0, 1312, .inl (fun _ => 0))) := by rw [ev13]; exact (vv_up_a _ _ _ _ (fun z => by subst z; have y := hfr_68 50; rw [he_66] at y; cases y)).trans he_66
  have he_76 : v13 50 q_67 = some (.inl (G.2.2.2.2 0, 201, .inl (fun _ => 0))) := by rw [ev13]; exact vv_up_s _ _ _ _
  have hkv13 : vkeep (fun a => a = o) v v13 := by rw [ev13]; exact hkv12.nu hfr_68
  have hdv13 : ∀ x ∈ [q_67, q_51, q_37, q_25, q_15, q_7, q_1], ∃ (k : Nat) (e : va_E), v13 k x = some e := by rw [ev13]; exact vdom.cons hdv12
  refine v_putF C hin k_M he_69 10 (by decide) tw_493 (fun _ h => h) rfl rfl rfl rfl (Nat.le_of_ble_eq_true rfl) d_M_init_58 ?_
  refine v_view (fun v14 ev14 => ?_)
  have he_77 : v14 4 o = some (.inr (4, [.long 0, .int 0, .ref q_1, .int 0, .ref q_7, .ref q_15, .ref q_25, .ref q_37, .ref q_51, .int 0, .ref q_67, .null, .null, .null, .null, .null, .null, .null, .int 0, .null, .null, .null, .null, .int 0, .null, .null, .null, .null, .int 0, .null, .null, .null])) := by rw [ev14]; exact vv_up_s _ _ _ _
  have he_78 : v14 51 q_1 = some (.inl (G.2.2.2.2 1, 4, .inl (fun _ => 0))) := by rw [ev14]; exact (vv_up_k _ _ _ _ (by decide)).trans he_70
  have he_79 : v14 50 q_7 = some (.inl (G.2.2.2.2 0, 41, .inl (fun _ => 0))) := by rw [ev14]; exact (vv_up_k _ _ _ _ (by decide)).trans he_71
  have he_80 : v14 50 q_15 = some (.inl (G.2.2.2.2 0, 41, .inl (fun _ => 0))) := by rw [ev14]; exact (vv_up_k _ _ _ _ (by decide)).trans he_72
  have he_81 : v14 50 q_25 = some (.inl (G.2.2.2.2 0, 41, .inl (fun _ => 0))) := by rw [ev14]; exact (vv_up_k _ _ _ _ (by decide)).trans he_73
  have he_82 : v14 50 q_37 = some (.inl (G.2.2.2.2 0, 41, .inl (fun _ => 0))) := by rw [ev14]; exact (vv_up_k _ _ _ _ (by decide)).trans he_74
  have he_83 : v14 50 q_51 = some (.inl (G.2.2.2.2 0, 1312, .inl (fun _ => 0))) := by rw [ev14]; exact (vv_up_k _ _ _ _ (by decide)).trans he_75
  have he_84 : v14 50 q_67 = some (.inl (G.2.2.2.2 0, 201, .inl (fun _ => 0))) := by rw [ev14]; exact (vv_up_k _ _ _ _ (by decide)).trans he_76
  have hkv14 : vkeep (fun a => a = o) v v14 := by rw [ev14]; exact hkv13.up rfl
  have hdv14 : ∀ x ∈ [q_67, q_51, q_37, q_25, q_15, q_7, q_1], ∃ (k : Nat) (e : va_E), v14 k x = some e := by rw [ev14]; exact vdom.up hdv13
  refine v_aload_n C 0 d_M_init_61 rfl rfl ?_
  refine v_sipush (x := 201) C d_M_init_62 (by decide) ?_
  refine v_newai (n := 201) C (by decide) (by decide) (by decide) (by first | exact Nat.le_of_ble_eq_true rfl | (show _ ≤ _; omega)) (by first | exact Nat.le_of_ble_eq_true rfl | (show _ ≤ _; omega)) d_M_init_65 (fun q_85 hfr_86 => ?_)
  refine v_cs (kc' := 8) (ks' := 1882) rfl rfl ?_
  have fr_q_85 := hkv14.fr he_77 hfr_86
  have nd_q_85 := vdom.new hdv14 hfr_86 nd_q_67
  refine v_view (fun v15 ev15 => ?_)
  have he_87 : v15 4 o = some (.inr (4, [.long 0, .int 0, .ref q_1, .int 0, .ref q_7, .ref q_15, .ref q_25, .ref q_37, .ref q_51, .int 0, .ref q_67, .null, .null, .null, .null, .null, .null, .null, .int 0, .null, .null, .null, .null, .int 0, .null, .null, .null, .null, .int 0, .null, .null, .null])) := by rw [ev15]; exact (vv_up_a _ _ _ _ (fun z => by subst z; have y := hfr_86 4; rw [he_77] at y; cases y)).trans he_77
  have he_88 : v15 51 q_1 = some (.inl (G.2.2.2.2 1, 4, .inl (fun _ => 0))) := by rw [ev15]; exact (vv_up_a _ _ _ _ (fun z => by subst z; have y := hfr_86 51; rw [he_78] at y; cases y)).trans he_78
  have he_89 : v15 50 q_7 = some (.inl (G.2.2.2.2 0, 41, .inl (fun _ => 0))) := by rw [ev15]; exact (vv_up_a _ _ _ _ (fun z => by subst z; have y := hfr_86 50; rw [he_79] at y; cases y)).trans he_79
  have he_90 : v15 50 q_15 = some (.inl (G.2.2.2.2 0, 41, .inl (fun _ => 0))) := by rw [ev15]; exact (vv_up_a _ _ _ _ (fun z => by subst z; have y := hfr_86 50; rw [he_80] at y; cases y)).trans he_80
  have he_91 : v15 50 q_25 = some (.inl (G.2.2.2.2 0, 41, .inl (fun _ => 0))) := by rw [ev15]; exact (vv_up_a _ _ _ _ (fun z => by subst z; have y := hfr_86 50; rw [he_81] at y; cases y)).trans he_81
  have he_92 : v15 50 q_37 = some (.inl (G.2.2.2.2 0, 41, .inl (fun _ => 0))) := by rw [ev15]; exact (vv_up_a _ _ _ _ (fun z => by subst z; have y := hfr_86 50; rw [he_82] at y; cases y)).trans he_82
  have he_93 : v15 50 q_51 = some (.inl (G.2.2.2.2 0, 1312, .inl (fun _ => 0))) := by rw [ev15]; exact (vv_up_a _ _ _ _ (fun z => by subst z; have y := hfr_86 50; rw [he_83] at y; cases y)).trans he_83
  have he_94 : v15 50 q_67 = some (.inl (G.2.2.2.2 0, 201, .inl (fun _ => 0))) := by rw [ev15]; exact (vv_up_a _ _ _ _ (fun z => by subst z; have y := hfr_86 50; rw [he_84] at y; cases y)).trans he_84
  have he_95 : v15 50 q_85 = some (.inl (G.2.2.2.2 0, 201, .inl (fun _ => 0))) := by rw [ev15]; exact vv_up_s _ _ _ _
  have hkv15 : vkeep (fun a => a = o) v v15 := by rw [ev15]; exact hkv14.nu hfr_86
  have hdv15 : ∀ x ∈ [q_85, q_67, q_51, q_37, q_25, q_15, q_7, q_1], ∃ (k : Nat) (e : va_E), v15 k x = some e := by rw [ev15]; exact vdom.cons hdv14
  refine v_putF C hin k_M he_87 11 (by decide) tw_494 (fun _ h => h) rfl rfl rfl rfl (Nat.le_of_ble_eq_true rfl) d_M_init_67 ?_
  refine v_view (fun v16 ev16 => ?_)
  have he_96 : v16 4 o = some (.inr (4, [.long 0, .int 0, .ref q_1, .int 0, .ref q_7, .ref q_15, .ref q_25, .ref q_37, .ref q_51, .int 0, .ref q_67, .ref q_85, .null, .null, .null, .null, .null, .null, .int 0, .null, .null, .null, .null, .int 0, .null, .null, .null, .null, .int 0, .null, .null, .null])) := by rw [ev16]; exact vv_up_s _ _ _ _
  have he_97 : v16 51 q_1 = some (.inl (G.2.2.2.2 1, 4, .inl (fun _ => 0))) := by rw [ev16]; exact (vv_up_k _ _ _ _ (by decide)).trans he_88
  have he_98 : v16 50 q_7 = some (.inl (G.2.2.2.2 0, 41, .inl (fun _ => 0))) := by rw [ev16]; exact (vv_up_k _ _ _ _ (by decide)).trans he_89
  have he_99 : v16 50 q_15 = some (.inl (G.2.2.2.2 0, 41, .inl (fun _ => 0))) := by rw [ev16]; exact (vv_up_k _ _ _ _ (by decide)).trans he_90
  have he_100 : v16 50 q_25 = some (.inl (G.2.2.2.2 0, 41, .inl (fun _ => 0))) := by rw [ev16]; exact (vv_up_k _ _ _ _ (by decide)).trans he_91
  have he_101 : v16 50 q_37 = some (.inl (G.2.2.2.2 0, 41, .inl (fun _ => 0))) := by rw [ev16]; exact (vv_up_k _ _ _ _ (by decide)).trans he_92
  have he_102 : v16 50 q_51 = some (.inl (G.2.2.2.2 0, 1312, .inl (fun _ => 0))) := by rw [ev16]; exact (vv_up_k _ _ _ _ (by decide)).trans he_93
  have he_103 : v16 50 q_67 = some (.inl (G.2.2.2.2 0, 201, .inl (fun _ => 0))) := by rw [ev16]; exact (vv_up_k _ _ _ _ (by decide)).trans he_94
  have he_104 : v16 50 q_85 = some (.inl (G.2.2.2.2 0, 201, .inl (fun _ => 0))) := by rw [ev16]; exact (vv_up_k _ _ _ _ (by decide)).trans he_95
  have hkv16 : vkeep (fun a => a = o) v v16 := by rw [ev16]; exact hkv15.up rfl
  have hdv16 : ∀ x ∈ [q_85, q_67, q_51, q_37, q_25, q_15, q_7, q_1], ∃ (k : Nat) (e : va_E), v16 k x = some e := by rw [ev16]; exact vdom.up hdv15
  refine v_aload_n C 0 d_M_init_70 rfl rfl ?_
  refine v_sipush (x := 201) C d_M_init_71 (by decide) ?_
  refine v_newai (n := 201) C (by decide) (by decide) (by decide) (by first | exact Nat.le_of_ble_eq_true rfl | (show _ ≤ _; omega)) (by first | exact Nat.le_of_ble_eq_true rfl | (show _ ≤ _; omega)) d_M_init_74 (fun q_105 hfr_106 => ?_)
  refine v_cs (kc' := 9) (ks' := 2083) rfl rfl ?_
  have fr_q_105 := hkv16.fr he_96 hfr_106
  have nd_q_105 := vdom.new hdv16 hfr_106 nd_q_85
  refine v_view (fun v17 ev17 => ?_)
  have he_107 : v17 4 o = some (.inr (4, [.long 0, .int 0, .ref q_1, .int 0, .ref q_7, .ref q_15, .ref q_25, .ref q_37, .ref q_51, .int 0, .ref q_67, .ref q_85, .null, .null, .null, .null, .null, .null, .int 0, .null, .null, .null, .null, .int 0, .null, .null, .null, .null, .int 0, .null, .null, .null])) := by rw [ev17]; exact (vv_up_a _ _ _ _ (fun z => by subst z; have y := hfr_106 4; rw [he_96] at y; cases y)).trans he_96
  have he_108 : v17 51 q_1 = some (.inl (G.2.2.2.2 1, 4, .inl (fun _ => 0))) := by rw [ev17]; exact (vv_up_a _ _ _ _ (fun z => by subst z; have y := hfr_106 51; rw [he_97] at y; cases y)).trans he_97
  have he_109 : v17 50 q_7 = some (.inl (G.2.2.2.2 0, 41, .inl (fun _ => 0))) := by rw [ev17]; exact (vv_up_a _ _ _ _ (fun z => by subst z; have y := hfr_106 50; rw [he_98] at y; cases y)).trans he_98
  have he_110 : v17 50 q_15 = some (.inl (G.2.2.2.2 0, 41, .inl (fun _ => 0))) := by rw [ev17]; exact (vv_up_a _ _ _ _ (fun z => by subst z; have y := hfr_106 50; rw [he_99] at y; cases y)).trans he_99
  have he_111 : v17 50 q_25 = some (.inl (G.2.2.2.2 0, 41, .inl (fun _ => 0))) := by rw [ev17]; exact (vv_up_a _ _ _ _ (fun z => by subst z; have y := hfr_106 50; rw [he_100] at y; cases y)).trans he_100
  have he_112 : v17 50 q_37 = some (.inl (G.2.2.2.2 0, 41, .inl (fun _ => 0))) := by rw [ev17]; exact (vv_up_a _ _ _ _ (fun z => by subst z; have y := hfr_106 50; rw [he_101] at y; cases y)).trans he_101
  have he_113 : v17 50 q_51 = some (.inl (G.2.2.2.2 0, 1312, .inl (fun _ => 0))) := by rw [ev17]; exact (vv_up_a _ _ _ _ (fun z => by subst z; have y := hfr_106 50; rw [he_102] at y; cases y)).trans he_102
  have he_114 : v17 50 q_67 = some (.inl (G.2.2.2.2 0, 201, .inl (fun _ => 0))) := by rw [ev17]; exact (vv_up_a _ _ _ _ (fun z => by subst z; have y := hfr_106 50; rw [he_103] at y; cases y)).trans he_103
  have he_115 : v17 50 q_85 = some (.inl (G.2.2.2.2 0, 201, .inl (fun _ => 0))) := by rw [ev17]; exact (vv_up_a _ _ _ _ (fun z => by subst z; have y := hfr_106 50; rw [he_104] at y; cases y)).trans he_104
  have he_116 : v17 50 q_105 = some (.inl (G.2.2.2.2 0, 201, .inl (fun _ => 0))) := by rw [ev17]; exact vv_up_s _ _ _ _
  have hkv17 : vkeep (fun a => a = o) v v17 := by rw [ev17]; exact hkv16.nu hfr_106
  have hdv17 : ∀ x ∈ [q_105, q_85, q_67, q_51, q_37, q_25, q_15, q_7, q_1], ∃ (k : Nat) (e : va_E), v17 k x = some e := by rw [ev17]; exact vdom.cons hdv16
  refine v_putF C hin k_M he_107 12 (by decide) tw_495 (fun _ h => h) rfl rfl rfl rfl (Nat.le_of_ble_eq_true rfl) d_M_init_76 ?_
  refine v_view (fun v18 ev18 => ?_)
  have he_117 : v18 4 o = some (.inr (4, [.long 0, .int 0, .ref q_1, .int 0, .ref q_7, .ref q_15, .ref q_25, .ref q_37, .ref q_51, .int 0, .ref q_67, .ref q_85, .ref q_105, .null, .null, .null, .null, .null, .int 0, .null, .null, .null, .null, .int 0, .null, .null, .null, .null, .int 0, .null, .null, .null])) := by rw [ev18]; exact vv_up_s _ _ _ _
  have he_118 : v18 51 q_1 = some (.inl (G.2.2.2.2 1, 4, .inl (fun _ => 0))) := by rw [ev18]; exact (vv_up_k _ _ _ _ (by decide)).trans he_108
  have he_119 : v18 50 q_7 = some (.inl (G.2.2.2.2 0, 41, .inl (fun _ => 0))) := by rw [ev18]; exact (vv_up_k _ _ _ _ (by decide)).trans he_109
  have he_120 : v18 50 q_15 = some (.inl (G.2.2.2.2 0, 41, .inl (fun _ => 0))) := by rw [ev18]; exact (vv_up_k _ _ _ _ (by decide)).trans he_110
  have he_121 : v18 50 q_25 = some (.inl (G.2.2.2.2 0, 41, .inl (fun _ => 0))) := by rw [ev18]; exact (vv_up_k _ _ _ _ (by decide)).trans he_111
  have he_122 : v18 50 q_37 = some (.inl (G.2.2.2.2 0, 41, .inl (fun _ => 0))) := by rw [ev18]; exact (vv_up_k _ _ _ _ (by decide)).trans he_112
  have he_123 : v18 50 q_51 = some (.inl (G.2.2.2.2 0, 1312, .inl (fun _ => 0))) := by rw [ev18]; exact (vv_up_k _ _ _ _ (by decide)).trans he_113
  have he_124 : v18 50 q_67 = some (.inl (G.2.2.2.2 0, 201, .inl (fun _ => 0))) := by rw [ev18]; exact (vv_up_k _ _ _ _ (by decide)).trans he_114
  have he_125 : v18 50 q_85 = some (.inl (G.2.2.2.2 0, 201, .inl (fun _ => 0))) := by rw [ev18]; exact (vv_up_k _ _ _ _ (by decide)).trans he_115
  have he_126 : v18 50 q_105 = some (.inl (G.2.2.2.2 0, 201, .inl (fun _ => 0))) := by rw [ev18]; exact (vv_up_k _ _ _ _ (by decide)).trans he_116
  have hkv18 : vkeep (fun a => a = o) v v18 := by rw [ev18]; exact hkv17.up rfl
  have hdv18 : ∀ x ∈ [q_105, q_85, q_67, q_51, q_37, q_25, q_15, q_7, q_1], ∃ (k : Nat) (e : va_E), v18 k x = some e := by rw [ev18]; exact vdom.up hdv17
  refine v_aload_n C 0 d_M_init_79 rfl rfl ?_
  refine v_sipush (x := 201) C d_M_init_80 (by decide) ?_
  refine v_newal (n := 201) C (by decide) (by decide) (by decide) (by first | exact Nat.le_of_ble_eq_true rfl | (show _ ≤ _; omega)) (by first | exact Nat.le_of_ble_eq_true rfl | (show _ ≤ _; omega)) d_M_init_83 (fun q_127 hfr_128 => ?_)
  refine v_cs (kc' := 10) (ks' := 2284) rfl rfl ?_
  have fr_q_127 := hkv18.fr he_117 hfr_128
  have nd_q_127 := vdom.new hdv18 hfr_128 nd_q_105
  refine v_view (fun v19 ev19 => ?_)
  have he_129 : v19 4 o = some (.inr (4, [.long 0, .int 0, .ref q_1, .int 0, .ref q_7, .ref q_15, .ref q_25, .ref q_37, .ref q_51, .int 0, .ref q_67, .ref q_85, .ref q_105, .null, .null, .null, .null, .null, .int 0, .null, .null, .null, .null, .int 0, .null, .null, .null, .null, .int 0, .null, .null, .null])) := by rw [ev19]; exact (vv_up_a _ _ _ _ (fun z => by subst z; have y := hfr_128 4; rw [he_117] at y; cases y)).trans he_117
  have he_130 : v19 51 q_1 = some (.inl (G.2.2.2.2 1, 4, .inl (fun _ => 0))) := by rw [ev19]; exact (vv_up_a _ _ _ _ (fun z => by subst z; have y := hfr_128 51; rw [he_118] at y; cases y)).trans he_118
  have he_131 : v19 50 q_7 = some (.inl (G.2.2.2.2 0, 41, .inl (fun _ => 0))) := by rw [ev19]; exact (vv_up_a _ _ _ _ (fun z => by subst z; have y := hfr_128 50; rw [he_119] at y; cases y)).trans he_119
  have he_132 : v19 50 q_15 = some (.inl (G.2.2.2.2 0, 41, .inl (fun _ => 0))) := by rw [ev19]; exact (vv_up_a _ _ _ _ (fun z => by subst z; have y := hfr_128 50; rw [he_120] at y; cases y)).trans he_120
  have he_133 : v19 50 q_25 = some (.inl (G.2.2.2.2 0, 41, .inl (fun _ => 0))) := by rw [ev19]; exact (vv_up_a _ _ _ _ (fun z => by subst z; have y := hfr_128 50; rw [he_121] at y; cases y)).trans he_121
  have he_134 : v19 50 q_37 = some (.inl (G.2.2.2.2 0, 41, .inl (fun _ => 0))) := by rw [ev19]; exact (vv_up_a _ _ _ _ (fun z => by subst z; have y := hfr_128 50; rw [he_122] at y; cases y)).trans he_122
  have he_135 : v19 50 q_51 = some (.inl (G.2.2.2.2 0, 1312, .inl (fun _ => 0))) := by rw [ev19]; exact (vv_up_a _ _ _ _ (fun z => by subst z; have y := hfr_128 50; rw [he_123] at y; cases y)).trans he_123
  have he_136 : v19 50 q_67 = some (.inl (G.2.2.2.2 0, 201, .inl (fun _ => 0))) := by rw [ev19]; exact (vv_up_a _ _ _ _ (fun z => by subst z; have y := hfr_128 50; rw [he_124] at y; cases y)).trans he_124
  have he_137 : v19 50 q_85 = some (.inl (G.2.2.2.2 0, 201, .inl (fun _ => 0))) := by rw [ev19]; exact (vv_up_a _ _ _ _ (fun z => by subst z; have y := hfr_128 50; rw [he_125] at y; cases y)).trans he_125
  have he_138 : v19 50 q_105 = some (.inl (G.2.2.2.2 0, 201, .inl (fun _ => 0))) := by rw [ev19]; exact (vv_up_a _ _ _ _ (fun z => by subst z; have y := hfr_128 50; rw [he_126] at y; cases y)).trans he_126
  have he_139 : v19 52 q_127 = some (.inl (G.2.2.2.2 2, 201, .inr (.inl (fun _ => 0)))) := by rw [ev19]; exact vv_up_s _ _ _ _
  have hkv19 : vkeep (fun a => a = o) v v19 := by rw [ev19]; exact hkv18.nu hfr_128
  have hdv19 : ∀ x ∈ [q_127, q_105, q_85, q_67, q_51, q_37, q_25, q_15, q_7, q_1], ∃ (k : Nat) (e : va_E), v19 k x = some e := by rw [ev19]; exact vdom.cons hdv18
  refine v_putF C hin k_M he_129 13 (by decide) tw_496 (fun _ h => h) rfl rfl rfl rfl (Nat.le_of_ble_eq_true rfl) d_M_init_85 ?_
  refine v_view (fun v20 ev20 => ?_)
  have he_140 : v20 4 o = some (.inr (4, [.long 0, .int 0, .ref q_1, .int 0, .ref q_7, .ref q_15, .ref q_25, .ref q_37, .ref q_51, .int 0, .ref q_67, .ref q_85, .ref q_105, .ref q_127, .null, .null, .null, .null, .int 0, .null, .null, .null, .null, .int 0, .null, .null, .null, .null, .int 0, .null, .null, .null])) := by rw [ev20]; exact vv_up_s _ _ _ _
  have he_141 : v20 51 q_1 = some (.inl (G.2.2.2.2 1, 4, .inl (fun _ => 0))) := by rw [ev20]; exact (vv_up_k _ _ _ _ (by decide)).trans he_130
  have he_142 : v20 50 q_7 = some (.inl (G.2.2.2.2 0, 41, .inl (fun _ => 0))) := by rw [ev20]; exact (vv_up_k _ _ _ _ (by decide)).trans he_131
  have he_143 : v20 50 q_15 = some (.inl (G.2.2.2.2 0, 41, .inl (fun _ => 0))) := by rw [ev20]; exact (vv_up_k _ _ _ _ (by decide)).trans he_132
  have he_144 : v20 50 q_25 = some (.inl (G.2.2.2.2 0, 41, .inl (fun _ => 0))) := by rw [ev20]; exact (vv_up_k _ _ _ _ (by decide)).trans he_133
  have he_145 : v20 50 q_37 = some (.inl (G.2.2.2.2 0, 41, .inl (fun _ => 0))) := by rw [ev20]; exact (vv_up_k _ _ _ _ (by decide)).trans he_134
  have he_146 : v20 50 q_51 = some (.inl (G.2.2.2.2 0, 1312, .inl (fun _ => 0))) := by rw [ev20]; exact (vv_up_k _ _ _ _ (by decide)).trans he_135
  have he_147 : v20 50 q_67 = some (.inl (G.2.2.2.2 0, 201, .inl (fun _ => 0))) := by rw [ev20]; exact (vv_up_k _ _ _ _ (by decide)).trans he_136
  have he_148 : v20 50 q_85 = some (.inl (G.2.2.2.2 0, 201, .inl (fun _ => 0))) := by rw [ev20]; exact (vv_up_k _ _ _ _ (by decide)).trans he_137
  have he_149 : v20 50 q_105 = some (.inl (G.2.2.2.2 0, 201, .inl (fun _ => 0))) := by rw [ev20]; exact (vv_up_k _ _ _ _ (by decide)).trans he_138
  have he_150 : v20 52 q_127 = some (.inl (G.2.2.2.2 2, 201, .inr (.inl (fun _ => 0)))) := by rw [ev20]; exact (vv_up_k _ _ _ _ (by decide)).trans he_139
  have hkv20 : vkeep (fun a => a = o) v v20 := by rw [ev20]; exact hkv19.up rfl
  have hdv20 : ∀ x ∈ [q_127, q_105, q_85, q_67, q_51, q_37, q_25, q_15, q_7, q_1], ∃ (k : Nat) (e : va_E), v20 k x = some e := by rw [ev20]; exact vdom.up hdv19
  refine v_aload_n C 0 d_M_init_88 rfl rfl ?_
  refine v_sipush (x := 201) C d_M_init_89 (by decide) ?_
  refine v_newal (n := 201) C (by decide) (by decide) (by decide) (by first | exact Nat.le_of_ble_eq_true rfl | (show _ ≤ _; omega)) (by first | exact Nat.le_of_ble_eq_true rfl | (show _ ≤ _; omega)) d_M_init_92 (fun q_151 hfr_152 => ?_)
  refine v_cs (kc' := 11) (ks' := 2485) rfl rfl ?_
  have fr_q_151 := hkv20.fr he_140 hfr_152
  have nd_q_151 := vdom.new hdv20 hfr_152 nd_q_127
  refine v_view (fun v21 ev21 => ?_)
  have he_153 : v21 4 o = some (.inr (4, [.long 0, .int 0, .ref q_1, .int 0, .ref q_7, .ref q_15, .ref q_25, .ref q_37, .ref q_51, .int 0, .ref q_67, .ref q_85, .ref q_105, .ref q_127, .null, .null, .null, .null, .int 0, .null, .null, .null, .null, .int 0, .null, .null, .null, .null, .int 0, .null, .null, .null])) := by rw [ev21]; exact (vv_up_a _ _ _ _ (fun z => by subst z; have y := hfr_152 4; rw [he_140] at y; cases y)).trans he_140
  have he_154 : v21 51 q_1 = some (.inl (G.2.2.2.2 1, 4, .inl (fun _ => 0))) := by rw [ev21]; exact (vv_up_a _ _ _ _ (fun z => by subst z; have y := hfr_152 51; rw [he_141] at y; cases y)).trans he_141
  have he_155 : v21 50 q_7 = some (.inl (G.2.2.2.2 0, 41, .inl (fun _ => 0))) := by rw [ev21]; exact (vv_up_a _ _ _ _ (fun z => by subst z; have y := hfr_152 50; rw [he_142] at y; cases y)).trans he_142
  have he_156 : v21 50 q_15 = some (.inl (G.2.2.2.2 0, 41, .inl (fun _ => 0))) := by rw [ev21]; exact (vv_up_a _ _ _ _ (fun z => by subst z; have y := hfr_152 50; rw [he_143] at y; cases y)).trans he_143
  have he_157 : v21 50 q_25 = some (.inl (G.2.2.2.2 0, 41, .inl (fun _ => 0))) := by rw [ev21]; exact (vv_up_a _ _ _ _ (fun z => by subst z; have y := hfr_152 50; rw [he_144] at y; cases y)).trans he_144
  have he_158 : v21 50 q_37 = some (.inl (G.2.2.2.2 0, 41, .inl (fun _ => 0))) := by rw [ev21]; exact (vv_up_a _ _ _ _ (fun z => by subst z; have y := hfr_152 50; rw [he_145] at y; cases y)).trans he_145
  have he_159 : v21 50 q_51 = some (.inl (G.2.2.2.2 0, 1312, .inl (fun _ => 0))) := by rw [ev21]; exact (vv_up_a _ _ _ _ (fun z => by subst z; have y := hfr_152 50; rw [he_146] at y; cases y)).trans he_146
  have he_160 : v21 50 q_67 = some (.inl (G.2.2.2.2 0, 201, .inl (fun _ => 0))) := by rw [ev21]; exact (vv_up_a _ _ _ _ (fun z => by subst z; have y := hfr_152 50; rw [he_147] at y; cases y)).trans he_147
  have he_161 : v21 50 q_85 = some (.inl (G.2.2.2.2 0, 201, .inl (fun _ => 0))) := by rw [ev21]; exact (vv_up_a _ _ _ _ (fun z => by subst z; have y := hfr_152 50; rw [he_148] at y; cases y)).trans he_148
  have he_162 : v21 50 q_105 = some (.inl (G.2.2.2.2 0, 201, .inl (fun _ => 0))) := by rw [ev21]; exact (vv_up_a _ _ _ _ (fun z => by subst z; have y := hfr_152 50; rw [he_149] at y; cases y)).trans he_149
  have he_163 : v21 52 q_127 = some (.inl (G.2.2.2.2 2, 201, .inr (.inl (fun _ => 0)))) := by rw [ev21]; exact (vv_up_a _ _ _ _ (fun z => by subst z; have y := hfr_152 52; rw [he_150] at y; cases y)).trans he_150
  have he_164 : v21 52 q_151 = some (.inl (G.2.2.2.2 2, 201, .inr (.inl (fun _ => 0)))) := by rw [ev21]; exact vv_up_s _ _ _ _
  have hkv21 : vkeep (fun a => a = o) v v21 := by rw [ev21]; exact hkv20.nu hfr_152
  have hdv21 : ∀ x ∈ [q_151, q_127, q_105, q_85, q_67, q_51, q_37, q_25, q_15, q_7, q_1], ∃ (k : Nat) (e : va_E), v21 k x = some e := by rw [ev21]; exact vdom.cons hdv20
  refine v_putF C hin k_M he_153 14 (by decide) tw_497 (fun _ h => h) rfl rfl rfl rfl (Nat.le_of_ble_eq_true rfl) d_M_init_94 ?_
  refine v_view (fun v22 ev22 => ?_)
  have he_165 : v22 4 o = some (.inr (4, [.long 0, .int 0, .ref q_1, .int 0, .ref q_7, .ref q_15, .ref q_25, .ref q_37, .ref q_51, .int 0, .ref q_67, .ref q_85, .ref q_105, .ref q_127, .ref q_151, .null, .null, .null, .int 0, .null, .null, .null, .null, .int 0, .null, .null, .null, .null, .int 0, .null, .null, .null])) := by rw [ev22]; exact vv_up_s _ _ _ _
  have he_166 : v22 51 q_1 = some (.inl (G.2.2.2.2 1, 4, .inl (fun _ => 0))) := by rw [ev22]; exact (vv_up_k _ _ _ _ (by decide)).trans he_154
  have he_167 : v22 50 q_7 = some (.inl (G.2.2.2.2 0, 41, .inl (fun _ => 0))) := by rw [ev22]; exact (vv_up_k _ _ _ _ (by decide)).trans he_155
  have he_168 : v22 50 q_15 = some (.inl (G.2.2.2.2 0, 41, .inl (fun _ => 0))) := by rw [ev22]; exact (vv_up_k _ _ _ _ (by decide)).trans he_156
  have he_169 : v22 50 q_25 = some (.inl (G.2.2.2.2 0, 41, .inl (fun _ => 0))) := by rw [ev22]; exact (vv_up_k _ _ _ _ (by decide)).trans he_157
  have he_170 : v22 50 q_37 = some (.inl (G.2.2.2.2 0, 41, .inl (fun _ => 0))) := by rw [ev22]; exact (vv_up_k _ _ _ _ (by decide)).trans he_158
  have he_171 : v22 50 q_51 = some (.inl (G.2.2.2.2 0, 1312, .inl (fun _ => 0))) := by rw [ev22]; exact (vv_up_k _ _ _ _ (by decide)).trans he_159
  have he_172 : v22 50 q_67 = some (.inl (G.2.2.2.2 0, 201, .inl (fun _ => 0))) := by rw [ev22]; exact (vv_up_k _ _ _ _ (by decide)).trans he_160
  have he_173 : v22 50 q_85 = some (.inl (G.2.2.2.2 0, 201, .inl (fun _ => 0))) := by rw [ev22]; exact (vv_up_k _ _ _ _ (by decide)).trans he_161
  have he_174 : v22 50 q_105 = some (.inl (G.2.2.2.2 0, 201, .inl (fun _ => 0))) := by rw [ev22]; exact (vv_up_k _ _ _ _ (by decide)).trans he_162
  have he_175 : v22 52 q_127 = some (.inl (G.2.2.2.2 2, 201, .inr (.inl (fun _ => 0)))) := by rw [ev22]; exact (vv_up_k _ _ _ _ (by decide)).trans he_163
  have he_176 : v22 52 q_151 = some (.inl (G.2.2.2.2 2, 201, .inr (.inl (fun _ => 0)))) := by rw [ev22]; exact (vv_up_k _ _ _ _ (by decide)).trans he_164
  have hkv22 : vkeep (fun a => a = o) v v22 := by rw [ev22]; exact hkv21.up rfl
  have hdv22 : ∀ x ∈ [q_151, q_127, q_105, q_85, q_67, q_51, q_37, q_25, q_15, q_7, q_1], ∃ (k : Nat) (e : va_E), v22 k x = some e := by rw [ev22]; exact vdom.up hdv21
  refine v_aload_n C 0 d_M_init_97 rfl rfl ?_
  refine v_sipush (x := 201) C d_M_init_98 (by decide) ?_
  refine v_newai (n := 201) C (by decide) (by decide) (by decide) (by first | exact Nat.le_of_ble_eq_true rfl | (show _ ≤ _; omega)) (by first | exact Nat.le_of_ble_eq_true rfl | (show _ ≤ _; omega)) d_M_init_101 (fun q_177 hfr_178 => ?_)
  refine v_cs (kc' := 12) (ks' := 2686) rfl rfl ?_
  have fr_q_177 := hkv22.fr he_165 hfr_178
  have nd_q_177 := vdom.new hdv22 hfr_178 nd_q_151
  refine v_view (fun v23 ev23 => ?_)
  have he_179 : v23 4 o = some (.inr (4, [.long 0, .int 0, .ref q_1, .int 0, .ref q_7, .ref q_15, .ref q_25, .ref q_37, .ref q_51, .int 0, .ref q_67, .ref q_85, .ref q_105, .ref q_127, .ref q_151, .null, .null, .null, .int 0, .null, .null, .null, .null, .int 0, .null, .null, .null, .null, .int 0, .null, .null, .null])) := by rw [ev23]; exact (vv_up_a _ _ _ _ (fun z => by subst z; have y := hfr_178 4; rw [he_165] at y; cases y)).trans he_165
  have he_180 : v23 51 q_1 = some (.inl (G.2.2.2.2 1, 4, .inl (fun _ => 0))) := by rw [ev23]; exact (vv_up_a _ _ _ _ (fun z => by subst z; have y := hfr_178 51; rw [he_166] at y; cases y)).trans he_166
  have he_181 : v23 50 q_7 = some (.inl (G.2.2.2.2 0, 41, .inl (fun _ => 0))) := by rw [ev23]; exact (vv_up_a _ _ _ _ (fun z => by subst z; have y := hfr_178 50; rw [he_167] at y; cases y)).trans he_167
  have he_182 : v23 50 q_15 = some (.inl (G.2.2.2.2 0, 41, .inl (fun _ => 0))) := by rw [ev23]; exact (vv_up_a _ _ _ _ (fun z => by subst z; have y := hfr_178 50; rw [he_168] at y; cases y)).trans he_168
  have he_183 : v23 50 q_25 = some (.inl (G.2.2.2.2 0, 41, .inl (fun _ => 0))) := by rw [ev23]; exact (vv_up_a _ _ _ _ (fun z => by subst z; have y := hfr_178 50; rw [he_169] at y; cases y)).trans he_169
  have he_184 : v23 50 q_37 = some (.inl (G.2.2.2.2 0, 41, .inl (fun _ => 0))) := by rw [ev23]; exact (vv_up_a _ _ _ _ (fun z => by subst z; have y := hfr_178 50; rw [he_170] at y; cases y)).trans he_170
  have he_185 : v23 50 q_51 = some (.inl (G.2.2.2.2 0, 1312, .inl (fun _ => 0))) := by rw [ev23]; exact (vv_up_a _ _ _ _ (fun z => by subst z; have y := hfr_178 50; rw [he_171] at y; cases y)).trans he_171
  have he_186 : v23 50 q_67 = some (.inl (G.2.2.2.2 0, 201, .inl (fun _ => 0))) := by rw [ev23]; exact (vv_up_a _ _ _ _ (fun z => by subst z; have y := hfr_178 50; rw [he_172] at y; cases y)).trans he_172
  have he_187 : v23 50 q_85 = some (.inl (G.2.2.2.2 0, 201, .inl (fun _ => 0))) := by rw [ev23]; exact (vv_up_a _ _ _ _ (fun z => by subst z; have y := hfr_178 50; rw [he_173] at y; cases y)).trans he_173
  have he_188 : v23 50 q_105 = some (.inl (G.2.2.2.2 0, 201, .inl (fun _ => 0))) := by rw [ev23]; exact (vv_up_a _ _ _ _ (fun z => by subst z; have y := hfr_178 50; rw [he_174] at y; cases y)).trans he_174
  have he_189 : v23 52 q_127 = some (.inl (G.2.2.2.2 2, 201, .inr (.inl (fun _ => 0)))) := by rw [ev23]; exact (vv_up_a _ _ _ _ (fun z => by subst z; have y := hfr_178 52; rw [he_175] at y; cases y)).trans he_175
  have he_190 : v23 52 q_151 = some (.inl (G.2.2.2.2 2, 201, .inr (.inl (fun _ => 0)))) := by rw [ev23]; exact (vv_up_a _ _ _ _ (fun z => by subst z; have y := hfr_178 52; rw [he_176] at y; cases y)).trans he_176
  have he_191 : v23 50 q_177 = some (.inl (G.2.2.2.2 0, 201, .inl (fun _ => 0))) := by rw [ev23]; exact vv_up_s _ _ _ _
  have hkv23 : vkeep (fun a => a = o) v v23 := by rw [ev23]; exact hkv22.nu hfr_178
  have hdv23 : ∀ x ∈ [q_177, q_151, q_127, q_105, q_85, q_67, q_51, q_37, q_25, q_15, q_7, q_1], ∃ (k : Nat) (e : va_E), v23 k x = some e := by rw [ev23]; exact vdom.cons hdv22
  refine v_putF C hin k_M he_179 15 (by decide) tw_498 (fun _ h => h) rfl rfl rfl rfl (Nat.le_of_ble_eq_true rfl) d_M_init_103 ?_
  refine v_view (fun v24 ev24 => ?_)
  have he_192 : v24 4 o = some (.inr (4, [.long 0, .int 0, .ref q_1, .int 0, .ref q_7, .ref q_15, .ref q_25, .ref q_37, .ref q_51, .int 0, .ref q_67, .ref q_85, .ref q_105, .ref q_127, .ref q_151, .ref q_177, .null, .null, .int 0, .null, .null, .null, .null, .int 0, .null, .null, .null, .null, .int 0, .null, .null, .null])) := by rw [ev24]; exact vv_up_s _ _ _ _
  have he_193 : v24 51 q_1 = some (.inl (G.2.2.2.2 1, 4, .inl (fun _ => 0))) := by rw [ev24]; exact (vv_up_k _ _ _ _ (by decide)).trans he_180
  have he_194 : v24 50 q_7 = some (.inl (G.2.2.2.2 0, 41, .inl (fun _ => 0))) := by rw [ev24]; exact (vv_up_k _ _ _ _ (by decide)).trans he_181
  have he_195 : v24 50 q_15 = some (.inl (G.2.2.2.2 0, 41, .inl (fun _ => 0))) := by rw [ev24]; exact (vv_up_k _ _ _ _ (by decide)).trans he_182
  have he_196 : v24 50 q_25 = some (.inl (G.2.2.2.2 0, 41, .inl (fun _ => 0))) := by rw [ev24]; exact (vv_up_k _ _ _ _ (by decide)).trans he_183
  have he_197 : v24 50 q_37 = some (.inl (G.2.2.2.2 0, 41, .inl (fun _ => 0))) := by rw [ev24]; exact (vv_up_k _ _ _ _ (by decide)).trans he_184
  have he_198 : v24 50 q_51 = some (.inl (G.2.2.2.2 0, 1312, .inl (fun _ => 0))) := by rw [ev24]; exact (vv_up_k _ _ _ _ (by decide)).trans he_185
  have he_199 : v24 50 q_67 = some (.inl (G.2.2.2.2 0, 201, .inl (fun _ => 0))) := by rw [ev24]; exact (vv_up_k _ _ _ _ (by decide)).trans he_186
  have he_200 : v24 50 q_85 = some (.inl (G.2.2.2.2 0, 201, .inl (fun _ => 0))) := by rw [ev24]; exact (vv_up_k _ _ _ _ (by decide)).trans he_187
  have he_201 : v24 50 q_105 = some (.inl (G.2.2.2.2 0, 201, .inl (fun _ => 0))) := by rw [ev24]; exact (vv_up_k _ _ _ _ (by decide)).trans he_188
  have he_202 : v24 52 q_127 = some (.inl (G.2.2.2.2 2, 201, .inr (.inl (fun _ => 0)))) := by rw [ev24]; exact (vv_up_k _ _ _ _ (by decide)).trans he_189
  have he_203 : v24 52 q_151 = some (.inl (G.2.2.2.2 2, 201, .inr (.inl (fun _ => 0)))) := by rw [ev24]; exact (vv_up_k _ _ _ _ (by decide)).trans he_190
  have he_204 : v24 50 q_177 = some (.inl (G.2.2.2.2 0, 201, .inl (fun _ => 0))) := by rw [ev24]; exact (vv_up_k _ _ _ _ (by decide)).trans he_191
  have hkv24 : vkeep (fun a => a = o) v v24 := by rw [ev24]; exact hkv23.up rfl
  have hdv24 : ∀ x ∈ [q_177, q_151, q_127, q_105, q_85, q_67, q_51, q_37, q_25, q_15, q_7, q_1], ∃ (k : Nat) (e : va_E), v24 k x = some e := by rw [ev24]; exact vdom.up hdv23
  refine v_aload_n C 0 d_M_init_106 rfl rfl ?_
  refine v_sipush (x := 201) C d_M_init_107 (by decide) ?_
  refine v_newaz (n := 201) C (by decide) (by decide) (by decide) (by first | exact Nat.le_of_ble_eq_true rfl | (show _ ≤ _; omega)) (by first | exact Nat.le_of_ble_eq_true rfl | (show _ ≤ _; omega)) d_M_init_110 (fun q_205 hfr_206 => ?_)
  refine v_cs (kc' := 13) (ks' := 2887) rfl rfl ?_
  have fr_q_205 := hkv24.fr he_192 hfr_206
  have nd_q_205 := vdom.new hdv24 hfr_206 nd_q_177
  refine v_view (fun v25 ev25 => ?_)
  have he_207 : v25 4 o = some (.inr (4, [.long 0, .int 0, .ref q_1, .int 0, .ref q_7, .ref q_15, .ref q_25, .ref q_37, .ref q_51, .int 0, .ref q_67, .ref q_85, .ref q_105, .ref q_127, .ref q_151, .ref q_177, .null, .null, .int 0, .null, .null, .null, .null, .int 0, .null, .null, .null, .null, .int 0, .null, .null, .null])) := by rw [ev25]; exact (vv_up_a _ _ _ _ (fun z => by subst z; have y := hfr_206 4; rw [he_192] at y; cases y)).trans he_192
  have he_208 : v25 51 q_1 = some (.inl (G.2.2.2.2 1, 4, .inl (fun _ => 0))) := by rw [ev25]; exact (vv_up_a _ _ _ _ (fun z => by subst z; have y := hfr_206 51; rw [he_193] at y; cases y)).trans he_193
  have he_209 : v25 50 q_7 = some (.inl (G.2.2.2.2 0, 41, .inl (fun _ => 0))) := by rw [ev25]; exact (vv_up_a _ _ _ _ (fun z => by subst z; have y := hfr_206 50; rw [he_194] at y; cases y)).trans he_194
  have he_210 : v25 50 q_15 = some (.inl (G.2.2.2.2 0, 41, .inl (fun _ => 0))) := by rw [ev25]; exact (vv_up_a _ _ _ _ (fun z => by subst z; have y := hfr_206 50; rw [he_195] at y; cases y)).trans he_195
  have he_211 : v25 50 q_25 = some (.inl (G.2.2.2.2 0, 41, .inl (fun _ => 0))) := by rw [ev25]; exact (vv_up_a _ _ _ _ (fun z => by subst z; have y := hfr_206 50; rw [he_196] at y; cases y)).trans he_196
  have he_212 : v25 50 q_37 = some (.inl (G.2.2.2.2 0, 41, .inl (fun _ => 0))) := by rw [ev25]; exact (vv_up_a _ _ _ _ (fun z => by subst z; have y := hfr_206 50; rw [he_197] at y; cases y)).trans he_197
  have he_213 : v25 50 q_51 = some (.inl (G.2.2.2.2 0, 1312, .inl (fun _ => 0))) := by rw [ev25]; exact (vv_up_a _ _ _ _ (fun z => by subst z; have y := hfr_206 50; rw [he_198] at y; cases y)).trans he_198
  have he_214 : v25 50 q_67 = some (.inl (G.2.2.2.2 0, 201, .inl (fun _ => 0))) := by rw [ev25]; exact (vv_up_a _ _ _ _ (fun z => by subst z; have y := hfr_206 50; rw [he_199] at y; cases y)).trans he_199
  have he_215 : v25 50 q_85 = some (.inl (G.2.2.2.2 0, 201, .inl (fun _ => 0))) := by rw [ev25]; exact (vv_up_a _ _ _ _ (fun z => by subst z; have y := hfr_206 50; rw [he_200] at y; cases y)).trans he_200
  have he_216 : v25 50 q_105 = some (.inl (G.2.2.2.2 0, 201, .inl (fun _ => 0))) := by rw [ev25]; exact (vv_up_a _ _ _ _ (fun z => by subst z; have y := hfr_206 50; rw [he_201] at y; cases y)).trans he_201
  have he_217 : v25 52 q_127 = some (.inl (G.2.2.2.2 2, 201, .inr (.inl (fun _ => 0)))) := by rw [ev25]; exact (vv_up_a _ _ _ _ (fun z => by subst z; have y := hfr_206 52; rw [he_202] at y; cases y)).trans he_202
  have he_218 : v25 52 q_151 = some (.inl (G.2.2.2.2 2, 201, .inr (.inl (fun _ => 0)))) := by rw [ev25]; exact (vv_up_a _ _ _ _ (fun z => by subst z; have y := hfr_206 52; rw [he_203] at y; cases y)).trans he_203
  have he_219 : v25 50 q_177 = some (.inl (G.2.2.2.2 0, 201, .inl (fun _ => 0))) := by rw [ev25]; exact (vv_up_a _ _ _ _ (fun z => by subst z; have y := hfr_206 50; rw [he_204] at y; cases y)).trans he_204
  have he_220 : v25 51 q_205 = some (.inl (G.2.2.2.2 1, 201, .inl (fun _ => 0))) := by rw [ev25]; exact vv_up_s _ _ _ _
  have hkv25 : vkeep (fun a => a = o) v v25 := by rw [ev25]; exact hkv24.nu hfr_206
  have hdv25 : ∀ x ∈ [q_205, q_177, q_151, q_127, q_105, q_85, q_67, q_51, q_37, q_25, q_15, q_7, q_1], ∃ (k : Nat) (e : va_E), v25 k x = some e := by rw [ev25]; exact vdom.cons hdv24
  refine v_putF C hin k_M he_207 16 (by decide) tw_499 (fun _ h => h) rfl rfl rfl rfl (Nat.le_of_ble_eq_true rfl) d_M_init_112 ?_
  refine v_view (fun v26 ev26 => ?_)
  have he_221 : v26 4 o = some (.inr (4, [.long 0, .int 0, .ref q_1, .int 0, .ref q_7, .ref q_15, .ref q_25, .ref q_37, .ref q_51, .int 0, .ref q_67, .ref q_85, .ref q_105, .ref q_127, .ref q_151, .ref q_177, .ref q_205, .null, .int 0, .null, .null, .null, .null, .int 0, .null, .null, .null, .null, .int 0, .null, .null, .null])) := by rw [ev26]; exact vv_up_s _ _ _ _
  have he_222 : v26 51 q_1 = some (.inl (G.2.2.2.2 1, 4, .inl (fun _ => 0))) := by rw [ev26]; exact (vv_up_k _ _ _ _ (by decide)).trans he_208
  have he_223 : v26 50 q_7 = some (.inl (G.2.2.2.2 0, 41, .inl (fun _ => 0))) := by rw [ev26]; exact (vv_up_k _ _ _ _ (by decide)).trans he_209
  have he_224 : v26 50 q_15 = some (.inl (G.2.2.2.2 0, 41, .inl (fun _ => 0))) := by rw [ev26]; exact (vv_up_k _ _ _ _ (by decide)).trans he_210
  have he_225 : v26 50 q_25 = some (.inl (G.2.2.2.2 0, 41, .inl (fun _ => 0))) := by rw [ev26]; exact (vv_up_k _ _ _ _ (by decide)).trans he_211
  have he_226 : v26 50 q_37 = some (.inl (G.2.2.2.2 0, 41, .inl (fun _ => 0))) := by rw [ev26]; exact (vv_up_k _ _ _ _ (by decide)).trans he_212
  have he_227 : v26 50 q_51 = some (.inl (G.2.2.2.2 0, 1312, .inl (fun _ => 0))) := by rw [ev26]; exact (vv_up_k _ _ _ _ (by decide)).trans he_213
  have he_228 : v26 50 q_67 = some (.inl (G.2.2.2.2 0, 201, .inl (fun _ => 0))) := by rw [ev26]; exact (vv_up_k _ _ _ _ (by decide)).trans he_214
  have he_229 : v26 50 q_85 = some (.inl (G.2.2.2.2 0, 201, .inl (fun _ => 0))) := by rw [ev26]; exact (vv_up_k _ _ _ _ (by decide)).trans he_215
  have he_230 : v26 50 q_105 = some (.inl (G.2.2.2.2 0, 201, .inl (fun _ => 0))) := by rw [ev26]; exact (vv_up_k _ _ _ _ (by decide)).trans he_216
  have he_231 : v26 52 q_127 = some (.inl (G.2.2.2.2 2, 201, .inr (.inl (fun _ => 0)))) := by rw [ev26]; exact (vv_up_k _ _ _ _ (by decide)).trans he_217
  have he_232 : v26 52 q_151 = some (.inl (G.2.2.2.2 2, 201, .inr (.inl (fun _ => 0)))) := by rw [ev26]; exact (vv_up_k _ _ _ _ (by decide)).trans he_218
  have he_233 : v26 50 q_177 = some (.inl (G.2.2.2.2 0, 201, .inl (fun _ => 0))) := by rw [ev26]; exact (vv_up_k _ _ _ _ (by decide)).trans he_219
  have he_234 : v26 51 q_205 = some (.inl (G.2.2.2.2 1, 201, .inl (fun _ => 0))) := by rw [ev26]; exact (vv_up_k _ _ _ _ (by decide)).trans he_220
  have hkv26 : vkeep (fun a => a = o) v v26 := by rw [ev26]; exact hkv25.up rfl
  have hdv26 : ∀ x ∈ [q_205, q_177, q_151, q_127, q_105, q_85, q_67, q_51, q_37, q_25, q_15, q_7, q_1], ∃ (k : Nat) (e : va_E), v26 k x = some e := by rw [ev26]; exact vdom.up hdv25
  refine v_aload_n C 0 d_M_init_115 rfl rfl ?_
  refine v_sipush (x := 201) C d_M_init_116 (by decide) ?_
  refine v_newaz (n := 201) C (by decide) (by decide) (by decide) (by first | exact Nat.le_of_ble_eq_true rfl | (show _ ≤ _; omega)) (by first | exact Nat.le_of_ble_eq_true rfl | (show _ ≤ _; omega)) d_M_init_119 (fun q_235 hfr_236 => ?_)
  refine v_cs (kc' := 14) (ks' := 3088) rfl rfl ?_
  have fr_q_235 := hkv26.fr he_221 hfr_236
  have nd_q_235 := vdom.new hdv26 hfr_236 nd_q_205
  refine v_view (fun v27 ev27 => ?_)
  have he_237 : v27 4 o = some (.inr (4, [.long 0, .int 0, .ref q_1, .int 0, .ref q_7, .ref q_15, .ref q_25, .ref q_37, .ref q_51, .int 0, .ref q_67, .ref q_85, .ref q_105, .ref q_127, .ref q_151, .ref q_177, .ref q_205, .null, .int 0, .null, .null, .null, .null, .int 0, .null, .null, .null, .null, .int 0, .null, .null, .null])) := by rw [ev27]; exact (vv_up_a _ _ _ _ (fun z => by subst z; have y := hfr_236 4; rw [he_221] at y; cases y)).trans he_221
  have he_238 : v27 51 q_1 = some (.inl (G.2.2.2.2 1, 4, .inl (fun _ => 0))) := by rw [ev27]; exact (vv_up_a _ _ _ _ (fun z => by subst z; have y := hfr_236 51; rw [he_222] at y; cases y)).trans he_222
  have he_239 : v27 50 q_7 = some (.inl (G.2.2.2.2 0, 41, .inl (fun _ => 0))) := by rw [ev27]; exact (vv_up_a _ _ _ _ (fun z => by subst z; have y := hfr_236 50; rw [he_223] at y; cases y)).trans he_223
  have he_240 : v27 50 q_15 = some (.inl (G.2.2.2.2 0, 41, .inl (fun _ => 0))) := by rw [ev27]; exact (vv_up_a _ _ _ _ (fun z => by subst z; have y := hfr_236 50; rw [he_224] at y; cases y)).trans he_224
  have he_241 : v27 50 q_25 = some (.inl (G.2.2.2.2 0, 41, .inl (fun _ => 0))) := by rw [ev27]; exact (vv_up_a _ _ _ _ (fun z => by subst z; have y := hfr_236 50; rw [he_225] at y; cases y)).trans he_225
  have he_242 : v27 50 q_37 = some (.inl (G.2.2.2.2 0, 41, .inl (fun _ => 0))) := by rw [ev27]; exact (vv_up_a _ _ _ _ (fun z => by subst z; have y := hfr_236 50; rw [he_226] at y; cases y)).trans he_226
  have he_243 : v27 50 q_51 = some (.inl (G.2.2.2.2 0, 1312, .inl (fun _ => 0))) := by rw [ev27]; exact (vv_up_a _ _ _ _ (fun z => by subst z; have y := hfr_236 50; rw [he_227] at y; cases y)).trans he_227
  have he_244 : v27 50 q_67 = some (.inl (G.2.2.2.2 0, 201, .inl (fun _ => 0))) := by rw [ev27]; exact (vv_up_a _ _ _ _ (fun z => by subst z; have y := hfr_236 50; rw [he_228] at y; cases y)).trans he_228
  have he_245 : v27 50 q_85 = some (.inl (G.2.2.2.2 0, 201, .inl (fun _ => 0))) := by rw [ev27]; exact (vv_up_a _ _ _ _ (fun z => by subst z; have y := hfr_236 50; rw [he_229] at y; cases y)).trans he_229
  have he_246 : v27 50 q_105 = some (.inl (G.2.2.2.2 0, 201, .inl (fun _ => 0))) := by rw [ev27]; exact (vv_up_a _ _ _ _ (fun z => by subst z; have y := hfr_236 50; rw [he_230] at y; cases y)).trans he_230
  have he_247 : v27 52 q_127 = some (.inl (G.2.2.2.2 2, 201, .inr (.inl (fun _ => 0)))) := by rw [ev27]; exact (vv_up_a _ _ _ _ (fun z => by subst z; have y := hfr_236 52; rw [he_231] at y; cases y)).trans he_231
  have he_248 : v27 52 q_151 = some (.inl (G.2.2.2.2 2, 201, .inr (.inl (fun _ => 0)))) := by rw [ev27]; exact (vv_up_a _ _ _ _ (fun z => by subst z; have y := hfr_236 52; rw [he_232] at y; cases y)).trans he_232
  have he_249 : v27 50 q_177 = some (.inl (G.2.2.2.2 0, 201, .inl (fun _ => 0))) := by rw [ev27]; exact (vv_up_a _ _ _ _ (fun z => by subst z; have y := hfr_236 50; rw [he_233] at y; cases y)).trans he_233
  have he_250 : v27 51 q_205 = some (.inl (G.2.2.2.2 1, 201, .inl (fun _ => 0))) := by rw [ev27]; exact (vv_up_a _ _ _ _ (fun z => by subst z; have y := hfr_236 51; rw [he_234] at y; cases y)).trans he_234
  have he_251 : v27 51 q_235 = some (.inl (G.2.2.2.2 1, 201, .inl (fun _ => 0))) := by rw [ev27]; exact vv_up_s _ _ _ _
  have hkv27 : vkeep (fun a => a = o) v v27 := by rw [ev27]; exact hkv26.nu hfr_236
  have hdv27 : ∀ x ∈ [q_235, q_205, q_177, q_151, q_127, q_105, q_85, q_67, q_51, q_37, q_25, q_15, q_7, q_1], ∃ (k : Nat) (e : va_E), v27 k x = some e := by rw [ev27]; exact vdom.cons hdv26
  refine v_putF C hin k_M he_237 17 (by decide) tw_500 (fun _ h => h) rfl rfl rfl rfl (Nat.le_of_ble_eq_true rfl) d_M_init_121 ?_
  refine v_view (fun v28 ev28 => ?_)
  have he_252 : v28 4 o = some (.inr (4, [.long 0, .int 0, .ref q_1, .int 0, .ref q_7, .ref q_15, .ref q_25, .ref q_37, .ref q_51, .int 0, .ref q_67, .ref q_85, .ref q_105, .ref q_127, .ref q_151, .ref q_177, .ref q_205, .ref q_235, .int 0, .null, .null, .null, .null, .int 0, .null, .null, .null, .null, .int 0, .null, .null, .null])) := by rw [ev28]; exact vv_up_s _ _ _ _
  have he_253 : v28 51 q_1 = some (.inl (G.2.2.2.2 1, 4, .inl (fun _ => 0))) := by rw [ev28]; exact (vv_up_k _ _ _ _ (by decide)).trans he_238
  have he_254 : v28 50 q_7 = some (.inl (G.2.2.2.2 0, 41, .inl (fun _ => 0))) := by rw [ev28]; exact (vv_up_k _ _ _ _ (by decide)).trans he_239
  have he_255 : v28 50 q_15 = some (.inl (G.2.2.2.2 0, 41, .inl (fun _ => 0))) := by rw [ev28]; exact (vv_up_k _ _ _ _ (by decide)).trans he_240
  have he_256 : v28 50 q_25 = some (.inl (G.2.2.2.2 0, 41, .inl (fun _ => 0))) := by rw [ev28]; exact (vv_up_k _ _ _ _ (by decide)).trans he_241
  have he_257 : v28 50 q_37 = some (.inl (G.2.2.2.2 0, 41, .inl (fun _ => 0))) := by rw [ev28]; exact (vv_up_k _ _ _ _ (by decide)).trans he_242
  have he_258 : v28 50 q_51 = some (.inl (G.2.2.2.2 0, 1312, .inl (fun _ => 0))) := by rw [ev28]; exact (vv_up_k _ _ _ _ (by decide)).trans he_243
  have he_259 : v28 50 q_67 = some (.inl (G.2.2.2.2 0, 201, .inl (fun _ => 0))) := by rw [ev28]; exact (vv_up_k _ _ _ _ (by decide)).trans he_244
  have he_260 : v28 50 q_85 = some (.inl (G.2.2.2.2 0, 201, .inl (fun _ => 0))) := by rw [ev28]; exact (vv_up_k _ _ _ _ (by decide)).trans he_245
  have he_261 : v28 50 q_105 = some (.inl (G.2.2.2.2 0, 201, .inl (fun _ => 0))) := by rw [ev28]; exact (vv_up_k _ _ _ _ (by decide)).trans he_246
  have he_262 : v28 52 q_127 = some (.inl (G.2.2.2.2 2, 201, .inr (.inl (fun _ => 0)))) := by rw [ev28]; exact (vv_up_k _ _ _ _ (by decide)).trans he_247
  have he_263 : v28 52 q_151 = some (.inl (G.2.2.2.2 2, 201, .inr (.inl (fun _ => 0)))) := by rw [ev28]; exact (vv_up_k _ _ _ _ (by decide)).trans he_248
  have he_264 : v28 50 q_177 = some (.inl (G.2.2.2.2 0, 201, .inl (fun _ => 0))) := by rw [ev28]; exact (vv_up_k _ _ _ _ (by decide)).trans he_249
  have he_265 : v28 51 q_205 = some (.inl (G.2.2.2.2 1, 201, .inl (fun _ => 0))) := by rw [ev28]; exact (vv_up_k _ _ _ _ (by decide)).trans he_250
  have he_266 : v28 51 q_235 = some (.inl (G.2.2.2.2 1, 201, .inl (fun _ => 0))) := by rw [ev28]; exact (vv_up_k _ _ _ _ (by decide)).trans he_251
  have hkv28 : vkeep (fun a => a = o) v v28 := by rw [ev28]; exact hkv27.up rfl
  have hdv28 : ∀ x ∈ [q_235, q_205, q_177, q_151, q_127, q_105, q_85, q_67, q_51, q_37, q_25, q_15, q_7, q_1], ∃ (k : Nat) (e : va_E), v28 k x = some e := by rw [ev28]; exact vdom.up hdv27
  refine v_aload_n C 0 d_M_init_124 rfl rfl ?_
  refine v_bipush (x := 60) C d_M_init_125 (by decide) ?_
  refine v_newai (n := 60) C (by decide) (by decide) (by decide) (by first | exact Nat.le_of_ble_eq_true rfl | (show _ ≤ _; omega)) (by first | exact Nat.le_of_ble_eq_true rfl | (show _ ≤ _; omega)) d_M_init_127 (fun q_267 hfr_268 => ?_)
  refine v_cs (kc' := 15) (ks' := 3148) rfl rfl ?_
  have fr_q_267 := hkv28.fr he_252 hfr_268
  have nd_q_267 := vdom.new hdv28 hfr_268 nd_q_235
  refine v_view (fun v29 ev29 => ?_)
  have he_269 : v29 4 o = some (.inr (4, [.long 0, .int 0, .ref q_1, .int 0, .ref q_7, .ref q_15, .ref q_25, .ref q_37, .ref q_51, .int 0, .ref q_67, .ref q_85, .ref q_105, .ref q_127, .ref q_151, .ref q_177, .ref q_205, .ref q_235, .int 0, .null, .null, .null, .null, .int 0, .null, .null, .null, .null, .int 0, .null, .null, .null])) := by rw [ev29]; exact (vv_up_a _ _ _ _ (fun z => by subst z; have y := hfr_268 4; rw [he_252] at y; cases y)).trans he_252
  have he_270 : v29 51 q_1 = some (.inl (G.2.2.2.2 1, 4, .inl (fun _ => 0))) := by rw [ev29]; exact (vv_up_a _ _ _ _ (fun z => by subst z; have y := hfr_268 51; rw [he_253] at y; cases y)).trans he_253
  have he_271 : v29 50 q_7 = some (.inl (G.2.2.2.2 0, 41, .inl (fun _ => 0))) := by rw [ev29]; exact (vv_up_a _ _ _ _ (fun z => by subst z; have y := hfr_268 50; rw [he_254] at y; cases y)).trans he_254
  have he_272 : v29 50 q_15 = some (.inl (G.2.2.2.2 0, 41, .inl (fun _ => 0))) := by rw [ev29]; exact (vv_up_a _ _ _ _ (fun z => by subst z; have y := hfr_268 50; rw [he_255] at y; cases y)).trans he_255
  have he_273 : v29 50 q_25 = some (.inl (G.2.2.2.2 0, 41, .inl (fun _ => 0))) := by rw [ev29]; exact (vv_up_a _ _ _ _ (fun z => by subst z; have y := hfr_268 50; rw [he_256] at y; cases y)).trans he_256
  have he_274 : v29 50 q_37 = some (.inl (G.2.2.2.2 0, 41, .inl (fun _ => 0))) := by rw [ev29]; exact (vv_up_a _ _ _ _ (fun z => by subst z; have y := hfr_268 50; rw [he_257] at y; cases y)).trans he_257
  have he_275 : v29 50 q_51 = some (.inl (G.2.2.2.2 0, 1312, .inl (fun _ => 0))) := by rw [ev29]; exact (vv_up_a _ _ _ _ (fun z => by subst z; have y := hfr_268 50; rw [he_258] at y; cases y)).trans he_258
  have he_276 : v29 50 q_67 = some (.inl (G.2.2.2.2 0, 201, .inl (fun _ => 0))) := by rw [ev29]; exact (vv_up_a _ _ _ _ (fun z => by subst z; have y := hfr_268 50; rw [he_259] at y; cases y)).trans he_259
  have he_277 : v29 50 q_85 = some (.inl (G.2.2.2.2 0, 201, .inl (fun _ => 0))) := by rw [ev29]; exact (vv_up_a _ _ _ _ (fun z => by subst z; have y := hfr_268 50; rw [he_260] at y; cases y)).trans he_260
  have he_278 : v29 50 q_105 = some (.inl (G.2.2.2.2 0, 201, .inl (fun _ => 0))) := by rw [ev29]; exact (vv_up_a _ _ _ _ (fun z => by subst z; have y := hfr_268 50; rw [he_261] at y; cases y)).trans he_261
  have he_279 : v29 52 q_127 = some (.inl (G.2.2.2.2 2, 201, .inr (.inl (fun _ => 0)))) := by rw [ev29]; exact (vv_up_a _ _ _ _ (fun z => by subst z; have y := hfr_268 52; rw [he_262] at y; cases y)).trans he_262
  have he_280 : v29 52 q_151 = some (.inl (G.2.2.2.2 2, 201, .inr (.inl (fun _ => 0)))) := by rw [ev29]; exact (vv_up_a _ _ _ _ (fun z => by subst z; have y := hfr_268 52; rw [he_263] at y; cases y)).trans he_263
  have he_281 : v29 50 q_177 = some (.inl (G.2.2.2.2 0, 201, .inl (fun _ => 0))) := by rw [ev29]; exact (vv_up_a _ _ _ _ (fun z => by subst z; have y := hfr_268 50; rw [he_264] at y; cases y)).trans he_264
  have he_282 : v29 51 q_205 = some (.inl (G.2.2.2.2 1, 201, .inl (fun _ => 0))) := by rw [ev29]; exact (vv_up_a _ _ _ _ (fun z => by subst z; have y := hfr_268 51; rw [he_265] at y; cases y)).trans he_265
  have he_283 : v29 51 q_235 = some (.inl (G.2.2.2.2 1, 201, .inl (fun _ => 0))) := by rw [ev29]; exact (vv_up_a _ _ _ _ (fun z => by subst z; have y := hfr_268 51; rw [he_266] at y; cases y)).trans he_266
  have he_284 : v29 50 q_267 = some (.inl (G.2.2.2.2 0, 60, .inl (fun _ => 0))) := by rw [ev29]; exact vv_up_s _ _ _ _
  have hkv29 : vkeep (fun a => a = o) v v29 := by rw [ev29]; exact hkv28.nu hfr_268
  have hdv29 : ∀ x ∈ [q_267, q_235, q_205, q_177, q_151, q_127, q_105, q_85, q_67, q_51, q_37, q_25, q_15, q_7, q_1], ∃ (k : Nat) (e : va_E), v29 k x = some e := by rw [ev29]; exact vdom.cons hdv28
  refine v_putF C hin k_M he_269 19 (by decide) tw_502 (fun _ h => h) rfl rfl rfl rfl (Nat.le_of_ble_eq_true rfl) d_M_init_129 ?_
  refine v_view (fun v30 ev30 => ?_)
  have he_285 : v30 4 o = some (.inr (4, [.long 0, .int 0, .ref q_1, .int 0, .ref q_7, .ref q_15, .ref q_25, .ref q_37, .ref q_51, .int 0, .ref q_67, .ref q_85, .ref q_105, .ref q_127, .ref q_151, .ref q_177, .ref q_205, .ref q_235, .int 0, .ref q_267, .null, .null, .null, .int 0, .null, .null, .null, .null, .int 0, .null, .null, .null])) := by rw [ev30]; exact vv_up_s _ _ _ _
  have he_286 : v30 51 q_1 = some (.inl (G.2.2.2.2 1, 4, .inl (fun _ => 0))) := by rw [ev30]; exact (vv_up_k _ _ _ _ (by decide)).trans he_270
  have he_287 : v30 50 q_7 = some (.inl (G.2.2.2.2 0, 41, .inl (fun _ => 0))) := by rw [ev30]; exact (vv_up_k _ _ _ _ (by decide)).trans he_271
  have he_288 : v30 50 q_15 = some (.inl (G.2.2.2.2 0, 41, .inl (fun _ => 0))) := by rw [ev30]; exact (vv_up_k _ _ _ _ (by decide)).trans he_272
  have he_289 : v30 50 q_25 = some (.inl (G.2.2.2.2 0, 41, .inl (fun _ => 0))) := by rw [ev30]; exact (vv_up_k _ _ _ _ (by decide)).trans he_273
  have he_290 : v30 50 q_37 = some (.inl (G.2.2.2.2 0, 41, .inl (fun _ => 0))) := by rw [ev30]; exact (vv_up_k _ _ _ _ (by decide)).trans he_274
  have he_291 : v30 50 q_51 = some (.inl (G.2.2.2.2 0, 1312, .inl (fun _ => 0))) := by rw [ev30]; exact (vv_up_k _ _ _ _ (by decide)).trans he_275
  have he_292 : v30 50 q_67 = some (.inl (G.2.2.2.2 0, 201, .inl (fun _ => 0))) := by rw [ev30]; exact (vv_up_k _ _ _ _ (by decide)).trans he_276
  have he_293 : v30 50 q_85 = some (.inl (G.2.2.2.2 0, 201, .inl (fun _ => 0))) := by rw [ev30]; exact (vv_up_k _ _ _ _ (by decide)).trans he_277
  have he_294 : v30 50 q_105 = some (.inl (G.2.2.2.2 0, 201, .inl (fun _ => 0))) := by rw [ev30]; exact (vv_up_k _ _ _ _ (by decide)).trans he_278
  have he_295 : v30 52 q_127 = some (.inl (G.2.2.2.2 2, 201, .inr (.inl (fun _ => 0)))) := by rw [ev30]; exact (vv_up_k _ _ _ _ (by decide)).trans he_279
  have he_296 : v30 52 q_151 = some (.inl (G.2.2.2.2 2, 201, .inr (.inl (fun _ => 0)))) := by rw [ev30]; exact (vv_up_k _ _ _ _ (by decide)).trans he_280
  have he_297 : v30 50 q_177 = some (.inl (G.2.2.2.2 0, 201, .inl (fun _ => 0))) := by rw [ev30]; exact (vv_up_k _ _ _ _ (by decide)).trans he_281
  have he_298 : v30 51 q_205 = some (.inl (G.2.2.2.2 1, 201, .inl (fun _ => 0))) := by rw [ev30]; exact (vv_up_k _ _ _ _ (by decide)).trans he_282
  have he_299 : v30 51 q_235 = some (.inl (G.2.2.2.2 1, 201, .inl (fun _ => 0))) := by rw [ev30]; exact (vv_up_k _ _ _ _ (by decide)).trans he_283
  have he_300 : v30 50 q_267 = some (.inl (G.2.2.2.2 0, 60, .inl (fun _ => 0))) := by rw [ev30]; exact (vv_up_k _ _ _ _ (by decide)).trans he_284
  have hkv30 : vkeep (fun a => a = o) v v30 := by rw [ev30]; exact hkv29.up rfl
  have hdv30 : ∀ x ∈ [q_267, q_235, q_205, q_177, q_151, q_127, q_105, q_85, q_67, q_51, q_37, q_25, q_15, q_7, q_1], ∃ (k : Nat) (e : va_E), v30 k x = some e := by rw [ev30]; exact vdom.up hdv29
  refine v_aload_n C 0 d_M_init_132 rfl rfl ?_
  refine v_bipush (x := 60) C d_M_init_133 (by decide) ?_
  refine v_newai (n := 60) C (by decide) (by decide) (by decide) (by first | exact Nat.le_of_ble_eq_true rfl | (show _ ≤ _; omega)) (by first | exact Nat.le_of_ble_eq_true rfl | (show _ ≤ _; omega)) d_M_init_135 (fun q_301 hfr_302 => ?_)
  refine v_cs (kc' := 16) (ks' := 3208) rfl rfl ?_
  have fr_q_301 := hkv30.fr he_285 hfr_302
  have nd_q_301 := vdom.new hdv30 hfr_302 nd_q_267
  refine v_view (fun v31 ev31 => ?_)
  have he_303 : v31 4 o = some (.inr (4, [.long 0, .int 0, .ref q_1, .int 0, .ref q_7, .ref q_15, .ref q_25, .ref q_37, .ref q_51, .int 0, .ref q_67, .ref q_85, .ref q_105, .ref q_127, .ref q_151, .ref q_177, .ref q_205, .ref q_235, .int 0, .ref q_267, .null, .null, .null, .int 0, .null, .null, .null, .null, .int 0, .null, .null, .null])) := by rw [ev31]; exact (vv_up_a _ _ _ _ (fun z => by subst z; have y := hfr_302 4; rw [he_285] at y; cases y)).trans he_285
  have he_304 : v31 51 q_1 = some (.inl (G.2.2.2.2 1, 4, .inl (fun _ => 0))) := by rw [ev31]; exact (vv_up_a _ _ _ _ (fun z => by subst z; have y := hfr_302 51; rw [he_286] at y; cases y)).trans he_286
  have he_305 : v31 50 q_7 = some (.inl (G.2.2.2.2 0, 41, .inl (fun _ => 0))) := by rw [ev31]; exact (vv_up_a _ _ _ _ (fun z => by subst z; have y := hfr_302 50; rw [he_287] at y; cases y)).trans he_287
  have he_306 : v31 50 q_15 = some (.inl (G.2.2.2.2 0, 41, .inl (fun _ => 0))) := by rw [ev31]; exact (vv_up_a _ _ _ _ (fun z => by subst z; have y := hfr_302 50; rw [he_288] at y; cases y)).trans he_288
  have he_307 : v31 50 q_25 = some (.inl (G.2.2.2.2 0, 41, .inl (fun _ => 0))) := by rw [ev31]; exact (vv_up_a _ _ _ _ (fun z => by subst z; have y := hfr_302 50; rw [he_289] at y; cases y)).trans he_289
  have he_308 : v31 50 q_37 = some (.inl (G.2.2.2.2 0, 41, .inl (fun _ => 0))) := by rw [ev31]; exact (vv_up_a _ _ _ _ (fun z => by subst z; have y := hfr_302 50; rw [he_290] at y; cases y)).trans he_290
  have he_309 : v31 50 q_51 = some (.inl (G.2.2.2.2 0, 1312, .inl (fun _ => 0))) := by rw [ev31]; exact (vv_up_a _ _ _ _ (fun z => by subst z; have y := hfr_302 50; rw [he_291] at y; cases y)).trans he_291
  have he_310 : v31 50 q_67 = some (.inl (G.2.2.2.2 0, 201, .inl (fun _ => 0))) := by rw [ev31]; exact (vv_up_a _ _ _ _ (fun z => by subst z; have y := hfr_302 50; rw [he_292] at y; cases y)).trans he_292
  have he_311 : v31 50 q_85 = some (.inl (G.2.2.2.2 0, 201, .inl (fun _ => 0))) := by rw [ev31]; exact (vv_up_a _ _ _ _ (fun z => by subst z; have y := hfr_302 50; rw [he_293] at y; cases y)).trans he_293
  have he_312 : v31 50 q_105 = some (.inl (G.2.2.2.2 0, 201, .inl (fun _ => 0))) := by rw [ev31]; exact (vv_up_a _ _ _ _ (fun z => by subst z; have y := hfr_302 50; rw [he_294] at y; cases y)).trans he_294
  have he_313 : v31 52 q_127 = some (.inl (G.2.2.2.2 2, 201, .inr (.inl (fun _ => 0)))) := by rw [ev31]; exact (vv_up_a _ _ _ _ (fun z => by subst z; have y := hfr_302 52; rw [he_295] at y; cases y)).trans he_295
  have he_314 : v31 52 q_151 = some (.inl (G.2.2.2.2 2, 201, .inr (.inl (fun _ => 0)))) := by rw [ev31]; exact (vv_up_a _ _ _ _ (fun z => by subst z; have y := hfr_302 52; rw [he_296] at y; cases y)).trans he_296
  have he_315 : v31 50 q_177 = some (.inl (G.2.2.2.2 0, 201, .inl (fun _ => 0))) := by rw [ev31]; exact (vv_up_a _ _ _ _ (fun z => by subst z; have y := hfr_302 50; rw [he_297] at y; cases y)).trans he_297
  have he_316 : v31 51 q_205 = some (.inl (G.2.2.2.2 1, 201, .inl (fun _ => 0))) := by rw [ev31]; exact (vv_up_a _ _ _ _ (fun z => by subst z; have y := hfr_302 51; rw [he_298] at y; cases y)).trans he_298
  have he_317 : v31 51 q_235 = some (.inl (G.2.2.2.2 1, 201, .inl (fun _ => 0))) := by rw [ev31]; exact (vv_up_a _ _ _ _ (fun z => by subst z; have y := hfr_302 51; rw [he_299] at y; cases y)).trans he_299
  have he_318 : v31 50 q_267 = some (.inl (G.2.2.2.2 0, 60, .inl (fun _ => 0))) := by rw [ev31]; exact (vv_up_a _ _ _ _ (fun z => by subst z; have y := hfr_302 50; rw [he_300] at y; cases y)).trans he_300
  have he_319 : v31 50 q_301 = some (.inl (G.2.2.2.2 0, 60, .inl (fun _ => 0))) := by rw [ev31]; exact vv_up_s _ _ _ _
  have hkv31 : vkeep (fun a => a = o) v v31 := by rw [ev31]; exact hkv30.nu hfr_302
  have hdv31 : ∀ x ∈ [q_301, q_267, q_235, q_205, q_177, q_151, q_127, q_105, q_85, q_67, q_51, q_37, q_25, q_15, q_7, q_1], ∃ (k : Nat) (e : va_E), v31 k x = some e := by rw [ev31]; exact vdom.cons hdv30
  refine v_putF C hin k_M he_303 20 (by decide) tw_503 (fun _ h => h) rfl rfl rfl rfl (Nat.le_of_ble_eq_true rfl) d_M_init_137 ?_
  refine v_view (fun v32 ev32 => ?_)
  have he_320 : v32 4 o = some (.inr (4, [.long 0, .int 0, .ref q_1, .int 0, .ref q_7, .ref q_15, .ref q_25, .ref q_37, .ref q_51, .int 0, .ref q_67, .ref q_85, .ref q_105, .ref q_127, .ref q_151, .ref q_177, .ref q_205, .ref q_235, .int 0, .ref q_267, .ref q_301, .null, .null, .int 0, .null, .null, .null, .null, .int 0, .null, .null, .null])) := by rw [ev32]; exact vv_up_s _ _ _ _
  have he_321 : v32 51 q_1 = some (.inl (G.2.2.2.2 1, 4, .inl (fun _ => 0))) := by rw [ev32]; exact (vv_up_k _ _ _ _ (by decide)).trans he_304
  have he_322 : v32 50 q_7 = some (.inl (G.2.2.2.2 0, 41, .inl (fun _ => 0))) := by rw [ev32]; exact (vv_up_k _ _ _ _ (by decide)).trans he_305
  have he_323 : v32 50 q_15 = some (.inl (G.2.2.2.2 0, 41, .inl (fun _ => 0))) := by rw [ev32]; exact (vv_up_k _ _ _ _ (by decide)).trans he_306
  have he_324 : v32 50 q_25 = some (.inl (G.2.2.2.2 0, 41, .inl (fun _ => 0))) := by rw [ev32]; exact (vv_up_k _ _ _ _ (by decide)).trans he_307
  have he_325 : v32 50 q_37 = some (.inl (G.2.2.2.2 0, 41, .inl (fun _ => 0))) := by rw [ev32]; exact (vv_up_k _ _ _ _ (by decide)).trans he_308
  have he_326 : v32 50 q_51 = some (.inl (G.2.2.2.2 0, 1312, .inl (fun _ => 0))) := by rw [ev32]; exact (vv_up_k _ _ _ _ (by decide)).trans he_309
  have he_327 : v32 50 q_67 = some (.inl (G.2.2.2.2 0, 201, .inl (fun _ => 0))) := by rw [ev32]; exact (vv_up_k _ _ _ _ (by decide)).trans he_310
  have he_328 : v32 50 q_85 = some (.inl (G.2.2.2.2 0, 201, .inl (fun _ => 0))) := by rw [ev32]; exact (vv_up_k _ _ _ _ (by decide)).trans he_311
  have he_329 : v32 50 q_105 = some (.inl (G.2.2.2.2 0, 201, .inl (fun _ => 0))) := by rw [ev32]; exact (vv_up_k _ _ _ _ (by decide)).trans he_312
  have he_330 : v32 52 q_127 = some (.inl (G.2.2.2.2 2, 201, .inr (.inl (fun _ => 0)))) := by rw [ev32]; exact (vv_up_k _ _ _ _ (by decide)).trans he_313
  have he_331 : v32 52 q_151 = some (.inl (G.2.2.2.2 2, 201, .inr (.inl (fun _ => 0)))) := by rw [ev32]; exact (vv_up_k _ _ _ _ (by decide)).trans he_314
  have he_332 : v32 50 q_177 = some (.inl (G.2.2.2.2 0, 201, .inl (fun _ => 0))) := by rw [ev32]; exact (vv_up_k _ _ _ _ (by decide)).trans he_315
  have he_333 : v32 51 q_205 = some (.inl (G.2.2.2.2 1, 201, .inl (fun _ => 0))) := by rw [ev32]; exact (vv_up_k _ _ _ _ (by decide)).trans he_316
  have he_334 : v32 51 q_235 = some (.inl (G.2.2.2.2 1, 201, .inl (fun _ => 0))) := by rw [ev32]; exact (vv_up_k _ _ _ _ (by decide)).trans he_317
  have he_335 : v32 50 q_267 = some (.inl (G.2.2.2.2 0, 60, .inl (fun _ => 0))) := by rw [ev32]; exact (vv_up_k _ _ _ _ (by decide)).trans he_318
  have he_336 : v32 50 q_301 = some (.inl (G.2.2.2.2 0, 60, .inl (fun _ => 0))) := by rw [ev32]; exact (vv_up_k _ _ _ _ (by decide)).trans he_319
  have hkv32 : vkeep (fun a => a = o) v v32 := by rw [ev32]; exact hkv31.up rfl
  have hdv32 : ∀ x ∈ [q_301, q_267, q_235, q_205, q_177, q_151, q_127, q_105, q_85, q_67, q_51, q_37, q_25, q_15, q_7, q_1], ∃ (k : Nat) (e : va_E), v32 k x = some e := by rw [ev32]; exact vdom.up hdv31
  refine v_aload_n C 0 d_M_init_140 rfl rfl ?_
  refine v_bipush (x := 60) C d_M_init_141 (by decide) ?_
  refine v_newaz (n := 60) C (by decide) (by decide) (by decide) (by first | exact Nat.le_of_ble_eq_true rfl | (show _ ≤ _; omega)) (by first | exact Nat.le_of_ble_eq_true rfl | (show _ ≤ _; omega)) d_M_init_143 (fun q_337 hfr_338 => ?_)
  refine v_cs (kc' := 17) (ks' := 3268) rfl rfl ?_
  have fr_q_337 := hkv32.fr he_320 hfr_338
  have nd_q_337 := vdom.new hdv32 hfr_338 nd_q_301
  refine v_view (fun v33 ev33 => ?_)
  have he_339 : v33 4 o = some (.inr (4, [.long 0, .int 0, .ref q_1, .int 0, .ref q_7, .ref q_15, .ref q_25, .ref q_37, .ref q_51, .int 0, .ref q_67, .ref q_85, .ref q_105, .ref q_127, .ref q_151, .ref q_177, .ref q_205, .ref q_235, .int 0, .ref q_267, .ref q_301, .null, .null, .int 0, .null, .null, .null, .null, .int 0, .null, .null, .null])) := by rw [ev33]; exact (vv_up_a _ _ _ _ (fun z => by subst z; have y := hfr_338 4; rw [he_320] at y; cases y)).trans he_320
  have he_340 : v33 51 q_1 = some (.inl (G.2.2.2.2 1, 4, .inl (fun _ => 0))) := by rw [ev33]; exact (vv_up_a _ _ _ _ (fun z => by subst z; have y := hfr_338 51; rw [he_321] at y; cases y)).trans he_321
  have he_341 : v33 50 q_7 = some (.inl (G.2.2.2.2 0, 41, .inl (fun _ => 0))) := by rw [ev33]; exact (vv_up_a _ _ _ _ (fun z => by subst z; have y := hfr_338 50; rw [he_322] at y; cases y)).trans he_322
  have he_342 : v33 50 q_15 = some (.inl (G.2.2.2.2 0, 41, .inl (fun _ => 0))) := by rw [ev33]; exact (vv_up_a _ _ _ _ (fun z => by subst z; have y := hfr_338 50; rw [he_323] at y; cases y)).trans he_323
  have he_343 : v33 50 q_25 = some (.inl (G.2.2.2.2 0, 41, .inl (fun _ => 0))) := by rw [ev33]; exact (vv_up_a _ _ _ _ (fun z => by subst z; have y := hfr_338 50; rw [he_324] at y; cases y)).trans he_324
  have he_344 : v33 50 q_37 = some (.inl (G.2.2.2.2 0, 41, .inl (fun _ => 0))) := by rw [ev33]; exact (vv_up_a _ _ _ _ (fun z => by subst z; have y := hfr_338 50; rw [he_325] at y; cases y)).trans he_325
  have he_345 : v33 50 q_51 = some (.inl (G.2.2.2.2 0, 1312, .inl (fun _ => 0))) := by rw [ev33]; exact (vv_up_a _ _ _ _ (fun z => by subst z; have y := hfr_338 50; rw [he_326] at y; cases y)).trans he_326
  have he_346 : v33 50 q_67 = some (.inl (G.2.2.2.2 0, 201, .inl (fun _ => 0))) := by rw [ev33]; exact (vv_up_a _ _ _ _ (fun z => by subst z; have y := hfr_338 50; rw [he_327] at y; cases y)).trans he_327
  have he_347 : v33 50 q_85 = some (.inl (G.2.2.2.2 0, 201, .inl (fun _ => 0))) := by rw [ev33]; exact (vv_up_a _ _ _ _ (fun z => by subst z; have y := hfr_338 50; rw [he_328] at y; cases y)).trans he_328
  have he_348 : v33 50 q_105 = some (.inl (G.2.2.2.2 0, 201, .inl (fun _ => 0))) := by rw [ev33]; exact (vv_up_a _ _ _ _ (fun z => by subst z; have y := hfr_338 50; rw [he_329] at y; cases y)).trans he_329
  have he_349 : v33 52 q_127 = some (.inl (G.2.2.2.2 2, 201, .inr (.inl (fun _ => 0)))) := by rw [ev33]; exact (vv_up_a _ _ _ _ (fun z => by subst z; have y := hfr_338 52; rw [he_330] at y; cases y)).trans he_330
  have he_350 : v33 52 q_151 = some (.inl (G.2.2.2.2 2, 201, .inr (.inl (fun _ => 0)))) := by rw [ev33]; exact (vv_up_a _ _ _ _ (fun z => by subst z; have y := hfr_338 52; rw [he_331] at y; cases y)).trans he_331
  have he_351 : v33 50 q_177 = some (.inl (G.2.2.2.2 0, 201, .inl (fun _ => 0))) := by rw [ev33]; exact (vv_up_a _ _ _ _ (fun z => by subst z; have y := hfr_338 50; rw [he_332] at y; cases y)).trans he_332
  have he_352 : v33 51 q_205 = some (.inl (G.2.2.2.2 1, 201, .inl (fun _ => 0))) := by rw [ev33]; exact (vv_up_a _ _ _ _ (fun z => by subst z; have y := hfr_338 51; rw [he_333] at y; cases y)).trans he_333
  have he_353 : v33 51 q_235 = some (.inl (G.2.2.2.2 1, 201, .inl (fun _ => 0))) := by rw [ev33]; exact (vv_up_a _ _ _ _ (fun z => by subst z; have y := hfr_338 51; rw [he_334] at y; cases y)).trans he_334
  have he_354 : v33 50 q_267 = some (.inl (G.2.2.2.2 0, 60, .inl (fun _ => 0))) := by rw [ev33]; exact (vv_up_a _ _ _ _ (fun z => by subst z; have y := hfr_338 50; rw [he_335] at y; cases y)).trans he_335
  have he_355 : v33 50 q_301 = some (.inl (G.2.2.2.2 0, 60, .inl (fun _ => 0))) := by rw [ev33]; exact (vv_up_a _ _ _ _ (fun z => by subst z; have y := hfr_338 50; rw [he_336] at y; cases y)).trans he_336
  have he_356 : v33 51 q_337 = some (.inl (G.2.2.2.2 1, 60, .inl (fun _ => 0))) := by rw [ev33]; exact vv_up_s _ _ _ _
  have hkv33 : vkeep (fun a => a = o) v v33 := by rw [ev33]; exact hkv32.nu hfr_338
  have hdv33 : ∀ x ∈ [q_337, q_301, q_267, q_235, q_205, q_177, q_151, q_127, q_105, q_85, q_67, q_51, q_37, q_25, q_15, q_7, q_1], ∃ (k : Nat) (e : va_E), v33 k x = some e := by rw [ev33]; exact vdom.cons hdv32
  refine v_putF C hin k_M he_339 21 (by decide) tw_504 (fun _ h => h) rfl rfl rfl rfl (Nat.le_of_ble_eq_true rfl) d_M_init_145 ?_
  refine v_view (fun v34 ev34 => ?_)
  have he_357 : v34 4 o = some (.inr (4, [.long 0, .int 0, .ref q_1, .int 0, .ref q_7, .ref q_15, .ref q_25, .ref q_37, .ref q_51, .int 0, .ref q_67, .ref q_85, .ref q_105, .ref q_127, .ref q_151, .ref q_177, .ref q_205, .ref q_235, .int 0, .ref q_267, .ref q_301, .ref q_337, .null, .int 0, .null, .null, .null, .null, .int 0, .null, .null, .null])) := by rw [ev34]; exact vv_up_s _ _ _ _
  have he_358 : v34 51 q_1 = some (.inl (G.2.2.2.2 1, 4, .inl (fun _ => 0))) := by rw [ev34]; exact (vv_up_k _ _ _ _ (by decide)).trans he_340
  have he_359 : v34 50 q_7 = some (.inl (G.2.2.2.2 0, 41, .inl (fun _ => 0))) := by rw [ev34]; exact (vv_up_k _ _ _ _ (by decide)).trans he_341
  have he_360 : v34 50 q_15 = some (.inl (G.2.2.2.2 0, 41, .inl (fun _ => 0))) := by rw [ev34]; exact (vv_up_k _ _ _ _ (by decide)).trans he_342
  have he_361 : v34 50 q_25 = some (.inl (G.2.2.2.2 0, 41, .inl (fun _ => 0))) := by rw [ev34]; exact (vv_up_k _ _ _ _ (by decide)).trans he_343
  have he_362 : v34 50 q_37 = some (.inl (G.2.2.2.2 0, 41, .inl (fun _ => 0))) := by rw [ev34]; exact (vv_up_k _ _ _ _ (by decide)).trans he_344
  have he_363 : v34 50 q_51 = some (.inl (G.2.2.2.2 0, 1312, .inl (fun _ => 0))) := by rw [ev34]; exact (vv_up_k _ _ _ _ (by decide)).trans he_345
  have he_364 : v34 50 q_67 = some (.inl (G.2.2.2.2 0, 201, .inl (fun _ => 0))) := by rw [ev34]; exact (vv_up_k _ _ _ _ (by decide)).trans he_346
  have he_365 : v34 50 q_85 = some (.inl (G.2.2.2.2 0, 201, .inl (fun _ => 0))) := by rw [ev34]; exact (vv_up_k _ _ _ _ (by decide)).trans he_347
  have he_366 : v34 50 q_105 = some (.inl (G.2.2.2.2 0, 201, .inl (fun _ => 0))) := by rw [ev34]; exact (vv_up_k _ _ _ _ (by decide)).trans he_348
  have he_367 : v34 52 q_127 = some (.inl (G.2.2.2.2 2, 201, .inr (.inl (fun _ => 0)))) := by rw [ev34]; exact (vv_up_k _ _ _ _ (by decide)).trans he_349
  have he_368 : v34 52 q_151 = some (.inl (G.2.2.2.2 2, 201, .inr (.inl (fun _ => 0)))) := by rw [ev34]; exact (vv_up_k _ _ _ _ (by decide)).trans he_350
  have he_369 : v34 50 q_177 = some (.inl (G.2.2.2.2 0, 201, .inl (fun _ => 0))) := by rw [ev34]; exact (vv_up_k _ _ _ _ (by decide)).trans he_351
  have he_370 : v34 51 q_205 = some (.inl (G.2.2.2.2 1, 201, .inl (fun _ => 0))) := by rw [ev34]; exact (vv_up_k _ _ _ _ (by decide)).trans he_352
  have he_371 : v34 51 q_235 = some (.inl (G.2.2.2.2 1, 201, .inl (fun _ => 0))) := by rw [ev34]; exact (vv_up_k _ _ _ _ (by decide)).trans he_353
  have he_372 : v34 50 q_267 = some (.inl (G.2.2.2.2 0, 60, .inl (fun _ => 0))) := by rw [ev34]; exact (vv_up_k _ _ _ _ (by decide)).trans he_354
  have he_373 : v34 50 q_301 = some (.inl (G.2.2.2.2 0, 60, .inl (fun _ => 0))) := by rw [ev34]; exact (vv_up_k _ _ _ _ (by decide)).trans he_355
  have he_374 : v34 51 q_337 = some (.inl (G.2.2.2.2 1, 60, .inl (fun _ => 0))) := by rw [ev34]; exact (vv_up_k _ _ _ _ (by decide)).trans he_356
  have hkv34 : vkeep (fun a => a = o) v v34 := by rw [ev34]; exact hkv33.up rfl
  have hdv34 : ∀ x ∈ [q_337, q_301, q_267, q_235, q_205, q_177, q_151, q_127, q_105, q_85, q_67, q_51, q_37, q_25, q_15, q_7, q_1], ∃ (k : Nat) (e : va_E), v34 k x = some e := by rw [ev34]; exact vdom.up hdv33
  refine v_aload_n C 0 d_M_init_148 rfl rfl ?_
  refine v_bipush (x := 60) C d_M_init_149 (by decide) ?_
  refine v_newai (n := 60) C (by decide) (by decide) (by decide) (by first | exact Nat.le_of_ble_eq_true rfl | (show _ ≤ _; omega)) (by first | exact Nat.le_of_ble_eq_true rfl | (show _ ≤ _; omega)) d_M_init_151 (fun q_375 hfr_376 => ?_)
  refine v_cs (kc' := 18) (ks' := 3328) rfl rfl ?_
  have fr_q_375 := hkv34.fr he_357 hfr_376
  have nd_q_375 := vdom.new hdv34 hfr_376 nd_q_337
  refine v_view (fun v35 ev35 => ?_)
  have he_377 : v35 4 o = some (.inr (4, [.long 0, .int 0, .ref q_1, .int 0, .ref q_7, .ref q_15, .ref q_25, .ref q_37, .ref q_51, .int 0, .ref q_67, .ref q_85, .ref q_105, .ref q_127, .ref q_151, .ref q_177, .ref q_205, .ref q_235, .int 0, .ref q_267, .ref q_301, .ref q_337, .null, .int 0, .null, .null, .null, .null, .int 0, .null, .null, .null])) := by rw [ev35]; exact (vv_up_a _ _ _ _ (fun z => by subst z; have y := hfr_376 4; rw [he_357] at y; cases y)).trans he_357
  have he_378 : v35 51 q_1 = some (.inl (G.2.2.2.2 1, 4, .inl (fun _ => 0))) := by rw [ev35]; exact (vv_up_a _ _ _ _ (fun z => by subst z; have y := hfr_376 51; rw [he_358] at y; cases y)).trans he_358
  have he_379 : v35 50 q_7 = some (.inl (G.2.2.2.2 0, 41, .inl (fun _ => 0))) := by rw [ev35]; exact (vv_up_a _ _ _ _ (fun z => by subst z; have y := hfr_376 50; rw [he_359] at y; cases y)).trans he_359
  have he_380 : v35 50 q_15 = some (.inl (G.2.2.2.2 0, 41, .inl (fun _ => 0))) := by rw [ev35]; exact (vv_up_a _ _ _ _ (fun z => by subst z; have y := hfr_376 50; rw [he_360] at y; cases y)).trans he_360
  have he_381 : v35 50 q_25 = some (.inl (G.2.2.2.2 0, 41, .inl (fun _ => 0))) := by rw [ev35]; exact (vv_up_a _ _ _ _ (fun z => by subst z; have y := hfr_376 50; rw [he_361] at y; cases y)).trans he_361
  have he_382 : v35 50 q_37 = some (.inl (G.2.2.2.2 0, 41, .inl (fun _ => 0))) := by rw [ev35]; exact (vv_up_a _ _ _ _ (fun z => by subst z; have y := hfr_376 50; rw [he_362] at y; cases y)).trans he_362
  have he_383 : v35 50 q_51 = some (.inl (G.2.2.2.2 0, 1312, .inl (fun _ => 0))) := by rw [ev35]; exact (vv_up_a _ _ _ _ (fun z => by subst z; have y := hfr_376 50; rw [he_363] at y; cases y)).trans he_363
  have he_384 : v35 50 q_67 = some (.inl (G.2.2.2.2 0, 201, .inl (fun _ => 0))) := by rw [ev35]; exact (vv_up_a _ _ _ _ (fun z => by subst z; have y := hfr_376 50; rw [he_364] at y; cases y)).trans he_364
  have he_385 : v35 50 q_85 = some (.inl (G.2.2.2.2 0, 201, .inl (fun _ => 0))) := by rw [ev35]; exact (vv_up_a _ _ _ _ (fun z => by subst z; have y := hfr_376 50; rw [he_365] at y; cases y)).trans he_365
  have he_386 : v35 50 q_105 = some (.inl (G.2.2.2.2 0, 201, .inl (fun _ => 0))) := by rw [ev35]; exact (vv_up_a _ _ _ _ (fun z => by subst z; have y := hfr_376 50; rw [he_366] at y; cases y)).trans he_366
  have he_387 : v35 52 q_127 = some (.inl (G.2.2.2.2 2, 201, .inr (.inl (fun _ => 0)))) := by rw [ev35]; exact (vv_up_a _ _ _ _ (fun z => by subst z; have y := hfr_376 52; rw [he_367] at y; cases y)).trans he_367
  have he_388 : v35 52 q_151 = some (.inl (G.2.2.2.2 2, 201, .inr (.inl (fun _ => 0)))) := by rw [ev35]; exact (vv_up_a _ _ _ _ (fun z => by subst z; have y := hfr_376 52; rw [he_368] at y; cases y)).trans he_368
  have he_389 : v35 50 q_177 = some (.inl (G.2.2.2.2 0, 201, .inl (fun _ => 0))) := by rw [ev35]; exact (vv_up_a _ _ _ _ (fun z => by subst z; have y := hfr_376 50; rw [he_369] at y; cases y)).trans he_369
  have he_390 : v35 51 q_205 = some (.inl (G.2.2.2.2 1, 201, .inl (fun _ => 0))) := by rw [ev35]; exact (vv_up_a _ _ _ _ (fun z => by subst z; have y := hfr_376 51; rw [he_370] at y; cases y)).trans he_370
  have he_391 : v35 51 q_235 = some (.inl (G.2.2.2.2 1, 201, .inl (fun _ => 0))) := by rw [ev35]; exact (vv_up_a _ _ _ _ (fun z => by subst z; have y := hfr_376 51; rw [he_371] at y; cases y)).trans he_371
  have he_392 : v35 50 q_267 = some (.inl (G.2.2.2.2 0, 60, .inl (fun _ => 0))) := by rw [ev35]; exact (vv_up_a _ _ _ _ (fun z => by subst z; have y := hfr_376 50; rw [he_372] at y; cases y)).trans he_372
  have he_393 : v35 50 q_301 = some (.inl (G.2.2.2.2 0, 60, .inl (fun _ => 0))) := by rw [ev35]; exact (vv_up_a _ _ _ _ (fun z => by subst z; have y := hfr_376 50; rw [he_373] at y; cases y)).trans he_373
  have he_394 : v35 51 q_337 = some (.inl (G.2.2.2.2 1, 60, .inl (fun _ => 0))) := by rw [ev35]; exact (vv_up_a _ _ _ _ (fun z => by subst z; have y := hfr_376 51; rw [he_374] at y; cases y)).trans he_374
  have he_395 : v35 50 q_375 = some (.inl (G.2.2.2.2 0, 60, .inl (fun _ => 0))) := by rw [ev35]; exact vv_up_s _ _ _ _
  have hkv35 : vkeep (fun a => a = o) v v35 := by rw [ev35]; exact hkv34.nu hfr_376
  have hdv35 : ∀ x ∈ [q_375, q_337, q_301, q_267, q_235, q_205, q_177, q_151, q_127, q_105, q_85, q_67, q_51, q_37, q_25, q_15, q_7, q_1], ∃ (k : Nat) (e : va_E), v35 k x = some e := by rw [ev35]; exact vdom.cons hdv34
  refine v_putF C hin k_M he_377 22 (by decide) tw_505 (fun _ h => h) rfl rfl rfl rfl (Nat.le_of_ble_eq_true rfl) d_M_init_153 ?_
  refine v_view (fun v36 ev36 => ?_)
  have he_396 : v36 4 o = some (.inr (4, [.long 0, .int 0, .ref q_1, .int 0, .ref q_7, .ref q_15, .ref q_25, .ref q_37, .ref q_51, .int 0, .ref q_67, .ref q_85, .ref q_105, .ref q_127, .ref q_151, .ref q_177, .ref q_205, .ref q_235, .int 0, .ref q_267, .ref q_301, .ref q_337, .ref q_375, .int 0, .null, .null, .null, .null, .int 0, .null, .null, .null])) := by rw [ev36]; exact vv_up_s _ _ _ _
  have he_397 : v36 51 q_1 = some (.inl (G.2.2.2.2 1, 4, .inl (fun _ => 0))) := by rw [ev36]; exact (vv_up_k _ _ _ _ (by decide)).trans he_378
  have he_398 : v36 50 q_7 = some (.inl (G.2.2.2.2 0, 41, .inl (fun _ => 0))) := by rw [ev36]; exact (vv_up_k _ _ _ _ (by decide)).trans he_379
  have he_399 : v36 50 q_15 = some (.inl (G.2.2.2.2 0, 41, .inl (fun _ => 0))) := by rw [ev36]; exact (vv_up_k _ _ _ _ (by decide)).trans he_380
  have he_400 : v36 50 q_25 = some (.inl (G.2.2.2.2 0, 41, .inl (fun _ => 0))) := by rw [ev36]; exact (vv_up_k _ _ _ _ (by decide)).trans he_381
  have he_401 : v36 50 q_37 = some (.inl (G.2.2.2.2 0, 41, .inl (fun _ => 0))) := by rw [ev36]; exact (vv_up_k _ _ _ _ (by decide)).trans he_382
  have he_402 : v36 50 q_51 = some (.inl (G.2.2.2.2 0, 1312, .inl (fun _ => 0))) := by rw [ev36]; exact (vv_up_k _ _ _ _ (by decide)).trans he_383
  have he_403 : v36 50 q_67 = some (.inl (G.2.2.2.2 0, 201, .inl (fun _ => 0))) := by rw [ev36]; exact (vv_up_k _ _ _ _ (by decide)).trans he_384
  have he_404 : v36 50 q_85 = some (.inl (G.2.2.2.2 0, 201, .inl (fun _ => 0))) := by rw [ev36]; exact (vv_up_k _ _ _ _ (by decide)).trans he_385
  have he_405 : v36 50 q_105 = some (.inl (G.2.2.2.2 0, 201, .inl (fun _ => 0))) := by rw [ev36]; exact (vv_up_k _ _ _ _ (by decide)).trans he_386
  have he_406 : v36 52 q_127 = some (.inl (G.2.2.2.2 2, 201, .inr (.inl (fun _ => 0)))) := by rw [ev36]; exact (vv_up_k _ _ _ _ (by decide)).trans he_387
  have he_407 : v36 52 q_151 = some (.inl (G.2.2.2.2 2, 201, .inr (.inl (fun _ => 0)))) := by rw [ev36]; exact (vv_up_k _ _ _ _ (by decide)).trans he_388
  have he_408 : v36 50 q_177 = some (.inl (G.2.2.2.2 0, 201, .inl (fun _ => 0))) := by rw [ev36]; exact (vv_up_k _ _ _ _ (by decide)).trans he_389
  have he_409 : v36 51 q_205 = some (.inl (G.2.2.2.2 1, 201, .inl (fun _ => 0))) := by rw [ev36]; exact (vv_up_k _ _ _ _ (by decide)).trans he_390
  have he_410 : v36 51 q_235 = some (.inl (G.2.2.2.2 1, 201, .inl (fun _ => 0))) := by rw [ev36]; exact (vv_up_k _ _ _ _ (by decide)).trans he_391
  have he_411 : v36 50 q_267 = some (.inl (G.2.2.2.2 0, 60, .inl (fun _ => 0))) := by rw [ev36]; exact (vv_up_k _ _ _ _ (by decide)).trans he_392
  have he_412 : v36 50 q_301 = some (.inl (G.2.2.2.2 0, 60, .inl (fun _ => 0))) := by rw [ev36]; exact (vv_up_k _ _ _ _ (by decide)).trans he_393
  have he_413 : v36 51 q_337 = some (.inl (G.2.2.2.2 1, 60, .inl (fun _ => 0))) := by rw [ev36]; exact (vv_up_k _ _ _ _ (by decide)).trans he_394
  have he_414 : v36 50 q_375 = some (.inl (G.2.2.2.2 0, 60, .inl (fun _ => 0))) := by rw [ev36]; exact (vv_up_k _ _ _ _ (by decide)).trans he_395
  have hkv36 : vkeep (fun a => a = o) v v36 := by rw [ev36]; exact hkv35.up rfl
  have hdv36 : ∀ x ∈ [q_375, q_337, q_301, q_267, q_235, q_205, q_177, q_151, q_127, q_105, q_85, q_67, q_51, q_37, q_25, q_15, q_7, q_1], ∃ (k : Nat) (e : va_E), v36 k x = some e := by rw [ev36]; exact vdom.up hdv35
  refine v_aload_n C 0 d_M_init_156 rfl rfl ?_
  refine v_sipush (x := 200) C d_M_init_157 (by decide) ?_
  refine v_newai (n := 200) C (by decide) (by decide) (by decide) (by first | exact Nat.le_of_ble_eq_true rfl | (show _ ≤ _; omega)) (by first | exact Nat.le_of_ble_eq_true rfl | (show _ ≤ _; omega)) d_M_init_160 (fun q_415 hfr_416 => ?_)
  refine v_cs (kc' := 19) (ks' := 3528) rfl rfl ?_
  have fr_q_415 := hkv36.fr he_396 hfr_416
  have nd_q_415 := vdom.new hdv36 hfr_416 nd_q_375
  refine v_view (fun v37 ev37 => ?_)
  have he_417 : v37 4 o = some (.inr (4, [.long 0, .int 0, .ref q_1, .int 0, .ref q_7, .ref q_15, .ref q_25, .ref q_37, .ref q_51, .int 0, .ref q_67, .ref q_85, .ref q_105, .ref q_127, .ref q_151, .ref q_177, .ref q_205, .ref q_235, .int 0, .ref q_267, .ref q_301, .ref q_337, .ref q_375, .int 0, .null, .null, .null, .null, .int 0, .null, .null, .null])) := by rw [ev37]; exact (vv_up_a _ _ _ _ (fun z => by subst z; have y := hfr_416 4; rw [he_396] at y; cases y)).trans he_396
  have he_418 : v37 51 q_1 = some (.inl (G.2.2.2.2 1, 4, .inl (fun _ => 0))) := by rw [ev37]; exact (vv_up_a _ _ _ _ (fun z => by subst z; have y := hfr_416 51; rw [he_397] at y; cases y)).trans he_397
  have he_419 : v37 50 q_7 = some (.inl (G.2.2.2.2 0, 41, .inl (fun _ => 0))) := by rw [ev37]; exact (vv_up_a _ _ _ _ (fun z => by subst z; have y := hfr_416 50; rw [he_398] at y; cases y)).trans he_398
  have he_420 : v37 50 q_15 = some (.inl (G.2.2.2.2 0, 41, .inl (fun _ => 0))) := by rw [ev37]; exact (vv_up_a _ _ _ _ (fun z => by subst z; have y := hfr_416 50; rw [he_399] at y; cases y)).trans he_399
  have he_421 : v37 50 q_25 = some (.inl (G.2.2.2.2 0, 41, .inl (fun _ => 0))) := by rw [ev37]; exact (vv_up_a _ _ _ _ (fun z => by subst z; have y := hfr_416 50; rw [he_400] at y; cases y)).trans he_400
  have he_422 : v37 50 q_37 = some (.inl (G.2.2.2.2 0, 41, .inl (fun _ => 0))) := by rw [ev37]; exact (vv_up_a _ _ _ _ (fun z => by subst z; have y := hfr_416 50; rw [he_401] at y; cases y)).trans he_401
  have he_423 : v37 50 q_51 = some (.inl (G.2.2.2.2 0, 1312, .inl (fun _ => 0))) := by rw [ev37]; exact (vv_up_a _ _ _ _ (fun z => by subst z; have y := hfr_416 50; rw [he_402] at y; cases y)).trans he_402
  have he_424 : v37 50 q_67 = some (.inl (G.2.2.2.2 0, 201, .inl (fun _ => 0))) := by rw [ev37]; exact (vv_up_a _ _ _ _ (fun z => by subst z; have y := hfr_416 50; rw [he_403] at y; cases y)).trans he_403
  have he_425 : v37 50 q_85 = some (.inl (G.2.2.2.2 0, 201, .inl (fun _ => 0))) := by rw [ev37]; exact (vv_up_a _ _ _ _ (fun z => by subst z; have y := hfr_416 50; rw [he_404] at y; cases y)).trans he_404
  have he_426 : v37 50 q_105 = some (.inl (G.2.2.2.2 0, 201, .inl (fun _ => 0))) := by rw [ev37]; exact (vv_up_a _ _ _ _ (fun z => by subst z; have y := hfr_416 50; rw [he_405] at y; cases y)).trans he_405
  have he_427 : v37 52 q_127 = some (.inl (G.2.2.2.2 2, 201, .inr (.inl (fun _ => 0)))) := by rw [ev37]; exact (vv_up_a _ _ _ _ (fun z => by subst z; have y := hfr_416 52; rw [he_406] at y; cases y)).trans he_406
  have he_428 : v37 52 q_151 = some (.inl (G.2.2.2.2 2, 201, .inr (.inl (fun _ => 0)))) := by rw [ev37]; exact (vv_up_a _ _ _ _ (fun z => by subst z; have y := hfr_416 52; rw [he_407] at y; cases y)).trans he_407
  have he_429 : v37 50 q_177 = some (.inl (G.2.2.2.2 0, 201, .inl (fun _ => 0))) := by rw [ev37]; exact (vv_up_a _ _ _ _ (fun z => by subst z; have y := hfr_416 50; rw [he_408] at y; cases y)).trans he_408
  have he_430 : v37 51 q_205 = some (.inl (G.2.2.2.2 1, 201, .inl (fun _ => 0))) := by rw [ev37]; exact (vv_up_a _ _ _ _ (fun z => by subst z; have y := hfr_416 51; rw [he_409] at y; cases y)).trans he_409
  have he_431 : v37 51 q_235 = some (.inl (G.2.2.2.2 1, 201, .inl (fun _ => 0))) := by rw [ev37]; exact (vv_up_a _ _ _ _ (fun z => by subst z; have y := hfr_416 51; rw [he_410] at y; cases y)).trans he_410
  have he_432 : v37 50 q_267 = some (.inl (G.2.2.2.2 0, 60, .inl (fun _ => 0))) := by rw [ev37]; exact (vv_up_a _ _ _ _ (fun z => by subst z; have y := hfr_416 50; rw [he_411] at y; cases y)).trans he_411
  have he_433 : v37 50 q_301 = some (.inl (G.2.2.2.2 0, 60, .inl (fun _ => 0))) := by rw [ev37]; exact (vv_up_a _ _ _ _ (fun z => by subst z; have y := hfr_416 50; rw [he_412] at y; cases y)).trans he_412
  have he_434 : v37 51 q_337 = some (.inl (G.2.2.2.2 1, 60, .inl (fun _ => 0))) := by rw [ev37]; exact (vv_up_a _ _ _ _ (fun z => by subst z; have y := hfr_416 51; rw [he_413] at y; cases y)).trans he_413
  have he_435 : v37 50 q_375 = some (.inl (G.2.2.2.2 0, 60, .inl (fun _ => 0))) := by rw [ev37]; exact (vv_up_a _ _ _ _ (fun z => by subst z; have y := hfr_416 50; rw [he_414] at y; cases y)).trans he_414
  have he_436 : v37 50 q_415 = some (.inl (G.2.2.2.2 0, 200, .inl (fun _ => 0))) := by rw [ev37]; exact vv_up_s _ _ _ _
  have hkv37 : vkeep (fun a => a = o) v v37 := by rw [ev37]; exact hkv36.nu hfr_416
  have hdv37 : ∀ x ∈ [q_415, q_375, q_337, q_301, q_267, q_235, q_205, q_177, q_151, q_127, q_105, q_85, q_67, q_51, q_37, q_25, q_15, q_7, q_1], ∃ (k : Nat) (e : va_E), v37 k x = some e := by rw [ev37]; exact vdom.cons hdv36
  refine v_putF C hin k_M he_417 24 (by decide) tw_507 (fun _ h => h) rfl rfl rfl rfl (Nat.le_of_ble_eq_true rfl) d_M_init_162 ?_
  refine v_view (fun v38 ev38 => ?_)
  have he_437 : v38 4 o = some (.inr (4, [.long 0, .int 0, .ref q_1, .int 0, .ref q_7, .ref q_15, .ref q_25, .ref q_37, .ref q_51, .int 0, .ref q_67, .ref q_85, .ref q_105, .ref q_127, .ref q_151, .ref q_177, .ref q_205, .ref q_235, .int 0, .ref q_267, .ref q_301, .ref q_337, .ref q_375, .int 0, .ref q_415, .null, .null, .null, .int 0, .null, .null, .null])) := by rw [ev38]; exact vv_up_s _ _ _ _
  have he_438 : v38 51 q_1 = some (.inl (G.2.2.2.2 1, 4, .inl (fun _ => 0))) := by rw [ev38]; exact (vv_up_k _ _ _ _ (by decide)).trans he_418
  have he_439 : v38 50 q_7 = some (.inl (G.2.2.2.2 0, 41, .inl (fun _ => 0))) := by rw [ev38]; exact (vv_up_k _ _ _ _ (by decide)).trans he_419
  have he_440 : v38 50 q_15 = some (.inl (G.2.2.2.2 0, 41, .inl (fun _ => 0))) := by rw [ev38]; exact (vv_up_k _ _ _ _ (by decide)).trans he_420
  have he_441 : v38 50 q_25 = some (.inl (G.2.2.2.2 0, 41, .inl (fun _ => 0))) := by rw [ev38]; exact (vv_up_k _ _ _ _ (by decide)).trans he_421
  have he_442 : v38 50 q_37 = some (.inl (G.2.2.2.2 0, 41, .inl (fun _ => 0))) := by rw [ev38]; exact (vv_up_k _ _ _ _ (by decide)).trans he_422
  have he_443 : v38 50 q_51 = some (.inl (G.2.2.2.2 0, 1312, .inl (fun _ => 0))) := by rw [ev38]; exact (vv_up_k _ _ _ _ (by decide)).trans he_423
  have he_444 : v38 50 q_67 = some (.inl (G.2.2.2.2 0, 201, .inl (fun _ => 0))) := by rw [ev38]; exact (vv_up_k _ _ _ _ (by decide)).trans he_424
  have he_445 : v38 50 q_85 = some (.inl (G.2.2.2.2 0, 201, .inl (fun _ => 0))) := by rw [ev38]; exact (vv_up_k _ _ _ _ (by decide)).trans he_425
  have he_446 : v38 50 q_105 = some (.inl (G.2.2.2.2 0, 201, .inl (fun _ => 0))) := by rw [ev38]; exact (vv_up_k _ _ _ _ (by decide)).trans he_426
  have he_447 : v38 52 q_127 = some (.inl (G.2.2.2.2 2, 201, .inr (.inl (fun _ => 0)))) := by rw [ev38]; exact (vv_up_k _ _ _ _ (by decide)).trans he_427
  have he_448 : v38 52 q_151 = some (.inl (G.2.2.2.2 2, 201, .inr (.inl (fun _ => 0)))) := by rw [ev38]; exact (vv_up_k _ _ _ _ (by decide)).trans he_428
  have he_449 : v38 50 q_177 = some (.inl (G.2.2.2.2 0, 201, .inl (fun _ => 0))) := by rw [ev38]; exact (vv_up_k _ _ _ _ (by decide)).trans he_429
  have he_450 : v38 51 q_205 = some (.inl (G.2.2.2.2 1, 201, .inl (fun _ => 0))) := by rw [ev38]; exact (vv_up_k _ _ _ _ (by decide)).trans he_430
  have he_451 : v38 51 q_235 = some (.inl (G.2.2.2.2 1, 201, .inl (fun _ => 0))) := by rw [ev38]; exact (vv_up_k _ _ _ _ (by decide)).trans he_431
  have he_452 : v38 50 q_267 = some (.inl (G.2.2.2.2 0, 60, .inl (fun _ => 0))) := by rw [ev38]; exact (vv_up_k _ _ _ _ (by decide)).trans he_432
  have he_453 : v38 50 q_301 = some (.inl (G.2.2.2.2 0, 60, .inl (fun _ => 0))) := by rw [ev38]; exact (vv_up_k _ _ _ _ (by decide)).trans he_433
  have he_454 : v38 51 q_337 = some (.inl (G.2.2.2.2 1, 60, .inl (fun _ => 0))) := by rw [ev38]; exact (vv_up_k _ _ _ _ (by decide)).trans he_434
  have he_455 : v38 50 q_375 = some (.inl (G.2.2.2.2 0, 60, .inl (fun _ => 0))) := by rw [ev38]; exact (vv_up_k _ _ _ _ (by decide)).trans he_435
  have he_456 : v38 50 q_415 = some (.inl (G.2.2.2.2 0, 200, .inl (fun _ => 0))) := by rw [ev38]; exact (vv_up_k _ _ _ _ (by decide)).trans he_436
  have hkv38 : vkeep (fun a => a = o) v v38 := by rw [ev38]; exact hkv37.up rfl
  have hdv38 : ∀ x ∈ [q_415, q_375, q_337, q_301, q_267, q_235, q_205, q_177, q_151, q_127, q_105, q_85, q_67, q_51, q_37, q_25, q_15, q_7, q_1], ∃ (k : Nat) (e : va_E), v38 k x = some e := by rw [ev38]; exact vdom.up hdv37
  refine v_aload_n C 0 d_M_init_165 rfl rfl ?_
  refine v_sipush (x := 200) C d_M_init_166 (by decide) ?_
  refine v_newai (n := 200) C (by decide) (by decide) (by decide) (by first | exact Nat.le_of_ble_eq_true rfl | (show _ ≤ _; omega)) (by first | exact Nat.le_of_ble_eq_true rfl | (show _ ≤ _; omega)) d_M_init_169 (fun q_457 hfr_458 => ?_)
  refine v_cs (kc' := 20) (ks' := 3728) rfl rfl ?_
  have fr_q_457 := hkv38.fr he_437 hfr_458
  have nd_q_457 := vdom.new hdv38 hfr_458 nd_q_415
  refine v_view (fun v39 ev39 => ?_)
  have he_459 : v39 4 o = some (.inr (4, [.long 0, .int 0, .ref q_1, .int 0, .ref q_7, .ref q_15, .ref q_25, .ref q_37, .ref q_51, .int 0, .ref q_67, .ref q_85, .ref q_105, .ref q_127, .ref q_151, .ref q_177, .ref q_205, .ref q_235, .int 0, .ref q_267, .ref q_301, .ref q_337, .ref q_375, .int 0, .ref q_415, .null, .null, .null, .int 0, .null, .null, .null])) := by rw [ev39]; exact (vv_up_a _ _ _ _ (fun z => by subst z; have y := hfr_458 4; rw [he_437] at y; cases y)).trans he_437
  have he_460 : v39 51 q_1 = some (.inl (G.2.2.2.2 1, 4, .inl (fun _ => 0))) := by rw [ev39]; exact (vv_up_a _ _ _ _ (fun z => by subst z; have y := hfr_458 51; rw [he_438] at y; cases y)).trans he_438
  have he_461 : v39 50 q_7 = some (.inl (G.2.2.2.2 0, 41, .inl (fun _ => 0))) := by rw [ev39]; exact (vv_up_a _ _ _ _ (fun z => by subst z; have y := hfr_458 50; rw [he_439] at y; cases y)).trans he_439
  have he_462 : v39 50 q_15 = some (.inl (G.2.2.2.2 0, 41, .inl (fun _ => 0))) := by rw [ev39]; exact (vv_up_a _ _ _ _ (fun z => by subst z; have y := hfr_458 50; rw [he_440] at y; cases y)).trans he_440
  have he_463 : v39 50 q_25 = some (.inl (G.2.2.2.2 0, 41, .inl (fun _ => 0))) := by rw [ev39]; exact (vv_up_a _ _ _ _ (fun z => by subst z; have y := hfr_458 50; rw [he_441] at y; cases y)).trans he_441
  have he_464 : v39 50 q_37 = some (.inl (G.2.2.2.2 0, 41, .inl (fun _ => 0))) := by rw [ev39]; exact (vv_up_a _ _ _ _ (fun z => by subst z; have y := hfr_458 50; rw [he_442] at y; cases y)).trans he_442
  have he_465 : v39 50 q_51 = some (.inl (G.2.2.2.2 0, 1312, .inl (fun _ => 0))) := by rw [ev39]; exact (vv_up_a _ _ _ _ (fun z => by subst z; have y := hfr_458 50; rw [he_443] at y; cases y)).trans he_443
  have he_466 : v39 50 q_67 = some (.inl (G.2.2.2.2 0, 201, .inl (fun _ => 0))) := by rw [ev39]; exact (vv_up_a _ _ _ _ (fun z => by subst z; have y := hfr_458 50; rw [he_444] at y; cases y)).trans he_444
  have he_467 : v39 50 q_85 = some (.inl (G.2.2.2.2 0, 201, .inl (fun _ => 0))) := by rw [ev39]; exact (vv_up_a _ _ _ _ (fun z => by subst z; have y := hfr_458 50; rw [he_445] at y; cases y)).trans he_445
  have he_468 : v39 50 q_105 = some (.inl (G.2.2.2.2 0, 201, .inl (fun _ => 0))) := by rw [ev39]; exact (vv_up_a _ _ _ _ (fun z => by subst z; have y := hfr_458 50; rw [he_446] at y; cases y)).trans he_446
  have he_469 : v39 52 q_127 = some (.inl (G.2.2.2.2 2, 201, .inr (.inl (fun _ => 0)))) := by rw [ev39]; exact (vv_up_a _ _ _ _ (fun z => by subst z; have y := hfr_458 52; rw [he_447] at y; cases y)).trans he_447
  have he_470 : v39 52 q_151 = some (.inl (G.2.2.2.2 2, 201, .inr (.inl (fun _ => 0)))) := by rw [ev39]; exact (vv_up_a _ _ _ _ (fun z => by subst z; have y := hfr_458 52; rw [he_448] at y; cases y)).trans he_448
  have he_471 : v39 50 q_177 = some (.inl (G.2.2.2.2 0, 201, .inl (fun _ => 0))) := by rw [ev39]; exact (vv_up_a _ _ _ _ (fun z => by subst z; have y := hfr_458 50; rw [he_449] at y; cases y)).trans he_449
  have he_472 : v39 51 q_205 = some (.inl (G.2.2.2.2 1, 201, .inl (fun _ => 0))) := by rw [ev39]; exact (vv_up_a _ _ _ _ (fun z => by subst z; have y := hfr_458 51; rw [he_450] at y; cases y)).trans he_450
  have he_473 : v39 51 q_235 = some (.inl (G.2.2.2.2 1, 201, .inl (fun _ => 0))) := by rw [ev39]; exact (vv_up_a _ _ _ _ (fun z => by subst z; have y := hfr_458 51; rw [he_451] at y; cases y)).trans he_451
  have he_474 : v39 50 q_267 = some (.inl (G.2.2.2.2 0, 60, .inl (fun _ => 0))) := by rw [ev39]; exact (vv_up_a _ _ _ _ (fun z => by subst z; have y := hfr_458 50; rw [he_452] at y; cases y)).trans he_452
  have he_475 : v39 50 q_301 = some (.inl (G.2.2.2.2 0, 60, .inl (fun _ => 0))) := by rw [ev39]; exact (vv_up_a _ _ _ _ (fun z => by subst z; have y := hfr_458 50; rw [he_453] at y; cases y)).trans he_453
  have he_476 : v39 51 q_337 = some (.inl (G.2.2.2.2 1, 60, .inl (fun _ => 0))) := by rw [ev39]; exact (vv_up_a _ _ _ _ (fun z => by subst z; have y := hfr_458 51; rw [he_454] at y; cases y)).trans he_454
  have he_477 : v39 50 q_375 = some (.inl (G.2.2.2.2 0, 60, .inl (fun _ => 0))) := by rw [ev39]; exact (vv_up_a _ _ _ _ (fun z => by subst z; have y := hfr_458 50; rw [he_455] at y; cases y)).trans he_455
  have he_478 : v39 50 q_415 = some (.inl (G.2.2.2.2 0, 200, .inl (fun _ => 0))) := by rw [ev39]; exact (vv_up_a _ _ _ _ (fun z => by subst z; have y := hfr_458 50; rw [he_456] at y; cases y)).trans he_456
  have he_479 : v39 50 q_457 = some (.inl (G.2.2.2.2 0, 200, .inl (fun _ => 0))) := by rw [ev39]; exact vv_up_s _ _ _ _
  have hkv39 : vkeep (fun a => a = o) v v39 := by rw [ev39]; exact hkv38.nu hfr_458
  have hdv39 : ∀ x ∈ [q_457, q_415, q_375, q_337, q_301, q_267, q_235, q_205, q_177, q_151, q_127, q_105, q_85, q_67, q_51, q_37, q_25, q_15, q_7, q_1], ∃ (k : Nat) (e : va_E), v39 k x = some e := by rw [ev39]; exact vdom.cons hdv38
  refine v_putF C hin k_M he_459 25 (by decide) tw_508 (fun _ h => h) rfl rfl rfl rfl (Nat.le_of_ble_eq_true rfl) d_M_init_171 ?_
  refine v_view (fun v40 ev40 => ?_)
  have he_480 : v40 4 o = some (.inr (4, [.long 0, .int 0, .ref q_1, .int 0, .ref q_7, .ref q_15, .ref q_25, .ref q_37, .ref q_51, .int 0, .ref q_67, .ref q_85, .ref q_105, .ref q_127, .ref q_151, .ref q_177, .ref q_205, .ref q_235, .int 0, .ref q_267, .ref q_301, .ref q_337, .ref q_375, .int 0, .ref q_415, .ref q_457, .null, .null, .int 0, .null, .null, .null])) := by rw [ev40]; exact vv_up_s _ _ _ _
  have he_481 : v40 51 q_1 = some (.inl (G.2.2.2.2 1, 4, .inl (fun _ => 0))) := by rw [ev40]; exact (vv_up_k _ _ _ _ (by decide)).trans he_460
  have he_482 : v40 50 q_7 = some (.inl (G.2.2.2.2 0, 41, .inl (fun _ => 0))) := by rw [ev40]; exact (vv_up_k _ _ _ _ (by decide)).trans he_461
  have he_483 : v40 50 q_15 = some (.inl (G.2.2.2.2 0, 41, .inl (fun _ => 0))) := by rw [ev40]; exact (vv_up_k _ _ _ _ (by decide)).trans he_462
  have he_484 : v40 50 q_25 = some (.inl (G.2.2.2.2 0, 41, .inl (fun _ => 0))) := by rw [ev40]; exact (vv_up_k _ _ _ _ (by decide)).trans he_463
  have he_485 : v40 50 q_37 = some (.inl (G.2.2.2.2 0, 41, .inl (fun _ => 0))) := by rw [ev40]; exact (vv_up_k _ _ _ _ (by decide)).trans he_464
  have he_486 : v40 50 q_51 = some (.inl (G.2.2.2.2 0, 1312, .inl (fun _ => 0))) := by rw [ev40]; exact (vv_up_k _ _ _ _ (by decide)).trans he_465
  have he_487 : v40 50 q_67 = some (.inl (G.2.2.2.2 0, 201, .inl (fun _ => 0))) := by rw [ev40]; exact (vv_up_k _ _ _ _ (by decide)).trans he_466
  have he_488 : v40 50 q_85 = some (.inl (G.2.2.2.2 0, 201, .inl (fun _ => 0))) := by rw [ev40]; exact (vv_up_k _ _ _ _ (by decide)).trans he_467
  have he_489 : v40 50 q_105 = some (.inl (G.2.2.2.2 0, 201, .inl (fun _ => 0))) := by rw [ev40]; exact (vv_up_k _ _ _ _ (by decide)).trans he_468
  have he_490 : v40 52 q_127 = some (.inl (G.2.2.2.2 2, 201, .inr (.inl (fun _ => 0)))) := by rw [ev40]; exact (vv_up_k _ _ _ _ (by decide)).trans he_469
  have he_491 : v40 52 q_151 = some (.inl (G.2.2.2.2 2, 201, .inr (.inl (fun _ => 0)))) := by rw [ev40]; exact (vv_up_k _ _ _ _ (by decide)).trans he_470
  have he_492 : v40 50 q_177 = some (.inl (G.2.2.2.2 0, 201, .inl (fun _ => 0))) := by rw [ev40]; exact (vv_up_k _ _ _ _ (by decide)).trans he_471
  have he_493 : v40 51 q_205 = some (.inl (G.2.2.2.2 1, 201, .inl (fun _ => 0))) := by rw [ev40]; exact (vv_up_k _ _ _ _ (by decide)).trans he_472
  have he_494 : v40 51 q_235 = some (.inl (G.2.2.2.2 1, 201, .inl (fun _ => 0))) := by rw [ev40]; exact (vv_up_k _ _ _ _ (by decide)).trans he_473
  have he_495 : v40 50 q_267 = some (.inl (G.2.2.2.2 0, 60, .inl (fun _ => 0))) := by rw [ev40]; exact (vv_up_k _ _ _ _ (by decide)).trans he_474
  have he_496 : v40 50 q_301 = some (.inl (G.2.2.2.2 0, 60, .inl (fun _ => 0))) := by rw [ev40]; exact (vv_up_k _ _ _ _ (by decide)).trans he_475
  have he_497 : v40 51 q_337 = some (.inl (G.2.2.2.2 1, 60, .inl (fun _ => 0))) := by rw [ev40]; exact (vv_up_k _ _ _ _ (by decide)).trans he_476
  have he_498 : v40 50 q_375 = some (.inl (G.2.2.2.2 0, 60, .inl (fun _ => 0))) := by rw [ev40]; exact (vv_up_k _ _ _ _ (by decide)).trans he_477
  have he_499 : v40 50 q_415 = some (.inl (G.2.2.2.2 0, 200, .inl (fun _ => 0))) := by rw [ev40]; exact (vv_up_k _ _ _ _ (by decide)).trans he_478
  have he_500 : v40 50 q_457 = some (.inl (G.2.2.2.2 0, 200, .inl (fun _ => 0))) := by rw [ev40]; exact (vv_up_k _ _ _ _ (by decide)).trans he_479
  have hkv40 : vkeep (fun a => a = o) v v40 := by rw [ev40]; exact hkv39.up rfl
  have hdv40 : ∀ x ∈ [q_457, q_415, q_375, q_337, q_301, q_267, q_235, q_205, q_177, q_151, q_127, q_105, q_85, q_67, q_51, q_37, q_25, q_15, q_7, q_1], ∃ (k : Nat) (e : va_E), v40 k x = some e := by rw [ev40]; exact vdom.up hdv39
  refine v_aload_n C 0 d_M_init_174 rfl rfl ?_
  refine v_sipush (x := 200) C d_M_init_175 (by decide) ?_
  refine v_newai (n := 200) C (by decide) (by decide) (by decide) (by first | exact Nat.le_of_ble_eq_true rfl | (show _ ≤ _; omega)) (by first | exact Nat.le_of_ble_eq_true rfl | (show _ ≤ _; omega)) d_M_init_178 (fun q_501 hfr_502 => ?_)
  refine v_cs (kc' := 21) (ks' := 3928) rfl rfl ?_
  have fr_q_501 := hkv40.fr he_480 hfr_502
  have nd_q_501 := vdom.new hdv40 hfr_502 nd_q_457
  refine v_view (fun v41 ev41 => ?_)
  have he_503 : v41 4 o = some (.inr (4, [.long 0, .int 0, .ref q_1, .int 0, .ref q_7, .ref q_15, .ref q_25, .ref q_37, .ref q_51, .int 0, .ref q_67, .ref q_85, .ref q_105, .ref q_127, .ref q_151, .ref q_177, .ref q_205, .ref q_235, .int 0, .ref q_267, .ref q_301, .ref q_337, .ref q_375, .int 0, .ref q_415, .ref q_457, .null, .null, .int 0, .null, .null, .null])) := by rw [ev41]; exact (vv_up_a _ _ _ _ (fun z => by subst z; have y := hfr_502 4; rw [he_480] at y; cases y)).trans he_480
  have he_504 : v41 51 q_1 = some (.inl (G.2.2.2.2 1, 4, .inl (fun _ => 0))) := by rw [ev41]; exact (vv_up_a _ _ _ _ (fun z => by subst z; have y := hfr_502 51; rw [he_481] at y; cases y)).trans he_481
  have he_505 : v41 50 q_7 = some (.inl (G.2.2.2.2 0, 41, .inl (fun _ => 0))) := by rw [ev41]; exact (vv_up_a _ _ _ _ (fun z => by subst z; have y := hfr_502 50; rw [he_482] at y; cases y)).trans he_482
  have he_506 : v41 50 q_15 = some (.inl (G.2.2.2.2 0, 41, .inl (fun _ => 0))) := by rw [ev41]; exact (vv_up_a _ _ _ _ (fun z => by subst z; have y := hfr_502 50; rw [he_483] at y; cases y)).trans he_483
  have he_507 : v41 50 q_25 = some (.inl (G.2.2.2.2 0, 41, .inl (fun _ => 0))) := by rw [ev41]; exact (vv_up_a _ _ _ _ (fun z => by subst z; have y := hfr_502 50; rw [he_484] at y; cases y)).trans he_484
  have he_508 : v41 50 q_37 = some (.inl (G.2.2.2.2 0, 41, .inl (fun _ => 0))) := by rw [ev41]; exact (vv_up_a _ _ _ _ (fun z => by subst z; have y := hfr_502 50; rw [he_485] at y; cases y)).trans he_485
  have he_509 : v41 50 q_51 = some (.inl (G.2.2.2.2 0, 1312, .inl (fun _ => 0))) := by rw [ev41]; exact (vv_up_a _ _ _ _ (fun z => by subst z; have y := hfr_502 50; rw [he_486] at y; cases y)).trans he_486
  have he_510 : v41 50 q_67 = some (.inl (G.2.2.2.2 0, 201, .inl (fun _ => 0))) := by rw [ev41]; exact (vv_up_a _ _ _ _ (fun z => by subst z; have y := hfr_502 50; rw [he_487] at y; cases y)).trans he_487
  have he_511 : v41 50 q_85 = some (.inl (G.2.2.2.2 0, 201, .inl (fun _ => 0))) := by rw [ev41]; exact (vv_up_a _ _ _ _ (fun z => by subst z; have y := hfr_502 50; rw [he_488] at y; cases y)).trans he_488
  have he_512 : v41 50 q_105 = some (.inl (G.2.2.2.2 0, 201, .inl (fun _ => 0))) := by rw [ev41]; exact (vv_up_a _ _ _ _ (fun z => by subst z; have y := hfr_502 50; rw [he_489] at y; cases y)).trans he_489
  have he_513 : v41 52 q_127 = some (.inl (G.2.2.2.2 2, 201, .inr (.inl (fun _ => 0)))) := by rw [ev41]; exact (vv_up_a _ _ _ _ (fun z => by subst z; have y := hfr_502 52; rw [he_490] at y; cases y)).trans he_490
  have he_514 : v41 52 q_151 = some (.inl (G.2.2.2.2 2, 201, .inr (.inl (fun _ => 0)))) := by rw [ev41]; exact (vv_up_a _ _ _ _ (fun z => by subst z; have y := hfr_502 52; rw [he_491] at y; cases y)).trans he_491
  have he_515 : v41 50 q_177 = some (.inl (G.2.2.2.2 0, 201, .inl (fun _ => 0))) := by rw [ev41]; exact (vv_up_a _ _ _ _ (fun z => by subst z; have y := hfr_502 50; rw [he_492] at y; cases y)).trans he_492
  have he_516 : v41 51 q_205 = some (.inl (G.2.2.2.2 1, 201, .inl (fun _ => 0))) := by rw [ev41]; exact (vv_up_a _ _ _ _ (fun z => by subst z; have y := hfr_502 51; rw [he_493] at y; cases y)).trans he_493
  have he_517 : v41 51 q_235 = some (.inl (G.2.2.2.2 1, 201, .inl (fun _ => 0))) := by rw [ev41]; exact (vv_up_a _ _ _ _ (fun z => by subst z; have y := hfr_502 51; rw [he_494] at y; cases y)).trans he_494
  have he_518 : v41 50 q_267 = some (.inl (G.2.2.2.2 0, 60, .inl (fun _ => 0))) := by rw [ev41]; exact (vv_up_a _ _ _ _ (fun z => by subst z; have y := hfr_502 50; rw [he_495] at y; cases y)).trans he_495
  have he_519 : v41 50 q_301 = some (.inl (G.2.2.2.2 0, 60, .inl (fun _ => 0))) := by rw [ev41]; exact (vv_up_a _ _ _ _ (fun z => by subst z; have y := hfr_502 50; rw [he_496] at y; cases y)).trans he_496
  have he_520 : v41 51 q_337 = some (.inl (G.2.2.2.2 1, 60, .inl (fun _ => 0))) := by rw [ev41]; exact (vv_up_a _ _ _ _ (fun z => by subst z; have y := hfr_502 51; rw [he_497] at y; cases y)).trans he_497
  have he_521 : v41 50 q_375 = some (.inl (G.2.2.2.2 0, 60, .inl (fun _ => 0))) := by rw [ev41]; exact (vv_up_a _ _ _ _ (fun z => by subst z; have y := hfr_502 50; rw [he_498] at y; cases y)).trans he_498
  have he_522 : v41 50 q_415 = some (.inl (G.2.2.2.2 0, 200, .inl (fun _ => 0))) := by rw [ev41]; exact (vv_up_a _ _ _ _ (fun z => by subst z; have y := hfr_502 50; rw [he_499] at y; cases y)).trans he_499
  have he_523 : v41 50 q_457 = some (.inl (G.2.2.2.2 0, 200, .inl (fun _ => 0))) := by rw [ev41]; exact (vv_up_a _ _ _ _ (fun z => by subst z; have y := hfr_502 50; rw [he_500] at y; cases y)).trans he_500
  have he_524 : v41 50 q_501 = some (.inl (G.2.2.2.2 0, 200, .inl (fun _ => 0))) := by rw [ev41]; exact vv_up_s _ _ _ _
  have hkv41 : vkeep (fun a => a = o) v v41 := by rw [ev41]; exact hkv40.nu hfr_502
  have hdv41 : ∀ x ∈ [q_501, q_457, q_415, q_375, q_337, q_301, q_267, q_235, q_205, q_177, q_151, q_127, q_105, q_85, q_67, q_51, q_37, q_25, q_15, q_7, q_1], ∃ (k : Nat) (e : va_E), v41 k x = some e := by rw [ev41]; exact vdom.cons hdv40
  refine v_putF C hin k_M he_503 26 (by decide) tw_509 (fun _ h => h) rfl rfl rfl rfl (Nat.le_of_ble_eq_true rfl) d_M_init_180 ?_
  refine v_view (fun v42 ev42 => ?_)
  have he_525 : v42 4 o = some (.inr (4, [.long 0, .int 0, .ref q_1, .int 0, .ref q_7, .ref q_15, .ref q_25, .ref q_37, .ref q_51, .int 0, .ref q_67, .ref q_85, .ref q_105, .ref q_127, .ref q_151, .ref q_177, .ref q_205, .ref q_235, .int 0, .ref q_267, .ref q_301, .ref q_337, .ref q_375, .int 0, .ref q_415, .ref q_457, .ref q_501, .null, .int 0, .null, .null, .null])) := by rw [ev42]; exact vv_up_s _ _ _ _
  have he_526 : v42 51 q_1 = some (.inl (G.2.2.2.2 1, 4, .inl (fun _ => 0))) := by rw [ev42]; exact (vv_up_k _ _ _ _ (by decide)).trans he_504
  have he_527 : v42 50 q_7 = some (.inl (G.2.2.2.2 0, 41, .inl (fun _ => 0))) := by rw [ev42]; exact (vv_up_k _ _ _ _ (by decide)).trans he_505
  have he_528 : v42 50 q_15 = some (.inl (G.2.2.2.2 0, 41, .inl (fun _ => 0))) := by rw [ev42]; exact (vv_up_k _ _ _ _ (by decide)).trans he_506
  have he_529 : v42 50 q_25 = some (.inl (G.2.2.2.2 0, 41, .inl (fun _ => 0))) := by rw [ev42]; exact (vv_up_k _ _ _ _ (by decide)).trans he_507
  have he_530 : v42 50 q_37 = some (.inl (G.2.2.2.2 0, 41, .inl (fun _ => 0))) := by rw [ev42]; exact (vv_up_k _ _ _ _ (by decide)).trans he_508
  have he_531 : v42 50 q_51 = some (.inl (G.2.2.2.2 0, 1312, .inl (fun _ => 0))) := by rw [ev42]; exact (vv_up_k _ _ _ _ (by decide)).trans he_509
  have he_532 : v42 50 q_67 = some (.inl (G.2.2.2.2 0, 201, .inl (fun _ => 0))) := by rw [ev42]; exact (vv_up_k _ _ _ _ (by decide)).trans he_510
  have he_533 : v42 50 q_85 = some (.inl (G.2.2.2.2 0, 201, .inl (fun _ => 0))) := by rw [ev42]; exact (vv_up_k _ _ _ _ (by decide)).trans he_511
  have he_534 : v42 50 q_105 = some (.inl (G.2.2.2.2 0, 201, .inl (fun _ => 0))) := by rw [ev42]; exact (vv_up_k _ _ _ _ (by decide)).trans he_512
  have he_535 : v42 52 q_127 = some (.inl (G.2.2.2.2 2, 201, .inr (.inl (fun _ => 0)))) := by rw [ev42]; exact (vv_up_k _ _ _ _ (by decide)).trans he_513
  have he_536 : v42 52 q_151 = some (.inl (G.2.2.2.2 2, 201, .inr (.inl (fun _ => 0)))) := by rw [ev42]; exact (vv_up_k _ _ _ _ (by decide)).trans he_514
  have he_537 : v42 50 q_177 = some (.inl (G.2.2.2.2 0, 201, .inl (fun _ => 0))) := by rw [ev42]; exact (vv_up_k _ _ _ _ (by decide)).trans he_515
  have he_538 : v42 51 q_205 = some (.inl (G.2.2.2.2 1, 201, .inl (fun _ => 0))) := by rw [ev42]; exact (vv_up_k _ _ _ _ (by decide)).trans he_516
  have he_539 : v42 51 q_235 = some (.inl (G.2.2.2.2 1, 201, .inl (fun _ => 0))) := by rw [ev42]; exact (vv_up_k _ _ _ _ (by decide)).trans he_517
  have he_540 : v42 50 q_267 = some (.inl (G.2.2.2.2 0, 60, .inl (fun _ => 0))) := by rw [ev42]; exact (vv_up_k _ _ _ _ (by decide)).trans he_518
  have he_541 : v42 50 q_301 = some (.inl (G.2.2.2.2 0, 60, .inl (fun _ => 0))) := by rw [ev42]; exact (vv_up_k _ _ _ _ (by decide)).trans he_519
  have he_542 : v42 51 q_337 = some (.inl (G.2.2.2.2 1, 60, .inl (fun _ => 0))) := by rw [ev42]; exact (vv_up_k _ _ _ _ (by decide)).trans he_520
  have he_543 : v42 50 q_375 = some (.inl (G.2.2.2.2 0, 60, .inl (fun _ => 0))) := by rw [ev42]; exact (vv_up_k _ _ _ _ (by decide)).trans he_521
  have he_544 : v42 50 q_415 = some (.inl (G.2.2.2.2 0, 200, .inl (fun _ => 0))) := by rw [ev42]; exact (vv_up_k _ _ _ _ (by decide)).trans he_522
  have he_545 : v42 50 q_457 = some (.inl (G.2.2.2.2 0, 200, .inl (fun _ => 0))) := by rw [ev42]; exact (vv_up_k _ _ _ _ (by decide)).trans he_523
  have he_546 : v42 50 q_501 = some (.inl (G.2.2.2.2 0, 200, .inl (fun _ => 0))) := by rw [ev42]; exact (vv_up_k _ _ _ _ (by decide)).trans he_524
  have hkv42 : vkeep (fun a => a = o) v v42 := by rw [ev42]; exact hkv41.up rfl
  have hdv42 : ∀ x ∈ [q_501, q_457, q_415, q_375, q_337, q_301, q_267, q_235, q_205, q_177, q_151, q_127, q_105, q_85, q_67, q_51, q_37, q_25, q_15, q_7, q_1], ∃ (k : Nat) (e : va_E), v42 k x = some e := by rw [ev42]; exact vdom.up hdv41
  refine v_aload_n C 0 d_M_init_183 rfl rfl ?_
  refine v_sipush (x := 200) C d_M_init_184 (by decide) ?_
  refine v_newal (n := 200) C (by decide) (by decide) (by decide) (by first | exact Nat.le_of_ble_eq_true rfl | (show _ ≤ _; omega)) (by first | exact Nat.le_of_ble_eq_true rfl | (show _ ≤ _; omega)) d_M_init_187 (fun q_547 hfr_548 => ?_)
  refine v_cs (kc' := 22) (ks' := 4128) rfl rfl ?_
  have fr_q_547 := hkv42.fr he_525 hfr_548
  have nd_q_547 := vdom.new hdv42 hfr_548 nd_q_501
  refine v_view (fun v43 ev43 => ?_)
  have he_549 : v43 4 o = some (.inr (4, [.long 0, .int 0, .ref q_1, .int 0, .ref q_7, .ref q_15, .ref q_25, .ref q_37, .ref q_51, .int 0, .ref q_67, .ref q_85, .ref q_105, .ref q_127, .ref q_151, .ref q_177, .ref q_205, .ref q_235, .int 0, .ref q_267, .ref q_301, .ref q_337, .ref q_375, .int 0, .ref q_415, .ref q_457, .ref q_501, .null, .int 0, .null, .null, .null])) := by rw [ev43]; exact (vv_up_a _ _ _ _ (fun z => by subst z; have y := hfr_548 4; rw [he_525] at y; cases y)).trans he_525
  have he_550 : v43 51 q_1 = some (.inl (G.2.2.2.2 1, 4, .inl (fun _ => 0))) := by rw [ev43]; exact (vv_up_a _ _ _ _ (fun z => by subst z; have y := hfr_548 51; rw [he_526] at y; cases y)).trans he_526
  have he_551 : v43 50 q_7 = some (.inl (G.2.2.2.2 0, 41, .inl (fun _ => 0))) := by rw [ev43]; exact (vv_up_a _ _ _ _ (fun z => by subst z; have y := hfr_548 50; rw [he_527] at y; cases y)).trans he_527
  have he_552 : v43 50 q_15 = some (.inl (G.2.2.2.2 0, 41, .inl (fun _ => 0))) := by rw [ev43]; exact (vv_up_a _ _ _ _ (fun z => by subst z; have y := hfr_548 50; rw [he_528] at y; cases y)).trans he_528
  have he_553 : v43 50 q_25 = some (.inl (G.2.2.2.2 0, 41, .inl (fun _ => 0))) := by rw [ev43]; exact (vv_up_a _ _ _ _ (fun z => by subst z; have y := hfr_548 50; rw [he_529] at y; cases y)).trans he_529
  have he_554 : v43 50 q_37 = some (.inl (G.2.2.2.2 0, 41, .inl (fun _ => 0))) := by rw [ev43]; exact (vv_up_a _ _ _ _ (fun z => by subst z; have y := hfr_548 50; rw [he_530] at y; cases y)).trans he_530
  have he_555 : v43 50 q_51 = some (.inl (G.2.2.2.2 0, 1312, .inl (fun _ => 0))) := by rw [ev43]; exact (vv_up_a _ _ _ _ (fun z => by subst z; have y := hfr_548 50; rw [he_531] at y; cases y)).trans he_531
  have he_556 : v43 50 q_67 = some (.inl (G.2.2.2.2 0, 201, .inl (fun _ => 0))) := by rw [ev43]; exact (vv_up_a _ _ _ _ (fun z => by subst z; have y := hfr_548 50; rw [he_532] at y; cases y)).trans he_532
  have he_557 : v43 50 q_85 = some (.inl (G.2.2.2.2 0, 201, .inl (fun _ => 0))) := by rw [ev43]; exact (vv_up_a _ _ _ _ (fun z => by subst z; have y := hfr_548 50; rw [he_533] at y; cases y)).trans he_533
  have he_558 : v43 50 q_105 = some (.inl (G.2.2.2.2 0, 201, .inl (fun _ => 0))) := by rw [ev43]; exact (vv_up_a _ _ _ _ (fun z => by subst z; have y := hfr_548 50; rw [he_534] at y; cases y)).trans he_534
  have he_559 : v43 52 q_127 = some (.inl (G.2.2.2.2 2, 201, .inr (.inl (fun _ => 0)))) := by rw [ev43]; exact (vv_up_a _ _ _ _ (fun z => by subst z; have y := hfr_548 52; rw [he_535] at y; cases y)).trans he_535
  have he_560 : v43 52 q_151 = some (.inl (G.2.2.2.2 2, 201, .inr (.inl (fun _ => 0)))) := by rw [ev43]; exact (vv_up_a _ _ _ _ (fun z => by subst z; have y := hfr_548 52; rw [he_536] at y; cases y)).trans he_536
  have he_561 : v43 50 q_177 = some (.inl (G.2.2.2.2 0, 201, .inl (fun _ => 0))) := by rw [ev43]; exact (vv_up_a _ _ _ _ (fun z => by subst z; have y := hfr_548 50; rw [he_537] at y; cases y)).trans he_537
  have he_562 : v43 51 q_205 = some (.inl (G.2.2.2.2 1, 201, .inl (fun _ => 0))) := by rw [ev43]; exact (vv_up_a _ _ _ _ (fun z => by subst z; have y := hfr_548 51; rw [he_538] at y; cases y)).trans he_538
  have he_563 : v43 51 q_235 = some (.inl (G.2.2.2.2 1, 201, .inl (fun _ => 0))) := by rw [ev43]; exact (vv_up_a _ _ _ _ (fun z => by subst z; have y := hfr_548 51; rw [he_539] at y; cases y)).trans he_539
  have he_564 : v43 50 q_267 = some (.inl (G.2.2.2.2 0, 60, .inl (fun _ => 0))) := by rw [ev43]; exact (vv_up_a _ _ _ _ (fun z => by subst z; have y := hfr_548 50; rw [he_540] at y; cases y)).trans he_540
  have he_565 : v43 50 q_301 = some (.inl (G.2.2.2.2 0, 60, .inl (fun _ => 0))) := by rw [ev43]; exact (vv_up_a _ _ _ _ (fun z => by subst z; have y := hfr_548 50; rw [he_541] at y; cases y)).trans he_541
  have he_566 : v43 51 q_337 = some (.inl (G.2.2.2.2 1, 60, .inl (fun _ => 0))) := by rw [ev43]; exact (vv_up_a _ _ _ _ (fun z => by subst z; have y := hfr_548 51; rw [he_542] at y; cases y)).trans he_542
  have he_567 : v43 50 q_375 = some (.inl (G.2.2.2.2 0, 60, .inl (fun _ => 0))) := by rw [ev43]; exact (vv_up_a _ _ _ _ (fun z => by subst z; have y := hfr_548 50; rw [he_543] at y; cases y)).trans he_543
  have he_568 : v43 50 q_415 = some (.inl (G.2.2.2.2 0, 200, .inl (fun _ => 0))) := by rw [ev43]; exact (vv_up_a _ _ _ _ (fun z => by subst z; have y := hfr_548 50; rw [he_544] at y; cases y)).trans he_544
  have he_569 : v43 50 q_457 = some (.inl (G.2.2.2.2 0, 200, .inl (fun _ => 0))) := by rw [ev43]; exact (vv_up_a _ _ _ _ (fun z => by subst z; have y := hfr_548 50; rw [he_545] at y; cases y)).trans he_545
  have he_570 : v43 50 q_501 = some (.inl (G.2.2.2.2 0, 200, .inl (fun _ => 0))) := by rw [ev43]; exact (vv_up_a _ _ _ _ (fun z => by subst z; have y := hfr_548 50; rw [he_546] at y; cases y)).trans he_546
  have he_571 : v43 52 q_547 = some (.inl (G.2.2.2.2 2, 200, .inr (.inl (fun _ => 0)))) := by rw [ev43]; exact vv_up_s _ _ _ _
  have hkv43 : vkeep (fun a => a = o) v v43 := by rw [ev43]; exact hkv42.nu hfr_548
  have hdv43 : ∀ x ∈ [q_547, q_501, q_457, q_415, q_375, q_337, q_301, q_267, q_235, q_205, q_177, q_151, q_127, q_105, q_85, q_67, q_51, q_37, q_25, q_15, q_7, q_1], ∃ (k : Nat) (e : va_E), v43 k x = some e := by rw [ev43]; exact vdom.cons hdv42
  refine v_putF C hin k_M he_549 27 (by decide) tw_510 (fun _ h => h) rfl rfl rfl rfl (Nat.le_of_ble_eq_true rfl) d_M_init_189 ?_
  refine v_view (fun v44 ev44 => ?_)
  have he_572 : v44 4 o = some (.inr (4, [.long 0, .int 0, .ref q_1, .int 0, .ref q_7, .ref q_15, .ref q_25, .ref q_37, .ref q_51, .int 0, .ref q_67, .ref q_85, .ref q_105, .ref q_127, .ref q_151, .ref q_177, .ref q_205, .ref q_235, .int 0, .ref q_267, .ref q_301, .ref q_337, .ref q_375, .int 0, .ref q_415, .ref q_457, .ref q_501, .ref q_547, .int 0, .null, .null, .null])) := by rw [ev44]; exact vv_up_s _ _ _ _
  have he_573 : v44 51 q_1 = some (.inl (G.2.2.2.2 1, 4, .inl (fun _ => 0))) := by rw [ev44]; exact (vv_up_k _ _ _ _ (by decide)).trans he_550
  have he_574 : v44 50 q_7 = some (.inl (G.2.2.2.2 0, 41, .inl (fun _ => 0))) := by rw [ev44]; exact (vv_up_k _ _ _ _ (by decide)).trans he_551
  have he_575 : v44 50 q_15 = some (.inl (G.2.2.2.2 0, 41, .inl (fun _ => 0))) := by rw [ev44]; exact (vv_up_k _ _ _ _ (by decide)).trans he_552
  have he_576 : v44 50 q_25 = some (.inl (G.2.2.2.2 0, 41, .inl (fun _ => 0))) := by rw [ev44]; exact (vv_up_k _ _ _ _ (by decide)).trans he_553
  have he_577 : v44 50 q_37 = some (.inl (G.2.2.2.2 0, 41, .inl (fun _ => 0))) := by rw [ev44]; exact (vv_up_k _ _ _ _ (by decide)).trans he_554
  have he_578 : v44 50 q_51 = some (.inl (G.2.2.2.2 0, 1312, .inl (fun _ => 0))) := by rw [ev44]; exact (vv_up_k _ _ _ _ (by decide)).trans he_555
  have he_579 : v44 50 q_67 = some (.inl (G.2.2.2.2 0, 201, .inl (fun _ => 0))) := by rw [ev44]; exact (vv_up_k _ _ _ _ (by decide)).trans he_556
  have he_580 : v44 50 q_85 = some (.inl (G.2.2.2.2 0, 201, .inl (fun _ => 0))) := by rw [ev44]; exact (vv_up_k _ _ _ _ (by decide)).trans he_557
  have he_581 : v44 50 q_105 = some (.inl (G.2.2.2.2 0, 201, .inl (fun _ => 0))) := by rw [ev44]; exact (vv_up_k _ _ _ _ (by decide)).trans he_558
  have he_582 : v44 52 q_127 = some (.inl (G.2.2.2.2 2, 201, .inr (.inl (fun _ => 0)))) := by rw [ev44]; exact (vv_up_k _ _ _ _ (by decide)).trans he_559
  have he_583 : v44 52 q_151 = some (.inl (G.2.2.2.2 2, 201, .inr (.inl (fun _ => 0)))) := by rw [ev44]; exact (vv_up_k _ _ _ _ (by decide)).trans he_560
  have he_584 : v44 50 q_177 = some (.inl (G.2.2.2.2 0, 201, .inl (fun _ => 0))) := by rw [ev44]; exact (vv_up_k _ _ _ _ (by decide)).trans he_561
  have he_585 : v44 51 q_205 = some (.inl (G.2.2.2.2 1, 201, .inl (fun _ => 0))) := by rw [ev44]; exact (vv_up_k _ _ _ _ (by decide)).trans he_562
  have he_586 : v44 51 q_235 = some (.inl (G.2.2.2.2 1, 201, .inl (fun _ => 0))) := by rw [ev44]; exact (vv_up_k _ _ _ _ (by decide)).trans he_563
  have he_587 : v44 50 q_267 = some (.inl (G.2.2.2.2 0, 60, .inl (fun _ => 0))) := by rw [ev44]; exact (vv_up_k _ _ _ _ (by decide)).trans he_564
  have he_588 : v44 50 q_301 = some (.inl (G.2.2.2.2 0, 60, .inl (fun _ => 0))) := by rw [ev44]; exact (vv_up_k _ _ _ _ (by decide)).trans he_565
  have he_589 : v44 51 q_337 = some (.inl (G.2.2.2.2 1, 60, .inl (fun _ => 0))) := by rw [ev44]; exact (vv_up_k _ _ _ _ (by decide)).trans he_566
  have he_590 : v44 50 q_375 = some (.inl (G.2.2.2.2 0, 60, .inl (fun _ => 0))) := by rw [ev44]; exact (vv_up_k _ _ _ _ (by decide)).trans he_567
  have he_591 : v44 50 q_415 = some (.inl (G.2.2.2.2 0, 200, .inl (fun _ => 0))) := by rw [ev44]; exact (vv_up_k _ _ _ _ (by decide)).trans he_568
  have he_592 : v44 50 q_457 = some (.inl (G.2.2.2.2 0, 200, .inl (fun _ => 0))) := by rw [ev44]; exact (vv_up_k _ _ _ _ (by decide)).trans he_569
  have he_593 : v44 50 q_501 = some (.inl (G.2.2.2.2 0, 200, .inl (fun _ => 0))) := by rw [ev44]; exact (vv_up_k _ _ _ _ (by decide)).trans he_570
  have he_594 : v44 52 q_547 = some (.inl (G.2.2.2.2 2, 200, .inr (.inl (fun _ => 0)))) := by rw [ev44]; exact (vv_up_k _ _ _ _ (by decide)).trans he_571
  have hkv44 : vkeep (fun a => a = o) v v44 := by rw [ev44]; exact hkv43.up rfl
  have hdv44 : ∀ x ∈ [q_547, q_501, q_457, q_415, q_375, q_337, q_301, q_267, q_235, q_205, q_177, q_151, q_127, q_105, q_85, q_67, q_51, q_37, q_25, q_15, q_7, q_1], ∃ (k : Nat) (e : va_E), v44 k x = some e := by rw [ev44]; exact vdom.up hdv43
  refine v_aload_n C 0 d_M_init_192 rfl rfl ?_
  refine v_sipush (x := 200) C d_M_init_193 (by decide) ?_
  refine v_newai (n := 200) C (by decide) (by decide) (by decide) (by first | exact Nat.le_of_ble_eq_true rfl | (show _ ≤ _; omega)) (by first | exact Nat.le_of_ble_eq_true rfl | (show _ ≤ _; omega)) d_M_init_196 (fun q_595 hfr_596 => ?_)
  refine v_cs (kc' := 23) (ks' := 4328) rfl rfl ?_
  have fr_q_595 := hkv44.fr he_572 hfr_596
  have nd_q_595 := vdom.new hdv44 hfr_596 nd_q_547
  refine v_view (fun v45 ev45 => ?_)
  have he_597 : v45 4 o = some (.inr (4, [.long 0, .int 0, .ref q_1, .int 0, .ref q_7, .ref q_15, .ref q_25, .ref q_37, .ref q_51, .int 0, .ref q_67, .ref q_85, .ref q_105, .ref q_127, .ref q_151, .ref q_177, .ref q_205, .ref q_235, .int 0, .ref q_267, .ref q_301, .ref q_337, .ref q_375, .int 0, .ref q_415, .ref q_457, .ref q_501, .ref q_547, .int 0, .null, .null, .null])) := by rw [ev45]; exact (vv_up_a _ _ _ _ (fun z => by subst z; have y := hfr_596 4; rw [he_572] at y; cases y)).trans he_572
  have he_598 : v45 51 q_1 = some (.inl (G.2.2.2.2 1, 4, .inl (fun _ => 0))) := by rw [ev45]; exact (vv_up_a _ _ _ _ (fun z => by subst z; have y := hfr_596 51; rw [he_573] at y; cases y)).trans he_573
  have he_599 : v45 50 q_7 = some (.inl (G.2.2.2.2 0, 41, .inl (fun _ => 0))) := by rw [ev45]; exact (vv_up_a _ _ _ _ (fun z => by subst z; have y := hfr_596 50; rw [he_574] at y; cases y)).trans he_574
  have he_600 : v45 50 q_15 = some (.inl (G.2.2.2.2 0, 41, .inl (fun _ => 0))) := by rw [ev45]; exact (vv_up_a _ _ _ _ (fun z => by subst z; have y := hfr_596 50; rw [he_575] at y; cases y)).trans he_575
  have he_601 : v45 50 q_25 = some (.inl (G.2.2.2.2 0, 41, .inl (fun _ => 0))) := by rw [ev45]; exact (vv_up_a _ _ _ _ (fun z => by subst z; have y := hfr_596 50; rw [he_576] at y; cases y)).trans he_576
  have he_602 : v45 50 q_37 = some (.inl (G.2.2.2.2 0, 41, .inl (fun _ => 0))) := by rw [ev45]; exact (vv_up_a _ _ _ _ (fun z => by subst z; have y := hfr_596 50; rw [he_577] at y; cases y)).trans he_577
  have he_603 : v45 50 q_51 = some (.inl (G.2.2.2.2 0, 1312, .inl (fun _ => 0))) := by rw [ev45]; exact (vv_up_a _ _ _ _ (fun z => by subst z; have y := hfr_596 50; rw [he_578] at y; cases y)).trans he_578
  have he_604 : v45 50 q_67 = some (.inl (G.2.2.2.2 0, 201, .inl (fun _ => 0))) := by rw [ev45]; exact (vv_up_a _ _ _ _ (fun z => by subst z; have y := hfr_596 50; rw [he_579] at y; cases y)).trans he_579
  have he_605 : v45 50 q_85 = some (.inl (G.2.2.2.2 0, 201, .inl (fun _ => 0))) := by rw [ev45]; exact (vv_up_a _ _ _ _ (fun z => by subst z; have y := hfr_596 50; rw [he_580] at y; cases y)).trans he_580
  have he_606 : v45 50 q_105 = some (.inl (G.2.2.2.2 0, 201, .inl (fun _ => 0))) := by rw [ev45]; exact (vv_up_a _ _ _ _ (fun z => by subst z; have y := hfr_596 50; rw [he_581] at y; cases y)).trans he_581
  have he_607 : v45 52 q_127 = some (.inl (G.2.2.2.2 2, 201, .inr (.inl (fun _ => 0)))) := by rw [ev45]; exact (vv_up_a _ _ _ _ (fun z => by subst z; have y := hfr_596 52; rw [he_582] at y; cases y)).trans he_582
  have he_608 : v45 52 q_151 = some (.inl (G.2.2.2.2 2, 201, .inr (.inl (fun _ => 0)))) := by rw [ev45]; exact (vv_up_a _ _ _ _ (fun z => by subst z; have y := hfr_596 52; rw [he_583] at y; cases y)).trans he_583
  have he_609 : v45 50 q_177 = some (.inl (G.2.2.2.2 0, 201, .inl (fun _ => 0))) := by rw [ev45]; exact (vv_up_a _ _ _ _ (fun z => by subst z; have y := hfr_596 50; rw [he_584] at y; cases y)).trans he_584
  have he_610 : v45 51 q_205 = some (.inl (G.2.2.2.2 1, 201, .inl (fun _ => 0))) := by rw [ev45]; exact (vv_up_a _ _ _ _ (fun z => by subst z; have y := hfr_596 51; rw [he_585] at y; cases y)).trans he_585
  have he_611 : v45 51 q_235 = some (.inl (G.2.2.2.2 1, 201, .inl (fun _ => 0))) := by rw [ev45]; exact (vv_up_a _ _ _ _ (fun z => by subst z; have y := hfr_596 51; rw [he_586] at y; cases y)).trans he_586
  have he_612 : v45 50 q_267 = some (.inl (G.2.2.2.2 0, 60, .inl (fun _ => 0))) := by rw [ev45]; exact (vv_up_a _ _ _ _ (fun z => by subst z; have y := hfr_596 50; rw [he_587] at y; cases y)).trans he_587
  have he_613 : v45 50 q_301 = some (.inl (G.2.2.2.2 0, 60, .inl (fun _ => 0))) := by rw [ev45]; exact (vv_up_a _ _ _ _ (fun z => by subst z; have y := hfr_596 50; rw [he_588] at y; cases y)).trans he_588
  have he_614 : v45 51 q_337 = some (.inl (G.2.2.2.2 1, 60, .inl (fun _ => 0))) := by rw [ev45]; exact (vv_up_a _ _ _ _ (fun z => by subst z; have y := hfr_596 51; rw [he_589] at y; cases y)).trans he_589
  have he_615 : v45 50 q_375 = some (.inl (G.2.2.2.2 0, 60, .inl (fun _ => 0))) := by rw [ev45]; exact (vv_up_a _ _ _ _ (fun z => by subst z; have y := hfr_596 50; rw [he_590] at y; cases y)).trans he_590
  have he_616 : v45 50 q_415 = some (.inl (G.2.2.2.2 0, 200, .inl (fun _ => 0))) := by rw [ev45]; exact (vv_up_a _ _ _ _ (fun z => by subst z; have y := hfr_596 50; rw [he_591] at y; cases y)).trans he_591
  have he_617 : v45 50 q_457 = some (.inl (G.2.2.2.2 0, 200, .inl (fun _ => 0))) := by rw [ev45]; exact (vv_up_a _ _ _ _ (fun z => by subst z; have y := hfr_596 50; rw [he_592] at y; cases y)).trans he_592
  have he_618 : v45 50 q_501 = some (.inl (G.2.2.2.2 0, 200, .inl (fun _ => 0))) := by rw [ev45]; exact (vv_up_a _ _ _ _ (fun z => by subst z; have y := hfr_596 50; rw [he_593] at y; cases y)).trans he_593
  have he_619 : v45 52 q_547 = some (.inl (G.2.2.2.2 2, 200, .inr (.inl (fun _ => 0)))) := by rw [ev45]; exact (vv_up_a _ _ _ _ (fun z => by subst z; have y := hfr_596 52; rw [he_594] at y; cases y)).trans he_594
  have he_620 : v45 50 q_595 = some (.inl (G.2.2.2.2 0, 200, .inl (fun _ => 0))) := by rw [ev45]; exact vv_up_s _ _ _ _
  have hkv45 : vkeep (fun a => a = o) v v45 := by rw [ev45]; exact hkv44.nu hfr_596
  have hdv45 : ∀ x ∈ [q_595, q_547, q_501, q_457, q_415, q_375, q_337, q_301, q_267, q_235, q_205, q_177, q_151, q_127, q_105, q_85, q_67, q_51, q_37, q_25, q_15, q_7, q_1], ∃ (k : Nat) (e : va_E), v45 k x = some e := by rw [ev45]; exact vdom.cons hdv44
  refine v_putF C hin k_M he_597 29 (by decide) tw_512 (fun _ h => h) rfl rfl rfl rfl (Nat.le_of_ble_eq_true rfl) d_M_init_198 ?_
  refine v_view (fun v46 ev46 => ?_)
  have he_621 : v46 4 o = some (.inr (4, [.long 0, .int 0, .ref q_1, .int 0, .ref q_7, .ref q_15, .ref q_25, .ref q_37, .ref q_51, .int 0, .ref q_67, .ref q_85, .ref q_105, .ref q_127, .ref q_151, .ref q_177, .ref q_205, .ref q_235, .int 0, .ref q_267, .ref q_301, .ref q_337, .ref q_375, .int 0, .ref q_415, .ref q_457, .ref q_501, .ref q_547, .int 0, .ref q_595, .null, .null])) := by rw [ev46]; exact vv_up_s _ _ _ _
  have he_622 : v46 51 q_1 = some (.inl (G.2.2.2.2 1, 4, .inl (fun _ => 0))) := by rw [ev46]; exact (vv_up_k _ _ _ _ (by decide)).trans he_598
  have he_623 : v46 50 q_7 = some (.inl (G.2.2.2.2 0, 41, .inl (fun _ => 0))) := by rw [ev46]; exact (vv_up_k _ _ _ _ (by decide)).trans he_599
  have he_624 : v46 50 q_15 = some (.inl (G.2.2.2.2 0, 41, .inl (fun _ => 0))) := by rw [ev46]; exact (vv_up_k _ _ _ _ (by decide)).trans he_600
  have he_625 : v46 50 q_25 = some (.inl (G.2.2.2.2 0, 41, .inl (fun _ => 0))) := by rw [ev46]; exact (vv_up_k _ _ _ _ (by decide)).trans he_601
  have he_626 : v46 50 q_37 = some (.inl (G.2.2.2.2 0, 41, .inl (fun _ => 0))) := by rw [ev46]; exact (vv_up_k _ _ _ _ (by decide)).trans he_602
  have he_627 : v46 50 q_51 = some (.inl (G.2.2.2.2 0, 1312, .inl (fun _ => 0))) := by rw [ev46]; exact (vv_up_k _ _ _ _ (by decide)).trans he_603
  have he_628 : v46 50 q_67 = some (.inl (G.2.2.2.2 0, 201, .inl (fun _ => 0))) := by rw [ev46]; exact (vv_up_k _ _ _ _ (by decide)).trans he_604
  have he_629 : v46 50 q_85 = some (.inl (G.2.2.2.2 0, 201, .inl (fun _ => 0))) := by rw [ev46]; exact (vv_up_k _ _ _ _ (by decide)).trans he_605
  have he_630 : v46 50 q_105 = some (.inl (G.2.2.2.2 0, 201, .inl (fun _ => 0))) := by rw [ev46]; exact (vv_up_k _ _ _ _ (by decide)).trans he_606
  have he_631 : v46 52 q_127 = some (.inl (G.2.2.2.2 2, 201, .inr (.inl (fun _ => 0)))) := by rw [ev46]; exact (vv_up_k _ _ _ _ (by decide)).trans he_607
  have he_632 : v46 52 q_151 = some (.inl (G.2.2.2.2 2, 201, .inr (.inl (fun _ => 0)))) := by rw [ev46]; exact (vv_up_k _ _ _ _ (by decide)).trans he_608
  have he_633 : v46 50 q_177 = some (.inl (G.2.2.2.2 0, 201, .inl (fun _ => 0))) := by rw [ev46]; exact (vv_up_k _ _ _ _ (by decide)).trans he_609
  have he_634 : v46 51 q_205 = some (.inl (G.2.2.2.2 1, 201, .inl (fun _ => 0))) := by rw [ev46]; exact (vv_up_k _ _ _ _ (by decide)).trans he_610
  have he_635 : v46 51 q_235 = some (.inl (G.2.2.2.2 1, 201, .inl (fun _ => 0))) := by rw [ev46]; exact (vv_up_k _ _ _ _ (by decide)).trans he_611
  have he_636 : v46 50 q_267 = some (.inl (G.2.2.2.2 0, 60, .inl (fun _ => 0))) := by rw [ev46]; exact (vv_up_k _ _ _ _ (by decide)).trans he_612
  have he_637 : v46 50 q_301 = some (.inl (G.2.2.2.2 0, 60, .inl (fun _ => 0))) := by rw [ev46]; exact (vv_up_k _ _ _ _ (by decide)).trans he_613
  have he_638 : v46 51 q_337 = some (.inl (G.2.2.2.2 1, 60, .inl (fun _ => 0))) := by rw [ev46]; exact (vv_up_k _ _ _ _ (by decide)).trans he_614
  have he_639 : v46 50 q_375 = some (.inl (G.2.2.2.2 0, 60, .inl (fun _ => 0))) := by rw [ev46]; exact (vv_up_k _ _ _ _ (by decide)).trans he_615
  have he_640 : v46 50 q_415 = some (.inl (G.2.2.2.2 0, 200, .inl (fun _ => 0))) := by rw [ev46]; exact (vv_up_k _ _ _ _ (by decide)).trans he_616
  have he_641 : v46 50 q_457 = some (.inl (G.2.2.2.2 0, 200, .inl (fun _ => 0))) := by rw [ev46]; exact (vv_up_k _ _ _ _ (by decide)).trans he_617
  have he_642 : v46 50 q_501 = some (.inl (G.2.2.2.2 0, 200, .inl (fun _ => 0))) := by rw [ev46]; exact (vv_up_k _ _ _ _ (by decide)).trans he_618
  have he_643 : v46 52 q_547 = some (.inl (G.2.2.2.2 2, 200, .inr (.inl (fun _ => 0)))) := by rw [ev46]; exact (vv_up_k _ _ _ _ (by decide)).trans he_619
  have he_644 : v46 50 q_595 = some (.inl (G.2.2.2.2 0, 200, .inl (fun _ => 0))) := by rw [ev46]; exact (vv_up_k _ _ _ _ (by decide)).trans he_620
  have hkv46 : vkeep (fun a => a = o) v v46 := by rw [ev46]; exact hkv45.up rfl
  have hdv46 : ∀ x ∈ [q_595, q_547, q_501, q_457, q_415, q_375, q_337, q_301, q_267, q_235, q_205, q_177, q_151, q_127, q_105, q_85, q_67, q_51, q_37, q_25, q_15, q_7, q_1], ∃ (k : Nat) (e : va_E), v46 k x = some e := by rw [ev46]; exact vdom.up hdv45
  refine v_aload_n C 0 d_M_init_201 rfl rfl ?_
  refine v_bipush (x := 41) C d_M_init_202 (by decide) ?_
  refine v_newal (n := 41) C (by decide) (by decide) (by decide) (by first | exact Nat.le_of_ble_eq_true rfl | (show _ ≤ _; omega)) (by first | exact Nat.le_of_ble_eq_true rfl | (show _ ≤ _; omega)) d_M_init_204 (fun q_645 hfr_646 => ?_)
  refine v_cs (kc' := 24) (ks' := 4369) rfl rfl ?_
  have fr_q_645 := hkv46.fr he_621 hfr_646
  have nd_q_645 := vdom.new hdv46 hfr_646 nd_q_595
  refine v_view (fun v47 ev47 => ?_)
  have he_647 : v47 4 o = some (.inr (4, [.long 0, .int 0, .ref q_1, .int 0, .ref q_7, .ref q_15, .ref q_25, .ref q_37, .ref q_51, .int 0, .ref q_67, .ref q_85, .ref q_105, .ref q_127, .ref q_151, .ref q_177, .ref q_205, .ref q_235, .int 0, .ref q_267, .ref q_301, .ref q_337, .ref q_375, .int 0, .ref q_415, .ref q_457, .ref q_501, .ref q_547, .int 0, .ref q_595, .null, .null])) := by rw [ev47]; exact (vv_up_a _ _ _ _ (fun z => by subst z; have y := hfr_646 4; rw [he_621] at y; cases y)).trans he_621
  have he_648 : v47 51 q_1 = some (.inl (G.2.2.2.2 1, 4, .inl (fun _ => 0))) := by rw [ev47]; exact (vv_up_a _ _ _ _ (fun z => by subst z; have y := hfr_646 51; rw [he_622] at y; cases y)).trans he_622
  have he_649 : v47 50 q_7 = some (.inl (G.2.2.2.2 0, 41, .inl (fun _ => 0))) := by rw [ev47]; exact (vv_up_a _ _ _ _ (fun z => by subst z; have y := hfr_646 50; rw [he_623] at y; cases y)).trans he_623
  have he_650 : v47 50 q_15 = some (.inl (G.2.2.2.2 0, 41, .inl (fun _ => 0))) := by rw [ev47]; exact (vv_up_a _ _ _ _ (fun z => by subst z; have y := hfr_646 50; rw [he_624] at y; cases y)).trans he_624
  have he_651 : v47 50 q_25 = some (.inl (G.2.2.2.2 0, 41, .inl (fun _ => 0))) := by rw [ev47]; exact (vv_up_a _ _ _ _ (fun z => by subst z; have y := hfr_646 50; rw [he_625] at y; cases y)).trans he_625
  have he_652 : v47 50 q_37 = some (.inl (G.2.2.2.2 0, 41, .inl (fun _ => 0))) := by rw [ev47]; exact (vv_up_a _ _ _ _ (fun z => by subst z; have y := hfr_646 50; rw [he_626] at y; cases y)).trans he_626
  have he_653 : v47 50 q_51 = some (.inl (G.2.2.2.2 0, 1312, .inl (fun _ => 0))) := by rw [ev47]; exact (vv_up_a _ _ _ _ (fun z => by subst z; have y := hfr_646 50; rw [he_627] at y; cases y)).trans he_627
  have he_654 : v47 50 q_67 = some (.inl (G.2.2.2.2 0, 201, .inl (fun _ => 0))) := by rw [ev47]; exact (vv_up_a _ _ _ _ (fun z => by subst z; have y := hfr_646 50; rw [he_628] at y; cases y)).trans he_628
  have he_655 : v47 50 q_85 = some (.inl (G.2.2.2.2 0, 201, .inl (fun _ => 0))) := by rw [ev47]; exact (vv_up_a _ _ _ _ (fun z => by subst z; have y := hfr_646 50; rw [he_629] at y; cases y)).trans he_629
  have he_656 : v47 50 q_105 = some (.inl (G.2.2.2.2 0, 201, .inl (fun _ => 0))) := by rw [ev47]; exact (vv_up_a _ _ _ _ (fun z => by subst z; have y := hfr_646 50; rw [he_630] at y; cases y)).trans he_630
  have he_657 : v47 52 q_127 = some (.inl (G.2.2.2.2 2, 201, .inr (.inl (fun _ => 0)))) := by rw [ev47]; exact (vv_up_a _ _ _ _ (fun z => by subst z; have y := hfr_646 52; rw [he_631] at y; cases y)).trans he_631
  have he_658 : v47 52 q_151 = some (.inl (G.2.2.2.2 2, 201, .inr (.inl (fun _ => 0)))) := by rw [ev47]; exact (vv_up_a _ _ _ _ (fun z => by subst z; have y := hfr_646 52; rw [he_632] at y; cases y)).trans he_632
  have he_659 : v47 50 q_177 = some (.inl (G.2.2.2.2 0, 201, .inl (fun _ => 0))) := by rw [ev47]; exact (vv_up_a _ _ _ _ (fun z => by subst z; have y := hfr_646 50; rw [he_633] at y; cases y)).trans he_633
  have he_660 : v47 51 q_205 = some (.inl (G.2.2.2.2 1, 201, .inl (fun _ => 0))) := by rw [ev47]; exact (vv_up_a _ _ _ _ (fun z => by subst z; have y := hfr_646 51; rw [he_634] at y; cases y)).trans he_634
  have he_661 : v47 51 q_235 = some (.inl (G.2.2.2.2 1, 201, .inl (fun _ => 0))) := by rw [ev47]; exact (vv_up_a _ _ _ _ (fun z => by subst z; have y := hfr_646 51; rw [he_635] at y; cases y)).trans he_635
  have he_662 : v47 50 q_267 = some (.inl (G.2.2.2.2 0, 60, .inl (fun _ => 0))) := by rw [ev47]; exact (vv_up_a _ _ _ _ (fun z => by subst z; have y := hfr_646 50; rw [he_636] at y; cases y)).trans he_636
  have he_663 : v47 50 q_301 = some (.inl (G.2.2.2.2 0, 60, .inl (fun _ => 0))) := by rw [ev47]; exact (vv_up_a _ _ _ _ (fun z => by subst z; have y := hfr_646 50; rw [he_637] at y; cases y)).trans he_637
  have he_664 : v47 51 q_337 = some (.inl (G.2.2.2.2 1, 60, .inl (fun _ => 0))) := by rw [ev47]; exact (vv_up_a _ _ _ _ (fun z => by subst z; have y := hfr_646 51; rw [he_638] at y; cases y)).trans he_638
  have he_665 : v47 50 q_375 = some (.inl (G.2.2.2.2 0, 60, .inl (fun _ => 0))) := by rw [ev47]; exact (vv_up_a _ _ _ _ (fun z => by subst z; have y := hfr_646 50; rw [he_639] at y; cases y)).trans he_639
  have he_666 : v47 50 q_415 = some (.inl (G.2.2.2.2 0, 200, .inl (fun _ => 0))) := by rw [ev47]; exact (vv_up_a _ _ _ _ (fun z => by subst z; have y := hfr_646 50; rw [he_640] at y; cases y)).trans he_640
  have he_667 : v47 50 q_457 = some (.inl (G.2.2.2.2 0, 200, .inl (fun _ => 0))) := by rw [ev47]; exact (vv_up_a _ _ _ _ (fun z => by subst z; have y := hfr_646 50; rw [he_641] at y; cases y)).trans he_641
  have he_668 : v47 50 q_501 = some (.inl (G.2.2.2.2 0, 200, .inl (fun _ => 0))) := by rw [ev47]; exact (vv_up_a _ _ _ _ (fun z => by subst z; have y := hfr_646 50; rw [he_642] at y; cases y)).trans he_642
  have he_669 : v47 52 q_547 = some (.inl (G.2.2.2.2 2, 200, .inr (.inl (fun _ => 0)))) := by rw [ev47]; exact (vv_up_a _ _ _ _ (fun z => by subst z; have y := hfr_646 52; rw [he_643] at y; cases y)).trans he_643
  have he_670 : v47 50 q_595 = some (.inl (G.2.2.2.2 0, 200, .inl (fun _ => 0))) := by rw [ev47]; exact (vv_up_a _ _ _ _ (fun z => by subst z; have y := hfr_646 50; rw [he_644] at y; cases y)).trans he_644
  have he_671 : v47 52 q_645 = some (.inl (G.2.2.2.2 2, 41, .inr (.inl (fun _ => 0)))) := by rw [ev47]; exact vv_up_s _ _ _ _
  have hkv47 : vkeep (fun a => a = o) v v47 := by rw [ev47]; exact hkv46.nu hfr_646
  have hdv47 : ∀ x ∈ [q_645, q_595, q_547, q_501, q_457, q_415, q_375, q_337, q_301, q_267, q_235, q_205, q_177, q_151, q_127, q_105, q_85, q_67, q_51, q_37, q_25, q_15, q_7, q_1], ∃ (k : Nat) (e : va_E), v47 k x = some e := by rw [ev47]; exact vdom.cons hdv46
  refine v_putF C hin k_M he_647 30 (by decide) tw_513 (fun _ h => h) rfl rfl rfl rfl (Nat.le_of_ble_eq_true rfl) d_M_init_206 ?_
  refine v_view (fun v48 ev48 => ?_)
  have he_672 : v48 4 o = some (.inr (4, [.long 0, .int 0, .ref q_1, .int 0, .ref q_7, .ref q_15, .ref q_25, .ref q_37, .ref q_51, .int 0, .ref q_67, .ref q_85, .ref q_105, .ref q_127, .ref q_151, .ref q_177, .ref q_205, .ref q_235, .int 0, .ref q_267, .ref q_301, .ref q_337, .ref q_375, .int 0, .ref q_415, .ref q_457, .ref q_501, .ref q_547, .int 0, .ref q_595, .ref q_645, .null])) := by rw [ev48]; exact vv_up_s _ _ _ _
  have he_673 : v48 51 q_1 = some (.inl (G.2.2.2.2 1, 4, .inl (fun _ => 0))) := by rw [ev48]; exact (vv_up_k _ _ _ _ (by decide)).trans he_648
  have he_674 : v48 50 q_7 = some (.inl (G.2.2.2.2 0, 41, .inl (fun _ => 0))) := by rw [ev48]; exact (vv_up_k _ _ _ _ (by decide)).trans he_649
  have he_675 : v48 50 q_15 = some (.inl (G.2.2.2.2 0, 41, .inl (fun _ => 0))) := by rw [ev48]; exact (vv_up_k _ _ _ _ (by decide)).trans he_650
  have he_676 : v48 50 q_25 = some (.inl (G.2.2.2.2 0, 41, .inl (fun _ => 0))) := by rw [ev48]; exact (vv_up_k _ _ _ _ (by decide)).trans he_651
  have he_677 : v48 50 q_37 = some (.inl (G.2.2.2.2 0, 41, .inl (fun _ => 0))) := by rw [ev48]; exact (vv_up_k _ _ _ _ (by decide)).trans he_652
  have he_678 : v48 50 q_51 = some (.inl (G.2.2.2.2 0, 1312, .inl (fun _ => 0))) := by rw [ev48]; exact (vv_up_k _ _ _ _ (by decide)).trans he_653
  have he_679 : v48 50 q_67 = some (.inl (G.2.2.2.2 0, 201, .inl (fun _ => 0))) := by rw [ev48]; exact (vv_up_k _ _ _ _ (by decide)).trans he_654
  have he_680 : v48 50 q_85 = some (.inl (G.2.2.2.2 0, 201, .inl (fun _ => 0))) := by rw [ev48]; exact (vv_up_k _ _ _ _ (by decide)).trans he_655
  have he_681 : v48 50 q_105 = some (.inl (G.2.2.2.2 0, 201, .inl (fun _ => 0))) := by rw [ev48]; exact (vv_up_k _ _ _ _ (by decide)).trans he_656
  have he_682 : v48 52 q_127 = some (.inl (G.2.2.2.2 2, 201, .inr (.inl (fun _ => 0)))) := by rw [ev48]; exact (vv_up_k _ _ _ _ (by decide)).trans he_657
  have he_683 : v48 52 q_151 = some (.inl (G.2.2.2.2 2, 201, .inr (.inl (fun _ => 0)))) := by rw [ev48]; exact (vv_up_k _ _ _ _ (by decide)).trans he_658
  have he_684 : v48 50 q_177 = some (.inl (G.2.2.2.2 0, 201, .inl (fun _ => 0))) := by rw [ev48]; exact (vv_up_k _ _ _ _ (by decide)).trans he_659
  have he_685 : v48 51 q_205 = some (.inl (G.2.2.2.2 1, 201, .inl (fun _ => 0))) := by rw [ev48]; exact (vv_up_k _ _ _ _ (by decide)).trans he_660
  have he_686 : v48 51 q_235 = some (.inl (G.2.2.2.2 1, 201, .inl (fun _ => 0))) := by rw [ev48]; exact (vv_up_k _ _ _ _ (by decide)).trans he_661
  have he_687 : v48 50 q_267 = some (.inl (G.2.2.2.2 0, 60, .inl (fun _ => 0))) := by rw [ev48]; exact (vv_up_k _ _ _ _ (by decide)).trans he_662
  have he_688 : v48 50 q_301 = some (.inl (G.2.2.2.2 0, 60, .inl (fun _ => 0))) := by rw [ev48]; exact (vv_up_k _ _ _ _ (by decide)).trans he_663
  have he_689 : v48 51 q_337 = some (.inl (G.2.2.2.2 1, 60, .inl (fun _ => 0))) := by rw [ev48]; exact (vv_up_k _ _ _ _ (by decide)).trans he_664
  have he_690 : v48 50 q_375 = some (.inl (G.2.2.2.2 0, 60, .inl (fun _ => 0))) := by rw [ev48]; exact (vv_up_k _ _ _ _ (by decide)).trans he_665
  have he_691 : v48 50 q_415 = some (.inl (G.2.2.2.2 0, 200, .inl (fun _ => 0))) := by rw [ev48]; exact (vv_up_k _ _ _ _ (by decide)).trans he_666
  have he_692 : v48 50 q_457 = some (.inl (G.2.2.2.2 0, 200, .inl (fun _ => 0))) := by rw [ev48]; exact (vv_up_k _ _ _ _ (by decide)).trans he_667
  have he_693 : v48 50 q_501 = some (.inl (G.2.2.2.2 0, 200, .inl (fun _ => 0))) := by rw [ev48]; exact (vv_up_k _ _ _ _ (by decide)).trans he_668
  have he_694 : v48 52 q_547 = some (.inl (G.2.2.2.2 2, 200, .inr (.inl (fun _ => 0)))) := by rw [ev48]; exact (vv_up_k _ _ _ _ (by decide)).trans he_669
  have he_695 : v48 50 q_595 = some (.inl (G.2.2.2.2 0, 200, .inl (fun _ => 0))) := by rw [ev48]; exact (vv_up_k _ _ _ _ (by decide)).trans he_670
  have he_696 : v48 52 q_645 = some (.inl (G.2.2.2.2 2, 41, .inr (.inl (fun _ => 0)))) := by rw [ev48]; exact (vv_up_k _ _ _ _ (by decide)).trans he_671
  have hkv48 : vkeep (fun a => a = o) v v48 := by rw [ev48]; exact hkv47.up rfl
  have hdv48 : ∀ x ∈ [q_645, q_595, q_547, q_501, q_457, q_415, q_375, q_337, q_301, q_267, q_235, q_205, q_177, q_151, q_127, q_105, q_85, q_67, q_51, q_37, q_25, q_15, q_7, q_1], ∃ (k : Nat) (e : va_E), v48 k x = some e := by rw [ev48]; exact vdom.up hdv47
  refine v_aload_n C 0 d_M_init_209 rfl rfl ?_
  refine v_bipush (x := 41) C d_M_init_210 (by decide) ?_
  refine v_newai (n := 41) C (by decide) (by decide) (by decide) (by first | exact Nat.le_of_ble_eq_true rfl | (show _ ≤ _; omega)) (by first | exact Nat.le_of_ble_eq_true rfl | (show _ ≤ _; omega)) d_M_init_212 (fun q_697 hfr_698 => ?_)
  refine v_cs (kc' := 25) (ks' := 4410) rfl rfl ?_
  have fr_q_697 := hkv48.fr he_672 hfr_698
  have nd_q_697 := vdom.new hdv48 hfr_698 nd_q_645
  refine v_view (fun v49 ev49 => ?_)
  have he_699 : v49 4 o = some (.inr (4, [.long 0, .int 0, .ref q_1, .int 0, .ref q_7, .ref q_15, .ref q_25, .ref q_37, .ref q_51, .int 0, .ref q_67, .ref q_85, .ref q_105, .ref q_127, .ref q_151, .ref q_177, .ref q_205, .ref q_235, .int 0, .ref q_267, .ref q_301, .ref q_337, .ref q_375, .int 0, .ref q_415, .ref q_457, .ref q_501, .ref q_547, .int 0, .ref q_595, .ref q_645, .null])) := by rw [ev49]; exact (vv_up_a _ _ _ _ (fun z => by subst z; have y := hfr_698 4; rw [he_672] at y; cases y)).trans he_672
  have he_700 : v49 51 q_1 = some (.inl (G.2.2.2.2 1, 4, .inl (fun _ => 0))) := by rw [ev49]; exact (vv_up_a _ _ _ _ (fun z => by subst z; have y := hfr_698 51; rw [he_673] at y; cases y)).trans he_673
  have he_701 : v49 50 q_7 = some (.inl (G.2.2.2.2 0, 41, .inl (fun _ => 0))) := by rw [ev49]; exact (vv_up_a _ _ _ _ (fun z => by subst z; have y := hfr_698 50; rw [he_674] at y; cases y)).trans he_674
  have he_702 : v49 50 q_15 = some (.inl (G.2.2.2.2 0, 41, .inl (fun _ => 0))) := by rw [ev49]; exact (vv_up_a _ _ _ _ (fun z => by subst z; have y := hfr_698 50; rw [he_675] at y; cases y)).trans he_675
  have he_703 : v49 50 q_25 = some (.inl (G.2.2.2.2 0, 41, .inl (fun _ => 0))) := by rw [ev49]; exact (vv_up_a _ _ _ _ (fun z => by subst z; have y := hfr_698 50; rw [he_676] at y; cases y)).trans he_676
  have he_704 : v49 50 q_37 = some (.inl (G.2.2.2.2 0, 41, .inl (fun _ => 0))) := by rw [ev49]; exact (vv_up_a _ _ _ _ (fun z => by subst z; have y := hfr_698 50; rw [he_677] at y; cases y)).trans he_677
  have he_705 : v49 50 q_51 = some (.inl (G.2.2.2.2 0, 1312, .inl (fun _ => 0))) := by rw [ev49]; exact (vv_up_a _ _ _ _ (fun z => by subst z; have y := hfr_698 50; rw [he_678] at y; cases y)).trans he_678
  have he_706 : v49 50 q_67 = some (.inl (G.2.2.2.2 0, 201, .inl (fun _ => 0))) := by rw [ev49]; exact (vv_up_a _ _ _ _ (fun z => by subst z; have y := hfr_698 50; rw [he_679] at y; cases y)).trans he_679
  have he_707 : v49 50 q_85 = some (.inl (G.2.2.2.2 0, 201, .inl (fun _ => 0))) := by rw [ev49]; exact (vv_up_a _ _ _ _ (fun z => by subst z; have y := hfr_698 50; rw [he_680] at y; cases y)).trans he_680
  have he_708 : v49 50 q_105 = some (.inl (G.2.2.2.2 0, 201, .inl (fun _ => 0))) := by rw [ev49]; exact (vv_up_a _ _ _ _ (fun z => by subst z; have y := hfr_698 50; rw [he_681] at y; cases y)).trans he_681
  have he_709 : v49 52 q_127 = some (.inl (G.2.2.2.2 2, 201, .inr (.inl (fun _ => 0)))) := by rw [ev49]; exact (vv_up_a _ _ _ _ (fun z => by subst z; have y := hfr_698 52; rw [he_682] at y; cases y)).trans he_682
  have he_710 : v49 52 q_151 = some (.inl (G.2.2.2.2 2, 201, .inr (.inl (fun _ => 0)))) := by rw [ev49]; exact (vv_up_a _ _ _ _ (fun z => by subst z; have y := hfr_698 52; rw [he_683] at y; cases y)).trans he_683
  have he_711 : v49 50 q_177 = some (.inl (G.2.2.2.2 0, 201, .inl (fun _ => 0))) := by rw [ev49]; exact (vv_up_a _ _ _ _ (fun z => by subst z; have y := hfr_698 50; rw [he_684] at y; cases y)).trans he_684
  have he_712 : v49 51 q_205 = some (.inl (G.2.2.2.2 1, 201, .inl (fun _ => 0))) := by rw [ev49]; exact (vv_up_a _ _ _ _ (fun z => by subst z; have y := hfr_698 51; rw [he_685] at y; cases y)).trans he_685
  have he_713 : v49 51 q_235 = some (.inl (G.2.2.2.2 1, 201, .inl (fun _ => 0))) := by rw [ev49]; exact (vv_up_a _ _ _ _ (fun z => by subst z; have y := hfr_698 51; rw [he_686] at y; cases y)).trans he_686
  have he_714 : v49 50 q_267 = some (.inl (G.2.2.2.2 0, 60, .inl (fun _ => 0))) := by rw [ev49]; exact (vv_up_a _ _ _ _ (fun z => by subst z; have y := hfr_698 50; rw [he_687] at y; cases y)).trans he_687
  have he_715 : v49 50 q_301 = some (.inl (G.2.2.2.2 0, 60, .inl (fun _ => 0))) := by rw [ev49]; exact (vv_up_a _ _ _ _ (fun z => by subst z; have y := hfr_698 50; rw [he_688] at y; cases y)).trans he_688
  have he_716 : v49 51 q_337 = some (.inl (G.2.2.2.2 1, 60, .inl (fun _ => 0))) := by rw [ev49]; exact (vv_up_a _ _ _ _ (fun z => by subst z; have y := hfr_698 51; rw [he_689] at y; cases y)).trans he_689
  have he_717 : v49 50 q_375 = some (.inl (G.2.2.2.2 0, 60, .inl (fun _ => 0))) := by rw [ev49]; exact (vv_up_a _ _ _ _ (fun z => by subst z; have y := hfr_698 50; rw [he_690] at y; cases y)).trans he_690
  have he_718 : v49 50 q_415 = some (.inl (G.2.2.2.2 0, 200, .inl (fun _ => 0))) := by rw [ev49]; exact (vv_up_a _ _ _ _ (fun z => by subst z; have y := hfr_698 50; rw [he_691] at y; cases y)).trans he_691
  have he_719 : v49 50 q_457 = some (.inl (G.2.2.2.2 0, 200, .inl (fun _ => 0))) := by rw [ev49]; exact (vv_up_a _ _ _ _ (fun z => by subst z; have y := hfr_698 50; rw [he_692] at y; cases y)).trans he_692
  have he_720 : v49 50 q_501 = some (.inl (G.2.2.2.2 0, 200, .inl (fun _ => 0))) := by rw [ev49]; exact (vv_up_a _ _ _ _ (fun z => by subst z; have y := hfr_698 50; rw [he_693] at y; cases y)).trans he_693
  have he_721 : v49 52 q_547 = some (.inl (G.2.2.2.2 2, 200, .inr (.inl (fun _ => 0)))) := by rw [ev49]; exact (vv_up_a _ _ _ _ (fun z => by subst z; have y := hfr_698 52; rw [he_694] at y; cases y)).trans he_694
  have he_722 : v49 50 q_595 = some (.inl (G.2.2.2.2 0, 200, .inl (fun _ => 0))) := by rw [ev49]; exact (vv_up_a _ _ _ _ (fun z => by subst z; have y := hfr_698 50; rw [he_695] at y; cases y)).trans he_695
  have he_723 : v49 52 q_645 = some (.inl (G.2.2.2.2 2, 41, .inr (.inl (fun _ => 0)))) := by rw [ev49]; exact (vv_up_a _ _ _ _ (fun z => by subst z; have y := hfr_698 52; rw [he_696] at y; cases y)).trans he_696
  have he_724 : v49 50 q_697 = some (.inl (G.2.2.2.2 0, 41, .inl (fun _ => 0))) := by rw [ev49]; exact vv_up_s _ _ _ _
  have hkv49 : vkeep (fun a => a = o) v v49 := by rw [ev49]; exact hkv48.nu hfr_698
  have hdv49 : ∀ x ∈ [q_697, q_645, q_595, q_547, q_501, q_457, q_415, q_375, q_337, q_301, q_267, q_235, q_205, q_177, q_151, q_127, q_105, q_85, q_67, q_51, q_37, q_25, q_15, q_7, q_1], ∃ (k : Nat) (e : va_E), v49 k x = some e := by rw [ev49]; exact vdom.cons hdv48
  refine v_putF C hin k_M he_699 31 (by decide) tw_514 (fun _ h => h) rfl rfl rfl rfl (Nat.le_of_ble_eq_true rfl) d_M_init_214 ?_
  refine v_view (fun v50 ev50 => ?_)
  have he_725 : v50 4 o = some (.inr (4, [.long 0, .int 0, .ref q_1, .int 0, .ref q_7, .ref q_15, .ref q_25, .ref q_37, .ref q_51, .int 0, .ref q_67, .ref q_85, .ref q_105, .ref q_127, .ref q_151, .ref q_177, .ref q_205, .ref q_235, .int 0, .ref q_267, .ref q_301, .ref q_337, .ref q_375, .int 0, .ref q_415, .ref q_457, .ref q_501, .ref q_547, .int 0, .ref q_595, .ref q_645, .ref q_697])) := by rw [ev50]; exact vv_up_s _ _ _ _
  have he_726 : v50 51 q_1 = some (.inl (G.2.2.2.2 1, 4, .inl (fun _ => 0))) := by rw [ev50]; exact (vv_up_k _ _ _ _ (by decide)).trans he_700
  have he_727 : v50 50 q_7 = some (.inl (G.2.2.2.2 0, 41, .inl (fun _ => 0))) := by rw [ev50]; exact (vv_up_k _ _ _ _ (by decide)).trans he_701
  have he_728 : v50 50 q_15 = some (.inl (G.2.2.2.2 0, 41, .inl (fun _ => 0))) := by rw [ev50]; exact (vv_up_k _ _ _ _ (by decide)).trans he_702
  have he_729 : v50 50 q_25 = some (.inl (G.2.2.2.2 0, 41, .inl (fun _ => 0))) := by rw [ev50]; exact (vv_up_k _ _ _ _ (by decide)).trans he_703
  have he_730 : v50 50 q_37 = some (.inl (G.2.2.2.2 0, 41, .inl (fun _ => 0))) := by rw [ev50]; exact (vv_up_k _ _ _ _ (by decide)).trans he_704
  have he_731 : v50 50 q_51 = some (.inl (G.2.2.2.2 0, 1312, .inl (fun _ => 0))) := by rw [ev50]; exact (vv_up_k _ _ _ _ (by decide)).trans he_705
  have he_732 : v50 50 q_67 = some (.inl (G.2.2.2.2 0, 201, .inl (fun _ => 0))) := by rw [ev50]; exact (vv_up_k _ _ _ _ (by decide)).trans he_706
  have he_733 : v50 50 q_85 = some (.inl (G.2.2.2.2 0, 201, .inl (fun _ => 0))) := by rw [ev50]; exact (vv_up_k _ _ _ _ (by decide)).trans he_707
  have he_734 : v50 50 q_105 = some (.inl (G.2.2.2.2 0, 201, .inl (fun _ => 0))) := by rw [ev50]; exact (vv_up_k _ _ _ _ (by decide)).trans he_708
  have he_735 : v50 52 q_127 = some (.inl (G.2.2.2.2 2, 201, .inr (.inl (fun _ => 0)))) := by rw [ev50]; exact (vv_up_k _ _ _ _ (by decide)).trans he_709
  have he_736 : v50 52 q_151 = some (.inl (G.2.2.2.2 2, 201, .inr (.inl (fun _ => 0)))) := by rw [ev50]; exact (vv_up_k _ _ _ _ (by decide)).trans he_710
  have he_737 : v50 50 q_177 = some (.inl (G.2.2.2.2 0, 201, .inl (fun _ => 0))) := by rw [ev50]; exact (vv_up_k _ _ _ _ (by decide)).trans he_711
  have he_738 : v50 51 q_205 = some (.inl (G.2.2.2.2 1, 201, .inl (fun _ => 0))) := by rw [ev50]; exact (vv_up_k _ _ _ _ (by decide)).trans he_712
  have he_739 : v50 51 q_235 = some (.inl (G.2.2.2.2 1, 201, .inl (fun _ => 0))) := by rw [ev50]; exact (vv_up_k _ _ _ _ (by decide)).trans he_713
  have he_740 : v50 50 q_267 = some (.inl (G.2.2.2.2 0, 60, .inl (fun _ => 0))) := by rw [ev50]; exact (vv_up_k _ _ _ _ (by decide)).trans he_714
  have he_741 : v50 50 q_301 = some (.inl (G.2.2.2.2 0, 60, .inl (fun _ => 0))) := by rw [ev50]; exact (vv_up_k _ _ _ _ (by decide)).trans he_715
  have he_742 : v50 51 q_337 = some (.inl (G.2.2.2.2 1, 60, .inl (fun _ => 0))) := by rw [ev50]; exact (vv_up_k _ _ _ _ (by decide)).trans he_716
  have he_743 : v50 50 q_375 = some (.inl (G.2.2.2.2 0, 60, .inl (fun _ => 0))) := by rw [ev50]; exact (vv_up_k _ _ _ _ (by decide)).trans he_717
  have he_744 : v50 50 q_415 = some (.inl (G.2.2.2.2 0, 200, .inl (fun _ => 0))) := by rw [ev50]; exact (vv_up_k _ _ _ _ (by decide)).trans he_718
  have he_745 : v50 50 q_457 = some (.inl (G.2.2.2.2 0, 200, .inl (fun _ => 0))) := by rw [ev50]; exact (vv_up_k _ _ _ _ (by decide)).trans he_719
  have he_746 : v50 50 q_501 = some (.inl (G.2.2.2.2 0, 200, .inl (fun _ => 0))) := by rw [ev50]; exact (vv_up_k _ _ _ _ (by decide)).trans he_720
  have he_747 : v50 52 q_547 = some (.inl (G.2.2.2.2 2, 200, .inr (.inl (fun _ => 0)))) := by rw [ev50]; exact (vv_up_k _ _ _ _ (by decide)).trans he_721
  have he_748 : v50 50 q_595 = some (.inl (G.2.2.2.2 0, 200, .inl (fun _ => 0))) := by rw [ev50]; exact (vv_up_k _ _ _ _ (by decide)).trans he_722
  have he_749 : v50 52 q_645 = some (.inl (G.2.2.2.2 2, 41, .inr (.inl (fun _ => 0)))) := by rw [ev50]; exact (vv_up_k _ _ _ _ (by decide)).trans he_723
  have he_750 : v50 50 q_697 = some (.inl (G.2.2.2.2 0, 41, .inl (fun _ => 0))) := by rw [ev50]; exact (vv_up_k _ _ _ _ (by decide)).trans he_724
  have hkv50 : vkeep (fun a => a = o) v v50 := by rw [ev50]; exact hkv49.up rfl
  have hdv50 : ∀ x ∈ [q_697, q_645, q_595, q_547, q_501, q_457, q_415, q_375, q_337, q_301, q_267, q_235, q_205, q_177, q_151, q_127, q_105, q_85, q_67, q_51, q_37, q_25, q_15, q_7, q_1], ∃ (k : Nat) (e : va_E), v50 k x = some e := by rw [ev50]; exact vdom.up hdv49
  refine v_aload_n C 0 d_M_init_217 rfl rfl ?_
  refine v_iconst (x := 0) C d_M_init_218 (by decide) ?_
  refine v_put C k_M he_725 3 (by decide) tw_486 (fun _ h => h) rfl rfl rfl (Nat.le_of_ble_eq_true rfl) d_M_init_219 ?_
  refine v_view (fun v51 ev51 => ?_)
  have he_751 : v51 4 o = some (.inr (4, [.long 0, .int 0, .ref q_1, .int 0, .ref q_7, .ref q_15, .ref q_25, .ref q_37, .ref q_51, .int 0, .ref q_67, .ref q_85, .ref q_105, .ref q_127, .ref q_151, .ref q_177, .ref q_205, .ref q_235, .int 0, .ref q_267, .ref q_301, .ref q_337, .ref q_375, .int 0, .ref q_415, .ref q_457, .ref q_501, .ref q_547, .int 0, .ref q_595, .ref q_645, .ref q_697])) := by rw [ev51]; exact vv_up_s _ _ _ _
  have he_752 : v51 51 q_1 = some (.inl (G.2.2.2.2 1, 4, .inl (fun _ => 0))) := by rw [ev51]; exact (vv_up_k _ _ _ _ (by decide)).trans he_726
  have he_753 : v51 50 q_7 = some (.inl (G.2.2.2.2 0, 41, .inl (fun _ => 0))) := by rw [ev51]; exact (vv_up_k _ _ _ _ (by decide)).trans he_727
  have he_754 : v51 50 q_15 = some (.inl (G.2.2.2.2 0, 41, .inl (fun _ => 0))) := by rw [ev51]; exact (vv_up_k _ _ _ _ (by decide)).trans he_728
  have he_755 : v51 50 q_25 = some (.inl (G.2.2.2.2 0, 41, .inl (fun _ => 0))) := by rw [ev51]; exact (vv_up_k _ _ _ _ (by decide)).trans he_729
  have he_756 : v51 50 q_37 = some (.inl (G.2.2.2.2 0, 41, .inl (fun _ => 0))) := by rw [ev51]; exact (vv_up_k _ _ _ _ (by decide)).trans he_730
  have he_757 : v51 50 q_51 = some (.inl (G.2.2.2.2 0, 1312, .inl (fun _ => 0))) := by rw [ev51]; exact (vv_up_k _ _ _ _ (by decide)).trans he_731
  have he_758 : v51 50 q_67 = some (.inl (G.2.2.2.2 0, 201, .inl (fun _ => 0))) := by rw [ev51]; exact (vv_up_k _ _ _ _ (by decide)).trans he_732
  have he_759 : v51 50 q_85 = some (.inl (G.2.2.2.2 0, 201, .inl (fun _ => 0))) := by rw [ev51]; exact (vv_up_k _ _ _ _ (by decide)).trans he_733
  have he_760 : v51 50 q_105 = some (.inl (G.2.2.2.2 0, 201, .inl (fun _ => 0))) := by rw [ev51]; exact (vv_up_k _ _ _ _ (by decide)).trans he_734
  have he_761 : v51 52 q_127 = some (.inl (G.2.2.2.2 2, 201, .inr (.inl (fun _ => 0)))) := by rw [ev51]; exact (vv_up_k _ _ _ _ (by decide)).trans he_735
  have he_762 : v51 52 q_151 = some (.inl (G.2.2.2.2 2, 201, .inr (.inl (fun _ => 0)))) := by rw [ev51]; exact (vv_up_k _ _ _ _ (by decide)).trans he_736
  have he_763 : v51 50 q_177 = some (.inl (G.2.2.2.2 0, 201, .inl (fun _ => 0))) := by rw [ev51]; exact (vv_up_k _ _ _ _ (by decide)).trans he_737
  have he_764 : v51 51 q_205 = some (.inl (G.2.2.2.2 1, 201, .inl (fun _ => 0))) := by rw [ev51]; exact (vv_up_k _ _ _ _ (by decide)).trans he_738
  have he_765 : v51 51 q_235 = some (.inl (G.2.2.2.2 1, 201, .inl (fun _ => 0))) := by rw [ev51]; exact (vv_up_k _ _ _ _ (by decide)).trans he_739
  have he_766 : v51 50 q_267 = some (.inl (G.2.2.2.2 0, 60, .inl (fun _ => 0))) := by rw [ev51]; exact (vv_up_k _ _ _ _ (by decide)).trans he_740
  have he_767 : v51 50 q_301 = some (.inl (G.2.2.2.2 0, 60, .inl (fun _ => 0))) := by rw [ev51]; exact (vv_up_k _ _ _ _ (by decide)).trans he_741
  have he_768 : v51 51 q_337 = some (.inl (G.2.2.2.2 1, 60, .inl (fun _ => 0))) := by rw [ev51]; exact (vv_up_k _ _ _ _ (by decide)).trans he_742
  have he_769 : v51 50 q_375 = some (.inl (G.2.2.2.2 0, 60, .inl (fun _ => 0))) := by rw [ev51]; exact (vv_up_k _ _ _ _ (by decide)).trans he_743
  have he_770 : v51 50 q_415 = some (.inl (G.2.2.2.2 0, 200, .inl (fun _ => 0))) := by rw [ev51]; exact (vv_up_k _ _ _ _ (by decide)).trans he_744
  have he_771 : v51 50 q_457 = some (.inl (G.2.2.2.2 0, 200, .inl (fun _ => 0))) := by rw [ev51]; exact (vv_up_k _ _ _ _ (by decide)).trans he_745
  have he_772 : v51 50 q_501 = some (.inl (G.2.2.2.2 0, 200, .inl (fun _ => 0))) := by rw [ev51]; exact (vv_up_k _ _ _ _ (by decide)).trans he_746
  have he_773 : v51 52 q_547 = some (.inl (G.2.2.2.2 2, 200, .inr (.inl (fun _ => 0)))) := by rw [ev51]; exact (vv_up_k _ _ _ _ (by decide)).trans he_747
  have he_774 : v51 50 q_595 = some (.inl (G.2.2.2.2 0, 200, .inl (fun _ => 0))) := by rw [ev51]; exact (vv_up_k _ _ _ _ (by decide)).trans he_748
  have he_775 : v51 52 q_645 = some (.inl (G.2.2.2.2 2, 41, .inr (.inl (fun _ => 0)))) := by rw [ev51]; exact (vv_up_k _ _ _ _ (by decide)).trans he_749
  have he_776 : v51 50 q_697 = some (.inl (G.2.2.2.2 0, 41, .inl (fun _ => 0))) := by rw [ev51]; exact (vv_up_k _ _ _ _ (by decide)).trans he_750
  have hkv51 : vkeep (fun a => a = o) v v51 := by rw [ev51]; exact hkv50.up rfl
  have hdv51 : ∀ x ∈ [q_697, q_645, q_595, q_547, q_501, q_457, q_415, q_375, q_337, q_301, q_267, q_235, q_205, q_177, q_151, q_127, q_105, q_85, q_67, q_51, q_37, q_25, q_15, q_7, q_1], ∃ (k : Nat) (e : va_E), v51 k x = some e := by rw [ev51]; exact vdom.up hdv50
  exact v_vret C d_M_init_222 (by first | exact Nat.le_of_ble_eq_true rfl | (show _ ≤ _; omega)) (by first | exact Nat.le_of_ble_eq_true rfl | (show _ ≤ _; omega)) ⟨rfl, fun f => [q_697, q_645, q_595, q_547, q_501, q_457, q_415, q_375, q_337, q_301, q_267, q_235, q_205, q_177, q_151, q_127, q_105, q_85, q_67, q_51, q_37, q_25, q_15, q_7, q_1].getD (aR.idxOf f) 0, ⟨he_751, (fun f hf => by simp only [mI, List.contains_eq_mem, List.mem_cons, List.not_mem_nil, or_false, decide_eq_true_eq] at hf; rcases hf with rfl | rfl | rfl | rfl | rfl | rfl | rfl | rfl | rfl | rfl | rfl | rfl | rfl | rfl | rfl | rfl | rfl; exact he_753; exact he_754; exact he_755; exact he_756; exact he_757; exact he_758; exact he_759; exact he_760; exact he_763; exact he_766; exact he_767; exact he_769; exact he_770; exact he_771; exact he_772; exact he_774; exact he_776), (fun f hf => by simp only [mZ, List.contains_eq_mem, List.mem_cons, List.not_mem_nil, or_false, decide_eq_true_eq] at hf; rcases hf with rfl | rfl | rfl | rfl; exact he_752; exact he_764; exact he_765; exact he_768), (fun f hf => by simp only [mL, List.contains_eq_mem, List.mem_cons, List.not_mem_nil, or_false, decide_eq_true_eq] at hf; rcases hf with rfl | rfl | rfl | rfl; exact he_761; exact he_762; exact he_773; exact he_775), aR_inj nd_q_697 rfl⟩, hkv51, aR_fr (List.forall_mem_cons.mpr ⟨fr_q_697, List.forall_mem_cons.mpr ⟨fr_q_645, List.forall_mem_cons.mpr ⟨fr_q_595, List.forall_mem_cons.mpr ⟨fr_q_547, List.forall_mem_cons.mpr ⟨fr_q_501, List.forall_mem_cons.mpr ⟨fr_q_457, List.forall_mem_cons.mpr ⟨fr_q_415, List.forall_mem_cons.mpr ⟨fr_q_375, List.forall_mem_cons.mpr ⟨fr_q_337, List.forall_mem_cons.mpr ⟨fr_q_301, List.forall_mem_cons.mpr ⟨fr_q_267, List.forall_mem_cons.mpr ⟨fr_q_235, List.forall_mem_cons.mpr ⟨fr_q_205, List.forall_mem_cons.mpr ⟨fr_q_177, List.forall_mem_cons.mpr ⟨fr_q_151, List.forall_mem_cons.mpr ⟨fr_q_127, List.forall_mem_cons.mpr ⟨fr_q_105, List.forall_mem_cons.mpr ⟨fr_q_85, List.forall_mem_cons.mpr ⟨fr_q_67, List.forall_mem_cons.mpr ⟨fr_q_51, List.forall_mem_cons.mpr ⟨fr_q_37, List.forall_mem_cons.mpr ⟨fr_q_25, List.forall_mem_cons.mpr ⟨fr_q_15, List.forall_mem_cons.mpr ⟨fr_q_7, List.forall_mem_cons.mpr ⟨fr_q_1, fun _ h => absurd h List.not_mem_nil⟩⟩⟩⟩⟩⟩⟩⟩⟩⟩⟩⟩⟩⟩⟩⟩⟩⟩⟩⟩⟩⟩⟩⟩⟩) rfl⟩
