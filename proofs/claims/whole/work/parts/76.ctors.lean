theorem dfX0 : ∀ j, j < 4 → defaultValue (tyX0 j) = vp_V [.null, .null, .null, .null] j := by
  intro j hj
  match j, hj with
  | 0, _ => rfl
  | 1, _ => rfl
  | 2, _ => rfl
  | 3, _ => rfl
  | k + 4, h => exact absurd h (by omega)
theorem dfX1 : ∀ j, j < 7 → defaultValue (tyX1 j) = vp_V [.int 0, .null, .null, .null, .null, .null, .null] j := by
  intro j hj
  match j, hj with
  | 0, _ => rfl
  | 1, _ => rfl
  | 2, _ => rfl
  | 3, _ => rfl
  | 4, _ => rfl
  | 5, _ => rfl
  | 6, _ => rfl
  | k + 7, h => exact absurd h (by omega)
theorem dfX2 : ∀ j, j < 3 → defaultValue (tyX2 j) = vp_V [.int 0, .null, .null] j := by
  intro j hj
  match j, hj with
  | 0, _ => rfl
  | 1, _ => rfl
  | 2, _ => rfl
  | k + 3, h => exact absurd h (by omega)
theorem dfX3 : ∀ j, j < 4 → defaultValue (tyX3 j) = vp_V [.null, .int 0, .null, .int 0] j := by
  intro j hj
  match j, hj with
  | 0, _ => rfl
  | 1, _ => rfl
  | 2, _ => rfl
  | 3, _ => rfl
  | k + 4, h => exact absurd h (by omega)
theorem dfX4 : ∀ j, j < 10 → defaultValue (tyX4 j) = vp_V [.null, .null, .null, .int 0, .null, .null, .null, .long 0, .int 0, .long 0] j := by
  intro j hj
  match j, hj with
  | 0, _ => rfl
  | 1, _ => rfl
  | 2, _ => rfl
  | 3, _ => rfl
  | 4, _ => rfl
  | 5, _ => rfl
  | 6, _ => rfl
  | 7, _ => rfl
  | 8, _ => rfl
  | 9, _ => rfl
  | k + 10, h => exact absurd h (by omega)
theorem dfX5 : ∀ j, j < 3 → defaultValue (tyX5 j) = vp_V [.int 0, .null, .null] j := by
  intro j hj
  match j, hj with
  | 0, _ => rfl
  | 1, _ => rfl
  | 2, _ => rfl
  | k + 3, h => exact absurd h (by omega)
theorem dfX6 : ∀ j, j < 3 → defaultValue (tyX6 j) = vp_V [.int 0, .null, .null] j := by
  intro j hj
  match j, hj with
  | 0, _ => rfl
  | 1, _ => rfl
  | 2, _ => rfl
  | k + 3, h => exact absurd h (by omega)
theorem dfX7 : ∀ j, j < 8 → defaultValue (tyX7 j) = vp_V [.null, .null, .null, .null, .null, .null, .null, .null] j := by
  intro j hj
  match j, hj with
  | 0, _ => rfl
  | 1, _ => rfl
  | 2, _ => rfl
  | 3, _ => rfl
  | 4, _ => rfl
  | 5, _ => rfl
  | 6, _ => rfl
  | 7, _ => rfl
  | k + 8, h => exact absurd h (by omega)
theorem dfX8 : ∀ j, j < 28 → defaultValue (tyX8 j) = vp_V [.int 0, .null, .null, .null, .null, .null, .int 0, .null, .null, .null, .int 0, .null, .int 0, .null, .int 0, .null, .null, .null, .null, .long 0, .int 0, .null, .null, .null, .null, .null, .null, .null] j := by
  intro j hj
  match j, hj with
  | 0, _ => rfl
  | 1, _ => rfl
  | 2, _ => rfl
  | 3, _ => rfl
  | 4, _ => rfl
  | 5, _ => rfl
  | 6, _ => rfl
  | 7, _ => rfl
  | 8, _ => rfl
  | 9, _ => rfl
  | 10, _ => rfl
  | 11, _ => rfl
  | 12, _ => rfl
  | 13, _ => rfl
  | 14, _ => rfl
  | 15, _ => rfl
  | 16, _ => rfl
  | 17, _ => rfl
  | 18, _ => rfl
  | 19, _ => rfl
  | 20, _ => rfl
  | 21, _ => rfl
  | 22, _ => rfl
  | 23, _ => rfl
  | 24, _ => rfl
  | 25, _ => rfl
  | 26, _ => rfl
  | 27, _ => rfl
  | k + 28, h => exact absurd h (by omega)
abbrev mX1_init : MX := (⟨"BrokeWhere$History", "<init>", "()V"⟩, prog_3_method_1_code, 1, none)
theorem ok_X1_init : OkI mX1_init 0 := ⟨tw_26, tw_2, tw_25, rfl, by decide, by decide, by decide +kernel, rfl⟩
abbrev mX2_init : MX := (⟨"BrokeWhere$Log", "<init>", "()V"⟩, prog_4_method_1_code, 1, none)
theorem ok_X2_init : OkI mX2_init 0 := ⟨tw_66, tw_3, tw_65, rfl, by decide, by decide, by decide +kernel, rfl⟩
abbrev mX4_init : MX := (⟨"BrokeWhere$Stories", "<init>", "(LBrokeWhere$History;LBrokeWhere$Log;)V"⟩, prog_6_method_1_code, 3, none)
theorem ok_X4_init : OkI mX4_init 2 := ⟨tw_89, tw_4, tw_88, rfl, by decide, by decide, by decide +kernel, rfl⟩
abbrev mX3_init : MX := (⟨"BrokeWhere$Partings", "<init>", "(LBrokeWhere$History;Z)V"⟩, prog_5_method_1_code, 3, none)
theorem ok_X3_init : OkI mX3_init 2 := ⟨tw_130, tw_5, tw_129, rfl, by decide, by decide, by decide +kernel, rfl⟩
abbrev mX5_init : MX := (⟨"BrokeWhere$Text", "<init>", "()V"⟩, prog_7_method_1_code, 1, none)
theorem ok_X5_init : OkI mX5_init 0 := ⟨tw_150, tw_6, tw_149, rfl, by decide, by decide, by decide +kernel, rfl⟩
abbrev mX6_init : MX := (⟨"BrokeWhere$Truth", "<init>", "()V"⟩, prog_8_method_1_code, 1, none)
theorem ok_X6_init : OkI mX6_init 0 := ⟨tw_169, tw_7, tw_168, rfl, by decide, by decide, by decide +kernel, rfl⟩
abbrev mX0_init : MX := (⟨"BrokeWhere$Families", "<init>", "(LBrokeWhere$History;LBrokeWhere$Truth;)V"⟩, prog_2_method_1_code, 3, none)
theorem ok_X0_init : OkI mX0_init 2 := ⟨tw_188, tw_8, tw_187, rfl, by decide, by decide, by decide +kernel, rfl⟩
abbrev mX8_init : MX := (⟨"BrokeWhereModel", "<init>", "()V"⟩, prog_10_method_1_code, 1, none)
theorem ok_X8_init : OkI mX8_init 0 := ⟨tw_626, tw_9, tw_625, rfl, by decide, by decide, by decide +kernel, rfl⟩
abbrev mX7_init : MX := (⟨"BrokeWhere", "<init>", "()V"⟩, prog_1_method_1_code, 1, none)
theorem ok_X7_init : OkI mX7_init 0 := ⟨tw_18, tw_1, tw_17, rfl, by decide, by decide, by decide +kernel, rfl⟩
set_option maxHeartbeats 4000000 in
theorem c_X1_init (G : GX) (b : Nat) : Ci G 1 6 72 mX1_init [.ref b] [(b, .inr (1, [.int 0, .null, .null, .null, .null, .null, .null]))] (fun w1 => ∃ qa1 qa2 qa3 qa4 qa5 qa6 : Nat, w1 = [(b, .inr (1, [.int 0, .ref qa1, .ref qa2, .ref qa3, .ref qa4, .ref qa5, .ref qa6])), (qa1, .inl (G.2.2.1.1, 12, .inl (fun _ => 0))), (qa2, .inl (G.2.2.1.1, 12, .inl (fun _ => 0))), (qa3, .inl (G.2.2.1.1, 12, .inl (fun _ => 0))), (qa4, .inl (G.2.2.1.1, 12, .inl (fun _ => 0))), (qa5, .inl (G.2.2.1.1, 12, .inl (fun _ => 0))), (qa6, .inl (G.2.2.1.1, 12, .inl (fun _ => 0)))]) := by
  refine Ci.intro (lv := [(0, .ref b)]) (by decide) (Nat.le_of_ble_eq_true rfl) rfl ?_
  refine U_aload_n dX1_init_0 rfl 0 rfl ?_
  refine U_obj tw_27 dX1_init_1 ⟨Nat.le_of_ble_eq_true rfl, Nat.le_of_ble_eq_true rfl⟩ ?_
  refine U_aload_n dX1_init_4 rfl 0 rfl ?_
  refine U_bipush (v := 12) dX1_init_5 kb_12 ?_
  refine U_newa (at0 := .int) (cA := G.2.2.1.1) (N := 12) (a0 := (12, .inl (fun _ => 0))) 0 rfl rfl (fun _ _ h => h) tw_61 (fun _ => rfl) (by decide) (by decide) (Nat.le_of_ble_eq_true rfl) ⟨Nat.le_of_ble_eq_true rfl, Nat.le_of_ble_eq_true rfl⟩ dX1_init_7 (fun qa1 => ?_)
  refine U_putF [(b, .inr (1, [.int 0, .ref qa1, .null, .null, .null, .null, .null])), (qa1, .inl (G.2.2.1.1, 12, .inl (fun _ => 0)))] 0 rfl rfl iX1 tyX1 tyX1_ok nmX1 1 (by decide) rfl rfl rfl (ty := .array .int) (by decide +kernel) rfl rfl (Nat.le_of_ble_eq_true rfl) rfl tw_33 dX1_init_9 ?_
  refine U_aload_n dX1_init_12 rfl 0 rfl ?_
  refine U_bipush (v := 12) dX1_init_13 kb_12 ?_
  refine U_newa (at0 := .int) (cA := G.2.2.1.1) (N := 12) (a0 := (12, .inl (fun _ => 0))) 0 rfl rfl (fun _ _ h => h) tw_61 (fun _ => rfl) (by decide) (by decide) (Nat.le_of_ble_eq_true rfl) ⟨Nat.le_of_ble_eq_true rfl, Nat.le_of_ble_eq_true rfl⟩ dX1_init_15 (fun qa2 => ?_)
  refine U_putF [(b, .inr (1, [.int 0, .ref qa1, .ref qa2, .null, .null, .null, .null])), (qa1, .inl (G.2.2.1.1, 12, .inl (fun _ => 0))), (qa2, .inl (G.2.2.1.1, 12, .inl (fun _ => 0)))] 0 rfl rfl iX1 tyX1 tyX1_ok nmX1 2 (by decide) rfl rfl rfl (ty := .array .int) (by decide +kernel) rfl rfl (Nat.le_of_ble_eq_true rfl) rfl tw_36 dX1_init_17 ?_
  refine U_aload_n dX1_init_20 rfl 0 rfl ?_
  refine U_bipush (v := 12) dX1_init_21 kb_12 ?_
  refine U_newa (at0 := .int) (cA := G.2.2.1.1) (N := 12) (a0 := (12, .inl (fun _ => 0))) 0 rfl rfl (fun _ _ h => h) tw_61 (fun _ => rfl) (by decide) (by decide) (Nat.le_of_ble_eq_true rfl) ⟨Nat.le_of_ble_eq_true rfl, Nat.le_of_ble_eq_true rfl⟩ dX1_init_23 (fun qa3 => ?_)
  refine U_putF [(b, .inr (1, [.int 0, .ref qa1, .ref qa2, .ref qa3, .null, .null, .null])), (qa1, .inl (G.2.2.1.1, 12, .inl (fun _ => 0))), (qa2, .inl (G.2.2.1.1, 12, .inl (fun _ => 0))), (qa3, .inl (G.2.2.1.1, 12, .inl (fun _ => 0)))] 0 rfl rfl iX1 tyX1 tyX1_ok nmX1 3 (by decide) rfl rfl rfl (ty := .array .int) (by decide +kernel) rfl rfl (Nat.le_of_ble_eq_true rfl) rfl tw_38 dX1_init_25 ?_
  refine U_aload_n dX1_init_28 rfl 0 rfl ?_
  refine U_bipush (v := 12) dX1_init_29 kb_12 ?_
  refine U_newa (at0 := .int) (cA := G.2.2.1.1) (N := 12) (a0 := (12, .inl (fun _ => 0))) 0 rfl rfl (fun _ _ h => h) tw_61 (fun _ => rfl) (by decide) (by decide) (Nat.le_of_ble_eq_true rfl) ⟨Nat.le_of_ble_eq_true rfl, Nat.le_of_ble_eq_true rfl⟩ dX1_init_31 (fun qa4 => ?_)
  refine U_putF [(b, .inr (1, [.int 0, .ref qa1, .ref qa2, .ref qa3, .ref qa4, .null, .null])), (qa1, .inl (G.2.2.1.1, 12, .inl (fun _ => 0))), (qa2, .inl (G.2.2.1.1, 12, .inl (fun _ => 0))), (qa3, .inl (G.2.2.1.1, 12, .inl (fun _ => 0))), (qa4, .inl (G.2.2.1.1, 12, .inl (fun _ => 0)))] 0 rfl rfl iX1 tyX1 tyX1_ok nmX1 4 (by decide) rfl rfl rfl (ty := .array .int) (by decide +kernel) rfl rfl (Nat.le_of_ble_eq_true rfl) rfl tw_40 dX1_init_33 ?_
  refine U_aload_n dX1_init_36 rfl 0 rfl ?_
  refine U_bipush (v := 12) dX1_init_37 kb_12 ?_
  refine U_newa (at0 := .int) (cA := G.2.2.1.1) (N := 12) (a0 := (12, .inl (fun _ => 0))) 0 rfl rfl (fun _ _ h => h) tw_61 (fun _ => rfl) (by decide) (by decide) (Nat.le_of_ble_eq_true rfl) ⟨Nat.le_of_ble_eq_true rfl, Nat.le_of_ble_eq_true rfl⟩ dX1_init_39 (fun qa5 => ?_)
  refine U_putF [(b, .inr (1, [.int 0, .ref qa1, .ref qa2, .ref qa3, .ref qa4, .ref qa5, .null])), (qa1, .inl (G.2.2.1.1, 12, .inl (fun _ => 0))), (qa2, .inl (G.2.2.1.1, 12, .inl (fun _ => 0))), (qa3, .inl (G.2.2.1.1, 12, .inl (fun _ => 0))), (qa4, .inl (G.2.2.1.1, 12, .inl (fun _ => 0))), (qa5, .inl (G.2.2.1.1, 12, .inl (fun _ => 0)))] 0 rfl rfl iX1 tyX1 tyX1_ok nmX1 5 (by decide) rfl rfl rfl (ty := .array .int) (by decide +kernel) rfl rfl (Nat.le_of_ble_eq_true rfl) rfl tw_43 dX1_init_41 ?_
  refine U_aload_n dX1_init_44 rfl 0 rfl ?_
  refine U_bipush (v := 12) dX1_init_45 kb_12 ?_
  refine U_newa (at0 := .int) (cA := G.2.2.1.1) (N := 12) (a0 := (12, .inl (fun _ => 0))) 0 rfl rfl (fun _ _ h => h) tw_61 (fun _ => rfl) (by decide) (by decide) (Nat.le_of_ble_eq_true rfl) ⟨Nat.le_of_ble_eq_true rfl, Nat.le_of_ble_eq_true rfl⟩ dX1_init_47 (fun qa6 => ?_)
  refine U_putF [(b, .inr (1, [.int 0, .ref qa1, .ref qa2, .ref qa3, .ref qa4, .ref qa5, .ref qa6])), (qa1, .inl (G.2.2.1.1, 12, .inl (fun _ => 0))), (qa2, .inl (G.2.2.1.1, 12, .inl (fun _ => 0))), (qa3, .inl (G.2.2.1.1, 12, .inl (fun _ => 0))), (qa4, .inl (G.2.2.1.1, 12, .inl (fun _ => 0))), (qa5, .inl (G.2.2.1.1, 12, .inl (fun _ => 0))), (qa6, .inl (G.2.2.1.1, 12, .inl (fun _ => 0)))] 0 rfl rfl iX1 tyX1 tyX1_ok nmX1 6 (by decide) rfl rfl rfl (ty := .array .int) (by decide +kernel) rfl rfl (Nat.le_of_ble_eq_true rfl) rfl tw_45 dX1_init_49 ?_
  exact U_ret (Nat.le_of_ble_eq_true rfl) (Nat.le_of_ble_eq_true rfl) rfl dX1_init_52 ⟨qa1, qa2, qa3, qa4, qa5, qa6, rfl⟩
set_option maxHeartbeats 4000000 in
theorem c_X2_init (G : GX) (b : Nat) : Ci G 1 2 24 mX2_init [.ref b] [(b, .inr (2, [.int 0, .null, .null]))] (fun w1 => ∃ qa1 qa2 : Nat, w1 = [(b, .inr (2, [.int 0, .ref qa1, .ref qa2])), (qa1, .inl (G.2.2.1.1, 12, .inl (fun _ => 0))), (qa2, .inl (G.2.2.1.2.2, 12, .inl (fun _ => 0)))]) := by
  refine Ci.intro (lv := [(0, .ref b)]) (by decide) (Nat.le_of_ble_eq_true rfl) rfl ?_
  refine U_aload_n dX2_init_0 rfl 0 rfl ?_
  refine U_obj tw_67 dX2_init_1 ⟨Nat.le_of_ble_eq_true rfl, Nat.le_of_ble_eq_true rfl⟩ ?_
  refine U_aload_n dX2_init_4 rfl 0 rfl ?_
  refine U_bipush (v := 12) dX2_init_5 kb_12 ?_
  refine U_newa (at0 := .int) (cA := G.2.2.1.1) (N := 12) (a0 := (12, .inl (fun _ => 0))) 0 rfl rfl (fun _ _ h => h) tw_61 (fun _ => rfl) (by decide) (by decide) (Nat.le_of_ble_eq_true rfl) ⟨Nat.le_of_ble_eq_true rfl, Nat.le_of_ble_eq_true rfl⟩ dX2_init_7 (fun qa1 => ?_)
  refine U_putF [(b, .inr (2, [.int 0, .ref qa1, .null])), (qa1, .inl (G.2.2.1.1, 12, .inl (fun _ => 0)))] 0 rfl rfl iX2 tyX2 tyX2_ok nmX2 1 (by decide) rfl rfl rfl (ty := .array .int) (by decide +kernel) rfl rfl (Nat.le_of_ble_eq_true rfl) rfl tw_71 dX2_init_9 ?_
  refine U_aload_n dX2_init_12 rfl 0 rfl ?_
  refine U_bipush (v := 12) dX2_init_13 kb_12 ?_
  refine U_newa (at0 := .boolean) (cA := G.2.2.1.2.2) (N := 12) (a0 := (12, .inl (fun _ => 0))) 2 rfl rfl (fun _ _ h => h) tw_84 (fun _ => rfl) (by decide) (by decide) (Nat.le_of_ble_eq_true rfl) ⟨Nat.le_of_ble_eq_true rfl, Nat.le_of_ble_eq_true rfl⟩ dX2_init_15 (fun qa2 => ?_)
  refine U_putF [(b, .inr (2, [.int 0, .ref qa1, .ref qa2])), (qa1, .inl (G.2.2.1.1, 12, .inl (fun _ => 0))), (qa2, .inl (G.2.2.1.2.2, 12, .inl (fun _ => 0)))] 0 rfl rfl iX2 tyX2 tyX2_ok nmX2 2 (by decide) rfl rfl rfl (ty := .array .boolean) (by decide +kernel) rfl rfl (Nat.le_of_ble_eq_true rfl) rfl tw_74 dX2_init_17 ?_
  exact U_ret (Nat.le_of_ble_eq_true rfl) (Nat.le_of_ble_eq_true rfl) rfl dX2_init_20 ⟨qa1, qa2, rfl⟩
set_option maxHeartbeats 4000000 in
theorem c_X4_init (G : GX) (b r0 r1 : Nat) : Ci G 1 4 635 mX4_init [.ref b, .ref r0, .ref r1] [(b, .inr (4, [.null, .null, .null, .int 0, .null, .null, .null, .long 0, .int 0, .long 0]))] (fun w1 => ∃ qa1 qa2 qa3 qa4 : Nat, w1 = [(b, .inr (4, [.ref r0, .ref r1, .ref qa1, .int 0, .ref qa2, .ref qa3, .ref qa4, .long 0, .int 0, .long 0])), (qa1, .inl (G.2.2.1.1, 5, .inl (upd (fun _ => 0) 2 1))), (qa2, .inl (G.2.2.1.1, 210, .inl (fun _ => 0))), (qa3, .inl (G.2.2.1.2.1, 210, .inr (.inl (fun _ => 0)))), (qa4, .inl (G.2.2.1.1, 210, .inl (fun _ => 0)))]) := by
  refine Ci.intro (lv := [(0, .ref b), (1, .ref r0), (2, .ref r1)]) (by decide) (Nat.le_of_ble_eq_true rfl) rfl ?_
  refine U_aload_n dX4_init_0 rfl 0 rfl ?_
  refine U_obj tw_90 dX4_init_1 ⟨Nat.le_of_ble_eq_true rfl, Nat.le_of_ble_eq_true rfl⟩ ?_
  refine U_aload_n dX4_init_4 rfl 0 rfl ?_
  refine U_iconst (v := 5) dX4_init_5 ki_5 ?_
  refine U_newa (at0 := .int) (cA := G.2.2.1.1) (N := 5) (a0 := (5, .inl (fun _ => 0))) 0 rfl rfl (fun _ _ h => h) tw_61 (fun _ => rfl) (by decide) (by decide) (Nat.le_of_ble_eq_true rfl) ⟨Nat.le_of_ble_eq_true rfl, Nat.le_of_ble_eq_true rfl⟩ dX4_init_6 (fun qa1 => ?_)
  refine U_putF [(b, .inr (4, [.null, .null, .ref qa1, .int 0, .null, .null, .null, .long 0, .int 0, .long 0])), (qa1, .inl (G.2.2.1.1, 5, .inl (fun _ => 0)))] 0 rfl rfl iX4 tyX4 tyX4_ok nmX4 2 (by decide) rfl rfl rfl (ty := .array .int) (by decide +kernel) rfl rfl (Nat.le_of_ble_eq_true rfl) rfl tw_93 dX4_init_8 ?_
  refine U_aload_n dX4_init_11 rfl 0 rfl ?_
  refine U_sipush (v := 210) dX4_init_12 ks_210 ?_
  refine U_newa (at0 := .int) (cA := G.2.2.1.1) (N := 210) (a0 := (210, .inl (fun _ => 0))) 0 rfl rfl (fun _ _ h => h) tw_61 (fun _ => rfl) (by decide) (by decide) (Nat.le_of_ble_eq_true rfl) ⟨Nat.le_of_ble_eq_true rfl, Nat.le_of_ble_eq_true rfl⟩ dX4_init_15 (fun qa2 => ?_)
  refine U_putF [(b, .inr (4, [.null, .null, .ref qa1, .int 0, .ref qa2, .null, .null, .long 0, .int 0, .long 0])), (qa1, .inl (G.2.2.1.1, 5, .inl (fun _ => 0))), (qa2, .inl (G.2.2.1.1, 210, .inl (fun _ => 0)))] 0 rfl rfl iX4 tyX4 tyX4_ok nmX4 4 (by decide) rfl rfl rfl (ty := .array .int) (by decide +kernel) rfl rfl (Nat.le_of_ble_eq_true rfl) rfl tw_96 dX4_init_17 ?_
  refine U_aload_n dX4_init_20 rfl 0 rfl ?_
  refine U_sipush (v := 210) dX4_init_21 ks_210 ?_
  refine U_newa (at0 := .long) (cA := G.2.2.1.2.1) (N := 210) (a0 := (210, .inr (.inl (fun _ => 0)))) 1 rfl rfl (fun _ _ h => h) tw_125 (fun _ => rfl) (by decide) (by decide) (Nat.le_of_ble_eq_true rfl) ⟨Nat.le_of_ble_eq_true rfl, Nat.le_of_ble_eq_true rfl⟩ dX4_init_24 (fun qa3 => ?_)
  refine U_putF [(b, .inr (4, [.null, .null, .ref qa1, .int 0, .ref qa2, .ref qa3, .null, .long 0, .int 0, .long 0])), (qa1, .inl (G.2.2.1.1, 5, .inl (fun _ => 0))), (qa2, .inl (G.2.2.1.1, 210, .inl (fun _ => 0))), (qa3, .inl (G.2.2.1.2.1, 210, .inr (.inl (fun _ => 0))))] 0 rfl rfl iX4 tyX4 tyX4_ok nmX4 5 (by decide) rfl rfl rfl (ty := .array .long) (by decide +kernel) rfl rfl (Nat.le_of_ble_eq_true rfl) rfl tw_97 dX4_init_26 ?_
  refine U_aload_n dX4_init_29 rfl 0 rfl ?_
  refine U_sipush (v := 210) dX4_init_30 ks_210 ?_
  refine U_newa (at0 := .int) (cA := G.2.2.1.1) (N := 210) (a0 := (210, .inl (fun _ => 0))) 0 rfl rfl (fun _ _ h => h) tw_61 (fun _ => rfl) (by decide) (by decide) (Nat.le_of_ble_eq_true rfl) ⟨Nat.le_of_ble_eq_true rfl, Nat.le_of_ble_eq_true rfl⟩ dX4_init_33 (fun qa4 => ?_)
  refine U_putF [(b, .inr (4, [.null, .null, .ref qa1, .int 0, .ref qa2, .ref qa3, .ref qa4, .long 0, .int 0, .long 0])), (qa1, .inl (G.2.2.1.1, 5, .inl (fun _ => 0))), (qa2, .inl (G.2.2.1.1, 210, .inl (fun _ => 0))), (qa3, .inl (G.2.2.1.2.1, 210, .inr (.inl (fun _ => 0)))), (qa4, .inl (G.2.2.1.1, 210, .inl (fun _ => 0)))] 0 rfl rfl iX4 tyX4 tyX4_ok nmX4 6 (by decide) rfl rfl rfl (ty := .array .int) (by decide +kernel) rfl rfl (Nat.le_of_ble_eq_true rfl) rfl tw_98 dX4_init_35 ?_
  refine U_aload_n dX4_init_38 rfl 0 rfl ?_
  refine U_aload_n dX4_init_39 rfl 1 rfl ?_
  refine U_putF [(b, .inr (4, [.ref r0, .null, .ref qa1, .int 0, .ref qa2, .ref qa3, .ref qa4, .long 0, .int 0, .long 0])), (qa1, .inl (G.2.2.1.1, 5, .inl (fun _ => 0))), (qa2, .inl (G.2.2.1.1, 210, .inl (fun _ => 0))), (qa3, .inl (G.2.2.1.2.1, 210, .inr (.inl (fun _ => 0)))), (qa4, .inl (G.2.2.1.1, 210, .inl (fun _ => 0)))] 0 rfl rfl iX4 tyX4 tyX4_ok nmX4 0 (by decide) rfl rfl rfl (ty := .object "BrokeWhere$History") (by decide +kernel) rfl rfl (Nat.le_of_ble_eq_true rfl) rfl tw_91 dX4_init_40 ?_
  refine U_aload_n dX4_init_43 rfl 0 rfl ?_
  refine U_aload_n dX4_init_44 rfl 2 rfl ?_
  refine U_putF [(b, .inr (4, [.ref r0, .ref r1, .ref qa1, .int 0, .ref qa2, .ref qa3, .ref qa4, .long 0, .int 0, .long 0])), (qa1, .inl (G.2.2.1.1, 5, .inl (fun _ => 0))), (qa2, .inl (G.2.2.1.1, 210, .inl (fun _ => 0))), (qa3, .inl (G.2.2.1.2.1, 210, .inr (.inl (fun _ => 0)))), (qa4, .inl (G.2.2.1.1, 210, .inl (fun _ => 0)))] 0 rfl rfl iX4 tyX4 tyX4_ok nmX4 1 (by decide) rfl rfl rfl (ty := .object "BrokeWhere$Log") (by decide +kernel) rfl rfl (Nat.le_of_ble_eq_true rfl) rfl tw_92 dX4_init_45 ?_
  refine U_aload_n dX4_init_48 rfl 0 rfl ?_
  refine U_get 0 rfl rfl iX4 2 (by decide) rfl tw_93 dX4_init_49 ?_
  refine U_iconst (v := 2) dX4_init_52 ki_2 ?_
  refine U_iconst (v := 1) dX4_init_53 ki_1 ?_
  refine U_iast [(b, .inr (4, [.ref r0, .ref r1, .ref qa1, .int 0, .ref qa2, .ref qa3, .ref qa4, .long 0, .int 0, .long 0])), (qa1, .inl (G.2.2.1.1, 5, .inl (upd (fun _ => 0) 2 1))), (qa2, .inl (G.2.2.1.1, 210, .inl (fun _ => 0))), (qa3, .inl (G.2.2.1.2.1, 210, .inr (.inl (fun _ => 0)))), (qa4, .inl (G.2.2.1.1, 210, .inl (fun _ => 0)))] 1 rfl (vp_in_nI (n := 2) (N := 5) (by decide) (by decide)) rfl dX4_init_54 ?_
  exact U_ret (Nat.le_of_ble_eq_true rfl) (Nat.le_of_ble_eq_true rfl) rfl dX4_init_55 ⟨qa1, qa2, qa3, qa4, rfl⟩
set_option maxHeartbeats 4000000 in
theorem c_X3_init_0 (G : GX) (b r0 : Nat) : Ci G 1 1 4096 mX3_init [.ref b, .ref r0, .int 0] [(b, .inr (3, [.null, .int 0, .null, .int 0]))] (fun w1 => ∃ qa1 : Nat, w1 = [(b, .inr (3, [.ref r0, .int 0, .ref qa1, .int 0])), (qa1, .inl (G.2.2.1.1, 4096, .inl (fun _ => 0)))]) := by
  refine Ci.intro (lv := [(0, .ref b), (1, .ref r0), (2, .int 0)]) (by decide) (Nat.le_of_ble_eq_true rfl) rfl ?_
  refine U_aload_n dX3_init_0 rfl 0 rfl ?_
  refine U_obj tw_131 dX3_init_1 ⟨Nat.le_of_ble_eq_true rfl, Nat.le_of_ble_eq_true rfl⟩ ?_
  refine U_aload_n dX3_init_4 rfl 0 rfl ?_
  refine U_sipush (v := 4096) dX3_init_5 ks_4096 ?_
  refine U_newa (at0 := .int) (cA := G.2.2.1.1) (N := 4096) (a0 := (4096, .inl (fun _ => 0))) 0 rfl rfl (fun _ _ h => h) tw_61 (fun _ => rfl) (by decide) (by decide) (Nat.le_of_ble_eq_true rfl) ⟨Nat.le_of_ble_eq_true rfl, Nat.le_of_ble_eq_true rfl⟩ dX3_init_8 (fun qa1 => ?_)
  refine U_putF [(b, .inr (3, [.null, .int 0, .ref qa1, .int 0])), (qa1, .inl (G.2.2.1.1, 4096, .inl (fun _ => 0)))] 0 rfl rfl iX3 tyX3 tyX3_ok nmX3 2 (by decide) rfl rfl rfl (ty := .array .int) (by decide +kernel) rfl rfl (Nat.le_of_ble_eq_true rfl) rfl tw_134 dX3_init_10 ?_
  refine U_aload_n dX3_init_13 rfl 0 rfl ?_
  refine U_aload_n dX3_init_14 rfl 1 rfl ?_
  refine U_putF [(b, .inr (3, [.ref r0, .int 0, .ref qa1, .int 0])), (qa1, .inl (G.2.2.1.1, 4096, .inl (fun _ => 0)))] 0 rfl rfl iX3 tyX3 tyX3_ok nmX3 0 (by decide) rfl rfl rfl (ty := .object "BrokeWhere$History") (by decide +kernel) rfl rfl (Nat.le_of_ble_eq_true rfl) rfl tw_132 dX3_init_15 ?_
  refine U_aload_n dX3_init_18 rfl 0 rfl ?_
  refine U_iload_n dX3_init_19 rfl 2 rfl ?_
  refine U_putF [(b, .inr (3, [.ref r0, .int 0, .ref qa1, .int 0])), (qa1, .inl (G.2.2.1.1, 4096, .inl (fun _ => 0)))] 0 rfl rfl iX3 tyX3 tyX3_ok nmX3 1 (by decide) rfl rfl rfl (ty := .boolean) (by decide +kernel) rfl rfl (Nat.le_of_ble_eq_true rfl) rfl tw_133 dX3_init_20 ?_
  exact U_ret (Nat.le_of_ble_eq_true rfl) (Nat.le_of_ble_eq_true rfl) rfl dX3_init_23 ⟨qa1, rfl⟩
set_option maxHeartbeats 4000000 in
theorem c_X3_init_1 (G : GX) (b r0 : Nat) : Ci G 1 1 4096 mX3_init [.ref b, .ref r0, .int 1] [(b, .inr (3, [.null, .int 0, .null, .int 0]))] (fun w1 => ∃ qa1 : Nat, w1 = [(b, .inr (3, [.ref r0, .int 1, .ref qa1, .int 0])), (qa1, .inl (G.2.2.1.1, 4096, .inl (fun _ => 0)))]) := by
  refine Ci.intro (lv := [(0, .ref b), (1, .ref r0), (2, .int 1)]) (by decide) (Nat.le_of_ble_eq_true rfl) rfl ?_
  refine U_aload_n dX3_init_0 rfl 0 rfl ?_
  refine U_obj tw_131 dX3_init_1 ⟨Nat.le_of_ble_eq_true rfl, Nat.le_of_ble_eq_true rfl⟩ ?_
  refine U_aload_n dX3_init_4 rfl 0 rfl ?_
  refine U_sipush (v := 4096) dX3_init_5 ks_4096 ?_
  refine U_newa (at0 := .int) (cA := G.2.2.1.1) (N := 4096) (a0 := (4096, .inl (fun _ => 0))) 0 rfl rfl (fun _ _ h => h) tw_61 (fun _ => rfl) (by decide) (by decide) (Nat.le_of_ble_eq_true rfl) ⟨Nat.le_of_ble_eq_true rfl, Nat.le_of_ble_eq_true rfl⟩ dX3_init_8 (fun qa1 => ?_)
  refine U_putF [(b, .inr (3, [.null, .int 0, .ref qa1, .int 0])), (qa1, .inl (G.2.2.1.1, 4096, .inl (fun _ => 0)))] 0 rfl rfl iX3 tyX3 tyX3_ok nmX3 2 (by decide) rfl rfl rfl (ty := .array .int) (by decide +kernel) rfl rfl (Nat.le_of_ble_eq_true rfl) rfl tw_134 dX3_init_10 ?_
  refine U_aload_n dX3_init_13 rfl 0 rfl ?_
  refine U_aload_n dX3_init_14 rfl 1 rfl ?_
  refine U_putF [(b, .inr (3, [.ref r0, .int 0, .ref qa1, .int 0])), (qa1, .inl (G.2.2.1.1, 4096, .inl (fun _ => 0)))] 0 rfl rfl iX3 tyX3 tyX3_ok nmX3 0 (by decide) rfl rfl rfl (ty := .object "BrokeWhere$History") (by decide +kernel) rfl rfl (Nat.le_of_ble_eq_true rfl) rfl tw_132 dX3_init_15 ?_
  refine U_aload_n dX3_init_18 rfl 0 rfl ?_
  refine U_iload_n dX3_init_19 rfl 2 rfl ?_
  refine U_putF [(b, .inr (3, [.ref r0, .int 1, .ref qa1, .int 0])), (qa1, .inl (G.2.2.1.1, 4096, .inl (fun _ => 0)))] 0 rfl rfl iX3 tyX3 tyX3_ok nmX3 1 (by decide) rfl rfl rfl (ty := .boolean) (by decide +kernel) rfl rfl (Nat.le_of_ble_eq_true rfl) rfl tw_133 dX3_init_20 ?_
  exact U_ret (Nat.le_of_ble_eq_true rfl) (Nat.le_of_ble_eq_true rfl) rfl dX3_init_23 ⟨qa1, rfl⟩
set_option maxHeartbeats 4000000 in
theorem c_X5_init (G : GX) (b : Nat) : Ci G 1 2 82 mX5_init [.ref b] [(b, .inr (5, [.int 0, .null, .null]))] (fun w1 => ∃ qa1 qa2 : Nat, w1 = [(b, .inr (5, [.int 0, .ref qa1, .ref qa2])), (qa1, .inl (G.2.2.1.1, 40, .inl (fun _ => 0))), (qa2, .inl (G.2.2.1.1, 42, .inl (fun _ => 0)))]) := by
  refine Ci.intro (lv := [(0, .ref b)]) (by decide) (Nat.le_of_ble_eq_true rfl) rfl ?_
  refine U_aload_n dX5_init_0 rfl 0 rfl ?_
  refine U_obj tw_151 dX5_init_1 ⟨Nat.le_of_ble_eq_true rfl, Nat.le_of_ble_eq_true rfl⟩ ?_
  refine U_aload_n dX5_init_4 rfl 0 rfl ?_
  refine U_bipush (v := 40) dX5_init_5 kb_40 ?_
  refine U_newa (at0 := .int) (cA := G.2.2.1.1) (N := 40) (a0 := (40, .inl (fun _ => 0))) 0 rfl rfl (fun _ _ h => h) tw_61 (fun _ => rfl) (by decide) (by decide) (Nat.le_of_ble_eq_true rfl) ⟨Nat.le_of_ble_eq_true rfl, Nat.le_of_ble_eq_true rfl⟩ dX5_init_7 (fun qa1 => ?_)
  refine U_putF [(b, .inr (5, [.int 0, .ref qa1, .null])), (qa1, .inl (G.2.2.1.1, 40, .inl (fun _ => 0)))] 0 rfl rfl iX5 tyX5 tyX5_ok nmX5 1 (by decide) rfl rfl rfl (ty := .array .int) (by decide +kernel) rfl rfl (Nat.le_of_ble_eq_true rfl) rfl tw_155 dX5_init_9 ?_
  refine U_aload_n dX5_init_12 rfl 0 rfl ?_
  refine U_bipush (v := 42) dX5_init_13 kb_42 ?_
  refine U_newa (at0 := .int) (cA := G.2.2.1.1) (N := 42) (a0 := (42, .inl (fun _ => 0))) 0 rfl rfl (fun _ _ h => h) tw_61 (fun _ => rfl) (by decide) (by decide) (Nat.le_of_ble_eq_true rfl) ⟨Nat.le_of_ble_eq_true rfl, Nat.le_of_ble_eq_true rfl⟩ dX5_init_15 (fun qa2 => ?_)
  refine U_putF [(b, .inr (5, [.int 0, .ref qa1, .ref qa2])), (qa1, .inl (G.2.2.1.1, 40, .inl (fun _ => 0))), (qa2, .inl (G.2.2.1.1, 42, .inl (fun _ => 0)))] 0 rfl rfl iX5 tyX5 tyX5_ok nmX5 2 (by decide) rfl rfl rfl (ty := .array .int) (by decide +kernel) rfl rfl (Nat.le_of_ble_eq_true rfl) rfl tw_157 dX5_init_17 ?_
  exact U_ret (Nat.le_of_ble_eq_true rfl) (Nat.le_of_ble_eq_true rfl) rfl dX5_init_20 ⟨qa1, qa2, rfl⟩
set_option maxHeartbeats 4000000 in
theorem c_X6_init (G : GX) (b : Nat) : Ci G 1 2 104 mX6_init [.ref b] [(b, .inr (6, [.int 0, .null, .null]))] (fun w1 => ∃ qa1 qa2 : Nat, w1 = [(b, .inr (6, [.int 0, .ref qa1, .ref qa2])), (qa1, .inl (G.2.2.1.2.1, 64, .inr (.inl (fun _ => 0)))), (qa2, .inl (G.2.2.1.2.1, 40, .inr (.inl (fun _ => 0))))]) := by
  refine Ci.intro (lv := [(0, .ref b)]) (by decide) (Nat.le_of_ble_eq_true rfl) rfl ?_
  refine U_aload_n dX6_init_0 rfl 0 rfl ?_
  refine U_obj tw_170 dX6_init_1 ⟨Nat.le_of_ble_eq_true rfl, Nat.le_of_ble_eq_true rfl⟩ ?_
  refine U_aload_n dX6_init_4 rfl 0 rfl ?_
  refine U_bipush (v := 64) dX6_init_5 kb_64 ?_
  refine U_newa (at0 := .long) (cA := G.2.2.1.2.1) (N := 64) (a0 := (64, .inr (.inl (fun _ => 0)))) 1 rfl rfl (fun _ _ h => h) tw_125 (fun _ => rfl) (by decide) (by decide) (Nat.le_of_ble_eq_true rfl) ⟨Nat.le_of_ble_eq_true rfl, Nat.le_of_ble_eq_true rfl⟩ dX6_init_7 (fun qa1 => ?_)
  refine U_putF [(b, .inr (6, [.int 0, .ref qa1, .null])), (qa1, .inl (G.2.2.1.2.1, 64, .inr (.inl (fun _ => 0))))] 0 rfl rfl iX6 tyX6 tyX6_ok nmX6 1 (by decide) rfl rfl rfl (ty := .array .long) (by decide +kernel) rfl rfl (Nat.le_of_ble_eq_true rfl) rfl tw_173 dX6_init_9 ?_
  refine U_aload_n dX6_init_12 rfl 0 rfl ?_
  refine U_bipush (v := 40) dX6_init_13 kb_40 ?_
  refine U_newa (at0 := .long) (cA := G.2.2.1.2.1) (N := 40) (a0 := (40, .inr (.inl (fun _ => 0)))) 1 rfl rfl (fun _ _ h => h) tw_125 (fun _ => rfl) (by decide) (by decide) (Nat.le_of_ble_eq_true rfl) ⟨Nat.le_of_ble_eq_true rfl, Nat.le_of_ble_eq_true rfl⟩ dX6_init_15 (fun qa2 => ?_)
  refine U_putF [(b, .inr (6, [.int 0, .ref qa1, .ref qa2])), (qa1, .inl (G.2.2.1.2.1, 64, .inr (.inl (fun _ => 0)))), (qa2, .inl (G.2.2.1.2.1, 40, .inr (.inl (fun _ => 0))))] 0 rfl rfl iX6 tyX6 tyX6_ok nmX6 2 (by decide) rfl rfl rfl (ty := .array .long) (by decide +kernel) rfl rfl (Nat.le_of_ble_eq_true rfl) rfl tw_176 dX6_init_17 ?_
  exact U_ret (Nat.le_of_ble_eq_true rfl) (Nat.le_of_ble_eq_true rfl) rfl dX6_init_20 ⟨qa1, qa2, rfl⟩
set_option maxHeartbeats 4000000 in
theorem c_X0_init (G : GX) (b r0 r1 : Nat) : Ci G 1 2 128 mX0_init [.ref b, .ref r0, .ref r1] [(b, .inr (0, [.null, .null, .null, .null]))] (fun w1 => ∃ qa1 qa2 : Nat, w1 = [(b, .inr (0, [.ref r0, .ref r1, .ref qa1, .ref qa2])), (qa1, .inl (G.2.2.1.2.1, 64, .inr (.inl (fun _ => 0)))), (qa2, .inl (G.2.2.1.2.1, 64, .inr (.inl (fun _ => 0))))]) := by
  refine Ci.intro (lv := [(0, .ref b), (1, .ref r0), (2, .ref r1)]) (by decide) (Nat.le_of_ble_eq_true rfl) rfl ?_
  refine U_aload_n dX0_init_0 rfl 0 rfl ?_
  refine U_obj tw_189 dX0_init_1 ⟨Nat.le_of_ble_eq_true rfl, Nat.le_of_ble_eq_true rfl⟩ ?_
  refine U_aload_n dX0_init_4 rfl 0 rfl ?_
  refine U_bipush (v := 64) dX0_init_5 kb_64 ?_
  refine U_newa (at0 := .long) (cA := G.2.2.1.2.1) (N := 64) (a0 := (64, .inr (.inl (fun _ => 0)))) 1 rfl rfl (fun _ _ h => h) tw_125 (fun _ => rfl) (by decide) (by decide) (Nat.le_of_ble_eq_true rfl) ⟨Nat.le_of_ble_eq_true rfl, Nat.le_of_ble_eq_true rfl⟩ dX0_init_7 (fun qa1 => ?_)
  refine U_putF [(b, .inr (0, [.null, .null, .ref qa1, .null])), (qa1, .inl (G.2.2.1.2.1, 64, .inr (.inl (fun _ => 0))))] 0 rfl rfl iX0 tyX0 tyX0_ok nmX0 2 (by decide) rfl rfl rfl (ty := .array .long) (by decide +kernel) rfl rfl (Nat.le_of_ble_eq_true rfl) rfl tw_192 dX0_init_9 ?_
  refine U_aload_n dX0_init_12 rfl 0 rfl ?_
  refine U_bipush (v := 64) dX0_init_13 kb_64 ?_
  refine U_newa (at0 := .long) (cA := G.2.2.1.2.1) (N := 64) (a0 := (64, .inr (.inl (fun _ => 0)))) 1 rfl rfl (fun _ _ h => h) tw_125 (fun _ => rfl) (by decide) (by decide) (Nat.le_of_ble_eq_true rfl) ⟨Nat.le_of_ble_eq_true rfl, Nat.le_of_ble_eq_true rfl⟩ dX0_init_15 (fun qa2 => ?_)
  refine U_putF [(b, .inr (0, [.null, .null, .ref qa1, .ref qa2])), (qa1, .inl (G.2.2.1.2.1, 64, .inr (.inl (fun _ => 0)))), (qa2, .inl (G.2.2.1.2.1, 64, .inr (.inl (fun _ => 0))))] 0 rfl rfl iX0 tyX0 tyX0_ok nmX0 3 (by decide) rfl rfl rfl (ty := .array .long) (by decide +kernel) rfl rfl (Nat.le_of_ble_eq_true rfl) rfl tw_193 dX0_init_17 ?_
  refine U_aload_n dX0_init_20 rfl 0 rfl ?_
  refine U_aload_n dX0_init_21 rfl 1 rfl ?_
  refine U_putF [(b, .inr (0, [.ref r0, .null, .ref qa1, .ref qa2])), (qa1, .inl (G.2.2.1.2.1, 64, .inr (.inl (fun _ => 0)))), (qa2, .inl (G.2.2.1.2.1, 64, .inr (.inl (fun _ => 0))))] 0 rfl rfl iX0 tyX0 tyX0_ok nmX0 0 (by decide) rfl rfl rfl (ty := .object "BrokeWhere$History") (by decide +kernel) rfl rfl (Nat.le_of_ble_eq_true rfl) rfl tw_190 dX0_init_22 ?_
  refine U_aload_n dX0_init_25 rfl 0 rfl ?_
  refine U_aload_n dX0_init_26 rfl 2 rfl ?_
  refine U_putF [(b, .inr (0, [.ref r0, .ref r1, .ref qa1, .ref qa2])), (qa1, .inl (G.2.2.1.2.1, 64, .inr (.inl (fun _ => 0)))), (qa2, .inl (G.2.2.1.2.1, 64, .inr (.inl (fun _ => 0))))] 0 rfl rfl iX0 tyX0 tyX0_ok nmX0 1 (by decide) rfl rfl rfl (ty := .object "BrokeWhere$Truth") (by decide +kernel) rfl rfl (Nat.le_of_ble_eq_true rfl) rfl tw_191 dX0_init_27 ?_
  exact U_ret (Nat.le_of_ble_eq_true rfl) (Nat.le_of_ble_eq_true rfl) rfl dX0_init_30 ⟨qa1, qa2, rfl⟩
set_option maxHeartbeats 4000000 in
theorem c_X8_init (G : GX) (b : Nat) : Ci G 1 21 21540 mX8_init [.ref b] [(b, .inr (8, [.int 0, .null, .null, .null, .null, .null, .int 0, .null, .null, .null, .int 0, .null, .int 0, .null, .int 0, .null, .null, .null, .null, .long 0, .int 0, .null, .null, .null, .null, .null, .null, .null]))] (fun w1 => ∃ qa1 qa2 qa3 qa4 qa5 qa6 qa7 qa8 qa9 qa10 qa11 qa12 qa13 qa14 qa15 qa16 qa17 qa18 qa19 qa20 qa21 : Nat, w1 = [(b, .inr (8, [.int 0, .ref qa1, .ref qa2, .ref qa3, .ref qa4, .ref qa5, .int 0, .ref qa6, .ref qa7, .ref qa8, .int 0, .ref qa9, .int 0, .ref qa10, .int 0, .ref qa11, .ref qa12, .ref qa13, .ref qa14, .long 0, .int 0, .ref qa15, .ref qa16, .ref qa17, .ref qa18, .ref qa19, .ref qa20, .ref qa21])), (qa1, .inl (G.2.2.1.1, 12, .inl (fun _ => 0))), (qa2, .inl (G.2.2.1.1, 12, .inl (fun _ => 0))), (qa3, .inl (G.2.2.1.1, 12, .inl (fun _ => 0))), (qa4, .inl (G.2.2.1.1, 12, .inl (fun _ => 0))), (qa5, .inl (G.2.2.1.2.2, 12, .inl (fun _ => 0))), (qa6, .inl (G.2.2.1.1, 12, .inl (fun _ => 0))), (qa7, .inl (G.2.2.1.2.2, 12, .inl (fun _ => 0))), (qa8, .inl (G.2.2.1.1, 5, .inl (upd (fun _ => 0) 2 1))), (qa9, .inl (G.2.2.1.1, 40, .inl (fun _ => 0))), (qa10, .inl (G.2.2.1.1, 40, .inl (fun _ => 0))), (qa11, .inl (G.2.2.1.1, 210, .inl (fun _ => 0))), (qa12, .inl (G.2.2.1.1, 210, .inl (fun _ => 0))), (qa13, .inl (G.2.2.1.1, 210, .inl (fun _ => 0))), (qa14, .inl (G.2.2.1.2.1, 210, .inr (.inl (fun _ => 0)))), (qa15, .inl (G.2.2.1.1, 4096, .inl (fun _ => 0))), (qa16, .inl (G.2.2.1.1, 4096, .inl (fun _ => 0))), (qa17, .inl (G.2.2.1.1, 4096, .inl (fun _ => 0))), (qa18, .inl (G.2.2.1.1, 4096, .inl (fun _ => 0))), (qa19, .inl (G.2.2.1.1, 10, .inl (fun _ => 0))), (qa20, .inl (G.2.2.1.2.2, 41, .inl (fun _ => 0))), (qa21, .inl (G.2.2.1.2.2, 4096, .inl (fun _ => 0)))]) := by
  refine Ci.intro (lv := [(0, .ref b)]) (by decide) (Nat.le_of_ble_eq_true rfl) rfl ?_
  refine U_aload_n dX8_init_0 rfl 0 rfl ?_
  refine U_obj tw_627 dX8_init_1 ⟨Nat.le_of_ble_eq_true rfl, Nat.le_of_ble_eq_true rfl⟩ ?_
  refine U_aload_n dX8_init_4 rfl 0 rfl ?_
  refine U_bipush (v := 12) dX8_init_5 kb_12 ?_
  refine U_newa (at0 := .int) (cA := G.2.2.1.1) (N := 12) (a0 := (12, .inl (fun _ => 0))) 0 rfl rfl (fun _ _ h => h) tw_61 (fun _ => rfl) (by decide) (by decide) (Nat.le_of_ble_eq_true rfl) ⟨Nat.le_of_ble_eq_true rfl, Nat.le_of_ble_eq_true rfl⟩ dX8_init_7 (fun qa1 => ?_)
  refine U_putF [(b, .inr (8, [.int 0, .ref qa1, .null, .null, .null, .null, .int 0, .null, .null, .null, .int 0, .null, .int 0, .null, .int 0, .null, .null, .null, .null, .long 0, .int 0, .null, .null, .null, .null, .null, .null, .null])), (qa1, .inl (G.2.2.1.1, 12, .inl (fun _ => 0)))] 0 rfl rfl iX8 tyX8 tyX8_ok nmX8 1 (by decide) rfl rfl rfl (ty := .array .int) (by decide +kernel) rfl rfl (Nat.le_of_ble_eq_true rfl) rfl tw_629 dX8_init_9 ?_
  refine U_aload_n dX8_init_12 rfl 0 rfl ?_
  refine U_bipush (v := 12) dX8_init_13 kb_12 ?_
  refine U_newa (at0 := .int) (cA := G.2.2.1.1) (N := 12) (a0 := (12, .inl (fun _ => 0))) 0 rfl rfl (fun _ _ h => h) tw_61 (fun _ => rfl) (by decide) (by decide) (Nat.le_of_ble_eq_true rfl) ⟨Nat.le_of_ble_eq_true rfl, Nat.le_of_ble_eq_true rfl⟩ dX8_init_15 (fun qa2 => ?_)
  refine U_putF [(b, .inr (8, [.int 0, .ref qa1, .ref qa2, .null, .null, .null, .int 0, .null, .null, .null, .int 0, .null, .int 0, .null, .int 0, .null, .null, .null, .null, .long 0, .int 0, .null, .null, .null, .null, .null, .null, .null])), (qa1, .inl (G.2.2.1.1, 12, .inl (fun _ => 0))), (qa2, .inl (G.2.2.1.1, 12, .inl (fun _ => 0)))] 0 rfl rfl iX8 tyX8 tyX8_ok nmX8 2 (by decide) rfl rfl rfl (ty := .array .int) (by decide +kernel) rfl rfl (Nat.le_of_ble_eq_true rfl) rfl tw_630 dX8_init_17 ?_
  refine U_aload_n dX8_init_20 rfl 0 rfl ?_
  refine U_bipush (v := 12) dX8_init_21 kb_12 ?_
  refine U_newa (at0 := .int) (cA := G.2.2.1.1) (N := 12) (a0 := (12, .inl (fun _ => 0))) 0 rfl rfl (fun _ _ h => h) tw_61 (fun _ => rfl) (by decide) (by decide) (Nat.le_of_ble_eq_true rfl) ⟨Nat.le_of_ble_eq_true rfl, Nat.le_of_ble_eq_true rfl⟩ dX8_init_23 (fun qa3 => ?_)
  refine U_putF [(b, .inr (8, [.int 0, .ref qa1, .ref qa2, .ref qa3, .null, .null, .int 0, .null, .null, .null, .int 0, .null, .int 0, .null, .int 0, .null, .null, .null, .null, .long 0, .int 0, .null, .null, .null, .null, .null, .null, .null])), (qa1, .inl (G.2.2.1.1, 12, .inl (fun _ => 0))), (qa2, .inl (G.2.2.1.1, 12, .inl (fun _ => 0))), (qa3, .inl (G.2.2.1.1, 12, .inl (fun _ => 0)))] 0 rfl rfl iX8 tyX8 tyX8_ok nmX8 3 (by decide) rfl rfl rfl (ty := .array .int) (by decide +kernel) rfl rfl (Nat.le_of_ble_eq_true rfl) rfl tw_631 dX8_init_25 ?_
  refine U_aload_n dX8_init_28 rfl 0 rfl ?_
  refine U_bipush (v := 12) dX8_init_29 kb_12 ?_
  refine U_newa (at0 := .int) (cA := G.2.2.1.1) (N := 12) (a0 := (12, .inl (fun _ => 0))) 0 rfl rfl (fun _ _ h => h) tw_61 (fun _ => rfl) (by decide) (by decide) (Nat.le_of_ble_eq_true rfl) ⟨Nat.le_of_ble_eq_true rfl, Nat.le_of_ble_eq_true rfl⟩ dX8_init_31 (fun qa4 => ?_)
  refine U_putF [(b, .inr (8, [.int 0, .ref qa1, .ref qa2, .ref qa3, .ref qa4, .null, .int 0, .null, .null, .null, .int 0, .null, .int 0, .null, .int 0, .null, .null, .null, .null, .long 0, .int 0, .null, .null, .null, .null, .null, .null, .null])), (qa1, .inl (G.2.2.1.1, 12, .inl (fun _ => 0))), (qa2, .inl (G.2.2.1.1, 12, .inl (fun _ => 0))), (qa3, .inl (G.2.2.1.1, 12, .inl (fun _ => 0))), (qa4, .inl (G.2.2.1.1, 12, .inl (fun _ => 0)))] 0 rfl rfl iX8 tyX8 tyX8_ok nmX8 4 (by decide) rfl rfl rfl (ty := .array .int) (by decide +kernel) rfl rfl (Nat.le_of_ble_eq_true rfl) rfl tw_632 dX8_init_33 ?_
  refine U_aload_n dX8_init_36 rfl 0 rfl ?_
  refine U_bipush (v := 12) dX8_init_37 kb_12 ?_
  refine U_newa (at0 := .boolean) (cA := G.2.2.1.2.2) (N := 12) (a0 := (12, .inl (fun _ => 0))) 2 rfl rfl (fun _ _ h => h) tw_84 (fun _ => rfl) (by decide) (by decide) (Nat.le_of_ble_eq_true rfl) ⟨Nat.le_of_ble_eq_true rfl, Nat.le_of_ble_eq_true rfl⟩ dX8_init_39 (fun qa5 => ?_)
  refine U_putF [(b, .inr (8, [.int 0, .ref qa1, .ref qa2, .ref qa3, .ref qa4, .ref qa5, .int 0, .null, .null, .null, .int 0, .null, .int 0, .null, .int 0, .null, .null, .null, .null, .long 0, .int 0, .null, .null, .null, .null, .null, .null, .null])), (qa1, .inl (G.2.2.1.1, 12, .inl (fun _ => 0))), (qa2, .inl (G.2.2.1.1, 12, .inl (fun _ => 0))), (qa3, .inl (G.2.2.1.1, 12, .inl (fun _ => 0))), (qa4, .inl (G.2.2.1.1, 12, .inl (fun _ => 0))), (qa5, .inl (G.2.2.1.2.2, 12, .inl (fun _ => 0)))] 0 rfl rfl iX8 tyX8 tyX8_ok nmX8 5 (by decide) rfl rfl rfl (ty := .array .boolean) (by decide +kernel) rfl rfl (Nat.le_of_ble_eq_true rfl) rfl tw_633 dX8_init_41 ?_
  refine U_aload_n dX8_init_44 rfl 0 rfl ?_
  refine U_bipush (v := 12) dX8_init_45 kb_12 ?_
  refine U_newa (at0 := .int) (cA := G.2.2.1.1) (N := 12) (a0 := (12, .inl (fun _ => 0))) 0 rfl rfl (fun _ _ h => h) tw_61 (fun _ => rfl) (by decide) (by decide) (Nat.le_of_ble_eq_true rfl) ⟨Nat.le_of_ble_eq_true rfl, Nat.le_of_ble_eq_true rfl⟩ dX8_init_47 (fun qa6 => ?_)
  refine U_putF [(b, .inr (8, [.int 0, .ref qa1, .ref qa2, .ref qa3, .ref qa4, .ref qa5, .int 0, .ref qa6, .null, .null, .int 0, .null, .int 0, .null, .int 0, .null, .null, .null, .null, .long 0, .int 0, .null, .null, .null, .null, .null, .null, .null])), (qa1, .inl (G.2.2.1.1, 12, .inl (fun _ => 0))), (qa2, .inl (G.2.2.1.1, 12, .inl (fun _ => 0))), (qa3, .inl (G.2.2.1.1, 12, .inl (fun _ => 0))), (qa4, .inl (G.2.2.1.1, 12, .inl (fun _ => 0))), (qa5, .inl (G.2.2.1.2.2, 12, .inl (fun _ => 0))), (qa6, .inl (G.2.2.1.1, 12, .inl (fun _ => 0)))] 0 rfl rfl iX8 tyX8 tyX8_ok nmX8 7 (by decide) rfl rfl rfl (ty := .array .int) (by decide +kernel) rfl rfl (Nat.le_of_ble_eq_true rfl) rfl tw_635 dX8_init_49 ?_
  refine U_aload_n dX8_init_52 rfl 0 rfl ?_
  refine U_bipush (v := 12) dX8_init_53 kb_12 ?_
  refine U_newa (at0 := .boolean) (cA := G.2.2.1.2.2) (N := 12) (a0 := (12, .inl (fun _ => 0))) 2 rfl rfl (fun _ _ h => h) tw_84 (fun _ => rfl) (by decide) (by decide) (Nat.le_of_ble_eq_true rfl) ⟨Nat.le_of_ble_eq_true rfl, Nat.le_of_ble_eq_true rfl⟩ dX8_init_55 (fun qa7 => ?_)
  refine U_putF [(b, .inr (8, [.int 0, .ref qa1, .ref qa2, .ref qa3, .ref qa4, .ref qa5, .int 0, .ref qa6, .ref qa7, .null, .int 0, .null, .int 0, .null, .int 0, .null, .null, .null, .null, .long 0, .int 0, .null, .null, .null, .null, .null, .null, .null])), (qa1, .inl (G.2.2.1.1, 12, .inl (fun _ => 0))), (qa2, .inl (G.2.2.1.1, 12, .inl (fun _ => 0))), (qa3, .inl (G.2.2.1.1, 12, .inl (fun _ => 0))), (qa4, .inl (G.2.2.1.1, 12, .inl (fun _ => 0))), (qa5, .inl (G.2.2.1.2.2, 12, .inl (fun _ => 0))), (qa6, .inl (G.2.2.1.1, 12, .inl (fun _ => 0))), (qa7, .inl (G.2.2.1.2.2, 12, .inl (fun _ => 0)))] 0 rfl rfl iX8 tyX8 tyX8_ok nmX8 8 (by decide) rfl rfl rfl (ty := .array .boolean) (by decide +kernel) rfl rfl (Nat.le_of_ble_eq_true rfl) rfl tw_636 dX8_init_57 ?_
  refine U_aload_n dX8_init_60 rfl 0 rfl ?_
  refine U_iconst (v := 5) dX8_init_61 ki_5 ?_
  refine U_newa (at0 := .int) (cA := G.2.2.1.1) (N := 5) (a0 := (5, .inl (fun _ => 0))) 0 rfl rfl (fun _ _ h => h) tw_61 (fun _ => rfl) (by decide) (by decide) (Nat.le_of_ble_eq_true rfl) ⟨Nat.le_of_ble_eq_true rfl, Nat.le_of_ble_eq_true rfl⟩ dX8_init_62 (fun qa8 => ?_)
  refine U_putF [(b, .inr (8, [.int 0, .ref qa1, .ref qa2, .ref qa3, .ref qa4, .ref qa5, .int 0, .ref qa6, .ref qa7, .ref qa8, .int 0, .null, .int 0, .null, .int 0, .null, .null, .null, .null, .long 0, .int 0, .null, .null, .null, .null, .null, .null, .null])), (qa1, .inl (G.2.2.1.1, 12, .inl (fun _ => 0))), (qa2, .inl (G.2.2.1.1, 12, .inl (fun _ => 0))), (qa3, .inl (G.2.2.1.1, 12, .inl (fun _ => 0))), (qa4, .inl (G.2.2.1.1, 12, .inl (fun _ => 0))), (qa5, .inl (G.2.2.1.2.2, 12, .inl (fun _ => 0))), (qa6, .inl (G.2.2.1.1, 12, .inl (fun _ => 0))), (qa7, .inl (G.2.2.1.2.2, 12, .inl (fun _ => 0))), (qa8, .inl (G.2.2.1.1, 5, .inl (fun _ => 0)))] 0 rfl rfl iX8 tyX8 tyX8_ok nmX8 9 (by decide) rfl rfl rfl (ty := .array .int) (by decide +kernel) rfl rfl (Nat.le_of_ble_eq_true rfl) rfl tw_637 dX8_init_64 ?_
  refine U_aload_n dX8_init_67 rfl 0 rfl ?_
  refine U_bipush (v := 40) dX8_init_68 kb_40 ?_
  refine U_newa (at0 := .int) (cA := G.2.2.1.1) (N := 40) (a0 := (40, .inl (fun _ => 0))) 0 rfl rfl (fun _ _ h => h) tw_61 (fun _ => rfl) (by decide) (by decide) (Nat.le_of_ble_eq_true rfl) ⟨Nat.le_of_ble_eq_true rfl, Nat.le_of_ble_eq_true rfl⟩ dX8_init_70 (fun qa9 => ?_)
  refine U_putF [(b, .inr (8, [.int 0, .ref qa1, .ref qa2, .ref qa3, .ref qa4, .ref qa5, .int 0, .ref qa6, .ref qa7, .ref qa8, .int 0, .ref qa9, .int 0, .null, .int 0, .null, .null, .null, .null, .long 0, .int 0, .null, .null, .null, .null, .null, .null, .null])), (qa1, .inl (G.2.2.1.1, 12, .inl (fun _ => 0))), (qa2, .inl (G.2.2.1.1, 12, .inl (fun _ => 0))), (qa3, .inl (G.2.2.1.1, 12, .inl (fun _ => 0))), (qa4, .inl (G.2.2.1.1, 12, .inl (fun _ => 0))), (qa5, .inl (G.2.2.1.2.2, 12, .inl (fun _ => 0))), (qa6, .inl (G.2.2.1.1, 12, .inl (fun _ => 0))), (qa7, .inl (G.2.2.1.2.2, 12, .inl (fun _ => 0))), (qa8, .inl (G.2.2.1.1, 5, .inl (fun _ => 0))), (qa9, .inl (G.2.2.1.1, 40, .inl (fun _ => 0)))] 0 rfl rfl iX8 tyX8 tyX8_ok nmX8 11 (by decide) rfl rfl rfl (ty := .array .int) (by decide +kernel) rfl rfl (Nat.le_of_ble_eq_true rfl) rfl tw_639 dX8_init_72 ?_
  refine U_aload_n dX8_init_75 rfl 0 rfl ?_
  refine U_bipush (v := 40) dX8_init_76 kb_40 ?_
  refine U_newa (at0 := .int) (cA := G.2.2.1.1) (N := 40) (a0 := (40, .inl (fun _ => 0))) 0 rfl rfl (fun _ _ h => h) tw_61 (fun _ => rfl) (by decide) (by decide) (Nat.le_of_ble_eq_true rfl) ⟨Nat.le_of_ble_eq_true rfl, Nat.le_of_ble_eq_true rfl⟩ dX8_init_78 (fun qa10 => ?_)
  refine U_putF [(b, .inr (8, [.int 0, .ref qa1, .ref qa2, .ref qa3, .ref qa4, .ref qa5, .int 0, .ref qa6, .ref qa7, .ref qa8, .int 0, .ref qa9, .int 0, .ref qa10, .int 0, .null, .null, .null, .null, .long 0, .int 0, .null, .null, .null, .null, .null, .null, .null])), (qa1, .inl (G.2.2.1.1, 12, .inl (fun _ => 0))), (qa2, .inl (G.2.2.1.1, 12, .inl (fun _ => 0))), (qa3, .inl (G.2.2.1.1, 12, .inl (fun _ => 0))), (qa4, .inl (G.2.2.1.1, 12, .inl (fun _ => 0))), (qa5, .inl (G.2.2.1.2.2, 12, .inl (fun _ => 0))), (qa6, .inl (G.2.2.1.1, 12, .inl (fun _ => 0))), (qa7, .inl (G.2.2.1.2.2, 12, .inl (fun _ => 0))), (qa8, .inl (G.2.2.1.1, 5, .inl (fun _ => 0))), (qa9, .inl (G.2.2.1.1, 40, .inl (fun _ => 0))), (qa10, .inl (G.2.2.1.1, 40, .inl (fun _ => 0)))] 0 rfl rfl iX8 tyX8 tyX8_ok nmX8 13 (by decide) rfl rfl rfl (ty := .array .int) (by decide +kernel) rfl rfl (Nat.le_of_ble_eq_true rfl) rfl tw_641 dX8_init_80 ?_
  refine U_aload_n dX8_init_83 rfl 0 rfl ?_
  refine U_sipush (v := 210) dX8_init_84 ks_210 ?_
  refine U_newa (at0 := .int) (cA := G.2.2.1.1) (N := 210) (a0 := (210, .inl (fun _ => 0))) 0 rfl rfl (fun _ _ h => h) tw_61 (fun _ => rfl) (by decide) (by decide) (Nat.le_of_ble_eq_true rfl) ⟨Nat.le_of_ble_eq_true rfl, Nat.le_of_ble_eq_true rfl⟩ dX8_init_87 (fun qa11 => ?_)
  refine U_putF [(b, .inr (8, [.int 0, .ref qa1, .ref qa2, .ref qa3, .ref qa4, .ref qa5, .int 0, .ref qa6, .ref qa7, .ref qa8, .int 0, .ref qa9, .int 0, .ref qa10, .int 0, .ref qa11, .null, .null, .null, .long 0, .int 0, .null, .null, .null, .null, .null, .null, .null])), (qa1, .inl (G.2.2.1.1, 12, .inl (fun _ => 0))), (qa2, .inl (G.2.2.1.1, 12, .inl (fun _ => 0))), (qa3, .inl (G.2.2.1.1, 12, .inl (fun _ => 0))), (qa4, .inl (G.2.2.1.1, 12, .inl (fun _ => 0))), (qa5, .inl (G.2.2.1.2.2, 12, .inl (fun _ => 0))), (qa6, .inl (G.2.2.1.1, 12, .inl (fun _ => 0))), (qa7, .inl (G.2.2.1.2.2, 12, .inl (fun _ => 0))), (qa8, .inl (G.2.2.1.1, 5, .inl (fun _ => 0))), (qa9, .inl (G.2.2.1.1, 40, .inl (fun _ => 0))), (qa10, .inl (G.2.2.1.1, 40, .inl (fun _ => 0))), (qa11, .inl (G.2.2.1.1, 210, .inl (fun _ => 0)))] 0 rfl rfl iX8 tyX8 tyX8_ok nmX8 15 (by decide) rfl rfl rfl (ty := .array .int) (by decide +kernel) rfl rfl (Nat.le_of_ble_eq_true rfl) rfl tw_643 dX8_init_89 ?_
  refine U_aload_n dX8_init_92 rfl 0 rfl ?_
  refine U_sipush (v := 210) dX8_init_93 ks_210 ?_
  refine U_newa (at0 := .int) (cA := G.2.2.1.1) (N := 210) (a0 := (210, .inl (fun _ => 0))) 0 rfl rfl (fun _ _ h => h) tw_61 (fun _ => rfl) (by decide) (by decide) (Nat.le_of_ble_eq_true rfl) ⟨Nat.le_of_ble_eq_true rfl, Nat.le_of_ble_eq_true rfl⟩ dX8_init_96 (fun qa12 => ?_)
  refine U_putF [(b, .inr (8, [.int 0, .ref qa1, .ref qa2, .ref qa3, .ref qa4, .ref qa5, .int 0, .ref qa6, .ref qa7, .ref qa8, .int 0, .ref qa9, .int 0, .ref qa10, .int 0, .ref qa11, .ref qa12, .null, .null, .long 0, .int 0, .null, .null, .null, .null, .null, .null, .null])), (qa1, .inl (G.2.2.1.1, 12, .inl (fun _ => 0))), (qa2, .inl (G.2.2.1.1, 12, .inl (fun _ => 0))), (qa3, .inl (G.2.2.1.1, 12, .inl (fun _ => 0))), (qa4, .inl (G.2.2.1.1, 12, .inl (fun _ => 0))), (qa5, .inl (G.2.2.1.2.2, 12, .inl (fun _ => 0))), (qa6, .inl (G.2.2.1.1, 12, .inl (fun _ => 0))), (qa7, .inl (G.2.2.1.2.2, 12, .inl (fun _ => 0))), (qa8, .inl (G.2.2.1.1, 5, .inl (fun _ => 0))), (qa9, .inl (G.2.2.1.1, 40, .inl (fun _ => 0))), (qa10, .inl (G.2.2.1.1, 40, .inl (fun _ => 0))), (qa11, .inl (G.2.2.1.1, 210, .inl (fun _ => 0))), (qa12, .inl (G.2.2.1.1, 210, .inl (fun _ => 0)))] 0 rfl rfl iX8 tyX8 tyX8_ok nmX8 16 (by decide) rfl rfl rfl (ty := .array .int) (by decide +kernel) rfl rfl (Nat.le_of_ble_eq_true rfl) rfl tw_644 dX8_init_98 ?_
  refine U_aload_n dX8_init_101 rfl 0 rfl ?_
  refine U_sipush (v := 210) dX8_init_102 ks_210 ?_
  refine U_newa (at0 := .int) (cA := G.2.2.1.1) (N := 210) (a0 := (210, .inl (fun _ => 0))) 0 rfl rfl (fun _ _ h => h) tw_61 (fun _ => rfl) (by decide) (by decide) (Nat.le_of_ble_eq_true rfl) ⟨Nat.le_of_ble_eq_true rfl, Nat.le_of_ble_eq_true rfl⟩ dX8_init_105 (fun qa13 => ?_)
  refine U_putF [(b, .inr (8, [.int 0, .ref qa1, .ref qa2, .ref qa3, .ref qa4, .ref qa5, .int 0, .ref qa6, .ref qa7, .ref qa8, .int 0, .ref qa9, .int 0, .ref qa10, .int 0, .ref qa11, .ref qa12, .ref qa13, .null, .long 0, .int 0, .null, .null, .null, .null, .null, .null, .null])), (qa1, .inl (G.2.2.1.1, 12, .inl (fun _ => 0))), (qa2, .inl (G.2.2.1.1, 12, .inl (fun _ => 0))), (qa3, .inl (G.2.2.1.1, 12, .inl (fun _ => 0))), (qa4, .inl (G.2.2.1.1, 12, .inl (fun _ => 0))), (qa5, .inl (G.2.2.1.2.2, 12, .inl (fun _ => 0))), (qa6, .inl (G.2.2.1.1, 12, .inl (fun _ => 0))), (qa7, .inl (G.2.2.1.2.2, 12, .inl (fun _ => 0))), (qa8, .inl (G.2.2.1.1, 5, .inl (fun _ => 0))), (qa9, .inl (G.2.2.1.1, 40, .inl (fun _ => 0))), (qa10, .inl (G.2.2.1.1, 40, .inl (fun _ => 0))), (qa11, .inl (G.2.2.1.1, 210, .inl (fun _ => 0))), (qa12, .inl (G.2.2.1.1, 210, .inl (fun _ => 0))), (qa13, .inl (G.2.2.1.1, 210, .inl (fun _ => 0)))] 0 rfl rfl iX8 tyX8 tyX8_ok nmX8 17 (by decide) rfl rfl rfl (ty := .array .int) (by decide +kernel) rfl rfl (Nat.le_of_ble_eq_true rfl) rfl tw_645 dX8_init_107 ?_
  refine U_aload_n dX8_init_110 rfl 0 rfl ?_
  refine U_sipush (v := 210) dX8_init_111 ks_210 ?_
  refine U_newa (at0 := .long) (cA := G.2.2.1.2.1) (N := 210) (a0 := (210, .inr (.inl (fun _ => 0)))) 1 rfl rfl (fun _ _ h => h) tw_125 (fun _ => rfl) (by decide) (by decide) (Nat.le_of_ble_eq_true rfl) ⟨Nat.le_of_ble_eq_true rfl, Nat.le_of_ble_eq_true rfl⟩ dX8_init_114 (fun qa14 => ?_)
  refine U_putF [(b, .inr (8, [.int 0, .ref qa1, .ref qa2, .ref qa3, .ref qa4, .ref qa5, .int 0, .ref qa6, .ref qa7, .ref qa8, .int 0, .ref qa9, .int 0, .ref qa10, .int 0, .ref qa11, .ref qa12, .ref qa13, .ref qa14, .long 0, .int 0, .null, .null, .null, .null, .null, .null, .null])), (qa1, .inl (G.2.2.1.1, 12, .inl (fun _ => 0))), (qa2, .inl (G.2.2.1.1, 12, .inl (fun _ => 0))), (qa3, .inl (G.2.2.1.1, 12, .inl (fun _ => 0))), (qa4, .inl (G.2.2.1.1, 12, .inl (fun _ => 0))), (qa5, .inl (G.2.2.1.2.2, 12, .inl (fun _ => 0))), (qa6, .inl (G.2.2.1.1, 12, .inl (fun _ => 0))), (qa7, .inl (G.2.2.1.2.2, 12, .inl (fun _ => 0))), (qa8, .inl (G.2.2.1.1, 5, .inl (fun _ => 0))), (qa9, .inl (G.2.2.1.1, 40, .inl (fun _ => 0))), (qa10, .inl (G.2.2.1.1, 40, .inl (fun _ => 0))), (qa11, .inl (G.2.2.1.1, 210, .inl (fun _ => 0))), (qa12, .inl (G.2.2.1.1, 210, .inl (fun _ => 0))), (qa13, .inl (G.2.2.1.1, 210, .inl (fun _ => 0))), (qa14, .inl (G.2.2.1.2.1, 210, .inr (.inl (fun _ => 0))))] 0 rfl rfl iX8 tyX8 tyX8_ok nmX8 18 (by decide) rfl rfl rfl (ty := .array .long) (by decide +kernel) rfl rfl (Nat.le_of_ble_eq_true rfl) rfl tw_646 dX8_init_116 ?_
  refine U_aload_n dX8_init_119 rfl 0 rfl ?_
  refine U_sipush (v := 4096) dX8_init_120 ks_4096 ?_
  refine U_newa (at0 := .int) (cA := G.2.2.1.1) (N := 4096) (a0 := (4096, .inl (fun _ => 0))) 0 rfl rfl (fun _ _ h => h) tw_61 (fun _ => rfl) (by decide) (by decide) (Nat.le_of_ble_eq_true rfl) ⟨Nat.le_of_ble_eq_true rfl, Nat.le_of_ble_eq_true rfl⟩ dX8_init_123 (fun qa15 => ?_)
  refine U_putF [(b, .inr (8, [.int 0, .ref qa1, .ref qa2, .ref qa3, .ref qa4, .ref qa5, .int 0, .ref qa6, .ref qa7, .ref qa8, .int 0, .ref qa9, .int 0, .ref qa10, .int 0, .ref qa11, .ref qa12, .ref qa13, .ref qa14, .long 0, .int 0, .ref qa15, .null, .null, .null, .null, .null, .null])), (qa1, .inl (G.2.2.1.1, 12, .inl (fun _ => 0))), (qa2, .inl (G.2.2.1.1, 12, .inl (fun _ => 0))), (qa3, .inl (G.2.2.1.1, 12, .inl (fun _ => 0))), (qa4, .inl (G.2.2.1.1, 12, .inl (fun _ => 0))), (qa5, .inl (G.2.2.1.2.2, 12, .inl (fun _ => 0))), (qa6, .inl (G.2.2.1.1, 12, .inl (fun _ => 0))), (qa7, .inl (G.2.2.1.2.2, 12, .inl (fun _ => 0))), (qa8, .inl (G.2.2.1.1, 5, .inl (fun _ => 0))), (qa9, .inl (G.2.2.1.1, 40, .inl (fun _ => 0))), (qa10, .inl (G.2.2.1.1, 40, .inl (fun _ => 0))), (qa11, .inl (G.2.2.1.1, 210, .inl (fun _ => 0))), (qa12, .inl (G.2.2.1.1, 210, .inl (fun _ => 0))), (qa13, .inl (G.2.2.1.1, 210, .inl (fun _ => 0))), (qa14, .inl (G.2.2.1.2.1, 210, .inr (.inl (fun _ => 0)))), (qa15, .inl (G.2.2.1.1, 4096, .inl (fun _ => 0)))] 0 rfl rfl iX8 tyX8 tyX8_ok nmX8 21 (by decide) rfl rfl rfl (ty := .array .int) (by decide +kernel) rfl rfl (Nat.le_of_ble_eq_true rfl) rfl tw_649 dX8_init_125 ?_
  refine U_aload_n dX8_init_128 rfl 0 rfl ?_
  refine U_sipush (v := 4096) dX8_init_129 ks_4096 ?_
  refine U_newa (at0 := .int) (cA := G.2.2.1.1) (N := 4096) (a0 := (4096, .inl (fun _ => 0))) 0 rfl rfl (fun _ _ h => h) tw_61 (fun _ => rfl) (by decide) (by decide) (Nat.le_of_ble_eq_true rfl) ⟨Nat.le_of_ble_eq_true rfl, Nat.le_of_ble_eq_true rfl⟩ dX8_init_132 (fun qa16 => ?_)
  refine U_putF [(b, .inr (8, [.int 0, .ref qa1, .ref qa2, .ref qa3, .ref qa4, .ref qa5, .int 0, .ref qa6, .ref qa7, .ref qa8, .int 0, .ref qa9, .int 0, .ref qa10, .int 0, .ref qa11, .ref qa12, .ref qa13, .ref qa14, .long 0, .int 0, .ref qa15, .ref qa16, .null, .null, .null, .null, .null])), (qa1, .inl (G.2.2.1.1, 12, .inl (fun _ => 0))), (qa2, .inl (G.2.2.1.1, 12, .inl (fun _ => 0))), (qa3, .inl (G.2.2.1.1, 12, .inl (fun _ => 0))), (qa4, .inl (G.2.2.1.1, 12, .inl (fun _ => 0))), (qa5, .inl (G.2.2.1.2.2, 12, .inl (fun _ => 0))), (qa6, .inl (G.2.2.1.1, 12, .inl (fun _ => 0))), (qa7, .inl (G.2.2.1.2.2, 12, .inl (fun _ => 0))), (qa8, .inl (G.2.2.1.1, 5, .inl (fun _ => 0))), (qa9, .inl (G.2.2.1.1, 40, .inl (fun _ => 0))), (qa10, .inl (G.2.2.1.1, 40, .inl (fun _ => 0))), (qa11, .inl (G.2.2.1.1, 210, .inl (fun _ => 0))), (qa12, .inl (G.2.2.1.1, 210, .inl (fun _ => 0))), (qa13, .inl (G.2.2.1.1, 210, .inl (fun _ => 0))), (qa14, .inl (G.2.2.1.2.1, 210, .inr (.inl (fun _ => 0)))), (qa15, .inl (G.2.2.1.1, 4096, .inl (fun _ => 0))), (qa16, .inl (G.2.2.1.1, 4096, .inl (fun _ => 0)))] 0 rfl rfl iX8 tyX8 tyX8_ok nmX8 22 (by decide) rfl rfl rfl (ty := .array .int) (by decide +kernel) rfl rfl (Nat.le_of_ble_eq_true rfl) rfl tw_650 dX8_init_134 ?_
  refine U_aload_n dX8_init_137 rfl 0 rfl ?_
  refine U_sipush (v := 4096) dX8_init_138 ks_4096 ?_
  refine U_newa (at0 := .int) (cA := G.2.2.1.1) (N := 4096) (a0 := (4096, .inl (fun _ => 0))) 0 rfl rfl (fun _ _ h => h) tw_61 (fun _ => rfl) (by decide) (by decide) (Nat.le_of_ble_eq_true rfl) ⟨Nat.le_of_ble_eq_true rfl, Nat.le_of_ble_eq_true rfl⟩ dX8_init_141 (fun qa17 => ?_)
  refine U_putF [(b, .inr (8, [.int 0, .ref qa1, .ref qa2, .ref qa3, .ref qa4, .ref qa5, .int 0, .ref qa6, .ref qa7, .ref qa8, .int 0, .ref qa9, .int 0, .ref qa10, .int 0, .ref qa11, .ref qa12, .ref qa13, .ref qa14, .long 0, .int 0, .ref qa15, .ref qa16, .ref qa17, .null, .null, .null, .null])), (qa1, .inl (G.2.2.1.1, 12, .inl (fun _ => 0))), (qa2, .inl (G.2.2.1.1, 12, .inl (fun _ => 0))), (qa3, .inl (G.2.2.1.1, 12, .inl (fun _ => 0))), (qa4, .inl (G.2.2.1.1, 12, .inl (fun _ => 0))), (qa5, .inl (G.2.2.1.2.2, 12, .inl (fun _ => 0))), (qa6, .inl (G.2.2.1.1, 12, .inl (fun _ => 0))), (qa7, .inl (G.2.2.1.2.2, 12, .inl (fun _ => 0))), (qa8, .inl (G.2.2.1.1, 5, .inl (fun _ => 0))), (qa9, .inl (G.2.2.1.1, 40, .inl (fun _ => 0))), (qa10, .inl (G.2.2.1.1, 40, .inl (fun _ => 0))), (qa11, .inl (G.2.2.1.1, 210, .inl (fun _ => 0))), (qa12, .inl (G.2.2.1.1, 210, .inl (fun _ => 0))), (qa13, .inl (G.2.2.1.1, 210, .inl (fun _ => 0))), (qa14, .inl (G.2.2.1.2.1, 210, .inr (.inl (fun _ => 0)))), (qa15, .inl (G.2.2.1.1, 4096, .inl (fun _ => 0))), (qa16, .inl (G.2.2.1.1, 4096, .inl (fun _ => 0))), (qa17, .inl (G.2.2.1.1, 4096, .inl (fun _ => 0)))] 0 rfl rfl iX8 tyX8 tyX8_ok nmX8 23 (by decide) rfl rfl rfl (ty := .array .int) (by decide +kernel) rfl rfl (Nat.le_of_ble_eq_true rfl) rfl tw_651 dX8_init_143 ?_
  refine U_aload_n dX8_init_146 rfl 0 rfl ?_
  refine U_sipush (v := 4096) dX8_init_147 ks_4096 ?_
  refine U_newa (at0 := .int) (cA := G.2.2.1.1) (N := 4096) (a0 := (4096, .inl (fun _ => 0))) 0 rfl rfl (fun _ _ h => h) tw_61 (fun _ => rfl) (by decide) (by decide) (Nat.le_of_ble_eq_true rfl) ⟨Nat.le_of_ble_eq_true rfl, Nat.le_of_ble_eq_true rfl⟩ dX8_init_150 (fun qa18 => ?_)
  refine U_putF [(b, .inr (8, [.int 0, .ref qa1, .ref qa2, .ref qa3, .ref qa4, .ref qa5, .int 0, .ref qa6, .ref qa7, .ref qa8, .int 0, .ref qa9, .int 0, .ref qa10, .int 0, .ref qa11, .ref qa12, .ref qa13, .ref qa14, .long 0, .int 0, .ref qa15, .ref qa16, .ref qa17, .ref qa18, .null, .null, .null])), (qa1, .inl (G.2.2.1.1, 12, .inl (fun _ => 0))), (qa2, .inl (G.2.2.1.1, 12, .inl (fun _ => 0))), (qa3, .inl (G.2.2.1.1, 12, .inl (fun _ => 0))), (qa4, .inl (G.2.2.1.1, 12, .inl (fun _ => 0))), (qa5, .inl (G.2.2.1.2.2, 12, .inl (fun _ => 0))), (qa6, .inl (G.2.2.1.1, 12, .inl (fun _ => 0))), (qa7, .inl (G.2.2.1.2.2, 12, .inl (fun _ => 0))), (qa8, .inl (G.2.2.1.1, 5, .inl (fun _ => 0))), (qa9, .inl (G.2.2.1.1, 40, .inl (fun _ => 0))), (qa10, .inl (G.2.2.1.1, 40, .inl (fun _ => 0))), (qa11, .inl (G.2.2.1.1, 210, .inl (fun _ => 0))), (qa12, .inl (G.2.2.1.1, 210, .inl (fun _ => 0))), (qa13, .inl (G.2.2.1.1, 210, .inl (fun _ => 0))), (qa14, .inl (G.2.2.1.2.1, 210, .inr (.inl (fun _ => 0)))), (qa15, .inl (G.2.2.1.1, 4096, .inl (fun _ => 0))), (qa16, .inl (G.2.2.1.1, 4096, .inl (fun _ => 0))), (qa17, .inl (G.2.2.1.1, 4096, .inl (fun _ => 0))), (qa18, .inl (G.2.2.1.1, 4096, .inl (fun _ => 0)))] 0 rfl rfl iX8 tyX8 tyX8_ok nmX8 24 (by decide) rfl rfl rfl (ty := .array .int) (by decide +kernel) rfl rfl (Nat.le_of_ble_eq_true rfl) rfl tw_652 dX8_init_152 ?_
  refine U_aload_n dX8_init_155 rfl 0 rfl ?_
  refine U_bipush (v := 10) dX8_init_156 kb_10 ?_
  refine U_newa (at0 := .int) (cA := G.2.2.1.1) (N := 10) (a0 := (10, .inl (fun _ => 0))) 0 rfl rfl (fun _ _ h => h) tw_61 (fun _ => rfl) (by decide) (by decide) (Nat.le_of_ble_eq_true rfl) ⟨Nat.le_of_ble_eq_true rfl, Nat.le_of_ble_eq_true rfl⟩ dX8_init_158 (fun qa19 => ?_)
  refine U_putF [(b, .inr (8, [.int 0, .ref qa1, .ref qa2, .ref qa3, .ref qa4, .ref qa5, .int 0, .ref qa6, .ref qa7, .ref qa8, .int 0, .ref qa9, .int 0, .ref qa10, .int 0, .ref qa11, .ref qa12, .ref qa13, .ref qa14, .long 0, .int 0, .ref qa15, .ref qa16, .ref qa17, .ref qa18, .ref qa19, .null, .null])), (qa1, .inl (G.2.2.1.1, 12, .inl (fun _ => 0))), (qa2, .inl (G.2.2.1.1, 12, .inl (fun _ => 0))), (qa3, .inl (G.2.2.1.1, 12, .inl (fun _ => 0))), (qa4, .inl (G.2.2.1.1, 12, .inl (fun _ => 0))), (qa5, .inl (G.2.2.1.2.2, 12, .inl (fun _ => 0))), (qa6, .inl (G.2.2.1.1, 12, .inl (fun _ => 0))), (qa7, .inl (G.2.2.1.2.2, 12, .inl (fun _ => 0))), (qa8, .inl (G.2.2.1.1, 5, .inl (fun _ => 0))), (qa9, .inl (G.2.2.1.1, 40, .inl (fun _ => 0))), (qa10, .inl (G.2.2.1.1, 40, .inl (fun _ => 0))), (qa11, .inl (G.2.2.1.1, 210, .inl (fun _ => 0))), (qa12, .inl (G.2.2.1.1, 210, .inl (fun _ => 0))), (qa13, .inl (G.2.2.1.1, 210, .inl (fun _ => 0))), (qa14, .inl (G.2.2.1.2.1, 210, .inr (.inl (fun _ => 0)))), (qa15, .inl (G.2.2.1.1, 4096, .inl (fun _ => 0))), (qa16, .inl (G.2.2.1.1, 4096, .inl (fun _ => 0))), (qa17, .inl (G.2.2.1.1, 4096, .inl (fun _ => 0))), (qa18, .inl (G.2.2.1.1, 4096, .inl (fun _ => 0))), (qa19, .inl (G.2.2.1.1, 10, .inl (fun _ => 0)))] 0 rfl rfl iX8 tyX8 tyX8_ok nmX8 25 (by decide) rfl rfl rfl (ty := .array .int) (by decide +kernel) rfl rfl (Nat.le_of_ble_eq_true rfl) rfl tw_653 dX8_init_160 ?_
  refine U_aload_n dX8_init_163 rfl 0 rfl ?_
  refine U_bipush (v := 41) dX8_init_164 kb_41 ?_
  refine U_newa (at0 := .boolean) (cA := G.2.2.1.2.2) (N := 41) (a0 := (41, .inl (fun _ => 0))) 2 rfl rfl (fun _ _ h => h) tw_84 (fun _ => rfl) (by decide) (by decide) (Nat.le_of_ble_eq_true rfl) ⟨Nat.le_of_ble_eq_true rfl, Nat.le_of_ble_eq_true rfl⟩ dX8_init_166 (fun qa20 => ?_)
  refine U_putF [(b, .inr (8, [.int 0, .ref qa1, .ref qa2, .ref qa3, .ref qa4, .ref qa5, .int 0, .ref qa6, .ref qa7, .ref qa8, .int 0, .ref qa9, .int 0, .ref qa10, .int 0, .ref qa11, .ref qa12, .ref qa13, .ref qa14, .long 0, .int 0, .ref qa15, .ref qa16, .ref qa17, .ref qa18, .ref qa19, .ref qa20, .null])), (qa1, .inl (G.2.2.1.1, 12, .inl (fun _ => 0))), (qa2, .inl (G.2.2.1.1, 12, .inl (fun _ => 0))), (qa3, .inl (G.2.2.1.1, 12, .inl (fun _ => 0))), (qa4, .inl (G.2.2.1.1, 12, .inl (fun _ => 0))), (qa5, .inl (G.2.2.1.2.2, 12, .inl (fun _ => 0))), (qa6, .inl (G.2.2.1.1, 12, .inl (fun _ => 0))), (qa7, .inl (G.2.2.1.2.2, 12, .inl (fun _ => 0))), (qa8, .inl (G.2.2.1.1, 5, .inl (fun _ => 0))), (qa9, .inl (G.2.2.1.1, 40, .inl (fun _ => 0))), (qa10, .inl (G.2.2.1.1, 40, .inl (fun _ => 0))), (qa11, .inl (G.2.2.1.1, 210, .inl (fun _ => 0))), (qa12, .inl (G.2.2.1.1, 210, .inl (fun _ => 0))), (qa13, .inl (G.2.2.1.1, 210, .inl (fun _ => 0))), (qa14, .inl (G.2.2.1.2.1, 210, .inr (.inl (fun _ => 0)))), (qa15, .inl (G.2.2.1.1, 4096, .inl (fun _ => 0))), (qa16, .inl (G.2.2.1.1, 4096, .inl (fun _ => 0))), (qa17, .inl (G.2.2.1.1, 4096, .inl (fun _ => 0))), (qa18, .inl (G.2.2.1.1, 4096, .inl (fun _ => 0))), (qa19, .inl (G.2.2.1.1, 10, .inl (fun _ => 0))), (qa20, .inl (G.2.2.1.2.2, 41, .inl (fun _ => 0)))] 0 rfl rfl iX8 tyX8 tyX8_ok nmX8 26 (by decide) rfl rfl rfl (ty := .array .boolean) (by decide +kernel) rfl rfl (Nat.le_of_ble_eq_true rfl) rfl tw_654 dX8_init_168 ?_
  refine U_aload_n dX8_init_171 rfl 0 rfl ?_
  refine U_sipush (v := 4096) dX8_init_172 ks_4096 ?_
  refine U_newa (at0 := .boolean) (cA := G.2.2.1.2.2) (N := 4096) (a0 := (4096, .inl (fun _ => 0))) 2 rfl rfl (fun _ _ h => h) tw_84 (fun _ => rfl) (by decide) (by decide) (Nat.le_of_ble_eq_true rfl) ⟨Nat.le_of_ble_eq_true rfl, Nat.le_of_ble_eq_true rfl⟩ dX8_init_175 (fun qa21 => ?_)
  refine U_putF [(b, .inr (8, [.int 0, .ref qa1, .ref qa2, .ref qa3, .ref qa4, .ref qa5, .int 0, .ref qa6, .ref qa7, .ref qa8, .int 0, .ref qa9, .int 0, .ref qa10, .int 0, .ref qa11, .ref qa12, .ref qa13, .ref qa14, .long 0, .int 0, .ref qa15, .ref qa16, .ref qa17, .ref qa18, .ref qa19, .ref qa20, .ref qa21])), (qa1, .inl (G.2.2.1.1, 12, .inl (fun _ => 0))), (qa2, .inl (G.2.2.1.1, 12, .inl (fun _ => 0))), (qa3, .inl (G.2.2.1.1, 12, .inl (fun _ => 0))), (qa4, .inl (G.2.2.1.1, 12, .inl (fun _ => 0))), (qa5, .inl (G.2.2.1.2.2, 12, .inl (fun _ => 0))), (qa6, .inl (G.2.2.1.1, 12, .inl (fun _ => 0))), (qa7, .inl (G.2.2.1.2.2, 12, .inl (fun _ => 0))), (qa8, .inl (G.2.2.1.1, 5, .inl (fun _ => 0))), (qa9, .inl (G.2.2.1.1, 40, .inl (fun _ => 0))), (qa10, .inl (G.2.2.1.1, 40, .inl (fun _ => 0))), (qa11, .inl (G.2.2.1.1, 210, .inl (fun _ => 0))), (qa12, .inl (G.2.2.1.1, 210, .inl (fun _ => 0))), (qa13, .inl (G.2.2.1.1, 210, .inl (fun _ => 0))), (qa14, .inl (G.2.2.1.2.1, 210, .inr (.inl (fun _ => 0)))), (qa15, .inl (G.2.2.1.1, 4096, .inl (fun _ => 0))), (qa16, .inl (G.2.2.1.1, 4096, .inl (fun _ => 0))), (qa17, .inl (G.2.2.1.1, 4096, .inl (fun _ => 0))), (qa18, .inl (G.2.2.1.1, 4096, .inl (fun _ => 0))), (qa19, .inl (G.2.2.1.1, 10, .inl (fun _ => 0))), (qa20, .inl (G.2.2.1.2.2, 41, .inl (fun _ => 0))), (qa21, .inl (G.2.2.1.2.2, 4096, .inl (fun _ => 0)))] 0 rfl rfl iX8 tyX8 tyX8_ok nmX8 27 (by decide) rfl rfl rfl (ty := .array .boolean) (by decide +kernel) rfl rfl (Nat.le_of_ble_eq_true rfl) rfl tw_655 dX8_init_177 ?_
  refine U_aload_n dX8_init_180 rfl 0 rfl ?_
  refine U_get 0 rfl rfl iX8 9 (by decide) rfl tw_637 dX8_init_181 ?_
  refine U_iconst (v := 2) dX8_init_184 ki_2 ?_
  refine U_iconst (v := 1) dX8_init_185 ki_1 ?_
  refine U_iast [(b, .inr (8, [.int 0, .ref qa1, .ref qa2, .ref qa3, .ref qa4, .ref qa5, .int 0, .ref qa6, .ref qa7, .ref qa8, .int 0, .ref qa9, .int 0, .ref qa10, .int 0, .ref qa11, .ref qa12, .ref qa13, .ref qa14, .long 0, .int 0, .ref qa15, .ref qa16, .ref qa17, .ref qa18, .ref qa19, .ref qa20, .ref qa21])), (qa1, .inl (G.2.2.1.1, 12, .inl (fun _ => 0))), (qa2, .inl (G.2.2.1.1, 12, .inl (fun _ => 0))), (qa3, .inl (G.2.2.1.1, 12, .inl (fun _ => 0))), (qa4, .inl (G.2.2.1.1, 12, .inl (fun _ => 0))), (qa5, .inl (G.2.2.1.2.2, 12, .inl (fun _ => 0))), (qa6, .inl (G.2.2.1.1, 12, .inl (fun _ => 0))), (qa7, .inl (G.2.2.1.2.2, 12, .inl (fun _ => 0))), (qa8, .inl (G.2.2.1.1, 5, .inl (upd (fun _ => 0) 2 1))), (qa9, .inl (G.2.2.1.1, 40, .inl (fun _ => 0))), (qa10, .inl (G.2.2.1.1, 40, .inl (fun _ => 0))), (qa11, .inl (G.2.2.1.1, 210, .inl (fun _ => 0))), (qa12, .inl (G.2.2.1.1, 210, .inl (fun _ => 0))), (qa13, .inl (G.2.2.1.1, 210, .inl (fun _ => 0))), (qa14, .inl (G.2.2.1.2.1, 210, .inr (.inl (fun _ => 0)))), (qa15, .inl (G.2.2.1.1, 4096, .inl (fun _ => 0))), (qa16, .inl (G.2.2.1.1, 4096, .inl (fun _ => 0))), (qa17, .inl (G.2.2.1.1, 4096, .inl (fun _ => 0))), (qa18, .inl (G.2.2.1.1, 4096, .inl (fun _ => 0))), (qa19, .inl (G.2.2.1.1, 10, .inl (fun _ => 0))), (qa20, .inl (G.2.2.1.2.2, 41, .inl (fun _ => 0))), (qa21, .inl (G.2.2.1.2.2, 4096, .inl (fun _ => 0)))] 8 rfl (vp_in_nI (n := 2) (N := 5) (by decide) (by decide)) rfl dX8_init_186 ?_
  exact U_ret (Nat.le_of_ble_eq_true rfl) (Nat.le_of_ble_eq_true rfl) rfl dX8_init_187 ⟨qa1, qa2, qa3, qa4, qa5, qa6, qa7, qa8, qa9, qa10, qa11, qa12, qa13, qa14, qa15, qa16, qa17, qa18, qa19, qa20, qa21, rfl⟩
set_option maxHeartbeats 4000000 in
theorem c_X7_init (G : GX) (b : Nat) : Ci G 3 28 9275 mX7_init [.ref b] [(b, .inr (7, [.null, .null, .null, .null, .null, .null, .null, .null]))] (fun w1 => ∃ qa1 qa2 qa3 qa4 qa5 qa6 qa7 qa8 qa9 qa10 qa11 qa12 qa13 qa14 qa15 qa16 qa17 qa18 qa19 qa20 qa21 qa22 qa23 qa24 qa25 qa26 qa27 qa28 : Nat, w1 = [(b, .inr (7, [.ref qa1, .ref qa8, .ref qa11, .ref qa16, .ref qa18, .ref qa20, .ref qa23, .ref qa26])), (qa1, .inr (1, [.int 0, .ref qa2, .ref qa3, .ref qa4, .ref qa5, .ref qa6, .ref qa7])), (qa2, .inl (G.2.2.1.1, 12, .inl (fun _ => 0))), (qa3, .inl (G.2.2.1.1, 12, .inl (fun _ => 0))), (qa4, .inl (G.2.2.1.1, 12, .inl (fun _ => 0))), (qa5, .inl (G.2.2.1.1, 12, .inl (fun _ => 0))), (qa6, .inl (G.2.2.1.1, 12, .inl (fun _ => 0))), (qa7, .inl (G.2.2.1.1, 12, .inl (fun _ => 0))), (qa8, .inr (2, [.int 0, .ref qa9, .ref qa10])), (qa9, .inl (G.2.2.1.1, 12, .inl (fun _ => 0))), (qa10, .inl (G.2.2.1.2.2, 12, .inl (fun _ => 0))), (qa11, .inr (4, [.ref qa1, .ref qa8, .ref qa12, .int 0, .ref qa13, .ref qa14, .ref qa15, .long 0, .int 0, .long 0])), (qa12, .inl (G.2.2.1.1, 5, .inl (upd (fun _ => 0) 2 1))), (qa13, .inl (G.2.2.1.1, 210, .inl (fun _ => 0))), (qa14, .inl (G.2.2.1.2.1, 210, .inr (.inl (fun _ => 0)))), (qa15, .inl (G.2.2.1.1, 210, .inl (fun _ => 0))), (qa16, .inr (3, [.ref qa1, .int 0, .ref qa17, .int 0])), (qa17, .inl (G.2.2.1.1, 4096, .inl (fun _ => 0))), (qa18, .inr (3, [.ref qa1, .int 1, .ref qa19, .int 0])), (qa19, .inl (G.2.2.1.1, 4096, .inl (fun _ => 0))), (qa20, .inr (5, [.int 0, .ref qa21, .ref qa22])), (qa21, .inl (G.2.2.1.1, 40, .inl (fun _ => 0))), (qa22, .inl (G.2.2.1.1, 42, .inl (fun _ => 0))), (qa23, .inr (6, [.int 0, .ref qa24, .ref qa25])), (qa24, .inl (G.2.2.1.2.1, 64, .inr (.inl (fun _ => 0)))), (qa25, .inl (G.2.2.1.2.1, 40, .inr (.inl (fun _ => 0)))), (qa26, .inr (0, [.ref qa1, .ref qa23, .ref qa27, .ref qa28])), (qa27, .inl (G.2.2.1.2.1, 64, .inr (.inl (fun _ => 0)))), (qa28, .inl (G.2.2.1.2.1, 64, .inr (.inl (fun _ => 0))))]) := by
  refine Ci.intro (lv := [(0, .ref b)]) (by decide) (Nat.le_of_ble_eq_true rfl) rfl ?_
  refine U_aload_n dX7_init_0 rfl 0 rfl ?_
  refine U_obj tw_19 dX7_init_1 ⟨Nat.le_of_ble_eq_true rfl, Nat.le_of_ble_eq_true rfl⟩ ?_
  refine U_aload_n dX7_init_4 rfl 0 rfl ?_
  refine U_new (ci := 1) (N := 7) (CC := RX1) (T := TX1) (fs := [.int 0, .null, .null, .null, .null, .null, .null]) rfl iX1 tyX1 tyX1_ok dfX1 tw_22 tw_23 tw_2 ⟨Nat.le_of_ble_eq_true rfl, Nat.le_of_ble_eq_true rfl⟩ dX7_init_5 (fun qa1 => ?_)
  refine U_dup dX7_init_8 ?_
  refine U_callN (K := mX1_init) (f := 1) (mc := 6) (ms := 72) (b := qa1) (As := []) (w0 := [(qa1, .inr (1, [.int 0, .null, .null, .null, .null, .null, .null]))]) [1] [0] [(b, .inr (7, [.null, .null, .null, .null, .null, .null, .null, .null]))] rfl rfl rfl rfl rfl (by decide) ok_X1_init nl_24 rfl ⟨⟨Nat.le_of_ble_eq_true rfl, Nat.le_of_ble_eq_true rfl⟩, Nat.le_of_ble_eq_true rfl, Nat.le_of_ble_eq_true rfl⟩ (Nat.le_of_ble_eq_true rfl) dX7_init_9 rfl (c_X1_init G qa1) (fun w1 hw1 => ?_)
  obtain ⟨qa2, qa3, qa4, qa5, qa6, qa7, rfl⟩ := hw1
  refine U_putF [(b, .inr (7, [.ref qa1, .null, .null, .null, .null, .null, .null, .null])), (qa1, .inr (1, [.int 0, .ref qa2, .ref qa3, .ref qa4, .ref qa5, .ref qa6, .ref qa7])), (qa2, .inl (G.2.2.1.1, 12, .inl (fun _ => 0))), (qa3, .inl (G.2.2.1.1, 12, .inl (fun _ => 0))), (qa4, .inl (G.2.2.1.1, 12, .inl (fun _ => 0))), (qa5, .inl (G.2.2.1.1, 12, .inl (fun _ => 0))), (qa6, .inl (G.2.2.1.1, 12, .inl (fun _ => 0))), (qa7, .inl (G.2.2.1.1, 12, .inl (fun _ => 0)))] 0 rfl rfl iX7 tyX7 tyX7_ok nmX7 0 (by decide) rfl rfl rfl (ty := .object "BrokeWhere$History") (by decide +kernel) rfl rfl (Nat.le_of_ble_eq_true rfl) rfl tw_203 dX7_init_12 ?_
  refine U_aload_n dX7_init_15 rfl 0 rfl ?_
  refine U_new (ci := 2) (N := 3) (CC := RX2) (T := TX2) (fs := [.int 0, .null, .null]) rfl iX2 tyX2 tyX2_ok dfX2 tw_62 tw_63 tw_3 ⟨Nat.le_of_ble_eq_true rfl, Nat.le_of_ble_eq_true rfl⟩ dX7_init_16 (fun qa8 => ?_)
  refine U_dup dX7_init_19 ?_
  refine U_callN (K := mX2_init) (f := 1) (mc := 2) (ms := 24) (b := qa8) (As := []) (w0 := [(qa8, .inr (2, [.int 0, .null, .null]))]) [8] [0, 1, 2, 3, 4, 5, 6, 7] [(b, .inr (7, [.ref qa1, .null, .null, .null, .null, .null, .null, .null])), (qa1, .inr (1, [.int 0, .ref qa2, .ref qa3, .ref qa4, .ref qa5, .ref qa6, .ref qa7])), (qa2, .inl (G.2.2.1.1, 12, .inl (fun _ => 0))), (qa3, .inl (G.2.2.1.1, 12, .inl (fun _ => 0))), (qa4, .inl (G.2.2.1.1, 12, .inl (fun _ => 0))), (qa5, .inl (G.2.2.1.1, 12, .inl (fun _ => 0))), (qa6, .inl (G.2.2.1.1, 12, .inl (fun _ => 0))), (qa7, .inl (G.2.2.1.1, 12, .inl (fun _ => 0)))] rfl rfl rfl rfl rfl (by decide) ok_X2_init nl_64 rfl ⟨⟨Nat.le_of_ble_eq_true rfl, Nat.le_of_ble_eq_true rfl⟩, Nat.le_of_ble_eq_true rfl, Nat.le_of_ble_eq_true rfl⟩ (Nat.le_of_ble_eq_true rfl) dX7_init_20 rfl (c_X2_init G qa8) (fun w1 hw1 => ?_)
  obtain ⟨qa9, qa10, rfl⟩ := hw1
  refine U_putF [(b, .inr (7, [.ref qa1, .ref qa8, .null, .null, .null, .null, .null, .null])), (qa1, .inr (1, [.int 0, .ref qa2, .ref qa3, .ref qa4, .ref qa5, .ref qa6, .ref qa7])), (qa2, .inl (G.2.2.1.1, 12, .inl (fun _ => 0))), (qa3, .inl (G.2.2.1.1, 12, .inl (fun _ => 0))), (qa4, .inl (G.2.2.1.1, 12, .inl (fun _ => 0))), (qa5, .inl (G.2.2.1.1, 12, .inl (fun _ => 0))), (qa6, .inl (G.2.2.1.1, 12, .inl (fun _ => 0))), (qa7, .inl (G.2.2.1.1, 12, .inl (fun _ => 0))), (qa8, .inr (2, [.int 0, .ref qa9, .ref qa10])), (qa9, .inl (G.2.2.1.1, 12, .inl (fun _ => 0))), (qa10, .inl (G.2.2.1.2.2, 12, .inl (fun _ => 0)))] 0 rfl rfl iX7 tyX7 tyX7_ok nmX7 1 (by decide) rfl rfl rfl (ty := .object "BrokeWhere$Log") (by decide +kernel) rfl rfl (Nat.le_of_ble_eq_true rfl) rfl tw_204 dX7_init_23 ?_
  refine U_aload_n dX7_init_26 rfl 0 rfl ?_
  refine U_new (ci := 4) (N := 10) (CC := RX4) (T := TX4) (fs := [.null, .null, .null, .int 0, .null, .null, .null, .long 0, .int 0, .long 0]) rfl iX4 tyX4 tyX4_ok dfX4 tw_85 tw_86 tw_4 ⟨Nat.le_of_ble_eq_true rfl, Nat.le_of_ble_eq_true rfl⟩ dX7_init_27 (fun qa11 => ?_)
  refine U_dup dX7_init_30 ?_
  refine U_aload_n dX7_init_31 rfl 0 rfl ?_
  refine U_get 0 rfl rfl iX7 0 (by decide) rfl tw_203 dX7_init_32 ?_
  refine U_aload_n dX7_init_35 rfl 0 rfl ?_
  refine U_get 0 rfl rfl iX7 1 (by decide) rfl tw_204 dX7_init_36 ?_
  refine U_callI (K := mX4_init) (f := 1) (mc := 4) (ms := 635) (b := qa11) (As := [.ref qa1, .ref qa8]) (w0 := [(qa11, .inr (4, [.null, .null, .null, .int 0, .null, .null, .null, .long 0, .int 0, .long 0]))]) [11] [0, 1, 2, 3, 4, 5, 6, 7, 8, 9, 10] [(b, .inr (7, [.ref qa1, .ref qa8, .null, .null, .null, .null, .null, .null])), (qa1, .inr (1, [.int 0, .ref qa2, .ref qa3, .ref qa4, .ref qa5, .ref qa6, .ref qa7])), (qa2, .inl (G.2.2.1.1, 12, .inl (fun _ => 0))), (qa3, .inl (G.2.2.1.1, 12, .inl (fun _ => 0))), (qa4, .inl (G.2.2.1.1, 12, .inl (fun _ => 0))), (qa5, .inl (G.2.2.1.1, 12, .inl (fun _ => 0))), (qa6, .inl (G.2.2.1.1, 12, .inl (fun _ => 0))), (qa7, .inl (G.2.2.1.1, 12, .inl (fun _ => 0))), (qa8, .inr (2, [.int 0, .ref qa9, .ref qa10])), (qa9, .inl (G.2.2.1.1, 12, .inl (fun _ => 0))), (qa10, .inl (G.2.2.1.2.2, 12, .inl (fun _ => 0)))] rfl rfl rfl rfl rfl (by decide) ok_X4_init tw_87 rfl ⟨⟨Nat.le_of_ble_eq_true rfl, Nat.le_of_ble_eq_true rfl⟩, Nat.le_of_ble_eq_true rfl, Nat.le_of_ble_eq_true rfl⟩ (Nat.le_of_ble_eq_true rfl) dX7_init_39 rfl (c_X4_init G qa11 qa1 qa8) (fun w1 hw1 => ?_)
  obtain ⟨qa12, qa13, qa14, qa15, rfl⟩ := hw1
  refine U_putF [(b, .inr (7, [.ref qa1, .ref qa8, .ref qa11, .null, .null, .null, .null, .null])), (qa1, .inr (1, [.int 0, .ref qa2, .ref qa3, .ref qa4, .ref qa5, .ref qa6, .ref qa7])), (qa2, .inl (G.2.2.1.1, 12, .inl (fun _ => 0))), (qa3, .inl (G.2.2.1.1, 12, .inl (fun _ => 0))), (qa4, .inl (G.2.2.1.1, 12, .inl (fun _ => 0))), (qa5, .inl (G.2.2.1.1, 12, .inl (fun _ => 0))), (qa6, .inl (G.2.2.1.1, 12, .inl (fun _ => 0))), (qa7, .inl (G.2.2.1.1, 12, .inl (fun _ => 0))), (qa8, .inr (2, [.int 0, .ref qa9, .ref qa10])), (qa9, .inl (G.2.2.1.1, 12, .inl (fun _ => 0))), (qa10, .inl (G.2.2.1.2.2, 12, .inl (fun _ => 0))), (qa11, .inr (4, [.ref qa1, .ref qa8, .ref qa12, .int 0, .ref qa13, .ref qa14, .ref qa15, .long 0, .int 0, .long 0])), (qa12, .inl (G.2.2.1.1, 5, .inl (upd (fun _ => 0) 2 1))), (qa13, .inl (G.2.2.1.1, 210, .inl (fun _ => 0))), (qa14, .inl (G.2.2.1.2.1, 210, .inr (.inl (fun _ => 0)))), (qa15, .inl (G.2.2.1.1, 210, .inl (fun _ => 0)))] 0 rfl rfl iX7 tyX7 tyX7_ok nmX7 2 (by decide) rfl rfl rfl (ty := .object "BrokeWhere$Stories") (by decide +kernel) rfl rfl (Nat.le_of_ble_eq_true rfl) rfl tw_205 dX7_init_42 ?_
  refine U_aload_n dX7_init_45 rfl 0 rfl ?_
  refine U_new (ci := 3) (N := 4) (CC := RX3) (T := TX3) (fs := [.null, .int 0, .null, .int 0]) rfl iX3 tyX3 tyX3_ok dfX3 tw_126 tw_127 tw_5 ⟨Nat.le_of_ble_eq_true rfl, Nat.le_of_ble_eq_true rfl⟩ dX7_init_46 (fun qa16 => ?_)
  refine U_dup dX7_init_49 ?_
  refine U_aload_n dX7_init_50 rfl 0 rfl ?_
  refine U_get 0 rfl rfl iX7 0 (by decide) rfl tw_203 dX7_init_51 ?_
  refine U_iconst (v := 0) dX7_init_54 ki_0 ?_
  refine U_callI (K := mX3_init) (f := 1) (mc := 1) (ms := 4096) (b := qa16) (As := [.ref qa1, .int 0]) (w0 := [(qa16, .inr (3, [.null, .int 0, .null, .int 0]))]) [16] [0, 1, 2, 3, 4, 5, 6, 7, 8, 9, 10, 11, 12, 13, 14, 15] [(b, .inr (7, [.ref qa1, .ref qa8, .ref qa11, .null, .null, .null, .null, .null])), (qa1, .inr (1, [.int 0, .ref qa2, .ref qa3, .ref qa4, .ref qa5, .ref qa6, .ref qa7])), (qa2, .inl (G.2.2.1.1, 12, .inl (fun _ => 0))), (qa3, .inl (G.2.2.1.1, 12, .inl (fun _ => 0))), (qa4, .inl (G.2.2.1.1, 12, .inl (fun _ => 0))), (qa5, .inl (G.2.2.1.1, 12, .inl (fun _ => 0))), (qa6, .inl (G.2.2.1.1, 12, .inl (fun _ => 0))), (qa7, .inl (G.2.2.1.1, 12, .inl (fun _ => 0))), (qa8, .inr (2, [.int 0, .ref qa9, .ref qa10])), (qa9, .inl (G.2.2.1.1, 12, .inl (fun _ => 0))), (qa10, .inl (G.2.2.1.2.2, 12, .inl (fun _ => 0))), (qa11, .inr (4, [.ref qa1, .ref qa8, .ref qa12, .int 0, .ref qa13, .ref qa14, .ref qa15, .long 0, .int 0, .long 0])), (qa12, .inl (G.2.2.1.1, 5, .inl (upd (fun _ => 0) 2 1))), (qa13, .inl (G.2.2.1.1, 210, .inl (fun _ => 0))), (qa14, .inl (G.2.2.1.2.1, 210, .inr (.inl (fun _ => 0)))), (qa15, .inl (G.2.2.1.1, 210, .inl (fun _ => 0)))] rfl rfl rfl rfl rfl (by decide) ok_X3_init tw_128 rfl ⟨⟨Nat.le_of_ble_eq_true rfl, Nat.le_of_ble_eq_true rfl⟩, Nat.le_of_ble_eq_true rfl, Nat.le_of_ble_eq_true rfl⟩ (Nat.le_of_ble_eq_true rfl) dX7_init_55 rfl (c_X3_init_0 G qa16 qa1) (fun w1 hw1 => ?_)
  obtain ⟨qa17, rfl⟩ := hw1
  refine U_putF [(b, .inr (7, [.ref qa1, .ref qa8, .ref qa11, .ref qa16, .null, .null, .null, .null])), (qa1, .inr (1, [.int 0, .ref qa2, .ref qa3, .ref qa4, .ref qa5, .ref qa6, .ref qa7])), (qa2, .inl (G.2.2.1.1, 12, .inl (fun _ => 0))), (qa3, .inl (G.2.2.1.1, 12, .inl (fun _ => 0))), (qa4, .inl (G.2.2.1.1, 12, .inl (fun _ => 0))), (qa5, .inl (G.2.2.1.1, 12, .inl (fun _ => 0))), (qa6, .inl (G.2.2.1.1, 12, .inl (fun _ => 0))), (qa7, .inl (G.2.2.1.1, 12, .inl (fun _ => 0))), (qa8, .inr (2, [.int 0, .ref qa9, .ref qa10])), (qa9, .inl (G.2.2.1.1, 12, .inl (fun _ => 0))), (qa10, .inl (G.2.2.1.2.2, 12, .inl (fun _ => 0))), (qa11, .inr (4, [.ref qa1, .ref qa8, .ref qa12, .int 0, .ref qa13, .ref qa14, .ref qa15, .long 0, .int 0, .long 0])), (qa12, .inl (G.2.2.1.1, 5, .inl (upd (fun _ => 0) 2 1))), (qa13, .inl (G.2.2.1.1, 210, .inl (fun _ => 0))), (qa14, .inl (G.2.2.1.2.1, 210, .inr (.inl (fun _ => 0)))), (qa15, .inl (G.2.2.1.1, 210, .inl (fun _ => 0))), (qa16, .inr (3, [.ref qa1, .int 0, .ref qa17, .int 0])), (qa17, .inl (G.2.2.1.1, 4096, .inl (fun _ => 0)))] 0 rfl rfl iX7 tyX7 tyX7_ok nmX7 3 (by decide) rfl rfl rfl (ty := .object "BrokeWhere$Partings") (by decide +kernel) rfl rfl (Nat.le_of_ble_eq_true rfl) rfl tw_206 dX7_init_58 ?_
  refine U_aload_n dX7_init_61 rfl 0 rfl ?_
  refine U_new (ci := 3) (N := 4) (CC := RX3) (T := TX3) (fs := [.null, .int 0, .null, .int 0]) rfl iX3 tyX3 tyX3_ok dfX3 tw_126 tw_127 tw_5 ⟨Nat.le_of_ble_eq_true rfl, Nat.le_of_ble_eq_true rfl⟩ dX7_init_62 (fun qa18 => ?_)
  refine U_dup dX7_init_65 ?_
  refine U_aload_n dX7_init_66 rfl 0 rfl ?_
  refine U_get 0 rfl rfl iX7 0 (by decide) rfl tw_203 dX7_init_67 ?_
  refine U_iconst (v := 1) dX7_init_70 ki_1 ?_
  refine U_callI (K := mX3_init) (f := 1) (mc := 1) (ms := 4096) (b := qa18) (As := [.ref qa1, .int 1]) (w0 := [(qa18, .inr (3, [.null, .int 0, .null, .int 0]))]) [18] [0, 1, 2, 3, 4, 5, 6, 7, 8, 9, 10, 11, 12, 13, 14, 15, 16, 17] [(b, .inr (7, [.ref qa1, .ref qa8, .ref qa11, .ref qa16, .null, .null, .null, .null])), (qa1, .inr (1, [.int 0, .ref qa2, .ref qa3, .ref qa4, .ref qa5, .ref qa6, .ref qa7])), (qa2, .inl (G.2.2.1.1, 12, .inl (fun _ => 0))), (qa3, .inl (G.2.2.1.1, 12, .inl (fun _ => 0))), (qa4, .inl (G.2.2.1.1, 12, .inl (fun _ => 0))), (qa5, .inl (G.2.2.1.1, 12, .inl (fun _ => 0))), (qa6, .inl (G.2.2.1.1, 12, .inl (fun _ => 0))), (qa7, .inl (G.2.2.1.1, 12, .inl (fun _ => 0))), (qa8, .inr (2, [.int 0, .ref qa9, .ref qa10])), (qa9, .inl (G.2.2.1.1, 12, .inl (fun _ => 0))), (qa10, .inl (G.2.2.1.2.2, 12, .inl (fun _ => 0))), (qa11, .inr (4, [.ref qa1, .ref qa8, .ref qa12, .int 0, .ref qa13, .ref qa14, .ref qa15, .long 0, .int 0, .long 0])), (qa12, .inl (G.2.2.1.1, 5, .inl (upd (fun _ => 0) 2 1))), (qa13, .inl (G.2.2.1.1, 210, .inl (fun _ => 0))), (qa14, .inl (G.2.2.1.2.1, 210, .inr (.inl (fun _ => 0)))), (qa15, .inl (G.2.2.1.1, 210, .inl (fun _ => 0))), (qa16, .inr (3, [.ref qa1, .int 0, .ref qa17, .int 0])), (qa17, .inl (G.2.2.1.1, 4096, .inl (fun _ => 0)))] rfl rfl rfl rfl rfl (by decide) ok_X3_init tw_128 rfl ⟨⟨Nat.le_of_ble_eq_true rfl, Nat.le_of_ble_eq_true rfl⟩, Nat.le_of_ble_eq_true rfl, Nat.le_of_ble_eq_true rfl⟩ (Nat.le_of_ble_eq_true rfl) dX7_init_71 rfl (c_X3_init_1 G qa18 qa1) (fun w1 hw1 => ?_)
  obtain ⟨qa19, rfl⟩ := hw1
  refine U_putF [(b, .inr (7, [.ref qa1, .ref qa8, .ref qa11, .ref qa16, .ref qa18, .null, .null, .null])), (qa1, .inr (1, [.int 0, .ref qa2, .ref qa3, .ref qa4, .ref qa5, .ref qa6, .ref qa7])), (qa2, .inl (G.2.2.1.1, 12, .inl (fun _ => 0))), (qa3, .inl (G.2.2.1.1, 12, .inl (fun _ => 0))), (qa4, .inl (G.2.2.1.1, 12, .inl (fun _ => 0))), (qa5, .inl (G.2.2.1.1, 12, .inl (fun _ => 0))), (qa6, .inl (G.2.2.1.1, 12, .inl (fun _ => 0))), (qa7, .inl (G.2.2.1.1, 12, .inl (fun _ => 0))), (qa8, .inr (2, [.int 0, .ref qa9, .ref qa10])), (qa9, .inl (G.2.2.1.1, 12, .inl (fun _ => 0))), (qa10, .inl (G.2.2.1.2.2, 12, .inl (fun _ => 0))), (qa11, .inr (4, [.ref qa1, .ref qa8, .ref qa12, .int 0, .ref qa13, .ref qa14, .ref qa15, .long 0, .int 0, .long 0])), (qa12, .inl (G.2.2.1.1, 5, .inl (upd (fun _ => 0) 2 1))), (qa13, .inl (G.2.2.1.1, 210, .inl (fun _ => 0))), (qa14, .inl (G.2.2.1.2.1, 210, .inr (.inl (fun _ => 0)))), (qa15, .inl (G.2.2.1.1, 210, .inl (fun _ => 0))), (qa16, .inr (3, [.ref qa1, .int 0, .ref qa17, .int 0])), (qa17, .inl (G.2.2.1.1, 4096, .inl (fun _ => 0))), (qa18, .inr (3, [.ref qa1, .int 1, .ref qa19, .int 0])), (qa19, .inl (G.2.2.1.1, 4096, .inl (fun _ => 0)))] 0 rfl rfl iX7 tyX7 tyX7_ok nmX7 4 (by decide) rfl rfl rfl (ty := .object "BrokeWhere$Partings") (by decide +kernel) rfl rfl (Nat.le_of_ble_eq_true rfl) rfl tw_207 dX7_init_74 ?_
  refine U_aload_n dX7_init_77 rfl 0 rfl ?_
  refine U_new (ci := 5) (N := 3) (CC := RX5) (T := TX5) (fs := [.int 0, .null, .null]) rfl iX5 tyX5 tyX5_ok dfX5 tw_146 tw_147 tw_6 ⟨Nat.le_of_ble_eq_true rfl, Nat.le_of_ble_eq_true rfl⟩ dX7_init_78 (fun qa20 => ?_)
  refine U_dup dX7_init_81 ?_
  refine U_callN (K := mX5_init) (f := 1) (mc := 2) (ms := 82) (b := qa20) (As := []) (w0 := [(qa20, .inr (5, [.int 0, .null, .null]))]) [20] [0, 1, 2, 3, 4, 5, 6, 7, 8, 9, 10, 11, 12, 13, 14, 15, 16, 17, 18, 19] [(b, .inr (7, [.ref qa1, .ref qa8, .ref qa11, .ref qa16, .ref qa18, .null, .null, .null])), (qa1, .inr (1, [.int 0, .ref qa2, .ref qa3, .ref qa4, .ref qa5, .ref qa6, .ref qa7])), (qa2, .inl (G.2.2.1.1, 12, .inl (fun _ => 0))), (qa3, .inl (G.2.2.1.1, 12, .inl (fun _ => 0))), (qa4, .inl (G.2.2.1.1, 12, .inl (fun _ => 0))), (qa5, .inl (G.2.2.1.1, 12, .inl (fun _ => 0))), (qa6, .inl (G.2.2.1.1, 12, .inl (fun _ => 0))), (qa7, .inl (G.2.2.1.1, 12, .inl (fun _ => 0))), (qa8, .inr (2, [.int 0, .ref qa9, .ref qa10])), (qa9, .inl (G.2.2.1.1, 12, .inl (fun _ => 0))), (qa10, .inl (G.2.2.1.2.2, 12, .inl (fun _ => 0))), (qa11, .inr (4, [.ref qa1, .ref qa8, .ref qa12, .int 0, .ref qa13, .ref qa14, .ref qa15, .long 0, .int 0, .long 0])), (qa12, .inl (G.2.2.1.1, 5, .inl (upd (fun _ => 0) 2 1))), (qa13, .inl (G.2.2.1.1, 210, .inl (fun _ => 0))), (qa14, .inl (G.2.2.1.2.1, 210, .inr (.inl (fun _ => 0)))), (qa15, .inl (G.2.2.1.1, 210, .inl (fun _ => 0))), (qa16, .inr (3, [.ref qa1, .int 0, .ref qa17, .int 0])), (qa17, .inl (G.2.2.1.1, 4096, .inl (fun _ => 0))), (qa18, .inr (3, [.ref qa1, .int 1, .ref qa19, .int 0])), (qa19, .inl (G.2.2.1.1, 4096, .inl (fun _ => 0)))] rfl rfl rfl rfl rfl (by decide) ok_X5_init nl_148 rfl ⟨⟨Nat.le_of_ble_eq_true rfl, Nat.le_of_ble_eq_true rfl⟩, Nat.le_of_ble_eq_true rfl, Nat.le_of_ble_eq_true rfl⟩ (Nat.le_of_ble_eq_true rfl) dX7_init_82 rfl (c_X5_init G qa20) (fun w1 hw1 => ?_)
  obtain ⟨qa21, qa22, rfl⟩ := hw1
  refine U_putF [(b, .inr (7, [.ref qa1, .ref qa8, .ref qa11, .ref qa16, .ref qa18, .ref qa20, .null, .null])), (qa1, .inr (1, [.int 0, .ref qa2, .ref qa3, .ref qa4, .ref qa5, .ref qa6, .ref qa7])), (qa2, .inl (G.2.2.1.1, 12, .inl (fun _ => 0))), (qa3, .inl (G.2.2.1.1, 12, .inl (fun _ => 0))), (qa4, .inl (G.2.2.1.1, 12, .inl (fun _ => 0))), (qa5, .inl (G.2.2.1.1, 12, .inl (fun _ => 0))), (qa6, .inl (G.2.2.1.1, 12, .inl (fun _ => 0))), (qa7, .inl (G.2.2.1.1, 12, .inl (fun _ => 0))), (qa8, .inr (2, [.int 0, .ref qa9, .ref qa10])), (qa9, .inl (G.2.2.1.1, 12, .inl (fun _ => 0))), (qa10, .inl (G.2.2.1.2.2, 12, .inl (fun _ => 0))), (qa11, .inr (4, [.ref qa1, .ref qa8, .ref qa12, .int 0, .ref qa13, .ref qa14, .ref qa15, .long 0, .int 0, .long 0])), (qa12, .inl (G.2.2.1.1, 5, .inl (upd (fun _ => 0) 2 1))), (qa13, .inl (G.2.2.1.1, 210, .inl (fun _ => 0))), (qa14, .inl (G.2.2.1.2.1, 210, .inr (.inl (fun _ => 0)))), (qa15, .inl (G.2.2.1.1, 210, .inl (fun _ => 0))), (qa16, .inr (3, [.ref qa1, .int 0, .ref qa17, .int 0])), (qa17, .inl (G.2.2.1.1, 4096, .inl (fun _ => 0))), (qa18, .inr (3, [.ref qa1, .int 1, .ref qa19, .int 0])), (qa19, .inl (G.2.2.1.1, 4096, .inl (fun _ => 0))), (qa20, .inr (5, [.int 0, .ref qa21, .ref qa22])), (qa21, .inl (G.2.2.1.1, 40, .inl (fun _ => 0))), (qa22, .inl (G.2.2.1.1, 42, .inl (fun _ => 0)))] 0 rfl rfl iX7 tyX7 tyX7_ok nmX7 5 (by decide) rfl rfl rfl (ty := .object "BrokeWhere$Text") (by decide +kernel) rfl rfl (Nat.le_of_ble_eq_true rfl) rfl tw_208 dX7_init_85 ?_
  refine U_aload_n dX7_init_88 rfl 0 rfl ?_
  refine U_new (ci := 6) (N := 3) (CC := RX6) (T := TX6) (fs := [.int 0, .null, .null]) rfl iX6 tyX6 tyX6_ok dfX6 tw_165 tw_166 tw_7 ⟨Nat.le_of_ble_eq_true rfl, Nat.le_of_ble_eq_true rfl⟩ dX7_init_89 (fun qa23 => ?_)
  refine U_dup dX7_init_92 ?_
  refine U_callN (K := mX6_init) (f := 1) (mc := 2) (ms := 104) (b := qa23) (As := []) (w0 := [(qa23, .inr (6, [.int 0, .null, .null]))]) [23] [0, 1, 2, 3, 4, 5, 6, 7, 8, 9, 10, 11, 12, 13, 14, 15, 16, 17, 18, 19, 20, 21, 22] [(b, .inr (7, [.ref qa1, .ref qa8, .ref qa11, .ref qa16, .ref qa18, .ref qa20, .null, .null])), (qa1, .inr (1, [.int 0, .ref qa2, .ref qa3, .ref qa4, .ref qa5, .ref qa6, .ref qa7])), (qa2, .inl (G.2.2.1.1, 12, .inl (fun _ => 0))), (qa3, .inl (G.2.2.1.1, 12, .inl (fun _ => 0))), (qa4, .inl (G.2.2.1.1, 12, .inl (fun _ => 0))), (qa5, .inl (G.2.2.1.1, 12, .inl (fun _ => 0))), (qa6, .inl (G.2.2.1.1, 12, .inl (fun _ => 0))), (qa7, .inl (G.2.2.1.1, 12, .inl (fun _ => 0))), (qa8, .inr (2, [.int 0, .ref qa9, .ref qa10])), (qa9, .inl (G.2.2.1.1, 12, .inl (fun _ => 0))), (qa10, .inl (G.2.2.1.2.2, 12, .inl (fun _ => 0))), (qa11, .inr (4, [.ref qa1, .ref qa8, .ref qa12, .int 0, .ref qa13, .ref qa14, .ref qa15, .long 0, .int 0, .long 0])), (qa12, .inl (G.2.2.1.1, 5, .inl (upd (fun _ => 0) 2 1))), (qa13, .inl (G.2.2.1.1, 210, .inl (fun _ => 0))), (qa14, .inl (G.2.2.1.2.1, 210, .inr (.inl (fun _ => 0)))), (qa15, .inl (G.2.2.1.1, 210, .inl (fun _ => 0))), (qa16, .inr (3, [.ref qa1, .int 0, .ref qa17, .int 0])), (qa17, .inl (G.2.2.1.1, 4096, .inl (fun _ => 0))), (qa18, .inr (3, [.ref qa1, .int 1, .ref qa19, .int 0])), (qa19, .inl (G.2.2.1.1, 4096, .inl (fun _ => 0))), (qa20, .inr (5, [.int 0, .ref qa21, .ref qa22])), (qa21, .inl (G.2.2.1.1, 40, .inl (fun _ => 0))), (qa22, .inl (G.2.2.1.1, 42, .inl (fun _ => 0)))] rfl rfl rfl rfl rfl (by decide) ok_X6_init nl_167 rfl ⟨⟨Nat.le_of_ble_eq_true rfl, Nat.le_of_ble_eq_true rfl⟩, Nat.le_of_ble_eq_true rfl, Nat.le_of_ble_eq_true rfl⟩ (Nat.le_of_ble_eq_true rfl) dX7_init_93 rfl (c_X6_init G qa23) (fun w1 hw1 => ?_)
  obtain ⟨qa24, qa25, rfl⟩ := hw1
  refine U_putF [(b, .inr (7, [.ref qa1, .ref qa8, .ref qa11, .ref qa16, .ref qa18, .ref qa20, .ref qa23, .null])), (qa1, .inr (1, [.int 0, .ref qa2, .ref qa3, .ref qa4, .ref qa5, .ref qa6, .ref qa7])), (qa2, .inl (G.2.2.1.1, 12, .inl (fun _ => 0))), (qa3, .inl (G.2.2.1.1, 12, .inl (fun _ => 0))), (qa4, .inl (G.2.2.1.1, 12, .inl (fun _ => 0))), (qa5, .inl (G.2.2.1.1, 12, .inl (fun _ => 0))), (qa6, .inl (G.2.2.1.1, 12, .inl (fun _ => 0))), (qa7, .inl (G.2.2.1.1, 12, .inl (fun _ => 0))), (qa8, .inr (2, [.int 0, .ref qa9, .ref qa10])), (qa9, .inl (G.2.2.1.1, 12, .inl (fun _ => 0))), (qa10, .inl (G.2.2.1.2.2, 12, .inl (fun _ => 0))), (qa11, .inr (4, [.ref qa1, .ref qa8, .ref qa12, .int 0, .ref qa13, .ref qa14, .ref qa15, .long 0, .int 0, .long 0])), (qa12, .inl (G.2.2.1.1, 5, .inl (upd (fun _ => 0) 2 1))), (qa13, .inl (G.2.2.1.1, 210, .inl (fun _ => 0))), (qa14, .inl (G.2.2.1.2.1, 210, .inr (.inl (fun _ => 0)))), (qa15, .inl (G.2.2.1.1, 210, .inl (fun _ => 0))), (qa16, .inr (3, [.ref qa1, .int 0, .ref qa17, .int 0])), (qa17, .inl (G.2.2.1.1, 4096, .inl (fun _ => 0))), (qa18, .inr (3, [.ref qa1, .int 1, .ref qa19, .int 0])), (qa19, .inl (G.2.2.1.1, 4096, .inl (fun _ => 0))), (qa20, .inr (5, [.int 0, .ref qa21, .ref qa22])), (qa21, .inl (G.2.2.1.1, 40, .inl (fun _ => 0))), (qa22, .inl (G.2.2.1.1, 42, .inl (fun _ => 0))), (qa23, .inr (6, [.int 0, .ref qa24, .ref qa25])), (qa24, .inl (G.2.2.1.2.1, 64, .inr (.inl (fun _ => 0)))), (qa25, .inl (G.2.2.1.2.1, 40, .inr (.inl (fun _ => 0))))] 0 rfl rfl iX7 tyX7 tyX7_ok nmX7 6 (by decide) rfl rfl rfl (ty := .object "BrokeWhere$Truth") (by decide +kernel) rfl rfl (Nat.le_of_ble_eq_true rfl) rfl tw_209 dX7_init_96 ?_
  refine U_aload_n dX7_init_99 rfl 0 rfl ?_
  refine U_new (ci := 0) (N := 4) (CC := RX0) (T := TX0) (fs := [.null, .null, .null, .null]) rfl iX0 tyX0 tyX0_ok dfX0 tw_184 tw_185 tw_8 ⟨Nat.le_of_ble_eq_true rfl, Nat.le_of_ble_eq_true rfl⟩ dX7_init_100 (fun qa26 => ?_)
  refine U_dup dX7_init_103 ?_
  refine U_aload_n dX7_init_104 rfl 0 rfl ?_
  refine U_get 0 rfl rfl iX7 0 (by decide) rfl tw_203 dX7_init_105 ?_
  refine U_aload_n dX7_init_108 rfl 0 rfl ?_
  refine U_get 0 rfl rfl iX7 6 (by decide) rfl tw_209 dX7_init_109 ?_
  refine U_callI (K := mX0_init) (f := 1) (mc := 2) (ms := 128) (b := qa26) (As := [.ref qa1, .ref qa23]) (w0 := [(qa26, .inr (0, [.null, .null, .null, .null]))]) [26] [0, 1, 2, 3, 4, 5, 6, 7, 8, 9, 10, 11, 12, 13, 14, 15, 16, 17, 18, 19, 20, 21, 22, 23, 24, 25] [(b, .inr (7, [.ref qa1, .ref qa8, .ref qa11, .ref qa16, .ref qa18, .ref qa20, .ref qa23, .null])), (qa1, .inr (1, [.int 0, .ref qa2, .ref qa3, .ref qa4, .ref qa5, .ref qa6, .ref qa7])), (qa2, .inl (G.2.2.1.1, 12, .inl (fun _ => 0))), (qa3, .inl (G.2.2.1.1, 12, .inl (fun _ => 0))), (qa4, .inl (G.2.2.1.1, 12, .inl (fun _ => 0))), (qa5, .inl (G.2.2.1.1, 12, .inl (fun _ => 0))), (qa6, .inl (G.2.2.1.1, 12, .inl (fun _ => 0))), (qa7, .inl (G.2.2.1.1, 12, .inl (fun _ => 0))), (qa8, .inr (2, [.int 0, .ref qa9, .ref qa10])), (qa9, .inl (G.2.2.1.1, 12, .inl (fun _ => 0))), (qa10, .inl (G.2.2.1.2.2, 12, .inl (fun _ => 0))), (qa11, .inr (4, [.ref qa1, .ref qa8, .ref qa12, .int 0, .ref qa13, .ref qa14, .ref qa15, .long 0, .int 0, .long 0])), (qa12, .inl (G.2.2.1.1, 5, .inl (upd (fun _ => 0) 2 1))), (qa13, .inl (G.2.2.1.1, 210, .inl (fun _ => 0))), (qa14, .inl (G.2.2.1.2.1, 210, .inr (.inl (fun _ => 0)))), (qa15, .inl (G.2.2.1.1, 210, .inl (fun _ => 0))), (qa16, .inr (3, [.ref qa1, .int 0, .ref qa17, .int 0])), (qa17, .inl (G.2.2.1.1, 4096, .inl (fun _ => 0))), (qa18, .inr (3, [.ref qa1, .int 1, .ref qa19, .int 0])), (qa19, .inl (G.2.2.1.1, 4096, .inl (fun _ => 0))), (qa20, .inr (5, [.int 0, .ref qa21, .ref qa22])), (qa21, .inl (G.2.2.1.1, 40, .inl (fun _ => 0))), (qa22, .inl (G.2.2.1.1, 42, .inl (fun _ => 0))), (qa23, .inr (6, [.int 0, .ref qa24, .ref qa25])), (qa24, .inl (G.2.2.1.2.1, 64, .inr (.inl (fun _ => 0)))), (qa25, .inl (G.2.2.1.2.1, 40, .inr (.inl (fun _ => 0))))] rfl rfl rfl rfl rfl (by decide) ok_X0_init tw_186 rfl ⟨⟨Nat.le_of_ble_eq_true rfl, Nat.le_of_ble_eq_true rfl⟩, Nat.le_of_ble_eq_true rfl, Nat.le_of_ble_eq_true rfl⟩ (Nat.le_of_ble_eq_true rfl) dX7_init_112 rfl (c_X0_init G qa26 qa1 qa23) (fun w1 hw1 => ?_)
  obtain ⟨qa27, qa28, rfl⟩ := hw1
  refine U_putF [(b, .inr (7, [.ref qa1, .ref qa8, .ref qa11, .ref qa16, .ref qa18, .ref qa20, .ref qa23, .ref qa26])), (qa1, .inr (1, [.int 0, .ref qa2, .ref qa3, .ref qa4, .ref qa5, .ref qa6, .ref qa7])), (qa2, .inl (G.2.2.1.1, 12, .inl (fun _ => 0))), (qa3, .inl (G.2.2.1.1, 12, .inl (fun _ => 0))), (qa4, .inl (G.2.2.1.1, 12, .inl (fun _ => 0))), (qa5, .inl (G.2.2.1.1, 12, .inl (fun _ => 0))), (qa6, .inl (G.2.2.1.1, 12, .inl (fun _ => 0))), (qa7, .inl (G.2.2.1.1, 12, .inl (fun _ => 0))), (qa8, .inr (2, [.int 0, .ref qa9, .ref qa10])), (qa9, .inl (G.2.2.1.1, 12, .inl (fun _ => 0))), (qa10, .inl (G.2.2.1.2.2, 12, .inl (fun _ => 0))), (qa11, .inr (4, [.ref qa1, .ref qa8, .ref qa12, .int 0, .ref qa13, .ref qa14, .ref qa15, .long 0, .int 0, .long 0])), (qa12, .inl (G.2.2.1.1, 5, .inl (upd (fun _ => 0) 2 1))), (qa13, .inl (G.2.2.1.1, 210, .inl (fun _ => 0))), (qa14, .inl (G.2.2.1.2.1, 210, .inr (.inl (fun _ => 0)))), (qa15, .inl (G.2.2.1.1, 210, .inl (fun _ => 0))), (qa16, .inr (3, [.ref qa1, .int 0, .ref qa17, .int 0])), (qa17, .inl (G.2.2.1.1, 4096, .inl (fun _ => 0))), (qa18, .inr (3, [.ref qa1, .int 1, .ref qa19, .int 0])), (qa19, .inl (G.2.2.1.1, 4096, .inl (fun _ => 0))), (qa20, .inr (5, [.int 0, .ref qa21, .ref qa22])), (qa21, .inl (G.2.2.1.1, 40, .inl (fun _ => 0))), (qa22, .inl (G.2.2.1.1, 42, .inl (fun _ => 0))), (qa23, .inr (6, [.int 0, .ref qa24, .ref qa25])), (qa24, .inl (G.2.2.1.2.1, 64, .inr (.inl (fun _ => 0)))), (qa25, .inl (G.2.2.1.2.1, 40, .inr (.inl (fun _ => 0)))), (qa26, .inr (0, [.ref qa1, .ref qa23, .ref qa27, .ref qa28])), (qa27, .inl (G.2.2.1.2.1, 64, .inr (.inl (fun _ => 0)))), (qa28, .inl (G.2.2.1.2.1, 64, .inr (.inl (fun _ => 0))))] 0 rfl rfl iX7 tyX7 tyX7_ok nmX7 7 (by decide) rfl rfl rfl (ty := .object "BrokeWhere$Families") (by decide +kernel) rfl rfl (Nat.le_of_ble_eq_true rfl) rfl tw_210 dX7_init_115 ?_
  exact U_ret (Nat.le_of_ble_eq_true rfl) (Nat.le_of_ble_eq_true rfl) rfl dX7_init_118 ⟨qa1, qa2, qa3, qa4, qa5, qa6, qa7, qa8, qa9, qa10, qa11, qa12, qa13, qa14, qa15, qa16, qa17, qa18, qa19, qa20, qa21, qa22, qa23, qa24, qa25, qa26, qa27, qa28, rfl⟩
