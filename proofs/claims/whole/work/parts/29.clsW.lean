def stO (n : Nat) (s c o : Int32) : Bool := kn n c && (decide (s = 0) || (kn n o && (if s = 1 then decide (c < o) else decide (c ≠ o))))
def sref (n : Nat) (s c o : Int32) : Int32 := if fr s 0 2 then (if stO n s c o then 0 else -1) else -2
theorem FrS.rf (S : ST) : FrS S S := ⟨fun _ _ _ => rfl, fun _ _ _ => rfl, fun _ _ _ => rfl, fun _ _ => rfl⟩
theorem sref_0 {n : Nat} {s c o : Int32} (h : sref n s c o = 0) : fr s 0 2 = true ∧ stO n s c o = true := by
  unfold sref at h
  cases h1 : fr s 0 2
  · simp [h1] at h
  · cases h2 : stO n s c o
    · simp [h1, h2] at h
    · exact ⟨rfl, rfl⟩
theorem sref_n {n : Nat} {s c o : Int32} (h : ¬ sref n s c o = 0) : (fr s 0 2 = false ∧ sref n s c o = -2) ∨ (fr s 0 2 = true ∧ stO n s c o = false ∧ sref n s c o = -1) := by
  unfold sref at *
  cases h1 : fr s 0 2
  · simp
  · cases h2 : stO n s c o
    · simp
    · simp [h1, h2] at h
theorem stO_ex {n : Nat} {s c o : Int32} (h1 : fr s 0 2 = true) (h : stO n s c o = true) (hn : n ≤ 12) : ∃ s2 c2, s2 < 3 ∧ c2 < n ∧ s = nI s2 ∧ c = nI c2 ∧ (s2 = 0 ∨ ∃ e, e < n ∧ o = nI e) := by
  obtain ⟨s2, -, hs, rfl⟩ := fr_ex (a := 0) (b := 2) rfl rfl h1 (by omega)
  unfold stO at h
  rw [Bool.and_eq_true] at h
  obtain ⟨c2, hc, rfl⟩ := kn_ex h.1 (by omega)
  refine ⟨s2, c2, by omega, hc, rfl, rfl, ?_⟩
  by_cases h0 : s2 = 0
  · exact Or.inl h0
  · have : ¬ nI s2 = 0 := nI_ne0 (by omega) (by omega)
    have h2 := h.2
    simp only [this, decide_false, Bool.false_or, Bool.and_eq_true] at h2
    obtain ⟨e, he, rfl⟩ := kn_ex h2.1 (by omega)
    exact Or.inr ⟨e, he, rfl⟩
def wgtC (S : ST) (n m : Nat) (s c o : Int32) : Int64 := if fr s 0 2 then (if stO n s c o then wO S m s.toNatClampNeg c.toNatClampNeg o.toNatClampNeg else -1000000000000000001) else -1000000000000000002
theorem c_X7_storyRefusal {G : GX} {d : Nat} {S : ST} {s c o : Int32} {n : Nat} {Q : Int32 → ST → Prop} (hn : S.1 0 = nI n) (hq : Q (sref n s c o) S) : Cn G (d + 1) mX7_storyRefusal [.ref (G.2.1 0), .int s, .int c, .int o] S (qi Q) := by
  refine Cn.intro (lv := [(0, .ref (G.2.1 0)), (1, .int s), (2, .int c), (3, .int o)]) (by decide) (Nat.le_of_ble_eq_true rfl) rfl ?_
  refine V_iload_n dX7_storyRefusal_0 rfl 1 rfl ?_
  refine V_iconst (v := 0) dX7_storyRefusal_1 ki_0 ?_
  refine V_iconst (v := 2) dX7_storyRefusal_2 ki_2 ?_
  refine V_cSi (P := pM G (d + 1) mX7_storyRefusal _) (d := d) (r := []) (As := [.int s, .int 0, .int 2]) (K := mX7_isFrom) ok_X7_isFrom tw_240 rfl (rmOk (Nat.le_of_ble_eq_true rfl)) (Nat.le_of_ble_eq_true rfl) dX7_storyRefusal_3 rfl (c_X7_isFrom ?_)
  refine V_ifb_ne 12 dX7_storyRefusal_6 (by decide) (fun h1 => ?_) (fun h1 => ?_)
  · refine V_aload_n dX7_storyRefusal_12 rfl 0 rfl ?_
    refine g_0_0 tw_203 dX7_storyRefusal_13 ?_
    refine V_iload_n dX7_storyRefusal_16 rfl 2 rfl ?_
    refine V_cVi (P := pM G (d + 1) mX7_storyRefusal _) (d := d) 1 (r := []) (As := [.int c]) (K := mX1_knows) ok_X1_knows tw_258 (ob_1 _) rfl (rmOk (Nat.le_of_ble_eq_true rfl)) (Nat.le_of_ble_eq_true rfl) dX7_storyRefusal_17 rfl (c_X1_knows hn ?_)
    refine V_ifb_ne 25 dX7_storyRefusal_20 (by decide) (fun h2 => ?_) (fun h2 => ?_)
    · refine V_iload_n dX7_storyRefusal_25 rfl 1 rfl ?_
      refine V_if_ne 31 dX7_storyRefusal_26 (by decide) (fun h3 => ?_) (fun h3 => ?_)
      · refine V_aload_n dX7_storyRefusal_31 rfl 0 rfl ?_
        refine g_0_0 tw_203 dX7_storyRefusal_32 ?_
        refine V_iload_n dX7_storyRefusal_35 rfl 3 rfl ?_
        refine V_cVi (P := pM G (d + 1) mX7_storyRefusal _) (d := d) 1 (r := []) (As := [.int o]) (K := mX1_knows) ok_X1_knows tw_258 (ob_1 _) rfl (rmOk (Nat.le_of_ble_eq_true rfl)) (Nat.le_of_ble_eq_true rfl) dX7_storyRefusal_36 rfl (c_X1_knows hn ?_)
        refine V_ifb_eq 64 dX7_storyRefusal_39 (by decide) (fun h4 => ?_) (fun h4 => ?_)
        · refine V_iconst (v := 0) dX7_storyRefusal_64 ki_0 ?_
          refine V_istore [(4, .int 0), (0, .ref (G.2.1 0)), (1, .int s), (2, .int c), (3, .int o)] dX7_storyRefusal_65 (Nat.le_of_ble_eq_true rfl) rfl ?_
          refine V_iload dX7_storyRefusal_67 0 rfl ?_
          refine V_if_eq 76 dX7_storyRefusal_69 (by decide) (fun _ => ?_) (fun hz => absurd hz (by decide))
          refine V_iconst (v := -1) dX7_storyRefusal_76 ki_m1 ?_
          refine V_iret rfl dX7_storyRefusal_77 ⟨_, rfl, ?_⟩
          exact qcast hq (by simp [sref, stO, h1, h2, h3, h4])
        · refine V_iload_n dX7_storyRefusal_42 rfl 1 rfl ?_
          refine V_iconst (v := 1) dX7_storyRefusal_43 ki_1 ?_
          refine V_icmp_ne 55 dX7_storyRefusal_44 (by decide) (fun h5 => ?_) (fun h5 => ?_)
          · refine V_iload_n dX7_storyRefusal_55 rfl 2 rfl ?_
            refine V_iload_n dX7_storyRefusal_56 rfl 3 rfl ?_
            refine V_icmp_eq 64 dX7_storyRefusal_57 (by decide) (fun h6 => ?_) (fun h6 => ?_)
            · refine V_iconst (v := 0) dX7_storyRefusal_64 ki_0 ?_
              refine V_istore [(4, .int 0), (0, .ref (G.2.1 0)), (1, .int s), (2, .int c), (3, .int o)] dX7_storyRefusal_65 (Nat.le_of_ble_eq_true rfl) rfl ?_
              refine V_iload dX7_storyRefusal_67 0 rfl ?_
              refine V_if_eq 76 dX7_storyRefusal_69 (by decide) (fun _ => ?_) (fun hz => absurd hz (by decide))
              refine V_iconst (v := -1) dX7_storyRefusal_76 ki_m1 ?_
              refine V_iret rfl dX7_storyRefusal_77 ⟨_, rfl, ?_⟩
              exact qcast hq (by simp [sref, stO, h1, h2, h3, h4, h5, h6])
            · refine V_iconst (v := 1) dX7_storyRefusal_60 ki_1 ?_
              refine V_goto 65 dX7_storyRefusal_61 (by decide) ?_
              refine V_istore [(4, .int 1), (0, .ref (G.2.1 0)), (1, .int s), (2, .int c), (3, .int o)] dX7_storyRefusal_65 (Nat.le_of_ble_eq_true rfl) rfl ?_
              refine V_iload dX7_storyRefusal_67 0 rfl ?_
              refine V_if_eq 76 dX7_storyRefusal_69 (by decide) (fun hz => absurd hz (by decide)) (fun _ => ?_)
              refine V_iconst (v := 0) dX7_storyRefusal_72 ki_0 ?_
              refine V_goto 77 dX7_storyRefusal_73 (by decide) ?_
              refine V_iret rfl dX7_storyRefusal_77 ⟨_, rfl, ?_⟩
              exact qcast hq (by simp [sref, stO, h1, h2, h3, h4, h5, h6])
          · subst h5
            refine V_iload_n dX7_storyRefusal_47 rfl 2 rfl ?_
            refine V_iload_n dX7_storyRefusal_48 rfl 3 rfl ?_
            refine V_icmp_ge 64 dX7_storyRefusal_49 (by decide) (fun h7 => ?_) (fun h7 => ?_)
            · refine V_iconst (v := 0) dX7_storyRefusal_64 ki_0 ?_
              refine V_istore [(4, .int 0), (0, .ref (G.2.1 0)), (1, .int 1), (2, .int c), (3, .int o)] dX7_storyRefusal_65 (Nat.le_of_ble_eq_true rfl) rfl ?_
              refine V_iload dX7_storyRefusal_67 0 rfl ?_
              refine V_if_eq 76 dX7_storyRefusal_69 (by decide) (fun _ => ?_) (fun hz => absurd hz (by decide))
              refine V_iconst (v := -1) dX7_storyRefusal_76 ki_m1 ?_
              refine V_iret rfl dX7_storyRefusal_77 ⟨_, rfl, ?_⟩
              exact qcast hq (by simp [sref, stO, h1, h2, h3, h4, h7, Int32.not_lt.mpr h7])
            · refine V_goto 60 dX7_storyRefusal_52 (by decide) ?_
              refine V_iconst (v := 1) dX7_storyRefusal_60 ki_1 ?_
              refine V_goto 65 dX7_storyRefusal_61 (by decide) ?_
              refine V_istore [(4, .int 1), (0, .ref (G.2.1 0)), (1, .int 1), (2, .int c), (3, .int o)] dX7_storyRefusal_65 (Nat.le_of_ble_eq_true rfl) rfl ?_
              refine V_iload dX7_storyRefusal_67 0 rfl ?_
              refine V_if_eq 76 dX7_storyRefusal_69 (by decide) (fun hz => absurd hz (by decide)) (fun _ => ?_)
              refine V_iconst (v := 0) dX7_storyRefusal_72 ki_0 ?_
              refine V_goto 77 dX7_storyRefusal_73 (by decide) ?_
              refine V_iret rfl dX7_storyRefusal_77 ⟨_, rfl, ?_⟩
              exact qcast hq (by simp [sref, stO, h1, h2, h3, h4, h7, Int32.not_le.mp h7])
      · subst h3
        refine V_iconst (v := 0) dX7_storyRefusal_29 ki_0 ?_
        refine V_iret rfl dX7_storyRefusal_30 ⟨_, rfl, ?_⟩
        exact qcast hq (by simp [sref, stO, h1, h2])
    · refine V_iconst (v := -1) dX7_storyRefusal_23 ki_m1 ?_
      refine V_iret rfl dX7_storyRefusal_24 ⟨_, rfl, ?_⟩
      exact qcast hq (by simp [sref, stO, h1, h2])
  · refine V_bipush (v := -2) dX7_storyRefusal_9 kb_m2 ?_
    refine V_iret rfl dX7_storyRefusal_11 ⟨_, rfl, ?_⟩
    exact qcast hq (by simp [sref, stO, h1])
theorem c_X4_failingOfD {G : GX} {d : Nat} {S : ST} {c : Nat} {dd : Int32} (e : Nat) {Q : Int32 → ST → Prop} (hc : c < 12) (hq : Q (fO (S.2.2.1 10) 0 c e) S) : Cn G d mX4_failingOf [.ref (G.2.1 3), .int 0, .int (nI c), .int dd] S (qi Q) := by
  refine Cn.intro (lv := [(0, .ref (G.2.1 3)), (1, .int 0), (2, .int (nI c)), (3, .int dd)]) (by decide) (Nat.le_of_ble_eq_true rfl) rfl ?_
  refine V_aload_n dX4_failingOf_0 rfl 0 rfl ?_
  refine g_3_0 tw_91 dX4_failingOf_1 ?_
  refine g_1_2 tw_37 dX4_failingOf_4 ?_
  refine V_iload_n dX4_failingOf_7 rfl 2 rfl ?_
  refine l_10n (by omega) dX4_failingOf_8 ?_
  refine V_istore [(4, .int (S.2.2.1 10 c)), (0, .ref (G.2.1 3)), (1, .int 0), (2, .int (nI c)), (3, .int dd)] dX4_failingOf_9 (Nat.le_of_ble_eq_true rfl) rfl ?_
  refine V_iload_n dX4_failingOf_11 rfl 2 rfl ?_
  refine V_lsw 68 (off := 56) dX4_failingOf_12 (by decide +kernel) (by decide +kernel) (by decide) ?_
  refine V_iload dX4_failingOf_68 0 rfl ?_
  refine V_iret rfl dX4_failingOf_70 ⟨_, rfl, ?_⟩
  exact qcast hq (by rfl)
theorem c_X4_weightOfD {G : GX} {d : Nat} {S : ST} {c m : Nat} {dd : Int32} (e : Nat) {Q : Int64 → ST → Prop} (hD : DT S m) (hc : c < 12) (hq : Q (wO S m 0 c e) S) : Cn G (d + 1) mX4_weightOf [.ref (G.2.1 3), .int 0, .int (nI c), .int dd] S (ql Q) := by
  refine Cn.intro (lv := [(0, .ref (G.2.1 3)), (1, .int 0), (2, .int (nI c)), (3, .int dd)]) (by decide) (Nat.le_of_ble_eq_true rfl) rfl ?_
  refine V_aload_n dX4_weightOf_0 rfl 0 rfl ?_
  refine g_3_2 tw_93 dX4_weightOf_1 ?_
  refine V_iconst (v := 2) dX4_weightOf_4 ki_2 ?_
  refine V_iload_n dX4_weightOf_5 rfl 1 rfl ?_
  refine V_iadd dX4_weightOf_6 ?_
  refine V_topi (v := 2) (by decide +kernel) ?_
  refine l_17n (i := 2) (by decide) dX4_weightOf_7 ?_
  refine V_aload_n dX4_weightOf_8 rfl 0 rfl ?_
  refine g_3_0 tw_91 dX4_weightOf_9 ?_
  refine g_1_3 tw_39 dX4_weightOf_12 ?_
  refine V_iload_n dX4_weightOf_15 rfl 2 rfl ?_
  refine l_11n (by omega) dX4_weightOf_16 ?_
  refine V_imul dX4_weightOf_17 ?_
  refine V_i2l dX4_weightOf_18 ?_
  refine V_lstore [(4, .long (Int32.toInt64 ((S.2.2.1 17 2) * (S.2.2.1 11 c)))), (0, .ref (G.2.1 3)), (1, .int 0), (2, .int (nI c)), (3, .int dd)] dX4_weightOf_19 (Nat.le_of_ble_eq_true rfl) rfl ?_
  refine V_iload_n dX4_weightOf_21 rfl 2 rfl ?_
  refine V_if_eq 40 dX4_weightOf_22 (by decide) (fun _ => ?_) (fun hz => absurd hz (by decide))
  refine V_aload_n dX4_weightOf_40 rfl 1 rfl ?_
  refine V_iload_n dX4_weightOf_41 rfl 2 rfl ?_
  refine V_iload_n dX4_weightOf_42 rfl 3 rfl ?_
  refine V_iload_n dX4_weightOf_43 rfl 4 rfl ?_
  refine V_cVi (P := pM G (d + 1) mX4_weightOf _) (d := d) 3 (r := []) (As := [.int 0, .int (nI c), .int dd]) (K := mX4_failingOf) ok_X4_failingOf tw_318 (ob_3 _) rfl (rmOk (Nat.le_of_ble_eq_true rfl)) (Nat.le_of_ble_eq_true rfl) dX4_weightOf_44 rfl (c_X4_failingOfD e (by omega) ?_)
  refine V_istore [(6, .int (fO (S.2.2.1 10) 0 c e)), (4, .long (Int32.toInt64 ((S.2.2.1 17 2) * (S.2.2.1 11 c)))), (0, .ref (G.2.1 3)), (1, .int 0), (2, .int (nI c)), (3, .int dd)] dX4_weightOf_47 (Nat.le_of_ble_eq_true rfl) rfl ?_
  refine V_iconst (v := 0) dX4_weightOf_49 ki_0 ?_
  refine V_istore [(7, .int 0), (6, .int (fO (S.2.2.1 10) 0 c e)), (4, .long (Int32.toInt64 ((S.2.2.1 17 2) * (S.2.2.1 11 c)))), (0, .ref (G.2.1 3)), (1, .int 0), (2, .int (nI c)), (3, .int dd)] dX4_weightOf_50 (Nat.le_of_ble_eq_true rfl) rfl ?_
  refine V_lv [(7, .int 0), (6, .int (fO (S.2.2.1 10) 0 c e)), (4, .long (Int32.toInt64 ((S.2.2.1 17 2) * (S.2.2.1 11 c)))), (0, .ref (G.2.1 3))] [0, 1, 2, 3] rfl ?_
  refine V_lveq [(7, .int 0), (6, .int (fO (S.2.2.1 10) 0 c e)), (4, .long (wprod (w0c (S.2.2.1 17) (S.2.2.1 11) 0 c e) (tenc S (fO (S.2.2.1 10) 0 c e)) 0)), (0, .ref (G.2.1 3))] (by rfl) ?_
  exact lp_weightOf hD hq (m + 1) 0 (by omega) (by omega)
theorem c_X7_weight {G : GX} {d : Nat} {S : ST} {s c o : Int32} {n m : Nat} {Q : Int64 → ST → Prop} (hn : S.1 0 = nI n) (h12 : n ≤ 12) (hD : DT S m) (hq : Q (wgtC S n m s c o) S) : Cn G (d + 2) mX7_weight [.ref (G.2.1 0), .int s, .int c, .int o] S (ql Q) := by
  refine Cn.intro (lv := [(0, .ref (G.2.1 0)), (1, .int s), (2, .int c), (3, .int o)]) (by decide) (Nat.le_of_ble_eq_true rfl) rfl ?_
  refine V_aload_n dX7_weight_0 rfl 0 rfl ?_
  refine V_iload_n dX7_weight_1 rfl 1 rfl ?_
  refine V_iload_n dX7_weight_2 rfl 2 rfl ?_
  refine V_iload_n dX7_weight_3 rfl 3 rfl ?_
  refine V_cVi (P := pM G (d + 2) mX7_weight _) (d := d + 1) 0 (r := []) (As := [.int s, .int c, .int o]) (K := mX7_storyRefusal) ok_X7_storyRefusal tw_310 (ob_0 _) rfl (rmOk (Nat.le_of_ble_eq_true rfl)) (Nat.le_of_ble_eq_true rfl) dX7_weight_4 rfl (c_X7_storyRefusal hn ?_)
  refine V_istore [(4, .int (sref n s c o)), (0, .ref (G.2.1 0)), (1, .int s), (2, .int c), (3, .int o)] dX7_weight_7 (Nat.le_of_ble_eq_true rfl) rfl ?_
  refine V_iload dX7_weight_9 0 rfl ?_
  refine V_if_ne 27 dX7_weight_11 (by decide) (fun h1 => ?_) (fun h1 => ?_)
  · refine V_ldc2 dX7_weight_27 tw_327 ?_
    refine V_iload dX7_weight_30 0 rfl ?_
    refine V_i2l dX7_weight_32 ?_
    refine V_ladd dX7_weight_33 ?_
    refine V_lret rfl dX7_weight_34 ⟨_, rfl, ?_⟩
    rcases sref_n h1 with ⟨z1, z2⟩ | ⟨z1, z2, z3⟩
    · exact qcast hq (by simp only [wgtC, z1, if_false, Bool.false_eq_true]; rw [z2]; decide)
    · exact qcast hq (by simp only [wgtC, z1, z2, if_true, if_false, Bool.false_eq_true]; rw [z3]; decide)
  · obtain ⟨z1, z2⟩ := sref_0 h1
    obtain ⟨s2, c2, hs2, hc2, rfl, rfl, hoo⟩ := stO_ex z1 z2 h12
    rcases (show s2 = 0 ∨ s2 = 1 ∨ s2 = 2 by omega) with rfl | rfl | rfl
    · refine V_aload_n dX7_weight_14 rfl 1 rfl ?_
      refine g_0_2 tw_205 dX7_weight_15 ?_
      refine V_iload_n dX7_weight_18 rfl 2 rfl ?_
      refine V_iload_n dX7_weight_19 rfl 3 rfl ?_
      refine V_iload_n dX7_weight_20 rfl 4 rfl ?_
      refine V_cVl (P := pM G (d + 2) mX7_weight _) (d := d + 1) 3 (r := []) (As := [.int 0, .int (nI c2), .int o]) (K := mX4_weightOf) ok_X4_weightOf tw_314 (ob_3 _) rfl (rmOk (Nat.le_of_ble_eq_true rfl)) (Nat.le_of_ble_eq_true rfl) dX7_weight_21 rfl (c_X4_weightOfD (o.toNatClampNeg) hD (by omega) ?_)
      refine V_goto 34 dX7_weight_24 (by decide) ?_
      refine V_lret rfl dX7_weight_34 ⟨_, rfl, ?_⟩
      exact qcast hq (by simp only [wgtC, z1, z2, if_true, nI_clamp (show c2 < 2 ^ 31 by omega)]; rfl)
    · obtain ⟨e, he, rfl⟩ := hoo.resolve_left (by decide)
      refine V_aload_n dX7_weight_14 rfl 1 rfl ?_
      refine g_0_2 tw_205 dX7_weight_15 ?_
      refine V_iload_n dX7_weight_18 rfl 2 rfl ?_
      refine V_iload_n dX7_weight_19 rfl 3 rfl ?_
      refine V_iload_n dX7_weight_20 rfl 4 rfl ?_
      refine V_cVl (P := pM G (d + 2) mX7_weight _) (d := d + 1) 3 (r := []) (As := [.int 1, .int (nI c2), .int (nI e)]) (K := mX4_weightOf) ok_X4_weightOf tw_314 (ob_3 _) rfl (rmOk (Nat.le_of_ble_eq_true rfl)) (Nat.le_of_ble_eq_true rfl) dX7_weight_21 rfl (c_X4_weightOf (s := 1) (c := c2) (e := e) hD (by omega) (by omega) (by omega) ?_)
      refine V_goto 34 dX7_weight_24 (by decide) ?_
      refine V_lret rfl dX7_weight_34 ⟨_, rfl, ?_⟩
      exact qcast hq (by simp only [wgtC, z1, z2, if_true, nI_clamp (show c2 < 2 ^ 31 by omega), nI_clamp (show e < 2 ^ 31 by omega)]; rfl)
    · obtain ⟨e, he, rfl⟩ := hoo.resolve_left (by decide)
      refine V_aload_n dX7_weight_14 rfl 1 rfl ?_
      refine g_0_2 tw_205 dX7_weight_15 ?_
      refine V_iload_n dX7_weight_18 rfl 2 rfl ?_
      refine V_iload_n dX7_weight_19 rfl 3 rfl ?_
      refine V_iload_n dX7_weight_20 rfl 4 rfl ?_
      refine V_cVl (P := pM G (d + 2) mX7_weight _) (d := d + 1) 3 (r := []) (As := [.int 2, .int (nI c2), .int (nI e)]) (K := mX4_weightOf) ok_X4_weightOf tw_314 (ob_3 _) rfl (rmOk (Nat.le_of_ble_eq_true rfl)) (Nat.le_of_ble_eq_true rfl) dX7_weight_21 rfl (c_X4_weightOf (s := 2) (c := c2) (e := e) hD (by omega) (by omega) (by omega) ?_)
      refine V_goto 34 dX7_weight_24 (by decide) ?_
      refine V_lret rfl dX7_weight_34 ⟨_, rfl, ?_⟩
      exact qcast hq (by simp only [wgtC, z1, z2, if_true, nI_clamp (show c2 < 2 ^ 31 by omega), nI_clamp (show e < 2 ^ 31 by omega)]; rfl)
