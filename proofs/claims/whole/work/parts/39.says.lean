/-- what fails answers: told: a verdict is told; s1, s0: the set's answers of the two sorts -/
def falR (v q : Int32) (told s1 s0 : Bool) : Int32 := if fr v 0 4095 = true ∧ fr q 0 1 = true then (if q = 1 then b2i s1 else if told = true then b2i s0 else -3) else -2
theorem falR_2 {v q : Int32} {a b c : Bool} (h : fr v 0 4095 = false ∨ fr q 0 1 = false) : falR v q a b c = -2 := by
  unfold falR
  rw [if_neg]
  rintro ⟨h1, h2⟩
  rcases h with h | h
  · rw [h] at h1; cases h1
  · rw [h] at h2; cases h2
theorem falR_1 {v q : Int32} {a b c : Bool} (h : fr v 0 4095 = true) (h2 : fr q 0 1 = true) (h3 : q = 1) : falR v q a b c = b2i b := by
  unfold falR
  rw [if_pos ⟨h, h2⟩, if_pos h3]
theorem falR_3 {v q : Int32} {a b c : Bool} (h : fr v 0 4095 = true) (h2 : fr q 0 1 = true) (h3 : ¬ q = 1) (h4 : a = false) : falR v q a b c = -3 := by
  unfold falR
  rw [if_pos ⟨h, h2⟩, if_neg h3, h4]; rfl
theorem falR_0 {v q : Int32} {a b c : Bool} (h : fr v 0 4095 = true) (h2 : fr q 0 1 = true) (h3 : ¬ q = 1) (h4 : a = true) : falR v q a b c = b2i c := by
  unfold falR
  rw [if_pos ⟨h, h2⟩, if_neg h3, h4]; rfl
theorem FrP.refl (S : ST) : FrP S S := ⟨rfl, rfl, fun _ _ => rfl, rfl⟩
theorem c_X7_fails {G : GX} {d : Nat} {S : ST} {v q : Int32} {n : Nat} {Q : Int32 → ST → Prop} (hn : S.1 0 = nI n) (h12 : n ≤ 12) (hq : Q (falR v q (decide ((1 : Int32) ≤ S.1 9)) (bl (sSe (S.2.2.1 13) (v.toNatClampNeg / 64) n) (v.toNatClampNeg % 64)) (bl (S.2.2.2 25 (v.toNatClampNeg / 64)) (v.toNatClampNeg % 64))) S) : Cn G (d + 5) mX7_fails [.ref (G.2.1 0), .int v, .int q] S (qi Q) := by
  refine Cn.intro (lv := [(0, .ref (G.2.1 0)), (1, .int v), (2, .int q)]) (by decide) (Nat.le_of_ble_eq_true rfl) rfl ?_
  refine V_iload_n dX7_fails_0 rfl 1 rfl ?_
  refine V_iconst (v := 0) dX7_fails_1 ki_0 ?_
  refine V_sipush (v := 4095) dX7_fails_2 ks_4095 ?_
  refine V_cSi (P := pM G (d + 5) mX7_fails _) (d := d + 4) (r := []) (As := [.int v, .int 0, .int 4095]) (K := mX7_isFrom) ok_X7_isFrom tw_240 rfl (rmOk (Nat.le_of_ble_eq_true rfl)) (Nat.le_of_ble_eq_true rfl) dX7_fails_5 rfl (c_X7_isFrom ?_)
  refine V_ifb_eq 20 dX7_fails_8 (by decide) (fun h1 => ?_) (fun h1 => ?_)
  · refine V_bipush (v := -2) dX7_fails_20 kb_m2 ?_
    refine V_iret rfl dX7_fails_22 ⟨_, rfl, ?_⟩
    exact qcast hq (falR_2 (.inl h1)).symm
  · have hv := h1
    obtain ⟨t, -, ht, rfl⟩ := fr_ex (a := 0) (b := 4095) rfl rfl h1 (by omega)
    rw [nI_clamp (show t < 2 ^ 31 by omega)] at hq
    refine V_iload_n dX7_fails_11 rfl 2 rfl ?_
    refine V_iconst (v := 0) dX7_fails_12 ki_0 ?_
    refine V_iconst (v := 1) dX7_fails_13 ki_1 ?_
    refine V_cSi (P := pM G (d + 5) mX7_fails _) (d := d + 4) (r := []) (As := [.int q, .int 0, .int 1]) (K := mX7_isFrom) ok_X7_isFrom tw_240 rfl (rmOk (Nat.le_of_ble_eq_true rfl)) (Nat.le_of_ble_eq_true rfl) dX7_fails_14 rfl (c_X7_isFrom ?_)
    refine V_ifb_ne 23 dX7_fails_17 (by decide) (fun h2 => ?_) (fun h2 => ?_)
    · refine V_iload_n dX7_fails_23 rfl 2 rfl ?_
      refine V_iconst (v := 1) dX7_fails_24 ki_1 ?_
      refine V_icmp_ne 40 dX7_fails_25 (by decide) (fun h3 => ?_) (fun h3 => ?_)
      · refine V_aload_n dX7_fails_40 rfl 0 rfl ?_
        refine g_0_6 tw_209 dX7_fails_41 ?_
        refine g_7_0 tw_172 dX7_fails_44 ?_
        refine V_iconst (v := 1) dX7_fails_47 ki_1 ?_
        refine V_icmp_ge 54 dX7_fails_48 (by decide) (fun h4 => ?_) (fun h4 => ?_)
        · refine V_aload_n dX7_fails_54 rfl 0 rfl ?_
          refine g_0_6 tw_209 dX7_fails_55 ?_
          refine g_7_1 tw_175 dX7_fails_58 ?_
          refine V_iload_n dX7_fails_61 rfl 1 rfl ?_
          refine V_cSi (P := pM G (d + 5) mX7_fails _) (d := d + 4) (r := []) (As := [.ref (G.2.1 25), .int (nI t)]) (K := mX7_isAmong) ok_X7_isAmong tw_551 rfl (rmOk (Nat.le_of_ble_eq_true rfl)) (Nat.le_of_ble_eq_true rfl) dX7_fails_62 rfl (c_X7_isAmong_25 (by omega) ?_)
          refine V_cSi (P := pM G (d + 5) mX7_fails _) (d := d + 4) (r := []) (As := [.int (b2i (bl (S.2.2.2 25 (t / 64)) (t % 64)))]) (K := mX7_asNumber) ok_X7_asNumber tw_299 rfl (rmOk (Nat.le_of_ble_eq_true rfl)) (Nat.le_of_ble_eq_true rfl) dX7_fails_65 rfl (c_X7_asNumber ?_)
          refine V_iret rfl dX7_fails_68 ⟨_, rfl, ?_⟩
          exact qcast hq (falR_0 hv h2 h3 (decide_eq_true h4)).symm
        · refine V_bipush (v := -3) dX7_fails_51 kb_m3 ?_
          refine V_iret rfl dX7_fails_53 ⟨_, rfl, ?_⟩
          exact qcast hq (falR_3 hv h2 h3 (decide_eq_false h4)).symm
      · refine V_aload_n dX7_fails_28 rfl 0 rfl ?_
        refine g_0_7 tw_210 dX7_fails_29 ?_
        refine V_iload_n dX7_fails_32 rfl 1 rfl ?_
        refine V_cVi (P := pM G (d + 5) mX7_fails _) (d := d + 4) 8 (r := []) (As := [.int (nI t)]) (K := mX0_isSound) ok_X0_isSound tw_534 (ob_8 _) rfl (rmOk (Nat.le_of_ble_eq_true rfl)) (Nat.le_of_ble_eq_true rfl) dX7_fails_33 rfl (c_X0_isSound hn h12 (by omega) ?_)
        refine V_cSi (P := pM G (d + 5) mX7_fails _) (d := d + 4) (r := []) (As := [.int (b2i (bl (sSe (S.2.2.1 13) (t / 64) n) (t % 64)))]) (K := mX7_asNumber) ok_X7_asNumber tw_299 rfl (rmOk (Nat.le_of_ble_eq_true rfl)) (Nat.le_of_ble_eq_true rfl) dX7_fails_36 rfl (c_X7_asNumber ?_)
        refine V_iret rfl dX7_fails_39 ⟨_, rfl, ?_⟩
        exact qcast hq (falR_1 hv h2 h3).symm
    · refine V_bipush (v := -2) dX7_fails_20 kb_m2 ?_
      refine V_iret rfl dX7_fails_22 ⟨_, rfl, ?_⟩
      exact qcast hq (falR_2 (.inr h2)).symm
theorem c_X8_fails {G : GX} {d : Nat} {S : ST} {v q : Int32} {n y : Nat} {Q : Int32 → ST → Prop} (hn : S.1 10 = nI n) (h12 : n ≤ 12) (hg : S.1 13 = nI y) (hy : y ≤ 40) (hW : 0 < y → WF (S.2.2.1 39) y) (hq : ∀ S2, FrP S S2 → Q (falR v q (decide (0 < y)) (snd (S.2.2.1 33) v n) (tv (S.2.2.1 39) y v.toNatClampNeg)) S2) : Cn G (d + 2) mX8_fails [.ref (G.2.1 29), .int v, .int q] S (qi Q) := by
  refine Cn.intro (lv := [(0, .ref (G.2.1 29)), (1, .int v), (2, .int q)]) (by decide) (Nat.le_of_ble_eq_true rfl) rfl ?_
  refine V_iload_n dX8_fails_0 rfl 1 rfl ?_
  refine V_iconst (v := 0) dX8_fails_1 ki_0 ?_
  refine V_sipush (v := 4095) dX8_fails_2 ks_4095 ?_
  refine V_cSi (P := pM G (d + 2) mX8_fails _) (d := d + 1) (r := []) (As := [.int v, .int 0, .int 4095]) (K := mX8_in) ok_X8_in tw_721 rfl (rmOk (Nat.le_of_ble_eq_true rfl)) (Nat.le_of_ble_eq_true rfl) dX8_fails_5 rfl (c_X8_in ?_)
  refine V_ifb_eq 18 dX8_fails_8 (by decide) (fun h1 => ?_) (fun h1 => ?_)
  · refine V_bipush (v := -2) dX8_fails_18 kb_m2 ?_
    refine V_iret rfl dX8_fails_20 ⟨_, rfl, ?_⟩
    exact qcast (hq _ (FrP.refl S)) (falR_2 (.inl h1)).symm
  · have hv := h1
    obtain ⟨t, -, ht, rfl⟩ := fr_ex (a := 0) (b := 4095) rfl rfl h1 (by omega)
    rw [nI_clamp (show t < 2 ^ 31 by omega)] at hq
    refine V_iload_n dX8_fails_11 rfl 2 rfl ?_
    refine V_cSi (P := pM G (d + 2) mX8_fails _) (d := d + 1) (r := []) (As := [.int q]) (K := mX8_isPart) ok_X8_isPart tw_732 rfl (rmOk (Nat.le_of_ble_eq_true rfl)) (Nat.le_of_ble_eq_true rfl) dX8_fails_12 rfl (c_X8_isPart ?_)
    refine V_ifb_ne 21 dX8_fails_15 (by decide) (fun h2 => ?_) (fun h2 => ?_)
    · refine V_iload_n dX8_fails_21 rfl 2 rfl ?_
      refine V_iconst (v := 1) dX8_fails_22 ki_1 ?_
      refine V_icmp_ne 40 dX8_fails_23 (by decide) (fun h3 => ?_) (fun h3 => ?_)
      · refine V_aload_n dX8_fails_40 rfl 0 rfl ?_
        refine g_29_12 tw_640 dX8_fails_41 ?_
        refine V_topi (v := nI y) (hg) ?_
        refine V_if_nen 52 (a := y) dX8_fails_44 (by decide) (by omega) (fun h4 => ?_) (fun h4 => ?_)
        · refine V_aload_n dX8_fails_52 rfl 0 rfl ?_
          refine V_iload_n dX8_fails_53 rfl 1 rfl ?_
          refine V_cVi (P := pM G (d + 2) mX8_fails _) (d := d + 1) 29 (r := []) (As := [.int (nI t)]) (K := mX8_failsOf) ok_X8_failsOf tw_888 (ob_29 _) rfl (rmOk (Nat.le_of_ble_eq_true rfl)) (Nat.le_of_ble_eq_true rfl) dX8_fails_54 rfl (c_X8_failsOf hg (hW h4) (by omega) (fun S2 hF => ?_))
          refine V_ifb_eq 64 dX8_fails_57 (by decide) (fun h5 => ?_) (fun h5 => ?_)
          · refine V_iconst (v := 0) dX8_fails_64 ki_0 ?_
            refine V_iret rfl dX8_fails_65 ⟨_, rfl, ?_⟩
            exact qcast (hq _ hF) (by rw [falR_0 hv h2 h3 (decide_eq_true h4), h5]; rfl)
          · refine V_iconst (v := 1) dX8_fails_60 ki_1 ?_
            refine V_goto 65 dX8_fails_61 (by decide) ?_
            refine V_iret rfl dX8_fails_65 ⟨_, rfl, ?_⟩
            exact qcast (hq _ hF) (by rw [falR_0 hv h2 h3 (decide_eq_true h4), h5]; rfl)
        · refine V_bipush (v := -3) dX8_fails_47 kb_m3 ?_
          refine V_goto 65 dX8_fails_49 (by decide) ?_
          refine V_iret rfl dX8_fails_65 ⟨_, rfl, ?_⟩
          exact qcast (hq _ (FrP.refl S)) (falR_3 hv h2 h3 (decide_eq_false (by omega))).symm
      · refine V_aload_n dX8_fails_26 rfl 0 rfl ?_
        refine V_iload_n dX8_fails_27 rfl 1 rfl ?_
        refine V_cVi (P := pM G (d + 2) mX8_fails _) (d := d + 1) 29 (r := []) (As := [.int (nI t)]) (K := mX8_isSound) ok_X8_isSound tw_884 (ob_29 _) rfl (rmOk (Nat.le_of_ble_eq_true rfl)) (Nat.le_of_ble_eq_true rfl) dX8_fails_28 rfl (c_X8_isSound hn h12 ?_)
        refine V_ifb_eq 38 dX8_fails_31 (by decide) (fun h6 => ?_) (fun h6 => ?_)
        · refine V_iconst (v := 0) dX8_fails_38 ki_0 ?_
          refine V_iret rfl dX8_fails_39 ⟨_, rfl, ?_⟩
          exact qcast (hq _ (FrP.refl S)) (by rw [falR_1 hv h2 h3, h6]; rfl)
        · refine V_iconst (v := 1) dX8_fails_34 ki_1 ?_
          refine V_goto 39 dX8_fails_35 (by decide) ?_
          refine V_iret rfl dX8_fails_39 ⟨_, rfl, ?_⟩
          exact qcast (hq _ (FrP.refl S)) (by rw [falR_1 hv h2 h3, h6]; rfl)
    · refine V_bipush (v := -2) dX8_fails_18 kb_m2 ?_
      refine V_iret rfl dX8_fails_20 ⟨_, rfl, ?_⟩
      exact qcast (hq _ (FrP.refl S)) (falR_2 (.inr h2)).symm
