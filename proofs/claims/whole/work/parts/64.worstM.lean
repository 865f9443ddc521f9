def FrY (S0 S : ST) : Prop := (∀ i, i ≠ 15 → S.1 i = S0.1 i) ∧ S.2.1 = S0.2.1 ∧ (∀ c, c ≠ 44 → c ≠ 45 → c ≠ 46 → c ≠ 47 → S.2.2.1 c = S0.2.2.1 c) ∧ S.2.2.2 = S0.2.2.2
theorem FrY.rf (S : ST) : FrY S S := ⟨fun _ _ => rfl, rfl, fun _ _ _ _ _ => rfl, rfl⟩
theorem FrY.l {A B C : ST} (h : FrY A B) (g : FrL B C) : FrY A C := ⟨fun i hi => by rw [g.1]; exact h.1 i hi, g.2.1.trans h.2.1, fun c a1 a2 a3 a4 => (g.2.2.1 c a1 a2 a3 a4).trans (h.2.2.1 c a1 a2 a3 a4), g.2.2.2.trans h.2.2.2⟩
theorem FrY.c {A B : ST} (h : FrY A B) {c : Nat} (g : c ≠ 44 ∧ c ≠ 45 ∧ c ≠ 46 ∧ c ≠ 47) : B.2.2.1 c = A.2.2.1 c := h.2.2.1 c g.1 g.2.1 g.2.2.1 g.2.2.2
theorem LY.base {A B S : ST} {n t : Nat} (h : LY A n t S) (h1 : B.2.2.1 30 = A.2.2.1 30) (h2 : B.2.2.1 34 = A.2.2.1 34) (h3 : B.2.2.1 32 = A.2.2.1 32) (h4 : B.2.2.1 31 = A.2.2.1 31) : LY B n t S := by
  unfold LY L4 at *
  rw [h1, h2, h3, h4]
  exact h
theorem EM.mv {A B : ST} {n : Nat} (h : EM A n) (h0 : B.1 10 = A.1 10) (h1 : B.2.2.1 30 = A.2.2.1 30) (h3 : B.2.2.1 32 = A.2.2.1 32) (h4 : B.2.2.1 31 = A.2.2.1 31) : EM B n := by
  unfold EM at *
  rw [h0, h1, h3, h4]
  exact h
theorem lp_lay {G : GX} {d n : Nat} {S0 : ST} {Q : ST → Prop} (hE : EM S0 n) (h12 : n ≤ 12) (hq : ∀ S2, FrL S0 S2 → LY S0 n (2 ^ n) S2 → Q S2) : ∀ (k t : Nat) (S : ST), t ≤ 2 ^ n → 2 ^ n - t < k → FrL S0 S → LY S0 n t S → V (pM G (d + 2) mX8_lay (qv Q)) 14 [(1, .int (nI t)), (0, .ref (G.2.1 29))] [] S := by
  intro k
  induction k with
  | zero => intro t S ht hk; exact absurd hk (Nat.not_lt_zero _)
  | succ k ih =>
    intro t S ht hk hF hY
    have h2n := p2_le h12
    have hn : S.1 10 = nI n := by rw [hF.1]; exact hE.1
    refine V_iload_n dX8_lay_14 rfl 0 rfl ?_
    refine V_iconst (v := 1) dX8_lay_15 ki_1 ?_
    refine V_aload_n dX8_lay_16 rfl 1 rfl ?_
    refine g_29_0 tw_628 dX8_lay_17 ?_
    refine V_topi (v := nI n) (id hn) ?_
    refine V_ishl dX8_lay_20 ?_
    refine V_topi (v := nI (2 ^ n)) (sh1n n h12) ?_
    refine V_icmp_gen 35 (a := t) (b := (2 ^ n)) dX8_lay_21 (by decide) (by omega) (by omega) (fun h1 => ?_) (fun h1 => ?_)
    · have hin : t = 2 ^ n := by omega
      subst hin
      exact V_vret rfl dX8_lay_35 ⟨rfl, hq S hF hY⟩
    · refine V_aload_n dX8_lay_24 rfl 1 rfl ?_
      refine V_iload_n dX8_lay_25 rfl 0 rfl ?_
      refine V_cVv (P := pM G (d + 2) mX8_lay _) (d := d + 1) 29 (r := []) (As := [.int (nI t)]) (K := mX8_laySet) ok_X8_laySet tw_848 (ob_29 _) rfl (rmOk (Nat.le_of_ble_eq_true rfl)) (Nat.le_of_ble_eq_true rfl) dX8_lay_26 rfl (c_X8_laySet hE h12 (by omega) hF hY (fun S2 hF2 hY2 => ?_))
      refine V_iinc [(1, .int (nI (t + 1))), (0, .ref (G.2.1 29))] dX8_lay_29 0 rfl (nI_1 _) (Nat.le_of_ble_eq_true rfl) rfl ?_
      refine V_goto 14 dX8_lay_32 (by decide) ?_
      refine V_lv [(1, .int (nI (t + 1))), (0, .ref (G.2.1 29))] [0, 1] rfl ?_
      exact ih (t + 1) S2 (by omega) (by omega) hF2 hY2
theorem c_X8_lay {G : GX} {d : Nat} {S : ST} {n : Nat} {Q : ST → Prop} (hE : EM S n) (h12 : n ≤ 12) (hL : ¬ S.1 15 = 0 → LY S n (2 ^ n) S) (hq : ∀ S2, FrY S S2 → LY S2 n (2 ^ n) S2 → Q S2) : Cn G (d + 2) mX8_lay [.ref (G.2.1 29)] S (qv Q) := by
  refine Cn.intro (lv := [(0, .ref (G.2.1 29))]) (by decide) (Nat.le_of_ble_eq_true rfl) rfl ?_
  refine V_aload_n dX8_lay_0 rfl 0 rfl ?_
  refine g_29_20 tw_648 dX8_lay_1 ?_
  refine V_if_ne 35 dX8_lay_4 (by decide) (fun h1 => ?_) (fun h1 => ?_)
  · exact V_vret rfl dX8_lay_35 ⟨rfl, hq S (FrY.rf S) (hL h1)⟩
  · refine V_aload_n dX8_lay_7 rfl 0 rfl ?_
    refine V_iconst (v := 1) dX8_lay_8 ki_1 ?_
    refine p_29_20 (by decide) tw_648 dX8_lay_9 ?_
    refine V_iconst (v := 0) dX8_lay_12 ki_0 ?_
    refine V_istore_n [(1, .int 0), (0, .ref (G.2.1 29))] dX8_lay_13 rfl (Nat.le_of_ble_eq_true rfl) rfl ?_
    refine V_lv [(1, .int 0), (0, .ref (G.2.1 29))] [0, 1] rfl ?_
    refine V_lveq [(1, .int (nI 0)), (0, .ref (G.2.1 29))] (by rfl) ?_
    exact lp_lay (S0 := setI S 15 1) (hE.mv rfl rfl rfl rfl) h12 (fun S2 hF2 hY2 => hq S2 (FrY.l (B := setI S 15 1) ⟨fun i hi => by simp [setI, va_up, hi], rfl, fun _ _ _ _ _ => rfl, rfl⟩ hF2) (hY2.base (hF2.c (c := 30) (by decide)) (hF2.c (c := 34) (by decide)) (hF2.c (c := 32) (by decide)) (hF2.c (c := 31) (by decide)))) (2 ^ n + 1) 0 _ (Nat.zero_le _) (Nat.lt_succ_of_le (Nat.sub_le _ _)) (FrL.rf _) (fun s hs => absurd hs (Nat.not_lt_zero _))
theorem c_X8_worst {G : GX} {d : Nat} {S : ST} {s w : Int32} {n : Nat} {Q : Int32 → ST → Prop} (hE : EM S n) (h12 : n ≤ 12) (hL : ¬ S.1 15 = 0 → LY S n (2 ^ n) S) (hq : ∀ S2, (S2 = S ∨ (FrY S S2 ∧ LY S2 n (2 ^ n) S2)) → Q (parR n s w (PR false (S.2.2.1 30) (S.2.2.1 34) (S.2.2.1 32) (S.2.2.1 31) n)) S2) : Cn G (d + 3) mX8_worst [.ref (G.2.1 29), .int s, .int w] S (qi Q) := by
  refine Cn.intro (lv := [(0, .ref (G.2.1 29)), (1, .int s), (2, .int w)]) (by decide) (Nat.le_of_ble_eq_true rfl) rfl ?_
  refine V_aload_n dX8_worst_0 rfl 0 rfl ?_
  refine V_iload_n dX8_worst_1 rfl 1 rfl ?_
  refine V_cVi (P := pM G (d + 3) mX8_worst _) (d := d + 2) 29 (r := []) (As := [.int s]) (K := mX8_isSet) ok_X8_isSet tw_840 (ob_29 _) rfl (rmOk (Nat.le_of_ble_eq_true rfl)) (Nat.le_of_ble_eq_true rfl) dX8_worst_2 rfl (c_X8_isSet hE.1 h12 ?_)
  refine V_ifb_eq 15 dX8_worst_5 (by decide) (fun h1 => ?_) (fun h1 => ?_)
  · refine V_bipush (v := -2) dX8_worst_15 kb_m2 ?_
    exact V_iret rfl dX8_worst_17 ⟨_, rfl, qcast (hq S (Or.inl rfl)) (by unfold parR; rw [if_neg (fun z => by rw [h1] at z; exact absurd z.1 (by decide))])⟩
  · refine V_iload_n dX8_worst_8 rfl 2 rfl ?_
    refine V_cSi (P := pM G (d + 3) mX8_worst _) (d := d + 2) (r := []) (As := [.int w]) (K := mX8_isPart) ok_X8_isPart tw_732 rfl (rmOk (Nat.le_of_ble_eq_true rfl)) (Nat.le_of_ble_eq_true rfl) dX8_worst_9 rfl (c_X8_isPart ?_)
    refine V_ifb_ne 18 dX8_worst_12 (by decide) (fun h2 => ?_) (fun h2 => ?_)
    · refine V_aload_n dX8_worst_18 rfl 0 rfl ?_
      refine V_cVv (P := pM G (d + 3) mX8_worst _) (d := d + 2) 29 (r := []) (As := []) (K := mX8_lay) ok_X8_lay tw_844 (ob_29 _) rfl (rmOk (Nat.le_of_ble_eq_true rfl)) (Nat.le_of_ble_eq_true rfl) dX8_worst_19 rfl (c_X8_lay hE h12 hL (fun S2 hF2 hY2 => ?_))
      obtain ⟨t, ht2, rfl⟩ := set_ex h12 h1
      have ht : t < 4096 := Nat.lt_of_lt_of_le ht2 (p2_le h12)
      have hL4 := hY2 t ht2
      have eR : PR false (S2.2.2.1 30) (S2.2.2.1 34) (S2.2.2.1 32) (S2.2.2.1 31) n = PR false (S.2.2.1 30) (S.2.2.1 34) (S.2.2.1 32) (S.2.2.1 31) n := by rw [hF2.c (c := 30) (by decide), hF2.c (c := 34) (by decide), hF2.c (c := 32) (by decide), hF2.c (c := 31) (by decide)]
      refine V_iload_n dX8_worst_22 rfl 2 rfl ?_
      refine V_if_ne 35 dX8_worst_23 (by decide) (fun h3 => ?_) (fun h3 => ?_)
      · refine V_aload_n dX8_worst_35 rfl 0 rfl ?_
        refine g_29_22 tw_650 dX8_worst_36 ?_
        refine V_iload_n dX8_worst_39 rfl 1 rfl ?_
        refine l_45n (by omega) dX8_worst_40 ?_
        exact V_iret rfl dX8_worst_41 ⟨_, rfl, qcast (hq S2 (Or.inr ⟨hF2, hY2⟩)) (by unfold parR; rw [if_pos ⟨h1, h2⟩, if_neg h3, nI_clamp (by omega), ← eR]; exact hL4.2.1)⟩
      · refine V_aload_n dX8_worst_26 rfl 0 rfl ?_
        refine g_29_21 tw_649 dX8_worst_27 ?_
        refine V_iload_n dX8_worst_30 rfl 1 rfl ?_
        refine l_44n (by omega) dX8_worst_31 ?_
        refine V_goto 41 dX8_worst_32 (by decide) ?_
        exact V_iret rfl dX8_worst_41 ⟨_, rfl, qcast (hq S2 (Or.inr ⟨hF2, hY2⟩)) (by unfold parR; rw [if_pos ⟨h1, h2⟩, if_pos h3, nI_clamp (by omega), ← eR]; exact hL4.1)⟩
    · refine V_bipush (v := -2) dX8_worst_15 kb_m2 ?_
      exact V_iret rfl dX8_worst_17 ⟨_, rfl, qcast (hq S (Or.inl rfl)) (by unfold parR; rw [if_neg (fun z => by rw [h2] at z; exact absurd z.2 (by decide))])⟩
theorem c_X8_mean {G : GX} {d : Nat} {S : ST} {s w : Int32} {n : Nat} {Q : Int32 → ST → Prop} (hE : EM S n) (h12 : n ≤ 12) (hL : ¬ S.1 15 = 0 → LY S n (2 ^ n) S) (hq : ∀ S2, (S2 = S ∨ (FrY S S2 ∧ LY S2 n (2 ^ n) S2)) → Q (parR n s w (PR true (S.2.2.1 30) (S.2.2.1 34) (S.2.2.1 32) (S.2.2.1 31) n)) S2) : Cn G (d + 3) mX8_mean [.ref (G.2.1 29), .int s, .int w] S (qi Q) := by
  refine Cn.intro (lv := [(0, .ref (G.2.1 29)), (1, .int s), (2, .int w)]) (by decide) (Nat.le_of_ble_eq_true rfl) rfl ?_
  refine V_aload_n dX8_mean_0 rfl 0 rfl ?_
  refine V_iload_n dX8_mean_1 rfl 1 rfl ?_
  refine V_cVi (P := pM G (d + 3) mX8_mean _) (d := d + 2) 29 (r := []) (As := [.int s]) (K := mX8_isSet) ok_X8_isSet tw_840 (ob_29 _) rfl (rmOk (Nat.le_of_ble_eq_true rfl)) (Nat.le_of_ble_eq_true rfl) dX8_mean_2 rfl (c_X8_isSet hE.1 h12 ?_)
  refine V_ifb_eq 15 dX8_mean_5 (by decide) (fun h1 => ?_) (fun h1 => ?_)
  · refine V_bipush (v := -2) dX8_mean_15 kb_m2 ?_
    exact V_iret rfl dX8_mean_17 ⟨_, rfl, qcast (hq S (Or.inl rfl)) (by unfold parR; rw [if_neg (fun z => by rw [h1] at z; exact absurd z.1 (by decide))])⟩
  · refine V_iload_n dX8_mean_8 rfl 2 rfl ?_
    refine V_cSi (P := pM G (d + 3) mX8_mean _) (d := d + 2) (r := []) (As := [.int w]) (K := mX8_isPart) ok_X8_isPart tw_732 rfl (rmOk (Nat.le_of_ble_eq_true rfl)) (Nat.le_of_ble_eq_true rfl) dX8_mean_9 rfl (c_X8_isPart ?_)
    refine V_ifb_ne 18 dX8_mean_12 (by decide) (fun h2 => ?_) (fun h2 => ?_)
    · refine V_aload_n dX8_mean_18 rfl 0 rfl ?_
      refine V_cVv (P := pM G (d + 3) mX8_mean _) (d := d + 2) 29 (r := []) (As := []) (K := mX8_lay) ok_X8_lay tw_844 (ob_29 _) rfl (rmOk (Nat.le_of_ble_eq_true rfl)) (Nat.le_of_ble_eq_true rfl) dX8_mean_19 rfl (c_X8_lay hE h12 hL (fun S2 hF2 hY2 => ?_))
      obtain ⟨t, ht2, rfl⟩ := set_ex h12 h1
      have ht : t < 4096 := Nat.lt_of_lt_of_le ht2 (p2_le h12)
      have hL4 := hY2 t ht2
      have eR : PR true (S2.2.2.1 30) (S2.2.2.1 34) (S2.2.2.1 32) (S2.2.2.1 31) n = PR true (S.2.2.1 30) (S.2.2.1 34) (S.2.2.1 32) (S.2.2.1 31) n := by rw [hF2.c (c := 30) (by decide), hF2.c (c := 34) (by decide), hF2.c (c := 32) (by decide), hF2.c (c := 31) (by decide)]
      refine V_iload_n dX8_mean_22 rfl 2 rfl ?_
      refine V_if_ne 35 dX8_mean_23 (by decide) (fun h3 => ?_) (fun h3 => ?_)
      · refine V_aload_n dX8_mean_35 rfl 0 rfl ?_
        refine g_29_24 tw_652 dX8_mean_36 ?_
        refine V_iload_n dX8_mean_39 rfl 1 rfl ?_
        refine l_47n (by omega) dX8_mean_40 ?_
        exact V_iret rfl dX8_mean_41 ⟨_, rfl, qcast (hq S2 (Or.inr ⟨hF2, hY2⟩)) (by unfold parR; rw [if_pos ⟨h1, h2⟩, if_neg h3, nI_clamp (by omega), ← eR]; exact hL4.2.2.2)⟩
      · refine V_aload_n dX8_mean_26 rfl 0 rfl ?_
        refine g_29_23 tw_651 dX8_mean_27 ?_
        refine V_iload_n dX8_mean_30 rfl 1 rfl ?_
        refine l_46n (by omega) dX8_mean_31 ?_
        refine V_goto 41 dX8_mean_32 (by decide) ?_
        exact V_iret rfl dX8_mean_41 ⟨_, rfl, qcast (hq S2 (Or.inr ⟨hF2, hY2⟩)) (by unfold parR; rw [if_pos ⟨h1, h2⟩, if_pos h3, nI_clamp (by omega), ← eR]; exact hL4.2.2.1)⟩
    · refine V_bipush (v := -2) dX8_mean_15 kb_m2 ?_
      exact V_iret rfl dX8_mean_17 ⟨_, rfl, qcast (hq S (Or.inl rfl)) (by unfold parR; rw [if_neg (fun z => by rw [h2] at z; exact absurd z.2 (by decide))])⟩
