def plyM (S : ST) (n y : Nat) (q : Int32) : Option ST := if fr q 1 10 = true ∧ 0 < y ∧ hrd (S.2.2.1 34) n = true then some (plM n y q 12 0 (setI S 11 0)) else none
def plyRM (S : ST) (n y : Nat) (q : Int32) : Int32 := if fr q 1 10 = true then (if 0 < y then (if hrd (S.2.2.1 34) n = true then (plM n y q 12 0 (setI S 11 0)).1 11 else -5) else -3) else -2
theorem plyRM_2 {S : ST} {n y : Nat} {q : Int32} (h : fr q 1 10 = false) : plyRM S n y q = -2 := by
  unfold plyRM
  rw [h]; rfl
theorem plyRM_3 {S : ST} {n y : Nat} {q : Int32} (h : fr q 1 10 = true) (h2 : y = 0) : plyRM S n y q = -3 := by
  unfold plyRM
  rw [if_pos h, if_neg (by omega)]
theorem plyRM_5 {S : ST} {n y : Nat} {q : Int32} (h : fr q 1 10 = true) (h2 : 0 < y) (h3 : hrd (S.2.2.1 34) n = false) : plyRM S n y q = -5 := by
  unfold plyRM
  rw [if_pos h, if_pos h2, h3]; rfl
theorem plyRM_0 {S : ST} {n y : Nat} {q : Int32} (h : fr q 1 10 = true) (h2 : 0 < y) (h3 : hrd (S.2.2.1 34) n = true) : plyRM S n y q = (plM n y q 12 0 (setI S 11 0)).1 11 := by
  unfold plyRM
  rw [if_pos h, if_pos h2, if_pos h3]
theorem DTm_0 (S : ST) : DTm (setI S 11 0) 0 := ⟨rfl, by omega, fun k hk => absurd hk (Nat.not_lt_zero _), fun k hk => absurd hk (Nat.not_lt_zero _)⟩
theorem hrd_1 {df : Nat → Int32} {i : Nat} (h : hrd df i = true) : 1 = b2i (hrd df (i + 1)) := by rw [hrd, h]; rfl
theorem hrd_2 {df : Nat → Int32} {i : Nat} (h : df i = 0) : 1 = b2i (hrd df (i + 1)) := by rw [hrd, decide_eq_true h, Bool.or_true]; rfl
theorem hrd_3 {df : Nat → Int32} {i : Nat} (h : hrd df i = false) (h2 : ¬ df i = 0) : 0 = b2i (hrd df (i + 1)) := by rw [hrd, h, decide_eq_false h2]; rfl
theorem lp_heard {G : GX} {d n y : Nat} {q : Int32} {S : ST} {Q : Int32 → ST → Prop} (hn : S.1 10 = nI n) (h12 : n ≤ 12) (hg : S.1 13 = nI y) (h0 : 0 < y) (hW : WF (S.2.2.1 39) y) (hS : ∀ v, v < n → ∃ t, t < 4096 ∧ S.2.2.1 30 v = nI t) (hf : fr q 1 10 = true) (hq : ∀ S2, ((plyM S n y q = none ∧ FrN S S2) ∨ ∃ T, plyM S n y q = some T ∧ FrN T S2) → Q (plyRM S n y q) S2) : ∀ (k i : Nat), i ≤ n → n - i < k → V (pM G (d + 5) mX8_play (qi Q)) 27 [(3, .int (nI i)), (2, .int (b2i (hrd (S.2.2.1 34) i))), (0, .ref (G.2.1 29)), (1, .int q)] [] S := by
  intro k
  induction k with
  | zero => intro i hi hk; exact absurd hk (Nat.not_lt_zero _)
  | succ k ih =>
    intro i hi hk
    refine V_iload_n dX8_play_27 rfl 0 rfl ?_
    refine V_aload_n dX8_play_28 rfl 2 rfl ?_
    refine g_29_0 tw_628 dX8_play_29 ?_
    refine V_topi (v := nI n) (hn) ?_
    refine V_icmp_gen 60 (a := i) (b := n) dX8_play_32 (by decide) (by omega) (by omega) (fun h1 => ?_) (fun h1 => ?_)
    · have hin : i = n := by omega
      subst hin
      refine V_iload_n dX8_play_60 rfl 1 rfl ?_
      refine V_ifb_ne 67 dX8_play_61 (by decide) (fun h2 => ?_) (fun h2 => ?_)
      · refine V_aload_n dX8_play_67 rfl 2 rfl ?_
        refine V_iconst (v := 0) dX8_play_68 ki_0 ?_
        refine p_29_6 tw_634 dX8_play_69 ?_
        refine V_aload_n dX8_play_72 rfl 2 rfl ?_
        refine V_cVv (P := pM G (d + 5) mX8_play _) (d := d + 4) 29 (r := []) (As := []) (K := mX8_layStories) ok_X8_layStories tw_784 (ob_29 _) rfl (rmOk (Nat.le_of_ble_eq_true rfl)) (Nat.le_of_ble_eq_true rfl) dX8_play_73 rfl (c_X8_layStories (n := i) (m := 0) hn (DTm_0 S) h12 (fun S3 hM3 => ?_))
        refine V_lv [(3, .int (nI i)), (2, .int (b2i (hrd (S.2.2.1 34) i))), (0, .ref (G.2.1 29)), (1, .int q)] [0, 1, 2, 3] rfl ?_
        exact lp_mplay h12 13 0 (setI S 11 0) _ _ _ _ (by omega) (by omega) (FrN.rf _) hM3 (DTm_0 S) ⟨hn, hg, hW, hS, hrd_ex h2⟩ (fun S2 hF => qcast (hq S2 (Or.inr ⟨_, if_pos ⟨hf, h0, h2⟩, hF⟩)) (by rw [plyRM_0 hf h0 h2]; exact hF.1 11 (by decide)))
      · refine V_bipush (v := -5) dX8_play_64 kb_m5 ?_
        exact V_iret rfl dX8_play_66 ⟨_, rfl, qcast (hq S (Or.inl ⟨(by unfold plyM; rw [if_neg]; rintro ⟨-, -, z⟩; rw [h2] at z; cases z), FrN.rf S⟩)) (plyRM_5 hf h0 h2).symm⟩
    · refine V_iload_n dX8_play_35 rfl 1 rfl ?_
      refine V_ifb_ne 48 dX8_play_36 (by decide) (fun h3 => ?_) (fun h3 => ?_)
      · refine V_iconst (v := 1) dX8_play_48 ki_1 ?_
        refine V_goto 53 dX8_play_49 (by decide) ?_
        refine V_istore_n [(2, .int 1), (3, .int (nI i)), (0, .ref (G.2.1 29)), (1, .int q)] dX8_play_53 rfl (Nat.le_of_ble_eq_true rfl) rfl ?_
        refine V_iinc [(3, .int (nI (i + 1))), (2, .int 1), (0, .ref (G.2.1 29)), (1, .int q)] dX8_play_54 1 rfl (nI_1 _) (Nat.le_of_ble_eq_true rfl) rfl ?_
        refine V_goto 27 dX8_play_57 (by decide) ?_
        refine V_lv [(3, .int (nI (i + 1))), (2, .int 1), (0, .ref (G.2.1 29)), (1, .int q)] [0, 1, 2, 3] rfl ?_
        refine V_lveq [(3, .int (nI (i + 1))), (2, .int (b2i (hrd (S.2.2.1 34) (i + 1)))), (0, .ref (G.2.1 29)), (1, .int q)] (by rw [← hrd_1 h3]) ?_
        exact ih (i + 1) (by omega) (by omega)
      · refine V_aload_n dX8_play_39 rfl 2 rfl ?_
        refine g_29_5 tw_633 dX8_play_40 ?_
        refine V_iload_n dX8_play_43 rfl 0 rfl ?_
        refine l_34n (by omega) dX8_play_44 ?_
        refine V_if_ne 52 dX8_play_45 (by decide) (fun h4 => ?_) (fun h4 => ?_)
        · refine V_iconst (v := 0) dX8_play_52 ki_0 ?_
          refine V_istore_n [(2, .int 0), (3, .int (nI i)), (0, .ref (G.2.1 29)), (1, .int q)] dX8_play_53 rfl (Nat.le_of_ble_eq_true rfl) rfl ?_
          refine V_iinc [(3, .int (nI (i + 1))), (2, .int 0), (0, .ref (G.2.1 29)), (1, .int q)] dX8_play_54 1 rfl (nI_1 _) (Nat.le_of_ble_eq_true rfl) rfl ?_
          refine V_goto 27 dX8_play_57 (by decide) ?_
          refine V_lv [(3, .int (nI (i + 1))), (2, .int 0), (0, .ref (G.2.1 29)), (1, .int q)] [0, 1, 2, 3] rfl ?_
          refine V_lveq [(3, .int (nI (i + 1))), (2, .int (b2i (hrd (S.2.2.1 34) (i + 1)))), (0, .ref (G.2.1 29)), (1, .int q)] (by rw [← hrd_3 h3 h4]) ?_
          exact ih (i + 1) (by omega) (by omega)
        · refine V_iconst (v := 1) dX8_play_48 ki_1 ?_
          refine V_goto 53 dX8_play_49 (by decide) ?_
          refine V_istore_n [(2, .int 1), (3, .int (nI i)), (0, .ref (G.2.1 29)), (1, .int q)] dX8_play_53 rfl (Nat.le_of_ble_eq_true rfl) rfl ?_
          refine V_iinc [(3, .int (nI (i + 1))), (2, .int 1), (0, .ref (G.2.1 29)), (1, .int q)] dX8_play_54 1 rfl (nI_1 _) (Nat.le_of_ble_eq_true rfl) rfl ?_
          refine V_goto 27 dX8_play_57 (by decide) ?_
          refine V_lv [(3, .int (nI (i + 1))), (2, .int 1), (0, .ref (G.2.1 29)), (1, .int q)] [0, 1, 2, 3] rfl ?_
          refine V_lveq [(3, .int (nI (i + 1))), (2, .int (b2i (hrd (S.2.2.1 34) (i + 1)))), (0, .ref (G.2.1 29)), (1, .int q)] (by rw [← hrd_2 h4]) ?_
          exact ih (i + 1) (by omega) (by omega)
theorem c_X8_play {G : GX} {d : Nat} {S : ST} {q : Int32} {n y : Nat} {Q : Int32 → ST → Prop} (hn : S.1 10 = nI n) (h12 : n ≤ 12) (hg : S.1 13 = nI y) (hy : y ≤ 40) (hW : 0 < y → WF (S.2.2.1 39) y) (hS : ∀ v, v < n → ∃ t, t < 4096 ∧ S.2.2.1 30 v = nI t) (hq : ∀ S2, ((plyM S n y q = none ∧ FrN S S2) ∨ ∃ T, plyM S n y q = some T ∧ FrN T S2) → Q (plyRM S n y q) S2) : Cn G (d + 5) mX8_play [.ref (G.2.1 29), .int q] S (qi Q) := by
  refine Cn.intro (lv := [(0, .ref (G.2.1 29)), (1, .int q)]) (by decide) (Nat.le_of_ble_eq_true rfl) rfl ?_
  refine V_iload_n dX8_play_0 rfl 1 rfl ?_
  refine V_iconst (v := 1) dX8_play_1 ki_1 ?_
  refine V_bipush (v := 10) dX8_play_2 kb_10 ?_
  refine V_cSi (P := pM G (d + 5) mX8_play _) (d := d + 4) (r := []) (As := [.int q, .int 1, .int 10]) (K := mX8_in) ok_X8_in tw_721 rfl (rmOk (Nat.le_of_ble_eq_true rfl)) (Nat.le_of_ble_eq_true rfl) dX8_play_4 rfl (c_X8_in ?_)
  refine V_ifb_ne 13 dX8_play_7 (by decide) (fun h1 => ?_) (fun h1 => ?_)
  · refine V_aload_n dX8_play_13 rfl 0 rfl ?_
    refine g_29_12 tw_640 dX8_play_14 ?_
    refine V_topi (v := nI y) (hg) ?_
    refine V_if_nen 23 (a := y) dX8_play_17 (by decide) (by omega) (fun h2 => ?_) (fun h2 => ?_)
    · refine V_iconst (v := 0) dX8_play_23 ki_0 ?_
      refine V_istore_n [(2, .int 0), (0, .ref (G.2.1 29)), (1, .int q)] dX8_play_24 rfl (Nat.le_of_ble_eq_true rfl) rfl ?_
      refine V_iconst (v := 0) dX8_play_25 ki_0 ?_
      refine V_istore_n [(3, .int 0), (2, .int 0), (0, .ref (G.2.1 29)), (1, .int q)] dX8_play_26 rfl (Nat.le_of_ble_eq_true rfl) rfl ?_
      refine V_lv [(3, .int 0), (2, .int 0), (0, .ref (G.2.1 29)), (1, .int q)] [0, 1, 2, 3] rfl ?_
      refine V_lveq [(3, .int 0), (2, .int (b2i (hrd (S.2.2.1 34) 0))), (0, .ref (G.2.1 29)), (1, .int q)] (by rfl) ?_
      exact lp_heard hn h12 hg h2 (hW h2) hS h1 hq (n + 1) 0 (by omega) (by omega)
    · refine V_bipush (v := -3) dX8_play_20 kb_m3 ?_
      exact V_iret rfl dX8_play_22 ⟨_, rfl, qcast (hq S (Or.inl ⟨(by unfold plyM; rw [if_neg]; rintro ⟨-, z, -⟩; omega), FrN.rf S⟩)) (plyRM_3 h1 h2).symm⟩
  · refine V_bipush (v := -2) dX8_play_10 kb_m2 ?_
    exact V_iret rfl dX8_play_12 ⟨_, rfl, qcast (hq S (Or.inl ⟨(by unfold plyM; rw [if_neg]; rintro ⟨z, -⟩; rw [h1] at z; cases z), FrN.rf S⟩)) (plyRM_2 h1).symm⟩
