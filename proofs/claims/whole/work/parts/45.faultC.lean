def FrD (S0 S : ST) : Prop := S.1 = S0.1 ∧ S.2.1 = S0.2.1 ∧ (∀ c, c ≠ 24 → S.2.2.1 c = S0.2.2.1 c) ∧ S.2.2.2 = S0.2.2.2
theorem FrD.set (S : ST) (f : Nat → Int32) : FrD S (setAr S 24 f) := ⟨rfl, rfl, fun c h => by simp [setAr, va_up, h], rfl⟩
theorem lp_ff {G : GX} {d y : Nat} {S : ST} {Q : Int32 → ST → Prop} (hg : S.1 8 = nI y) (hy : y ≤ 40) : ∀ (k i : Nat) (A : List Nat) (a : Nat) (g : Nat → Int32), A.length = a → i + k = y → a ≤ i + 1 → (∀ b, b ∈ A → b ≤ 9) → PD g A → (∀ S2, FrD S S2 → Q (flt (S.2.2.1 23) y k A) S2) → V (pM G (d + 1) mX5_firstFault (qi Q)) 11 [(2, .int (nI i)), (1, .int (nI a)), (0, .ref (G.2.1 6))] [] (setAr S 24 g) := by
  intro k
  induction k with
  | zero =>
    intro i A a g ha hi hl h9 hD hq
    refine V_iload_n dX5_firstFault_11 rfl 0 rfl ?_
    refine V_aload_n dX5_firstFault_12 rfl 2 rfl ?_
    refine g_6_0 tw_152 dX5_firstFault_13 ?_
    refine V_topi (v := nI y) (id hg) ?_
    refine V_icmp_gen 99 (a := i) (b := y) dX5_firstFault_16 (by decide) (by omega) (by omega) (fun h1 => ?_) (fun h1 => ?_)
    · refine V_iload_n dX5_firstFault_99 rfl 1 rfl ?_
      refine V_if_nen 108 (a := a) dX5_firstFault_100 (by decide) (by omega) (fun h2 => ?_) (fun h2 => ?_)
      · refine V_aload_n dX5_firstFault_108 rfl 2 rfl ?_
        refine g_6_0 tw_152 dX5_firstFault_109 ?_
        refine V_topi (v := nI y) (id hg) ?_
        exact V_iret rfl dX5_firstFault_112 ⟨_, rfl, qcast (hq _ (FrD.set S g)) (by rw [flt_0n (by omega)])⟩
      · refine V_bipush (v := -6) dX5_firstFault_103 kb_m6 ?_
        refine V_goto 112 dX5_firstFault_105 (by decide) ?_
        exact V_iret rfl dX5_firstFault_112 ⟨_, rfl, qcast (hq _ (FrD.set S g)) (by rw [flt, if_pos (ha.trans h2)])⟩
    · exact absurd h1 (by omega)
  | succ k ih =>
    intro i A a g ha hi hl h9 hD hq
    have ei : y - (k + 1) = i := by omega
    refine V_iload_n dX5_firstFault_11 rfl 0 rfl ?_
    refine V_aload_n dX5_firstFault_12 rfl 2 rfl ?_
    refine g_6_0 tw_152 dX5_firstFault_13 ?_
    refine V_topi (v := nI y) (id hg) ?_
    refine V_icmp_gen 99 (a := i) (b := y) dX5_firstFault_16 (by decide) (by omega) (by omega) (fun h1 => ?_) (fun h1 => ?_)
    · exact absurd h1 (by omega)
    · refine V_iload_n dX5_firstFault_19 rfl 1 rfl ?_
      refine V_if_nen 25 (a := a) dX5_firstFault_20 (by decide) (by omega) (fun h2 => ?_) (fun h2 => ?_)
      · obtain ⟨dp, R, rfl⟩ : ∃ dp R, A = dp :: R := by
          cases A with
          | nil => subst ha; exact absurd h2 (by decide)
          | cons a b => exact ⟨a, b, rfl⟩
        obtain ⟨r, hr⟩ : ∃ r, R.length = r := ⟨_, rfl⟩
        have hra : r + 1 = a := by rw [← ha, ← hr]; rfl
        have hdp := h9 dp (List.mem_cons_self ..)
        refine V_lveq [(2, .int (nI i)), (1, .int (nI (r + 1))), (0, .ref (G.2.1 6))] (by rw [hra]) ?_
        refine V_iinc [(1, .int (nI r)), (2, .int (nI i)), (0, .ref (G.2.1 6))] dX5_firstFault_25 1 rfl (by rw [ki_m1]; exact sb_m1 (by omega)) (Nat.le_of_ble_eq_true rfl) rfl ?_
        refine V_aload_n dX5_firstFault_28 rfl 2 rfl ?_
        refine g_6_2 tw_157 dX5_firstFault_29 ?_
        refine V_iload_n dX5_firstFault_32 rfl 0 rfl ?_
        refine l_24n (by omega) dX5_firstFault_33 ?_
        refine V_topi (v := nI dp) ((hr ▸ hD.1)) ?_
        refine V_istore_n [(3, .int (nI dp)), (1, .int (nI r)), (2, .int (nI i)), (0, .ref (G.2.1 6))] dX5_firstFault_34 rfl (Nat.le_of_ble_eq_true rfl) rfl ?_
        refine V_aload_n dX5_firstFault_35 rfl 3 rfl ?_
        refine g_6_1 tw_155 dX5_firstFault_36 ?_
        refine V_iload_n dX5_firstFault_39 rfl 2 rfl ?_
        refine l_23n (by omega) dX5_firstFault_40 ?_
        refine V_topi (v := S.2.2.1 23 i) ((rfl)) ?_
        refine V_cSi (P := pM G (d + 1) mX5_firstFault _) (d := d) (r := []) (As := [.int (S.2.2.1 23 i)]) (K := mX5_textsOf) ok_X5_textsOf tw_506 rfl (rmOk (Nat.le_of_ble_eq_true rfl)) (Nat.le_of_ble_eq_true rfl) dX5_firstFault_41 rfl (c_X5_textsOf ?_)
        refine V_istore [(4, .int (txO (S.2.2.1 23 i))), (3, .int (nI dp)), (1, .int (nI r)), (2, .int (nI i)), (0, .ref (G.2.1 6))] dX5_firstFault_44 (Nat.le_of_ble_eq_true rfl) rfl ?_
        rcases txO_c (S.2.2.1 23 i) with ht | ht | ht | ht
        · refine V_lveq [(4, .int (-1)), (3, .int (nI dp)), (1, .int (nI r)), (2, .int (nI i)), (0, .ref (G.2.1 6))] (by rw [ht]) ?_
          refine V_iload dX5_firstFault_46 0 rfl ?_
          refine V_iconst (v := -1) dX5_firstFault_48 ki_m1 ?_
          refine V_icmp_eq 63 dX5_firstFault_49 (by decide) (fun _ => ?_) (fun hz => absurd hz (by decide))
          refine V_iload_n dX5_firstFault_63 rfl 3 rfl ?_
          refine V_iret rfl dX5_firstFault_64 ⟨_, rfl, qcast (hq _ (FrD.set S g)) ?_⟩
          rw [flt_x (by rw [ei]; exact Or.inl ht), ei]
        · refine V_lveq [(4, .int 0), (3, .int (nI dp)), (1, .int (nI r)), (2, .int (nI i)), (0, .ref (G.2.1 6))] (by rw [ht]) ?_
          refine V_iload dX5_firstFault_46 0 rfl ?_
          refine V_iconst (v := -1) dX5_firstFault_48 ki_m1 ?_
          refine V_icmp_eq 63 dX5_firstFault_49 (by decide) (fun hz => absurd hz (by decide)) (fun _ => ?_)
          refine V_iload dX5_firstFault_52 0 rfl ?_
          refine V_if_le 65 dX5_firstFault_54 (by decide) (fun _ => ?_) (fun hz => absurd hz (by decide))
          refine V_iconst (v := 0) dX5_firstFault_65 ki_0 ?_
          refine V_istore [(5, .int 0), (4, .int 0), (3, .int (nI dp)), (1, .int (nI r)), (2, .int (nI i)), (0, .ref (G.2.1 6))] dX5_firstFault_66 (Nat.le_of_ble_eq_true rfl) rfl ?_
          refine V_iload dX5_firstFault_68 0 rfl ?_
          refine V_iload dX5_firstFault_70 1 rfl ?_
          refine V_icmp_ge 93 dX5_firstFault_72 (by decide) (fun _ => ?_) (fun hz => absurd hz (by decide))
          refine V_iinc [(2, .int (nI (i + 1))), (5, .int 0), (4, .int 0), (3, .int (nI dp)), (1, .int (nI r)), (0, .ref (G.2.1 6))] dX5_firstFault_93 4 rfl (nI_1 _) (Nat.le_of_ble_eq_true rfl) rfl ?_
          refine V_goto 11 dX5_firstFault_96 (by decide) ?_
          refine V_lv [(2, .int (nI (i + 1))), (1, .int (nI r)), (0, .ref (G.2.1 6))] [0, 4, 5] rfl ?_
          refine V_lveq [(2, .int (nI (i + 1))), (1, .int (nI (r))), (0, .ref (G.2.1 6))] (by rfl) ?_
          refine V_S (S2 := setAr S 24 (g)) (rfl) ?_
          rw [flt_s (by rw [ei, ht]; rintro (z | ⟨z, -⟩) <;> exact absurd z (by decide)), ei, ht] at hq
          exact ih (i + 1) (R) _ _ (hr) (by omega) (by omega) (fun b hb => by exact h9 b (List.mem_cons_of_mem _ hb)) (hD.2) hq
        · refine V_lveq [(4, .int 1), (3, .int (nI dp)), (1, .int (nI r)), (2, .int (nI i)), (0, .ref (G.2.1 6))] (by rw [ht]) ?_
          refine V_iload dX5_firstFault_46 0 rfl ?_
          refine V_iconst (v := -1) dX5_firstFault_48 ki_m1 ?_
          refine V_icmp_eq 63 dX5_firstFault_49 (by decide) (fun hz => absurd hz (by decide)) (fun _ => ?_)
          refine V_iload dX5_firstFault_52 0 rfl ?_
          refine V_if_le 65 dX5_firstFault_54 (by decide) (fun hz => absurd hz (by decide)) (fun _ => ?_)
          refine V_iload_n dX5_firstFault_57 rfl 1 rfl ?_
          refine V_bipush (v := 9) dX5_firstFault_58 kb_9 ?_
          refine V_icmp_ltn 65 (a := dp) (b := 9) dX5_firstFault_60 (by decide) (by omega) (by omega) (fun h3 => ?_) (fun h3 => ?_)
          · refine V_iconst (v := 0) dX5_firstFault_65 ki_0 ?_
            refine V_istore [(5, .int 0), (4, .int 1), (3, .int (nI dp)), (1, .int (nI r)), (2, .int (nI i)), (0, .ref (G.2.1 6))] dX5_firstFault_66 (Nat.le_of_ble_eq_true rfl) rfl ?_
            refine V_iload dX5_firstFault_68 0 rfl ?_
            refine V_iload dX5_firstFault_70 1 rfl ?_
            refine V_icmp_ge 93 dX5_firstFault_72 (by decide) (fun hz => absurd hz (by decide)) (fun _ => ?_)
            refine V_aload_n dX5_firstFault_75 rfl 5 rfl ?_
            refine g_6_2 tw_157 dX5_firstFault_76 ?_
            refine V_iload_n dX5_firstFault_79 rfl 3 rfl ?_
            refine V_iload_n dX5_firstFault_80 rfl 2 rfl ?_
            refine V_iconst (v := 1) dX5_firstFault_81 ki_1 ?_
            refine V_iadd dX5_firstFault_82 ?_
            refine V_topi (v := nI (dp + 1)) (nI_1 _) ?_
            refine s_24n (by omega) dX5_firstFault_83 ?_
            refine V_iinc [(1, .int (nI (r + 1))), (5, .int 0), (4, .int 1), (3, .int (nI dp)), (2, .int (nI i)), (0, .ref (G.2.1 6))] dX5_firstFault_84 3 rfl (nI_1 _) (Nat.le_of_ble_eq_true rfl) rfl ?_
            refine V_iinc [(5, .int 1), (1, .int (nI (r + 1))), (4, .int 1), (3, .int (nI dp)), (2, .int (nI i)), (0, .ref (G.2.1 6))] dX5_firstFault_87 1 rfl rfl (Nat.le_of_ble_eq_true rfl) rfl ?_
            refine V_goto 68 dX5_firstFault_90 (by decide) ?_
            refine V_iload dX5_firstFault_68 0 rfl ?_
            refine V_iload dX5_firstFault_70 2 rfl ?_
            refine V_icmp_ge 93 dX5_firstFault_72 (by decide) (fun _ => ?_) (fun hz => absurd hz (by decide))
            refine V_iinc [(2, .int (nI (i + 1))), (5, .int 1), (1, .int (nI (r + 1))), (4, .int 1), (3, .int (nI dp)), (0, .ref (G.2.1 6))] dX5_firstFault_93 4 rfl (nI_1 _) (Nat.le_of_ble_eq_true rfl) rfl ?_
            refine V_goto 11 dX5_firstFault_96 (by decide) ?_
            refine V_lv [(2, .int (nI (i + 1))), (1, .int (nI (r + 1))), (0, .ref (G.2.1 6))] [0, 2, 5] rfl ?_
            refine V_lveq [(2, .int (nI (i + 1))), (1, .int (nI (r + 1))), (0, .ref (G.2.1 6))] (by rfl) ?_
            refine V_S (S2 := setAr S 24 (upd g r (nI (dp + 1)))) (setA_Ar S 24 _ g _) ?_
            rw [flt_s (by rw [ei, ht]; exact fun z => z.elim (fun z => absurd z (by decide)) (fun z => absurd z.2 (by omega))), ei, ht] at hq
            exact ih (i + 1) ((dp + 1) :: R) _ _ (by simp only [List.length_cons, hr]) (by omega) (by omega) (fun b hb => by simp only [List.mem_cons] at hb; rcases hb with hb | hb; all_goals first | omega | exact h9 b (List.mem_cons_of_mem _ hb)) (hr ▸ PD_push hD.2) hq
          · refine V_iload_n dX5_firstFault_63 rfl 3 rfl ?_
            refine V_iret rfl dX5_firstFault_64 ⟨_, rfl, qcast (hq _ (FrD.set S g)) ?_⟩
            rw [flt_x (by rw [ei, ht]; exact Or.inr ⟨by decide, by omega⟩), ei]
        · refine V_lveq [(4, .int 2), (3, .int (nI dp)), (1, .int (nI r)), (2, .int (nI i)), (0, .ref (G.2.1 6))] (by rw [ht]) ?_
          refine V_iload dX5_firstFault_46 0 rfl ?_
          refine V_iconst (v := -1) dX5_firstFault_48 ki_m1 ?_
          refine V_icmp_eq 63 dX5_firstFault_49 (by decide) (fun hz => absurd hz (by decide)) (fun _ => ?_)
          refine V_iload dX5_firstFault_52 0 rfl ?_
          refine V_if_le 65 dX5_firstFault_54 (by decide) (fun hz => absurd hz (by decide)) (fun _ => ?_)
          refine V_iload_n dX5_firstFault_57 rfl 1 rfl ?_
          refine V_bipush (v := 9) dX5_firstFault_58 kb_9 ?_
          refine V_icmp_ltn 65 (a := dp) (b := 9) dX5_firstFault_60 (by decide) (by omega) (by omega) (fun h4 => ?_) (fun h4 => ?_)
          · refine V_iconst (v := 0) dX5_firstFault_65 ki_0 ?_
            refine V_istore [(5, .int 0), (4, .int 2), (3, .int (nI dp)), (1, .int (nI r)), (2, .int (nI i)), (0, .ref (G.2.1 6))] dX5_firstFault_66 (Nat.le_of_ble_eq_true rfl) rfl ?_
            refine V_iload dX5_firstFault_68 0 rfl ?_
            refine V_iload dX5_firstFault_70 1 rfl ?_
            refine V_icmp_ge 93 dX5_firstFault_72 (by decide) (fun hz => absurd hz (by decide)) (fun _ => ?_)
            refine V_aload_n dX5_firstFault_75 rfl 5 rfl ?_
            refine g_6_2 tw_157 dX5_firstFault_76 ?_
            refine V_iload_n dX5_firstFault_79 rfl 3 rfl ?_
            refine V_iload_n dX5_firstFault_80 rfl 2 rfl ?_
            refine V_iconst (v := 1) dX5_firstFault_81 ki_1 ?_
            refine V_iadd dX5_firstFault_82 ?_
            refine V_topi (v := nI (dp + 1)) (nI_1 _) ?_
            refine s_24n (by omega) dX5_firstFault_83 ?_
            refine V_iinc [(1, .int (nI (r + 1))), (5, .int 0), (4, .int 2), (3, .int (nI dp)), (2, .int (nI i)), (0, .ref (G.2.1 6))] dX5_firstFault_84 3 rfl (nI_1 _) (Nat.le_of_ble_eq_true rfl) rfl ?_
            refine V_iinc [(5, .int 1), (1, .int (nI (r + 1))), (4, .int 2), (3, .int (nI dp)), (2, .int (nI i)), (0, .ref (G.2.1 6))] dX5_firstFault_87 1 rfl rfl (Nat.le_of_ble_eq_true rfl) rfl ?_
            refine V_goto 68 dX5_firstFault_90 (by decide) ?_
            refine V_iload dX5_firstFault_68 0 rfl ?_
            refine V_iload dX5_firstFault_70 2 rfl ?_
            refine V_icmp_ge 93 dX5_firstFault_72 (by decide) (fun hz => absurd hz (by decide)) (fun _ => ?_)
            refine V_aload_n dX5_firstFault_75 rfl 5 rfl ?_
            refine g_6_2 tw_157 dX5_firstFault_76 ?_
            refine V_iload_n dX5_firstFault_79 rfl 1 rfl ?_
            refine V_iload_n dX5_firstFault_80 rfl 3 rfl ?_
            refine V_iconst (v := 1) dX5_firstFault_81 ki_1 ?_
            refine V_iadd dX5_firstFault_82 ?_
            refine V_topi (v := nI (dp + 1)) (nI_1 _) ?_
            refine s_24n (by omega) dX5_firstFault_83 ?_
            refine V_iinc [(1, .int (nI ((r + 1) + 1))), (5, .int 1), (4, .int 2), (3, .int (nI dp)), (2, .int (nI i)), (0, .ref (G.2.1 6))] dX5_firstFault_84 1 rfl (nI_1 _) (Nat.le_of_ble_eq_true rfl) rfl ?_
            refine V_iinc [(5, .int 2), (1, .int (nI ((r + 1) + 1))), (4, .int 2), (3, .int (nI dp)), (2, .int (nI i)), (0, .ref (G.2.1 6))] dX5_firstFault_87 1 rfl rfl (Nat.le_of_ble_eq_true rfl) rfl ?_
            refine V_goto 68 dX5_firstFault_90 (by decide) ?_
            refine V_iload dX5_firstFault_68 0 rfl ?_
            refine V_iload dX5_firstFault_70 2 rfl ?_
            refine V_icmp_ge 93 dX5_firstFault_72 (by decide) (fun _ => ?_) (fun hz => absurd hz (by decide))
            refine V_iinc [(2, .int (nI (i + 1))), (5, .int 2), (1, .int (nI ((r + 1) + 1))), (4, .int 2), (3, .int (nI dp)), (0, .ref (G.2.1 6))] dX5_firstFault_93 4 rfl (nI_1 _) (Nat.le_of_ble_eq_true rfl) rfl ?_
            refine V_goto 11 dX5_firstFault_96 (by decide) ?_
            refine V_lv [(2, .int (nI (i + 1))), (1, .int (nI ((r + 1) + 1))), (0, .ref (G.2.1 6))] [0, 2, 5] rfl ?_
            refine V_lveq [(2, .int (nI (i + 1))), (1, .int (nI (r + 1 + 1))), (0, .ref (G.2.1 6))] (by rfl) ?_
            refine V_S (S2 := setAr S 24 (upd (upd g r (nI (dp + 1))) (r + 1) (nI (dp + 1)))) (by rw [setA_Ar, setA_Ar]) ?_
            rw [flt_s (by rw [ei, ht]; exact fun z => z.elim (fun z => absurd z (by decide)) (fun z => absurd z.2 (by omega))), ei, ht] at hq
            exact ih (i + 1) ((dp + 1) :: (dp + 1) :: R) _ _ (by simp only [List.length_cons, hr]) (by omega) (by omega) (fun b hb => by simp only [List.mem_cons] at hb; rcases hb with hb | hb | hb; all_goals first | omega | exact h9 b (List.mem_cons_of_mem _ hb)) (by have z := PD_push (dp := dp + 1) (R := (dp + 1) :: R) (PD_push (dp := dp + 1) hD.2); rw [List.length_cons, hr] at z; exact z) hq
          · refine V_iload_n dX5_firstFault_63 rfl 3 rfl ?_
            refine V_iret rfl dX5_firstFault_64 ⟨_, rfl, qcast (hq _ (FrD.set S g)) ?_⟩
            rw [flt_x (by rw [ei, ht]; exact Or.inr ⟨by decide, by omega⟩), ei]
      · refine V_iload_n dX5_firstFault_23 rfl 0 rfl ?_
        refine V_iret rfl dX5_firstFault_24 ⟨_, rfl, qcast (hq _ (FrD.set S g)) ?_⟩
        cases A with
                  | nil => rw [flt_e, ei]
                  | cons b c => exact absurd (ha.trans h2) (by simp)
