theorem nfo_lt0 {df co : Nat → Int32} {ls : Nat → Int64} {i : Nat} (hi : i ≤ 12) : (nfo df co ls i).1 < 0 ↔ (nfo df co ls i).1 = -6 := by
  rcases nfo_b (df := df) (co := co) (ls := ls) (i := i) with z | ⟨j, hj, z⟩
  · rw [z]; exact ⟨fun _ => rfl, fun _ => by decide⟩
  · rw [z]; exact ⟨fun h => absurd h (nI_pos (by omega)), fun h => absurd h (nI_m6 (by omega))⟩
/-- the best place so far, and its weight -/
def gm (f : Nat → Int64) : Nat → Int32 × Int64
  | 0 => (-6, 0)
  | i + 1 => if (gm f i).2 < f i then (nI i, f i) else gm f i
theorem gm_s (f : Nat → Int64) (i : Nat) : gm f (i + 1) = if (gm f i).2 < f i then (nI i, f i) else gm f i := rfl
theorem gm_b {f : Nat → Int64} : ∀ {i : Nat}, ((gm f i).1 = -6 ∧ (gm f i).2 = 0) ∨ ∃ j, j < i ∧ (gm f i).1 = nI j ∧ (gm f i).2 = f j
  | 0 => Or.inl ⟨rfl, rfl⟩
  | i + 1 => by
    rw [gm_s]
    by_cases h : (gm f i).2 < f i
    · rw [if_pos h]; exact Or.inr ⟨i, by omega, rfl, rfl⟩
    · rw [if_neg h]
      rcases gm_b (f := f) (i := i) with z | ⟨j, hj, z⟩
      · exact Or.inl z
      · exact Or.inr ⟨j, by omega, z⟩
theorem lp_mnext0 {G : GX} {d n m : Nat} {S0 S : ST} {Q : Int32 → ST → Prop} (hM : MS S0 m (stl n) S) (hn2 : S.1 10 = nI n) (h12 : n ≤ 12) (hq : Q (nfo (S.2.2.1 34) (S.2.2.1 32) (lsM S0 m n 0) n).1 S) : ∀ (k i : Nat), i ≤ n → n - i < k → V (pM G (d + 4) mX8_nextOf (qi Q)) 8 [(5, .int (nI i)), (3, .long ((nfo (S.2.2.1 34) (S.2.2.1 32) (lsM S0 m n 0) i).2)), (2, .int ((nfo (S.2.2.1 34) (S.2.2.1 32) (lsM S0 m n 0) i).1)), (0, .ref (G.2.1 29)), (1, .int 0)] [] S := by
  intro k
  induction k with
  | zero => intro i hi hk; exact absurd hk (Nat.not_lt_zero _)
  | succ k ih =>
    intro i hi hk
    refine V_iload dX8_nextOf_8 0 rfl ?_
    refine V_aload_n dX8_nextOf_10 rfl 3 rfl ?_
    refine g_29_0 tw_628 dX8_nextOf_11 ?_
    refine V_topi (v := nI n) (id hn2) ?_
    refine V_icmp_gen 82 (a := i) (b := n) dX8_nextOf_14 (by decide) (by omega) (by omega) (fun h1 => ?_) (fun h1 => ?_)
    · refine V_iload_n dX8_nextOf_82 rfl 2 rfl ?_
      have hin : i = n := by omega
      subst hin
      exact V_iret rfl dX8_nextOf_83 ⟨_, rfl, hq⟩
    · refine V_aload_n dX8_nextOf_17 rfl 3 rfl ?_
      refine g_29_5 tw_633 dX8_nextOf_18 ?_
      refine V_iload dX8_nextOf_21 0 rfl ?_
      refine l_34n (by omega) dX8_nextOf_23 ?_
      refine V_if_ne 76 dX8_nextOf_24 (by decide) (fun h2 => ?_) (fun h2 => ?_)
      · refine V_iinc [(5, .int (nI (i + 1))), (3, .long ((nfo (S.2.2.1 34) (S.2.2.1 32) (lsM S0 m n 0) i).2)), (2, .int ((nfo (S.2.2.1 34) (S.2.2.1 32) (lsM S0 m n 0) i).1)), (0, .ref (G.2.1 29)), (1, .int 0)] dX8_nextOf_76 0 rfl (nI_1 _) (Nat.le_of_ble_eq_true rfl) rfl ?_
        refine V_goto 8 dX8_nextOf_79 (by decide) ?_
        have ee : nfo (S.2.2.1 34) (S.2.2.1 32) (lsM S0 m n 0) (i + 1) = nfo (S.2.2.1 34) (S.2.2.1 32) (lsM S0 m n 0) i := by rw [nfo_s, nst, if_neg h2]
        refine V_lv [(5, .int (nI (i + 1))), (3, .long ((nfo (S.2.2.1 34) (S.2.2.1 32) (lsM S0 m n 0) i).2)), (2, .int ((nfo (S.2.2.1 34) (S.2.2.1 32) (lsM S0 m n 0) i).1)), (0, .ref (G.2.1 29)), (1, .int 0)] [0, 1, 2, 3, 4] rfl ?_
        refine V_lveq [(5, .int (nI (i + 1))), (3, .long ((nfo (S.2.2.1 34) (S.2.2.1 32) (lsM S0 m n 0) (i + 1)).2)), (2, .int ((nfo (S.2.2.1 34) (S.2.2.1 32) (lsM S0 m n 0) (i + 1)).1)), (0, .ref (G.2.1 29)), (1, .int 0)] (by rw [ee]) ?_
        exact ih (i + 1) (by omega) (by omega)
      · refine V_aload_n dX8_nextOf_27 rfl 3 rfl ?_
        refine V_iload dX8_nextOf_28 0 rfl ?_
        refine V_iload_n dX8_nextOf_30 rfl 4 rfl ?_
        refine V_cVl (P := pM G (d + 4) mX8_nextOf _) (d := d + 3) 29 (r := []) (As := [.int (nI i), .int 0]) (K := mX8_badness) ok_X8_badness tw_832 (ob_29 _) rfl (rmOk (Nat.le_of_ble_eq_true rfl)) (Nat.le_of_ble_eq_true rfl) dX8_nextOf_31 rfl (c_X8_badness0 hM h12 (by omega) ?_)
        refine V_lstore [(6, .long (lsM S0 m n 0 i)), (5, .int (nI i)), (3, .long ((nfo (S.2.2.1 34) (S.2.2.1 32) (lsM S0 m n 0) i).2)), (2, .int ((nfo (S.2.2.1 34) (S.2.2.1 32) (lsM S0 m n 0) i).1)), (0, .ref (G.2.1 29)), (1, .int 0)] dX8_nextOf_34 (Nat.le_of_ble_eq_true rfl) rfl ?_
        refine V_iload_n dX8_nextOf_36 rfl 3 rfl ?_
        refine V_if_lt 70 dX8_nextOf_37 (by decide) (fun h3 => ?_) (fun h3 => ?_)
        · refine V_iload dX8_nextOf_70 1 rfl ?_
          refine V_istore_n [(2, .int (nI i)), (6, .long (lsM S0 m n 0 i)), (5, .int (nI i)), (3, .long ((nfo (S.2.2.1 34) (S.2.2.1 32) (lsM S0 m n 0) i).2)), (0, .ref (G.2.1 29)), (1, .int 0)] dX8_nextOf_72 rfl (Nat.le_of_ble_eq_true rfl) rfl ?_
          refine V_lload dX8_nextOf_73 1 rfl ?_
          refine V_lstore_n [(3, .long (lsM S0 m n 0 i)), (2, .int (nI i)), (6, .long (lsM S0 m n 0 i)), (5, .int (nI i)), (0, .ref (G.2.1 29)), (1, .int 0)] dX8_nextOf_75 rfl (Nat.le_of_ble_eq_true rfl) rfl ?_
          refine V_iinc [(5, .int (nI (i + 1))), (3, .long (lsM S0 m n 0 i)), (2, .int (nI i)), (6, .long (lsM S0 m n 0 i)), (0, .ref (G.2.1 29)), (1, .int 0)] dX8_nextOf_76 3 rfl (nI_1 _) (Nat.le_of_ble_eq_true rfl) rfl ?_
          refine V_goto 8 dX8_nextOf_79 (by decide) ?_
          have ee : nfo (S.2.2.1 34) (S.2.2.1 32) (lsM S0 m n 0) (i + 1) = (nI i, lsM S0 m n 0 i) := by rw [nfo_s, nst, if_pos h2, if_pos (by rw [← nfo_lt0 (by omega), ← lg_lt, ← lg0]; simp [h3])]
          refine V_lv [(5, .int (nI (i + 1))), (3, .long (lsM S0 m n 0 i)), (2, .int (nI i)), (0, .ref (G.2.1 29)), (1, .int 0)] [0, 1, 2, 4, 5] rfl ?_
          refine V_lveq [(5, .int (nI (i + 1))), (3, .long ((nfo (S.2.2.1 34) (S.2.2.1 32) (lsM S0 m n 0) (i + 1)).2)), (2, .int ((nfo (S.2.2.1 34) (S.2.2.1 32) (lsM S0 m n 0) (i + 1)).1)), (0, .ref (G.2.1 29)), (1, .int 0)] (by rw [ee]) ?_
          exact ih (i + 1) (by omega) (by omega)
        · have hb6 : ¬ _ = _ := fun z => h3 ((nfo_lt0 (by omega)).mpr z)
          refine V_lload dX8_nextOf_40 0 rfl ?_
          refine V_lload_n dX8_nextOf_42 rfl 2 rfl ?_
          refine V_lcmp dX8_nextOf_43 ?_
          refine V_if_lt 70 dX8_nextOf_44 (by decide) (fun h4 => ?_) (fun h4 => ?_)
          · refine V_iload dX8_nextOf_70 1 rfl ?_
            refine V_istore_n [(2, .int (nI i)), (6, .long (lsM S0 m n 0 i)), (5, .int (nI i)), (3, .long ((nfo (S.2.2.1 34) (S.2.2.1 32) (lsM S0 m n 0) i).2)), (0, .ref (G.2.1 29)), (1, .int 0)] dX8_nextOf_72 rfl (Nat.le_of_ble_eq_true rfl) rfl ?_
            refine V_lload dX8_nextOf_73 1 rfl ?_
            refine V_lstore_n [(3, .long (lsM S0 m n 0 i)), (2, .int (nI i)), (6, .long (lsM S0 m n 0 i)), (5, .int (nI i)), (0, .ref (G.2.1 29)), (1, .int 0)] dX8_nextOf_75 rfl (Nat.le_of_ble_eq_true rfl) rfl ?_
            refine V_iinc [(5, .int (nI (i + 1))), (3, .long (lsM S0 m n 0 i)), (2, .int (nI i)), (6, .long (lsM S0 m n 0 i)), (0, .ref (G.2.1 29)), (1, .int 0)] dX8_nextOf_76 3 rfl (nI_1 _) (Nat.le_of_ble_eq_true rfl) rfl ?_
            refine V_goto 8 dX8_nextOf_79 (by decide) ?_
            have ee : nfo (S.2.2.1 34) (S.2.2.1 32) (lsM S0 m n 0) (i + 1) = (nI i, lsM S0 m n 0 i) := by rw [nfo_s, nst, if_pos h2, if_pos (by rw [← nfo_lt0 (by omega), ← lg_lt, ← lg0]; simp [h3, h4])]
            refine V_lv [(5, .int (nI (i + 1))), (3, .long (lsM S0 m n 0 i)), (2, .int (nI i)), (0, .ref (G.2.1 29)), (1, .int 0)] [0, 1, 2, 4, 5] rfl ?_
            refine V_lveq [(5, .int (nI (i + 1))), (3, .long ((nfo (S.2.2.1 34) (S.2.2.1 32) (lsM S0 m n 0) (i + 1)).2)), (2, .int ((nfo (S.2.2.1 34) (S.2.2.1 32) (lsM S0 m n 0) (i + 1)).1)), (0, .ref (G.2.1 29)), (1, .int 0)] (by rw [ee]) ?_
            exact ih (i + 1) (by omega) (by omega)
          · refine V_lload dX8_nextOf_47 0 rfl ?_
            refine V_lload_n dX8_nextOf_49 rfl 2 rfl ?_
            refine V_lcmp dX8_nextOf_50 ?_
            refine V_if_ne 76 dX8_nextOf_51 (by decide) (fun h5 => ?_) (fun h5 => ?_)
            · refine V_iinc [(5, .int (nI (i + 1))), (6, .long (lsM S0 m n 0 i)), (3, .long ((nfo (S.2.2.1 34) (S.2.2.1 32) (lsM S0 m n 0) i).2)), (2, .int ((nfo (S.2.2.1 34) (S.2.2.1 32) (lsM S0 m n 0) i).1)), (0, .ref (G.2.1 29)), (1, .int 0)] dX8_nextOf_76 1 rfl (nI_1 _) (Nat.le_of_ble_eq_true rfl) rfl ?_
              refine V_goto 8 dX8_nextOf_79 (by decide) ?_
              have ee : nfo (S.2.2.1 34) (S.2.2.1 32) (lsM S0 m n 0) (i + 1) = nfo (S.2.2.1 34) (S.2.2.1 32) (lsM S0 m n 0) i := by rw [nfo_s, nst, if_pos h2, if_neg (by rw [← nfo_lt0 (by omega), ← lg_lt, ← lg0]; simp [h3, h4, h5])]
              refine V_lv [(5, .int (nI (i + 1))), (3, .long ((nfo (S.2.2.1 34) (S.2.2.1 32) (lsM S0 m n 0) i).2)), (2, .int ((nfo (S.2.2.1 34) (S.2.2.1 32) (lsM S0 m n 0) i).1)), (0, .ref (G.2.1 29)), (1, .int 0)] [0, 2, 3, 4, 5] rfl ?_
              refine V_lveq [(5, .int (nI (i + 1))), (3, .long ((nfo (S.2.2.1 34) (S.2.2.1 32) (lsM S0 m n 0) (i + 1)).2)), (2, .int ((nfo (S.2.2.1 34) (S.2.2.1 32) (lsM S0 m n 0) (i + 1)).1)), (0, .ref (G.2.1 29)), (1, .int 0)] (by rw [ee]) ?_
              exact ih (i + 1) (by omega) (by omega)
            · refine V_aload_n dX8_nextOf_54 rfl 4 rfl ?_
              refine g_29_3 tw_631 dX8_nextOf_55 ?_
              refine V_iload dX8_nextOf_58 1 rfl ?_
              refine l_32n (by omega) dX8_nextOf_60 ?_
              refine V_aload_n dX8_nextOf_61 rfl 4 rfl ?_
              refine g_29_3 tw_631 dX8_nextOf_62 ?_
              refine V_iload_n dX8_nextOf_65 rfl 3 rfl ?_
              refine l_32 (nfo_in (by omega) (fun z => h3 ((nfo_lt0 (by omega)).mpr z))) dX8_nextOf_66 ?_
              refine V_icmp_ge 76 dX8_nextOf_67 (by decide) (fun h6 => ?_) (fun h6 => ?_)
              · refine V_iinc [(5, .int (nI (i + 1))), (6, .long (lsM S0 m n 0 i)), (3, .long ((nfo (S.2.2.1 34) (S.2.2.1 32) (lsM S0 m n 0) i).2)), (2, .int ((nfo (S.2.2.1 34) (S.2.2.1 32) (lsM S0 m n 0) i).1)), (0, .ref (G.2.1 29)), (1, .int 0)] dX8_nextOf_76 1 rfl (nI_1 _) (Nat.le_of_ble_eq_true rfl) rfl ?_
                refine V_goto 8 dX8_nextOf_79 (by decide) ?_
                have ee : nfo (S.2.2.1 34) (S.2.2.1 32) (lsM S0 m n 0) (i + 1) = nfo (S.2.2.1 34) (S.2.2.1 32) (lsM S0 m n 0) i := by rw [nfo_s, nst, if_pos h2, if_neg (by rw [← nfo_lt0 (by omega), ← lg_lt, ← lg0]; simp [h3, h4, h5, h6, Int32.not_lt.mpr h6])]
                refine V_lv [(5, .int (nI (i + 1))), (3, .long ((nfo (S.2.2.1 34) (S.2.2.1 32) (lsM S0 m n 0) i).2)), (2, .int ((nfo (S.2.2.1 34) (S.2.2.1 32) (lsM S0 m n 0) i).1)), (0, .ref (G.2.1 29)), (1, .int 0)] [0, 2, 3, 4, 5] rfl ?_
                refine V_lveq [(5, .int (nI (i + 1))), (3, .long ((nfo (S.2.2.1 34) (S.2.2.1 32) (lsM S0 m n 0) (i + 1)).2)), (2, .int ((nfo (S.2.2.1 34) (S.2.2.1 32) (lsM S0 m n 0) (i + 1)).1)), (0, .ref (G.2.1 29)), (1, .int 0)] (by rw [ee]) ?_
                exact ih (i + 1) (by omega) (by omega)
              · refine V_iload dX8_nextOf_70 1 rfl ?_
                refine V_istore_n [(2, .int (nI i)), (6, .long (lsM S0 m n 0 i)), (5, .int (nI i)), (3, .long ((nfo (S.2.2.1 34) (S.2.2.1 32) (lsM S0 m n 0) i).2)), (0, .ref (G.2.1 29)), (1, .int 0)] dX8_nextOf_72 rfl (Nat.le_of_ble_eq_true rfl) rfl ?_
                refine V_lload dX8_nextOf_73 1 rfl ?_
                refine V_lstore_n [(3, .long (lsM S0 m n 0 i)), (2, .int (nI i)), (6, .long (lsM S0 m n 0 i)), (5, .int (nI i)), (0, .ref (G.2.1 29)), (1, .int 0)] dX8_nextOf_75 rfl (Nat.le_of_ble_eq_true rfl) rfl ?_
                refine V_iinc [(5, .int (nI (i + 1))), (3, .long (lsM S0 m n 0 i)), (2, .int (nI i)), (6, .long (lsM S0 m n 0 i)), (0, .ref (G.2.1 29)), (1, .int 0)] dX8_nextOf_76 3 rfl (nI_1 _) (Nat.le_of_ble_eq_true rfl) rfl ?_
                refine V_goto 8 dX8_nextOf_79 (by decide) ?_
                have ee : nfo (S.2.2.1 34) (S.2.2.1 32) (lsM S0 m n 0) (i + 1) = (nI i, lsM S0 m n 0 i) := by rw [nfo_s, nst, if_pos h2, if_pos (by rw [← nfo_lt0 (by omega), ← lg_lt, ← lg0]; simp [h3, h4, h5, h6, Int32.not_le.mp h6])]
                refine V_lv [(5, .int (nI (i + 1))), (3, .long (lsM S0 m n 0 i)), (2, .int (nI i)), (0, .ref (G.2.1 29)), (1, .int 0)] [0, 1, 2, 4, 5] rfl ?_
                refine V_lveq [(5, .int (nI (i + 1))), (3, .long ((nfo (S.2.2.1 34) (S.2.2.1 32) (lsM S0 m n 0) (i + 1)).2)), (2, .int ((nfo (S.2.2.1 34) (S.2.2.1 32) (lsM S0 m n 0) (i + 1)).1)), (0, .ref (G.2.1 29)), (1, .int 0)] (by rw [ee]) ?_
                exact ih (i + 1) (by omega) (by omega)
theorem c_X8_nextOf0 {G : GX} {d : Nat} {S : ST} {S0 : ST} {n m : Nat} {Q : Int32 → ST → Prop} (hM : MS S0 m (stl n) S) (hn : S0.1 10 = nI n) (h12 : n ≤ 12) (hq : Q ((nfo (S0.2.2.1 34) (S0.2.2.1 32) (lsM S0 m n 0) n).1) S) : Cn G (d + 4) mX8_nextOf [.ref (G.2.1 29), .int 0] S (qi Q) := by
  refine Cn.intro (lv := [(0, .ref (G.2.1 29)), (1, .int 0)]) (by decide) (Nat.le_of_ble_eq_true rfl) rfl ?_
  refine V_bipush (v := -6) dX8_nextOf_0 kb_m6 ?_
  refine V_istore_n [(2, .int (-6)), (0, .ref (G.2.1 29)), (1, .int 0)] dX8_nextOf_2 rfl (Nat.le_of_ble_eq_true rfl) rfl ?_
  refine V_lconst (v := 0) dX8_nextOf_3 rfl ?_
  refine V_lstore_n [(3, .long 0), (2, .int (-6)), (0, .ref (G.2.1 29)), (1, .int 0)] dX8_nextOf_4 rfl (Nat.le_of_ble_eq_true rfl) rfl ?_
  refine V_iconst (v := 0) dX8_nextOf_5 ki_0 ?_
  refine V_istore [(5, .int 0), (3, .long 0), (2, .int (-6)), (0, .ref (G.2.1 29)), (1, .int 0)] dX8_nextOf_6 (Nat.le_of_ble_eq_true rfl) rfl ?_
  refine V_lv [(5, .int 0), (3, .long 0), (2, .int (-6)), (0, .ref (G.2.1 29)), (1, .int 0)] [0, 1, 2, 3, 4] rfl ?_
  refine V_lveq [(5, .int 0), (3, .long ((nfo (S.2.2.1 34) (S.2.2.1 32) (lsM S0 m n 0) 0).2)), (2, .int ((nfo (S.2.2.1 34) (S.2.2.1 32) (lsM S0 m n 0) 0).1)), (0, .ref (G.2.1 29)), (1, .int 0)] (by rfl) ?_
  exact lp_mnext0 hM ((hM.1.1 10 (by decide)).trans hn) h12 (qcast hq (by rw [hM.1.2.2.1 34 (by decide) (by decide) (by decide), hM.1.2.2.1 32 (by decide) (by decide) (by decide)])) (n + 1) 0 (by omega) (by omega)
theorem lp_mnext1 {G : GX} {d n m : Nat} {S0 S : ST} {Q : Int32 → ST → Prop} (hM : MS S0 m (stl n) S) (hn2 : S.1 10 = nI n) (h12 : n ≤ 12) (hq : Q (nfo (S.2.2.1 34) (S.2.2.1 32) (lsM S0 m n 1) n).1 S) : ∀ (k i : Nat), i ≤ n → n - i < k → V (pM G (d + 4) mX8_nextOf (qi Q)) 8 [(5, .int (nI i)), (3, .long ((nfo (S.2.2.1 34) (S.2.2.1 32) (lsM S0 m n 1) i).2)), (2, .int ((nfo (S.2.2.1 34) (S.2.2.1 32) (lsM S0 m n 1) i).1)), (0, .ref (G.2.1 29)), (1, .int 1)] [] S := by
  intro k
  induction k with
  | zero => intro i hi hk; exact absurd hk (Nat.not_lt_zero _)
  | succ k ih =>
    intro i hi hk
    refine V_iload dX8_nextOf_8 0 rfl ?_
    refine V_aload_n dX8_nextOf_10 rfl 3 rfl ?_
    refine g_29_0 tw_628 dX8_nextOf_11 ?_
    refine V_topi (v := nI n) (id hn2) ?_
    refine V_icmp_gen 82 (a := i) (b := n) dX8_nextOf_14 (by decide) (by omega) (by omega) (fun h1 => ?_) (fun h1 => ?_)
    · refine V_iload_n dX8_nextOf_82 rfl 2 rfl ?_
      have hin : i = n := by omega
      subst hin
      exact V_iret rfl dX8_nextOf_83 ⟨_, rfl, hq⟩
    · refine V_aload_n dX8_nextOf_17 rfl 3 rfl ?_
      refine g_29_5 tw_633 dX8_nextOf_18 ?_
      refine V_iload dX8_nextOf_21 0 rfl ?_
      refine l_34n (by omega) dX8_nextOf_23 ?_
      refine V_if_ne 76 dX8_nextOf_24 (by decide) (fun h2 => ?_) (fun h2 => ?_)
      · refine V_iinc [(5, .int (nI (i + 1))), (3, .long ((nfo (S.2.2.1 34) (S.2.2.1 32) (lsM S0 m n 1) i).2)), (2, .int ((nfo (S.2.2.1 34) (S.2.2.1 32) (lsM S0 m n 1) i).1)), (0, .ref (G.2.1 29)), (1, .int 1)] dX8_nextOf_76 0 rfl (nI_1 _) (Nat.le_of_ble_eq_true rfl) rfl ?_
        refine V_goto 8 dX8_nextOf_79 (by decide) ?_
        have ee : nfo (S.2.2.1 34) (S.2.2.1 32) (lsM S0 m n 1) (i + 1) = nfo (S.2.2.1 34) (S.2.2.1 32) (lsM S0 m n 1) i := by rw [nfo_s, nst, if_neg h2]
        refine V_lv [(5, .int (nI (i + 1))), (3, .long ((nfo (S.2.2.1 34) (S.2.2.1 32) (lsM S0 m n 1) i).2)), (2, .int ((nfo (S.2.2.1 34) (S.2.2.1 32) (lsM S0 m n 1) i).1)), (0, .ref (G.2.1 29)), (1, .int 1)] [0, 1, 2, 3, 4] rfl ?_
        refine V_lveq [(5, .int (nI (i + 1))), (3, .long ((nfo (S.2.2.1 34) (S.2.2.1 32) (lsM S0 m n 1) (i + 1)).2)), (2, .int ((nfo (S.2.2.1 34) (S.2.2.1 32) (lsM S0 m n 1) (i + 1)).1)), (0, .ref (G.2.1 29)), (1, .int 1)] (by rw [ee]) ?_
        exact ih (i + 1) (by omega) (by omega)
      · refine V_aload_n dX8_nextOf_27 rfl 3 rfl ?_
        refine V_iload dX8_nextOf_28 0 rfl ?_
        refine V_iload_n dX8_nextOf_30 rfl 4 rfl ?_
        refine V_cVl (P := pM G (d + 4) mX8_nextOf _) (d := d + 3) 29 (r := []) (As := [.int (nI i), .int 1]) (K := mX8_badness) ok_X8_badness tw_832 (ob_29 _) rfl (rmOk (Nat.le_of_ble_eq_true rfl)) (Nat.le_of_ble_eq_true rfl) dX8_nextOf_31 rfl (c_X8_badness1 hM h12 (by omega) ?_)
        refine V_lstore [(6, .long (lsM S0 m n 1 i)), (5, .int (nI i)), (3, .long ((nfo (S.2.2.1 34) (S.2.2.1 32) (lsM S0 m n 1) i).2)), (2, .int ((nfo (S.2.2.1 34) (S.2.2.1 32) (lsM S0 m n 1) i).1)), (0, .ref (G.2.1 29)), (1, .int 1)] dX8_nextOf_34 (Nat.le_of_ble_eq_true rfl) rfl ?_
        refine V_iload_n dX8_nextOf_36 rfl 3 rfl ?_
        refine V_if_lt 70 dX8_nextOf_37 (by decide) (fun h3 => ?_) (fun h3 => ?_)
        · refine V_iload dX8_nextOf_70 1 rfl ?_
          refine V_istore_n [(2, .int (nI i)), (6, .long (lsM S0 m n 1 i)), (5, .int (nI i)), (3, .long ((nfo (S.2.2.1 34) (S.2.2.1 32) (lsM S0 m n 1) i).2)), (0, .ref (G.2.1 29)), (1, .int 1)] dX8_nextOf_72 rfl (Nat.le_of_ble_eq_true rfl) rfl ?_
          refine V_lload dX8_nextOf_73 1 rfl ?_
          refine V_lstore_n [(3, .long (lsM S0 m n 1 i)), (2, .int (nI i)), (6, .long (lsM S0 m n 1 i)), (5, .int (nI i)), (0, .ref (G.2.1 29)), (1, .int 1)] dX8_nextOf_75 rfl (Nat.le_of_ble_eq_true rfl) rfl ?_
          refine V_iinc [(5, .int (nI (i + 1))), (3, .long (lsM S0 m n 1 i)), (2, .int (nI i)), (6, .long (lsM S0 m n 1 i)), (0, .ref (G.2.1 29)), (1, .int 1)] dX8_nextOf_76 3 rfl (nI_1 _) (Nat.le_of_ble_eq_true rfl) rfl ?_
          refine V_goto 8 dX8_nextOf_79 (by decide) ?_
          have ee : nfo (S.2.2.1 34) (S.2.2.1 32) (lsM S0 m n 1) (i + 1) = (nI i, lsM S0 m n 1 i) := by rw [nfo_s, nst, if_pos h2, if_pos (by rw [← nfo_lt0 (by omega), ← lg_lt, ← lg0]; simp [h3])]
          refine V_lv [(5, .int (nI (i + 1))), (3, .long (lsM S0 m n 1 i)), (2, .int (nI i)), (0, .ref (G.2.1 29)), (1, .int 1)] [0, 1, 2, 4, 5] rfl ?_
          refine V_lveq [(5, .int (nI (i + 1))), (3, .long ((nfo (S.2.2.1 34) (S.2.2.1 32) (lsM S0 m n 1) (i + 1)).2)), (2, .int ((nfo (S.2.2.1 34) (S.2.2.1 32) (lsM S0 m n 1) (i + 1)).1)), (0, .ref (G.2.1 29)), (1, .int 1)] (by rw [ee]) ?_
          exact ih (i + 1) (by omega) (by omega)
        · have hb6 : ¬ _ = _ := fun z => h3 ((nfo_lt0 (by omega)).mpr z)
          refine V_lload dX8_nextOf_40 0 rfl ?_
          refine V_lload_n dX8_nextOf_42 rfl 2 rfl ?_
          refine V_lcmp dX8_nextOf_43 ?_
          refine V_if_lt 70 dX8_nextOf_44 (by decide) (fun h4 => ?_) (fun h4 => ?_)
          · refine V_iload dX8_nextOf_70 1 rfl ?_
            refine V_istore_n [(2, .int (nI i)), (6, .long (lsM S0 m n 1 i)), (5, .int (nI i)), (3, .long ((nfo (S.2.2.1 34) (S.2.2.1 32) (lsM S0 m n 1) i).2)), (0, .ref (G.2.1 29)), (1, .int 1)] dX8_nextOf_72 rfl (Nat.le_of_ble_eq_true rfl) rfl ?_
            refine V_lload dX8_nextOf_73 1 rfl ?_
            refine V_lstore_n [(3, .long (lsM S0 m n 1 i)), (2, .int (nI i)), (6, .long (lsM S0 m n 1 i)), (5, .int (nI i)), (0, .ref (G.2.1 29)), (1, .int 1)] dX8_nextOf_75 rfl (Nat.le_of_ble_eq_true rfl) rfl ?_
            refine V_iinc [(5, .int (nI (i + 1))), (3, .long (lsM S0 m n 1 i)), (2, .int (nI i)), (6, .long (lsM S0 m n 1 i)), (0, .ref (G.2.1 29)), (1, .int 1)] dX8_nextOf_76 3 rfl (nI_1 _) (Nat.le_of_ble_eq_true rfl) rfl ?_
            refine V_goto 8 dX8_nextOf_79 (by decide) ?_
            have ee : nfo (S.2.2.1 34) (S.2.2.1 32) (lsM S0 m n 1) (i + 1) = (nI i, lsM S0 m n 1 i) := by rw [nfo_s, nst, if_pos h2, if_pos (by rw [← nfo_lt0 (by omega), ← lg_lt, ← lg0]; simp [h3, h4])]
            refine V_lv [(5, .int (nI (i + 1))), (3, .long (lsM S0 m n 1 i)), (2, .int (nI i)), (0, .ref (G.2.1 29)), (1, .int 1)] [0, 1, 2, 4, 5] rfl ?_
            refine V_lveq [(5, .int (nI (i + 1))), (3, .long ((nfo (S.2.2.1 34) (S.2.2.1 32) (lsM S0 m n 1) (i + 1)).2)), (2, .int ((nfo (S.2.2.1 34) (S.2.2.1 32) (lsM S0 m n 1) (i + 1)).1)), (0, .ref (G.2.1 29)), (1, .int 1)] (by rw [ee]) ?_
            exact ih (i + 1) (by omega) (by omega)
          · refine V_lload dX8_nextOf_47 0 rfl ?_
            refine V_lload_n dX8_nextOf_49 rfl 2 rfl ?_
            refine V_lcmp dX8_nextOf_50 ?_
            refine V_if_ne 76 dX8_nextOf_51 (by decide) (fun h5 => ?_) (fun h5 => ?_)
            · refine V_iinc [(5, .int (nI (i + 1))), (6, .long (lsM S0 m n 1 i)), (3, .long ((nfo (S.2.2.1 34) (S.2.2.1 32) (lsM S0 m n 1) i).2)), (2, .int ((nfo (S.2.2.1 34) (S.2.2.1 32) (lsM S0 m n 1) i).1)), (0, .ref (G.2.1 29)), (1, .int 1)] dX8_nextOf_76 1 rfl (nI_1 _) (Nat.le_of_ble_eq_true rfl) rfl ?_
              refine V_goto 8 dX8_nextOf_79 (by decide) ?_
              have ee : nfo (S.2.2.1 34) (S.2.2.1 32) (lsM S0 m n 1) (i + 1) = nfo (S.2.2.1 34) (S.2.2.1 32) (lsM S0 m n 1) i := by rw [nfo_s, nst, if_pos h2, if_neg (by rw [← nfo_lt0 (by omega), ← lg_lt, ← lg0]; simp [h3, h4, h5])]
              refine V_lv [(5, .int (nI (i + 1))), (3, .long ((nfo (S.2.2.1 34) (S.2.2.1 32) (lsM S0 m n 1) i).2)), (2, .int ((nfo (S.2.2.1 34) (S.2.2.1 32) (lsM S0 m n 1) i).1)), (0, .ref (G.2.1 29)), (1, .int 1)] [0, 2, 3, 4, 5] rfl ?_
              refine V_lveq [(5, .int (nI (i + 1))), (3, .long ((nfo (S.2.2.1 34) (S.2.2.1 32) (lsM S0 m n 1) (i + 1)).2)), (2, .int ((nfo (S.2.2.1 34) (S.2.2.1 32) (lsM S0 m n 1) (i + 1)).1)), (0, .ref (G.2.1 29)), (1, .int 1)] (by rw [ee]) ?_
              exact ih (i + 1) (by omega) (by omega)
            · refine V_aload_n dX8_nextOf_54 rfl 4 rfl ?_
              refine g_29_3 tw_631 dX8_nextOf_55 ?_
              refine V_iload dX8_nextOf_58 1 rfl ?_
              refine l_32n (by omega) dX8_nextOf_60 ?_
              refine V_aload_n dX8_nextOf_61 rfl 4 rfl ?_
              refine g_29_3 tw_631 dX8_nextOf_62 ?_
              refine V_iload_n dX8_nextOf_65 rfl 3 rfl ?_
              refine l_32 (nfo_in (by omega) (fun z => h3 ((nfo_lt0 (by omega)).mpr z))) dX8_nextOf_66 ?_
              refine V_icmp_ge 76 dX8_nextOf_67 (by decide) (fun h6 => ?_) (fun h6 => ?_)
              · refine V_iinc [(5, .int (nI (i + 1))), (6, .long (lsM S0 m n 1 i)), (3, .long ((nfo (S.2.2.1 34) (S.2.2.1 32) (lsM S0 m n 1) i).2)), (2, .int ((nfo (S.2.2.1 34) (S.2.2.1 32) (lsM S0 m n 1) i).1)), (0, .ref (G.2.1 29)), (1, .int 1)] dX8_nextOf_76 1 rfl (nI_1 _) (Nat.le_of_ble_eq_true rfl) rfl ?_
                refine V_goto 8 dX8_nextOf_79 (by decide) ?_
                have ee : nfo (S.2.2.1 34) (S.2.2.1 32) (lsM S0 m n 1) (i + 1) = nfo (S.2.2.1 34) (S.2.2.1 32) (lsM S0 m n 1) i := by rw [nfo_s, nst, if_pos h2, if_neg (by rw [← nfo_lt0 (by omega), ← lg_lt, ← lg0]; simp [h3, h4, h5, h6, Int32.not_lt.mpr h6])]
                refine V_lv [(5, .int (nI (i + 1))), (3, .long ((nfo (S.2.2.1 34) (S.2.2.1 32) (lsM S0 m n 1) i).2)), (2, .int ((nfo (S.2.2.1 34) (S.2.2.1 32) (lsM S0 m n 1) i).1)), (0, .ref (G.2.1 29)), (1, .int 1)] [0, 2, 3, 4, 5] rfl ?_
                refine V_lveq [(5, .int (nI (i + 1))), (3, .long ((nfo (S.2.2.1 34) (S.2.2.1 32) (lsM S0 m n 1) (i + 1)).2)), (2, .int ((nfo (S.2.2.1 34) (S.2.2.1 32) (lsM S0 m n 1) (i + 1)).1)), (0, .ref (G.2.1 29)), (1, .int 1)] (by rw [ee]) ?_
                exact ih (i + 1) (by omega) (by omega)
              · refine V_iload dX8_nextOf_70 1 rfl ?_
                refine V_istore_n [(2, .int (nI i)), (6, .long (lsM S0 m n 1 i)), (5, .int (nI i)), (3, .long ((nfo (S.2.2.1 34) (S.2.2.1 32) (lsM S0 m n 1) i).2)), (0, .ref (G.2.1 29)), (1, .int 1)] dX8_nextOf_72 rfl (Nat.le_of_ble_eq_true rfl) rfl ?_
                refine V_lload dX8_nextOf_73 1 rfl ?_
                refine V_lstore_n [(3, .long (lsM S0 m n 1 i)), (2, .int (nI i)), (6, .long (lsM S0 m n 1 i)), (5, .int (nI i)), (0, .ref (G.2.1 29)), (1, .int 1)] dX8_nextOf_75 rfl (Nat.le_of_ble_eq_true rfl) rfl ?_
                refine V_iinc [(5, .int (nI (i + 1))), (3, .long (lsM S0 m n 1 i)), (2, .int (nI i)), (6, .long (lsM S0 m n 1 i)), (0, .ref (G.2.1 29)), (1, .int 1)] dX8_nextOf_76 3 rfl (nI_1 _) (Nat.le_of_ble_eq_true rfl) rfl ?_
                refine V_goto 8 dX8_nextOf_79 (by decide) ?_
                have ee : nfo (S.2.2.1 34) (S.2.2.1 32) (lsM S0 m n 1) (i + 1) = (nI i, lsM S0 m n 1 i) := by rw [nfo_s, nst, if_pos h2, if_pos (by rw [← nfo_lt0 (by omega), ← lg_lt, ← lg0]; simp [h3, h4, h5, h6, Int32.not_le.mp h6])]
                refine V_lv [(5, .int (nI (i + 1))), (3, .long (lsM S0 m n 1 i)), (2, .int (nI i)), (0, .ref (G.2.1 29)), (1, .int 1)] [0, 1, 2, 4, 5] rfl ?_
                refine V_lveq [(5, .int (nI (i + 1))), (3, .long ((nfo (S.2.2.1 34) (S.2.2.1 32) (lsM S0 m n 1) (i + 1)).2)), (2, .int ((nfo (S.2.2.1 34) (S.2.2.1 32) (lsM S0 m n 1) (i + 1)).1)), (0, .ref (G.2.1 29)), (1, .int 1)] (by rw [ee]) ?_
                exact ih (i + 1) (by omega) (by omega)
theorem c_X8_nextOf1 {G : GX} {d : Nat} {S : ST} {S0 : ST} {n m : Nat} {Q : Int32 → ST → Prop} (hM : MS S0 m (stl n) S) (hn : S0.1 10 = nI n) (h12 : n ≤ 12) (hq : Q ((nfo (S0.2.2.1 34) (S0.2.2.1 32) (lsM S0 m n 1) n).1) S) : Cn G (d + 4) mX8_nextOf [.ref (G.2.1 29), .int 1] S (qi Q) := by
  refine Cn.intro (lv := [(0, .ref (G.2.1 29)), (1, .int 1)]) (by decide) (Nat.le_of_ble_eq_true rfl) rfl ?_
  refine V_bipush (v := -6) dX8_nextOf_0 kb_m6 ?_
  refine V_istore_n [(2, .int (-6)), (0, .ref (G.2.1 29)), (1, .int 1)] dX8_nextOf_2 rfl (Nat.le_of_ble_eq_true rfl) rfl ?_
  refine V_lconst (v := 0) dX8_nextOf_3 rfl ?_
  refine V_lstore_n [(3, .long 0), (2, .int (-6)), (0, .ref (G.2.1 29)), (1, .int 1)] dX8_nextOf_4 rfl (Nat.le_of_ble_eq_true rfl) rfl ?_
  refine V_iconst (v := 0) dX8_nextOf_5 ki_0 ?_
  refine V_istore [(5, .int 0), (3, .long 0), (2, .int (-6)), (0, .ref (G.2.1 29)), (1, .int 1)] dX8_nextOf_6 (Nat.le_of_ble_eq_true rfl) rfl ?_
  refine V_lv [(5, .int 0), (3, .long 0), (2, .int (-6)), (0, .ref (G.2.1 29)), (1, .int 1)] [0, 1, 2, 3, 4] rfl ?_
  refine V_lveq [(5, .int 0), (3, .long ((nfo (S.2.2.1 34) (S.2.2.1 32) (lsM S0 m n 1) 0).2)), (2, .int ((nfo (S.2.2.1 34) (S.2.2.1 32) (lsM S0 m n 1) 0).1)), (0, .ref (G.2.1 29)), (1, .int 1)] (by rfl) ?_
  exact lp_mnext1 hM ((hM.1.1 10 (by decide)).trans hn) h12 (qcast hq (by rw [hM.1.2.2.1 34 (by decide) (by decide) (by decide), hM.1.2.2.1 32 (by decide) (by decide) (by decide)])) (n + 1) 0 (by omega) (by omega)
theorem gm_v0 {f : Nat → Int64} {i : Nat} (hi : i < 2 ^ 31) (h : ¬ 0 ≤ (gm f i).1) : (gm f i).2 = 0 := by
  rcases gm_b (f := f) (i := i) with z | ⟨j, hj, z1, z2⟩
  · exact z.2
  · exact absurd (by rw [z1]; exact nI_pos' (by omega)) h
theorem gm_v1 {f : Nat → Int64} {i : Nat} (hi : i < 2 ^ 31) (h : 0 ≤ (gm f i).1) : (gm f i).2 = f (gm f i).1.toNatClampNeg := by
  rcases gm_b (f := f) (i := i) with z | ⟨j, hj, z1, z2⟩
  · rw [z.1] at h; exact absurd h (by decide)
  · rw [z1, z2, nI_clamp (by omega)]
theorem gm_in {f : Nat → Int64} {i : Nat} (hi : i ≤ 210) (h : 0 ≤ (gm f i).1) : vp_in (gm f i).1 210 := by
  rcases gm_b (f := f) (i := i) with z | ⟨j, hj, z1, z2⟩
  · rw [z.1] at h; exact absurd h (by decide)
  · rw [z1]; exact vp_in_nI (by omega) (by decide)
theorem lp_mguess {G : GX} {d y : Nat} {S : ST} {Q : Int32 → ST → Prop} (hy : S.1 14 = nI y) (hy2 : y ≤ 210) (hq : Q (gm (S.2.2.2 43) y).1 S) : ∀ (k i : Nat), i ≤ y → y - i < k → V (pM G d mX8_guessOf (qi Q)) 5 [(2, .int (nI i)), (1, .int ((gm (S.2.2.2 43) i).1)), (0, .ref (G.2.1 29))] [] S := by
  intro k
  induction k with
  | zero => intro i hi hk; exact absurd hk (Nat.not_lt_zero _)
  | succ k ih =>
    intro i hi hk
    refine V_iload_n dX8_guessOf_5 rfl 0 rfl ?_
    refine V_aload_n dX8_guessOf_6 rfl 2 rfl ?_
    refine g_29_14 tw_642 dX8_guessOf_7 ?_
    refine V_topi (v := nI y) (hy) ?_
    refine V_icmp_gen 45 (a := i) (b := y) dX8_guessOf_10 (by decide) (by omega) (by omega) (fun h1 => ?_) (fun h1 => ?_)
    · refine V_iload_n dX8_guessOf_45 rfl 1 rfl ?_
      have hin : i = y := by omega
      subst hin
      exact V_iret rfl dX8_guessOf_46 ⟨_, rfl, hq⟩
    · refine V_aload_n dX8_guessOf_13 rfl 2 rfl ?_
      refine g_29_18 tw_646 dX8_guessOf_14 ?_
      refine V_iload_n dX8_guessOf_17 rfl 0 rfl ?_
      refine l_43n (by omega) dX8_guessOf_18 ?_
      refine V_iload_n dX8_guessOf_19 rfl 1 rfl ?_
      refine V_if_ge 27 dX8_guessOf_20 (by decide) (fun h2 => ?_) (fun h2 => ?_)
      · refine V_aload_n dX8_guessOf_27 rfl 2 rfl ?_
        refine g_29_18 tw_646 dX8_guessOf_28 ?_
        refine V_iload_n dX8_guessOf_31 rfl 1 rfl ?_
        refine l_43 (gm_in (by omega) h2) dX8_guessOf_32 ?_
        refine V_lcmp dX8_guessOf_33 ?_
        refine V_if_le 39 dX8_guessOf_34 (by decide) (fun h3 => ?_) (fun h3 => ?_)
        · refine V_iinc [(2, .int (nI (i + 1))), (1, .int ((gm (S.2.2.2 43) i).1)), (0, .ref (G.2.1 29))] dX8_guessOf_39 0 rfl (nI_1 _) (Nat.le_of_ble_eq_true rfl) rfl ?_
          refine V_goto 5 dX8_guessOf_42 (by decide) ?_
          have ee : gm (S.2.2.2 43) (i + 1) = gm (S.2.2.2 43) i := by rw [gm_s, if_neg (by rw [gm_v1 (by omega) h2]; exact Int64.not_lt.mpr (lg_le.mp h3))]
          refine V_lv [(2, .int (nI (i + 1))), (1, .int ((gm (S.2.2.2 43) i).1)), (0, .ref (G.2.1 29))] [0, 1, 2] rfl ?_
          refine V_lveq [(2, .int (nI (i + 1))), (1, .int ((gm (S.2.2.2 43) (i + 1)).1)), (0, .ref (G.2.1 29))] (by rw [ee]) ?_
          exact ih (i + 1) (by omega) (by omega)
        · refine V_iload_n dX8_guessOf_37 rfl 0 rfl ?_
          refine V_istore_n [(1, .int (nI i)), (2, .int (nI i)), (0, .ref (G.2.1 29))] dX8_guessOf_38 rfl (Nat.le_of_ble_eq_true rfl) rfl ?_
          refine V_iinc [(2, .int (nI (i + 1))), (1, .int (nI i)), (0, .ref (G.2.1 29))] dX8_guessOf_39 1 rfl (nI_1 _) (Nat.le_of_ble_eq_true rfl) rfl ?_
          refine V_goto 5 dX8_guessOf_42 (by decide) ?_
          have ee : gm (S.2.2.2 43) (i + 1) = (nI i, S.2.2.2 43 i) := by rw [gm_s, if_pos (by rw [gm_v1 (by omega) h2]; exact Int64.not_le.mp (fun z => h3 (lg_le.mpr z)))]
          refine V_lv [(2, .int (nI (i + 1))), (1, .int (nI i)), (0, .ref (G.2.1 29))] [0, 1, 2] rfl ?_
          refine V_lveq [(2, .int (nI (i + 1))), (1, .int ((gm (S.2.2.2 43) (i + 1)).1)), (0, .ref (G.2.1 29))] (by rw [ee]) ?_
          exact ih (i + 1) (by omega) (by omega)
      · refine V_lconst (v := 0) dX8_guessOf_23 rfl ?_
        refine V_goto 33 dX8_guessOf_24 (by decide) ?_
        refine V_lcmp dX8_guessOf_33 ?_
        refine V_if_le 39 dX8_guessOf_34 (by decide) (fun h4 => ?_) (fun h4 => ?_)
        · refine V_iinc [(2, .int (nI (i + 1))), (1, .int ((gm (S.2.2.2 43) i).1)), (0, .ref (G.2.1 29))] dX8_guessOf_39 0 rfl (nI_1 _) (Nat.le_of_ble_eq_true rfl) rfl ?_
          refine V_goto 5 dX8_guessOf_42 (by decide) ?_
          have ee : gm (S.2.2.2 43) (i + 1) = gm (S.2.2.2 43) i := by rw [gm_s, if_neg (by rw [gm_v0 (by omega) h2]; exact Int64.not_lt.mpr (lg_le.mp h4))]
          refine V_lv [(2, .int (nI (i + 1))), (1, .int ((gm (S.2.2.2 43) i).1)), (0, .ref (G.2.1 29))] [0, 1, 2] rfl ?_
          refine V_lveq [(2, .int (nI (i + 1))), (1, .int ((gm (S.2.2.2 43) (i + 1)).1)), (0, .ref (G.2.1 29))] (by rw [ee]) ?_
          exact ih (i + 1) (by omega) (by omega)
        · refine V_iload_n dX8_guessOf_37 rfl 0 rfl ?_
          refine V_istore_n [(1, .int (nI i)), (2, .int (nI i)), (0, .ref (G.2.1 29))] dX8_guessOf_38 rfl (Nat.le_of_ble_eq_true rfl) rfl ?_
          refine V_iinc [(2, .int (nI (i + 1))), (1, .int (nI i)), (0, .ref (G.2.1 29))] dX8_guessOf_39 1 rfl (nI_1 _) (Nat.le_of_ble_eq_true rfl) rfl ?_
          refine V_goto 5 dX8_guessOf_42 (by decide) ?_
          have ee : gm (S.2.2.2 43) (i + 1) = (nI i, S.2.2.2 43 i) := by rw [gm_s, if_pos (by rw [gm_v0 (by omega) h2]; exact Int64.not_le.mp (fun z => h4 (lg_le.mpr z)))]
          refine V_lv [(2, .int (nI (i + 1))), (1, .int (nI i)), (0, .ref (G.2.1 29))] [0, 1, 2] rfl ?_
          refine V_lveq [(2, .int (nI (i + 1))), (1, .int ((gm (S.2.2.2 43) (i + 1)).1)), (0, .ref (G.2.1 29))] (by rw [ee]) ?_
          exact ih (i + 1) (by omega) (by omega)
theorem c_X8_guessOf {G : GX} {d : Nat} {S : ST} {y : Nat} {Q : Int32 → ST → Prop} (hy : S.1 14 = nI y) (hy2 : y ≤ 210) (hq : Q ((gm (S.2.2.2 43) y).1) S) : Cn G d mX8_guessOf [.ref (G.2.1 29)] S (qi Q) := by
  refine Cn.intro (lv := [(0, .ref (G.2.1 29))]) (by decide) (Nat.le_of_ble_eq_true rfl) rfl ?_
  refine V_bipush (v := -6) dX8_guessOf_0 kb_m6 ?_
  refine V_istore_n [(1, .int (-6)), (0, .ref (G.2.1 29))] dX8_guessOf_2 rfl (Nat.le_of_ble_eq_true rfl) rfl ?_
  refine V_iconst (v := 0) dX8_guessOf_3 ki_0 ?_
  refine V_istore_n [(2, .int 0), (1, .int (-6)), (0, .ref (G.2.1 29))] dX8_guessOf_4 rfl (Nat.le_of_ble_eq_true rfl) rfl ?_
  refine V_lv [(2, .int 0), (1, .int (-6)), (0, .ref (G.2.1 29))] [0, 1, 2] rfl ?_
  refine V_lveq [(2, .int 0), (1, .int ((gm (S.2.2.2 43) 0).1)), (0, .ref (G.2.1 29))] (by rfl) ?_
  exact lp_mguess hy hy2 hq (y + 1) 0 (by omega) (by omega)
