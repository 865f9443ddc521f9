def nst (df co : Nat → Int32) (ls : Nat → Int64) (a : Int32 × Int64) (v : Nat) : Int32 × Int64 := if df v = 0 then (if a.1 = -6 ∨ ls v < a.2 ∨ (ls v = a.2 ∧ co v < co a.1.toNatClampNeg) then (nI v, ls v) else a) else a
def nfo (df co : Nat → Int32) (ls : Nat → Int64) : Nat → Int32 × Int64
  | 0 => (-6, 0)
  | k + 1 => nst df co ls (nfo df co ls k) k
theorem nfo_b {df co : Nat → Int32} {ls : Nat → Int64} : ∀ {i : Nat}, (nfo df co ls i).1 = -6 ∨ ∃ j, j < i ∧ (nfo df co ls i).1 = nI j
  | 0 => Or.inl rfl
  | i + 1 => by
    have ih := nfo_b (df := df) (co := co) (ls := ls) (i := i)
    have keep : (nfo df co ls i).1 = -6 ∨ ∃ j, j < i + 1 ∧ (nfo df co ls i).1 = nI j := ih.elim Or.inl (fun ⟨j, h1, h2⟩ => Or.inr ⟨j, by omega, h2⟩)
    unfold nfo nst
    split
    · split
      · exact Or.inr ⟨i, by omega, rfl⟩
      · exact keep
    · exact keep
theorem nI_m6 {j : Nat} (h : j < 2 ^ 31) : ¬ nI j = -6 := by
  intro e
  have h1 := nI_toInt h
  rw [e] at h1
  have h2 : (-6 : Int32).toInt = -6 := by decide
  omega
theorem nfo_s (df co : Nat → Int32) (ls : Nat → Int64) (k : Nat) : nfo df co ls (k + 1) = nst df co ls (nfo df co ls k) k := rfl
theorem nfo_cong {df df2 co co2 : Nat → Int32} {ls ls2 : Nat → Int64} : ∀ {n : Nat}, n ≤ 12 → (∀ k, k < n → df k = df2 k) → (∀ k, k < n → co k = co2 k) → (∀ k, k < n → ls k = ls2 k) → nfo df co ls n = nfo df2 co2 ls2 n
  | 0, _, _, _, _ => rfl
  | n + 1, h0, h1, h2, h3 => by
    have ih := nfo_cong (n := n) (by omega) (fun k hk => h1 k (by omega)) (fun k hk => h2 k (by omega)) (fun k hk => h3 k (by omega))
    rw [nfo_s, nfo_s, ← ih]
    unfold nst
    rw [h1 n (by omega), h2 n (by omega), h3 n (by omega)]
    rcases nfo_b (df := df) (co := co) (ls := ls) (i := n) with e | ⟨j, hj, e⟩
    · simp [e]
    · rw [e, nI_clamp (by omega), h2 j (by omega)]
def lsG (S0 : ST) (m n v : Nat) : Int64 := gapv (lsum (wX S0 m) (stl n)) (lsum (fun x => if bt (fX S0 x) v then wX S0 m x else 0) (stl n))
def hpC (S0 : ST) (m n v : Nat) : Int64 := mxs (fun x => wX S0 m x * (ten (S0.2.2.1 17) (bt (fX S0 x) v) true).toInt64) (stl n) + mxs (fun x => wX S0 m x * (ten (S0.2.2.1 17) (bt (fX S0 x) v) false).toInt64) (stl n)
def lsH (S0 : ST) (m n v : Nat) : Int64 := -hpC S0 m n v
theorem nfo_in {df co : Nat → Int32} {ls : Nat → Int64} {i : Nat} (hi : i < 12) (h : ¬ (nfo df co ls i).1 = -6) : vp_in (nfo df co ls i).1 12 := by
  rcases nfo_b (df := df) (co := co) (ls := ls) (i := i) with z | ⟨j, hj, z⟩
  · exact absurd z h
  · rw [z]; exact vp_in_nI (by omega) (by decide)
theorem hrs_nI {n i : Nat} {df : Nat → Int32} (h : i < n) (hn : n ≤ 12) : hrs n df (nI i) = decide (df i = 0) := by
  unfold hrs
  rw [kn_nI (by omega) (by omega), decide_eq_true h, Bool.true_and, nI_clamp (by omega)]
theorem lp_next0 {G : GX} {d n m : Nat} {S0 S : ST} {Q : Int32 → ST → Prop} (hC : CS S0 m (stl n) S) (hn2 : S.1 0 = nI n) (h12 : n ≤ 12) (hq : Q (nfo (S.2.2.1 14) (S.2.2.1 12) (lsG S0 m n) n).1 S) : ∀ (k i : Nat), i ≤ n → n - i < k → V (pM G (d + 2) mX4_nextVersion (qi Q)) 8 [(5, .int (nI i)), (3, .long ((nfo (S.2.2.1 14) (S.2.2.1 12) (lsG S0 m n) i).2)), (2, .int ((nfo (S.2.2.1 14) (S.2.2.1 12) (lsG S0 m n) i).1)), (0, .ref (G.2.1 3)), (1, .int 0)] [] S := by
  intro k
  induction k with
  | zero => intro i hi hk; exact absurd hk (Nat.not_lt_zero _)
  | succ k ih =>
    intro i hi hk
    refine V_iload dX4_nextVersion_8 0 rfl ?_
    refine V_aload_n dX4_nextVersion_10 rfl 3 rfl ?_
    refine g_3_0 tw_91 dX4_nextVersion_11 ?_
    refine g_1_0 tw_32 dX4_nextVersion_14 ?_
    refine V_topi (v := nI n) (id hn2) ?_
    refine V_icmp_gen 129 (a := i) (b := n) dX4_nextVersion_17 (by decide) (by omega) (by omega) (fun h1 => ?_) (fun h1 => ?_)
    · refine V_iload_n dX4_nextVersion_129 rfl 2 rfl ?_
      have hin : i = n := by omega
      subst hin
      exact V_iret rfl dX4_nextVersion_130 ⟨_, rfl, hq⟩
    · refine V_aload_n dX4_nextVersion_20 rfl 3 rfl ?_
      refine g_3_0 tw_91 dX4_nextVersion_21 ?_
      refine V_iload dX4_nextVersion_24 0 rfl ?_
      refine V_cVi (P := pM G (d + 2) mX4_nextVersion _) (d := d + 1) 1 (r := []) (As := [.int (nI i)]) (K := mX1_hears) ok_X1_hears tw_409 (ob_1 _) rfl (rmOk (Nat.le_of_ble_eq_true rfl)) (Nat.le_of_ble_eq_true rfl) dX4_nextVersion_26 rfl (c_X1_hears hn2 h12 ?_)
      refine V_topi (v := b2i (decide (S.2.2.1 14 i = 0))) (by rw [hrs_nI h1 h12]) ?_
      refine V_ifb_ne 35 dX4_nextVersion_29 (by decide) (fun h2 => ?_) (fun h2 => ?_)
      · refine V_iload_n dX4_nextVersion_35 rfl 4 rfl ?_
        refine V_if_ne 48 dX4_nextVersion_36 (by decide) (fun hz => absurd hz (by decide)) (fun _ => ?_)
        refine V_aload_n dX4_nextVersion_39 rfl 3 rfl ?_
        refine V_iload dX4_nextVersion_40 0 rfl ?_
        refine V_cVl (P := pM G (d + 2) mX4_nextVersion _) (d := d + 1) 3 (r := []) (As := [.int (nI i)]) (K := mX4_gap) ok_X4_gap tw_410 (ob_3 _) rfl (rmOk (Nat.le_of_ble_eq_true rfl)) (Nat.le_of_ble_eq_true rfl) dX4_nextVersion_42 rfl (c_X4_gap hC h12 (by omega) ?_)
        refine V_topl (v := lsG S0 m n i) rfl ?_
        refine V_goto 55 dX4_nextVersion_45 (by decide) ?_
        refine V_lstore [(6, .long (lsG S0 m n i)), (5, .int (nI i)), (3, .long ((nfo (S.2.2.1 14) (S.2.2.1 12) (lsG S0 m n) i).2)), (2, .int ((nfo (S.2.2.1 14) (S.2.2.1 12) (lsG S0 m n) i).1)), (0, .ref (G.2.1 3)), (1, .int 0)] dX4_nextVersion_55 (Nat.le_of_ble_eq_true rfl) rfl ?_
        refine V_iload_n dX4_nextVersion_57 rfl 3 rfl ?_
        refine V_bipush (v := -6) dX4_nextVersion_58 kb_m6 ?_
        refine V_icmp_eq 96 dX4_nextVersion_60 (by decide) (fun h3 => ?_) (fun h3 => ?_)
        · refine V_iconst (v := 0) dX4_nextVersion_96 ki_0 ?_
          refine V_istore [(8, .int 0), (6, .long (lsG S0 m n i)), (5, .int (nI i)), (3, .long ((nfo (S.2.2.1 14) (S.2.2.1 12) (lsG S0 m n) i).2)), (2, .int ((nfo (S.2.2.1 14) (S.2.2.1 12) (lsG S0 m n) i).1)), (0, .ref (G.2.1 3)), (1, .int 0)] dX4_nextVersion_97 (Nat.le_of_ble_eq_true rfl) rfl ?_
          refine V_iload_n dX4_nextVersion_99 rfl 4 rfl ?_
          refine V_bipush (v := -6) dX4_nextVersion_100 kb_m6 ?_
          refine V_icmp_eq 117 dX4_nextVersion_102 (by decide) (fun h4 => ?_) (fun h4 => ?_)
          · refine V_iload dX4_nextVersion_117 2 rfl ?_
            refine V_istore_n [(2, .int (nI i)), (8, .int 0), (6, .long (lsG S0 m n i)), (5, .int (nI i)), (3, .long ((nfo (S.2.2.1 14) (S.2.2.1 12) (lsG S0 m n) i).2)), (0, .ref (G.2.1 3)), (1, .int 0)] dX4_nextVersion_119 rfl (Nat.le_of_ble_eq_true rfl) rfl ?_
            refine V_lload dX4_nextVersion_120 2 rfl ?_
            refine V_lstore_n [(3, .long (lsG S0 m n i)), (2, .int (nI i)), (8, .int 0), (6, .long (lsG S0 m n i)), (5, .int (nI i)), (0, .ref (G.2.1 3)), (1, .int 0)] dX4_nextVersion_122 rfl (Nat.le_of_ble_eq_true rfl) rfl ?_
            refine V_iinc [(5, .int (nI (i + 1))), (3, .long (lsG S0 m n i)), (2, .int (nI i)), (8, .int 0), (6, .long (lsG S0 m n i)), (0, .ref (G.2.1 3)), (1, .int 0)] dX4_nextVersion_123 4 rfl (nI_1 _) (Nat.le_of_ble_eq_true rfl) rfl ?_
            refine V_goto 8 dX4_nextVersion_126 (by decide) ?_
            have ee : nfo (S.2.2.1 14) (S.2.2.1 12) (lsG S0 m n) (i + 1) = (nI i, lsG S0 m n i) := by rw [nfo_s, nst, if_pos (by simpa using h2), if_pos (by rw [← lg_lt, ← lg0]; simp [h3, h4])]
            refine V_lv [(5, .int (nI (i + 1))), (3, .long (lsG S0 m n i)), (2, .int (nI i)), (0, .ref (G.2.1 3)), (1, .int 0)] [0, 1, 2, 5, 6] rfl ?_
            refine V_lveq [(5, .int (nI (i + 1))), (3, .long ((nfo (S.2.2.1 14) (S.2.2.1 12) (lsG S0 m n) (i + 1)).2)), (2, .int ((nfo (S.2.2.1 14) (S.2.2.1 12) (lsG S0 m n) (i + 1)).1)), (0, .ref (G.2.1 3)), (1, .int 0)] (by rw [ee]) ?_
            exact ih (i + 1) (by omega) (by omega)
          · exact absurd h3 h4
        · refine V_lload dX4_nextVersion_63 0 rfl ?_
          refine V_lload_n dX4_nextVersion_65 rfl 2 rfl ?_
          refine V_lcmp dX4_nextVersion_66 ?_
          refine V_if_ne 96 dX4_nextVersion_67 (by decide) (fun h5 => ?_) (fun h5 => ?_)
          · refine V_iconst (v := 0) dX4_nextVersion_96 ki_0 ?_
            refine V_istore [(8, .int 0), (6, .long (lsG S0 m n i)), (5, .int (nI i)), (3, .long ((nfo (S.2.2.1 14) (S.2.2.1 12) (lsG S0 m n) i).2)), (2, .int ((nfo (S.2.2.1 14) (S.2.2.1 12) (lsG S0 m n) i).1)), (0, .ref (G.2.1 3)), (1, .int 0)] dX4_nextVersion_97 (Nat.le_of_ble_eq_true rfl) rfl ?_
            refine V_iload_n dX4_nextVersion_99 rfl 4 rfl ?_
            refine V_bipush (v := -6) dX4_nextVersion_100 kb_m6 ?_
            refine V_icmp_eq 117 dX4_nextVersion_102 (by decide) (fun h6 => ?_) (fun h6 => ?_)
            · exact absurd h6 h3
            · refine V_lload dX4_nextVersion_105 1 rfl ?_
              refine V_lload_n dX4_nextVersion_107 rfl 3 rfl ?_
              refine V_lcmp dX4_nextVersion_108 ?_
              refine V_if_lt 117 dX4_nextVersion_109 (by decide) (fun h7 => ?_) (fun h7 => ?_)
              · refine V_iload dX4_nextVersion_117 2 rfl ?_
                refine V_istore_n [(2, .int (nI i)), (8, .int 0), (6, .long (lsG S0 m n i)), (5, .int (nI i)), (3, .long ((nfo (S.2.2.1 14) (S.2.2.1 12) (lsG S0 m n) i).2)), (0, .ref (G.2.1 3)), (1, .int 0)] dX4_nextVersion_119 rfl (Nat.le_of_ble_eq_true rfl) rfl ?_
                refine V_lload dX4_nextVersion_120 2 rfl ?_
                refine V_lstore_n [(3, .long (lsG S0 m n i)), (2, .int (nI i)), (8, .int 0), (6, .long (lsG S0 m n i)), (5, .int (nI i)), (0, .ref (G.2.1 3)), (1, .int 0)] dX4_nextVersion_122 rfl (Nat.le_of_ble_eq_true rfl) rfl ?_
                refine V_iinc [(5, .int (nI (i + 1))), (3, .long (lsG S0 m n i)), (2, .int (nI i)), (8, .int 0), (6, .long (lsG S0 m n i)), (0, .ref (G.2.1 3)), (1, .int 0)] dX4_nextVersion_123 4 rfl (nI_1 _) (Nat.le_of_ble_eq_true rfl) rfl ?_
                refine V_goto 8 dX4_nextVersion_126 (by decide) ?_
                have ee : nfo (S.2.2.1 14) (S.2.2.1 12) (lsG S0 m n) (i + 1) = (nI i, lsG S0 m n i) := by rw [nfo_s, nst, if_pos (by simpa using h2), if_pos (by rw [← lg_lt, ← lg0]; simp [h3, h5, h6, h7])]
                refine V_lv [(5, .int (nI (i + 1))), (3, .long (lsG S0 m n i)), (2, .int (nI i)), (0, .ref (G.2.1 3)), (1, .int 0)] [0, 1, 2, 5, 6] rfl ?_
                refine V_lveq [(5, .int (nI (i + 1))), (3, .long ((nfo (S.2.2.1 14) (S.2.2.1 12) (lsG S0 m n) (i + 1)).2)), (2, .int ((nfo (S.2.2.1 14) (S.2.2.1 12) (lsG S0 m n) (i + 1)).1)), (0, .ref (G.2.1 3)), (1, .int 0)] (by rw [ee]) ?_
                exact ih (i + 1) (by omega) (by omega)
              · refine V_iload dX4_nextVersion_112 0 rfl ?_
                refine V_if_eq 123 dX4_nextVersion_114 (by decide) (fun _ => ?_) (fun hz => absurd hz (by decide))
                refine V_iinc [(5, .int (nI (i + 1))), (8, .int 0), (6, .long (lsG S0 m n i)), (3, .long ((nfo (S.2.2.1 14) (S.2.2.1 12) (lsG S0 m n) i).2)), (2, .int ((nfo (S.2.2.1 14) (S.2.2.1 12) (lsG S0 m n) i).1)), (0, .ref (G.2.1 3)), (1, .int 0)] dX4_nextVersion_123 2 rfl (nI_1 _) (Nat.le_of_ble_eq_true rfl) rfl ?_
                refine V_goto 8 dX4_nextVersion_126 (by decide) ?_
                have ee : nfo (S.2.2.1 14) (S.2.2.1 12) (lsG S0 m n) (i + 1) = nfo (S.2.2.1 14) (S.2.2.1 12) (lsG S0 m n) i := by rw [nfo_s, nst, if_pos (by simpa using h2), if_neg (by rw [← lg_lt, ← lg0]; simp [h3, h5, h6, h7])]
                refine V_lv [(5, .int (nI (i + 1))), (3, .long ((nfo (S.2.2.1 14) (S.2.2.1 12) (lsG S0 m n) i).2)), (2, .int ((nfo (S.2.2.1 14) (S.2.2.1 12) (lsG S0 m n) i).1)), (0, .ref (G.2.1 3)), (1, .int 0)] [0, 3, 4, 5, 6] rfl ?_
                refine V_lveq [(5, .int (nI (i + 1))), (3, .long ((nfo (S.2.2.1 14) (S.2.2.1 12) (lsG S0 m n) (i + 1)).2)), (2, .int ((nfo (S.2.2.1 14) (S.2.2.1 12) (lsG S0 m n) (i + 1)).1)), (0, .ref (G.2.1 3)), (1, .int 0)] (by rw [ee]) ?_
                exact ih (i + 1) (by omega) (by omega)
          · refine V_aload_n dX4_nextVersion_70 rfl 4 rfl ?_
            refine g_3_0 tw_91 dX4_nextVersion_71 ?_
            refine g_1_4 tw_42 dX4_nextVersion_74 ?_
            refine V_iload dX4_nextVersion_77 1 rfl ?_
            refine l_12n (by omega) dX4_nextVersion_79 ?_
            refine V_aload_n dX4_nextVersion_80 rfl 4 rfl ?_
            refine g_3_0 tw_91 dX4_nextVersion_81 ?_
            refine g_1_4 tw_42 dX4_nextVersion_84 ?_
            refine V_iload_n dX4_nextVersion_87 rfl 3 rfl ?_
            refine l_12 (nfo_in (by omega) h3) dX4_nextVersion_88 ?_
            refine V_icmp_ge 96 dX4_nextVersion_89 (by decide) (fun h8 => ?_) (fun h8 => ?_)
            · refine V_iconst (v := 0) dX4_nextVersion_96 ki_0 ?_
              refine V_istore [(8, .int 0), (6, .long (lsG S0 m n i)), (5, .int (nI i)), (3, .long ((nfo (S.2.2.1 14) (S.2.2.1 12) (lsG S0 m n) i).2)), (2, .int ((nfo (S.2.2.1 14) (S.2.2.1 12) (lsG S0 m n) i).1)), (0, .ref (G.2.1 3)), (1, .int 0)] dX4_nextVersion_97 (Nat.le_of_ble_eq_true rfl) rfl ?_
              refine V_iload_n dX4_nextVersion_99 rfl 4 rfl ?_
              refine V_bipush (v := -6) dX4_nextVersion_100 kb_m6 ?_
              refine V_icmp_eq 117 dX4_nextVersion_102 (by decide) (fun h9 => ?_) (fun h9 => ?_)
              · exact absurd h9 h3
              · refine V_lload dX4_nextVersion_105 1 rfl ?_
                refine V_lload_n dX4_nextVersion_107 rfl 3 rfl ?_
                refine V_lcmp dX4_nextVersion_108 ?_
                refine V_if_lt 117 dX4_nextVersion_109 (by decide) (fun h10 => ?_) (fun h10 => ?_)
                · rw [h5] at h10
                  exact absurd h10 (by decide)
                · refine V_iload dX4_nextVersion_112 0 rfl ?_
                  refine V_if_eq 123 dX4_nextVersion_114 (by decide) (fun _ => ?_) (fun hz => absurd hz (by decide))
                  refine V_iinc [(5, .int (nI (i + 1))), (8, .int 0), (6, .long (lsG S0 m n i)), (3, .long ((nfo (S.2.2.1 14) (S.2.2.1 12) (lsG S0 m n) i).2)), (2, .int ((nfo (S.2.2.1 14) (S.2.2.1 12) (lsG S0 m n) i).1)), (0, .ref (G.2.1 3)), (1, .int 0)] dX4_nextVersion_123 2 rfl (nI_1 _) (Nat.le_of_ble_eq_true rfl) rfl ?_
                  refine V_goto 8 dX4_nextVersion_126 (by decide) ?_
                  have ee : nfo (S.2.2.1 14) (S.2.2.1 12) (lsG S0 m n) (i + 1) = nfo (S.2.2.1 14) (S.2.2.1 12) (lsG S0 m n) i := by rw [nfo_s, nst, if_pos (by simpa using h2), if_neg (by rw [← lg_lt, ← lg0]; simp [h3, h5, h8, h9, h10, Int32.not_lt.mpr h8])]
                  refine V_lv [(5, .int (nI (i + 1))), (3, .long ((nfo (S.2.2.1 14) (S.2.2.1 12) (lsG S0 m n) i).2)), (2, .int ((nfo (S.2.2.1 14) (S.2.2.1 12) (lsG S0 m n) i).1)), (0, .ref (G.2.1 3)), (1, .int 0)] [0, 3, 4, 5, 6] rfl ?_
                  refine V_lveq [(5, .int (nI (i + 1))), (3, .long ((nfo (S.2.2.1 14) (S.2.2.1 12) (lsG S0 m n) (i + 1)).2)), (2, .int ((nfo (S.2.2.1 14) (S.2.2.1 12) (lsG S0 m n) (i + 1)).1)), (0, .ref (G.2.1 3)), (1, .int 0)] (by rw [ee]) ?_
                  exact ih (i + 1) (by omega) (by omega)
            · refine V_iconst (v := 1) dX4_nextVersion_92 ki_1 ?_
              refine V_goto 97 dX4_nextVersion_93 (by decide) ?_
              refine V_istore [(8, .int 1), (6, .long (lsG S0 m n i)), (5, .int (nI i)), (3, .long ((nfo (S.2.2.1 14) (S.2.2.1 12) (lsG S0 m n) i).2)), (2, .int ((nfo (S.2.2.1 14) (S.2.2.1 12) (lsG S0 m n) i).1)), (0, .ref (G.2.1 3)), (1, .int 0)] dX4_nextVersion_97 (Nat.le_of_ble_eq_true rfl) rfl ?_
              refine V_iload_n dX4_nextVersion_99 rfl 4 rfl ?_
              refine V_bipush (v := -6) dX4_nextVersion_100 kb_m6 ?_
              refine V_icmp_eq 117 dX4_nextVersion_102 (by decide) (fun h11 => ?_) (fun h11 => ?_)
              · exact absurd h11 h3
              · refine V_lload dX4_nextVersion_105 1 rfl ?_
                refine V_lload_n dX4_nextVersion_107 rfl 3 rfl ?_
                refine V_lcmp dX4_nextVersion_108 ?_
                refine V_if_lt 117 dX4_nextVersion_109 (by decide) (fun h13 => ?_) (fun h13 => ?_)
                · rw [h5] at h13
                  exact absurd h13 (by decide)
                · refine V_iload dX4_nextVersion_112 0 rfl ?_
                  refine V_if_eq 123 dX4_nextVersion_114 (by decide) (fun hz => absurd hz (by decide)) (fun _ => ?_)
                  refine V_iload dX4_nextVersion_117 2 rfl ?_
                  refine V_istore_n [(2, .int (nI i)), (8, .int 1), (6, .long (lsG S0 m n i)), (5, .int (nI i)), (3, .long ((nfo (S.2.2.1 14) (S.2.2.1 12) (lsG S0 m n) i).2)), (0, .ref (G.2.1 3)), (1, .int 0)] dX4_nextVersion_119 rfl (Nat.le_of_ble_eq_true rfl) rfl ?_
                  refine V_lload dX4_nextVersion_120 2 rfl ?_
                  refine V_lstore_n [(3, .long (lsG S0 m n i)), (2, .int (nI i)), (8, .int 1), (6, .long (lsG S0 m n i)), (5, .int (nI i)), (0, .ref (G.2.1 3)), (1, .int 0)] dX4_nextVersion_122 rfl (Nat.le_of_ble_eq_true rfl) rfl ?_
                  refine V_iinc [(5, .int (nI (i + 1))), (3, .long (lsG S0 m n i)), (2, .int (nI i)), (8, .int 1), (6, .long (lsG S0 m n i)), (0, .ref (G.2.1 3)), (1, .int 0)] dX4_nextVersion_123 4 rfl (nI_1 _) (Nat.le_of_ble_eq_true rfl) rfl ?_
                  refine V_goto 8 dX4_nextVersion_126 (by decide) ?_
                  have ee : nfo (S.2.2.1 14) (S.2.2.1 12) (lsG S0 m n) (i + 1) = (nI i, lsG S0 m n i) := by rw [nfo_s, nst, if_pos (by simpa using h2), if_pos (by rw [← lg_lt, ← lg0]; simp [h3, h5, h8, h11, h13, Int32.not_le.mp h8])]
                  refine V_lv [(5, .int (nI (i + 1))), (3, .long (lsG S0 m n i)), (2, .int (nI i)), (0, .ref (G.2.1 3)), (1, .int 0)] [0, 1, 2, 5, 6] rfl ?_
                  refine V_lveq [(5, .int (nI (i + 1))), (3, .long ((nfo (S.2.2.1 14) (S.2.2.1 12) (lsG S0 m n) (i + 1)).2)), (2, .int ((nfo (S.2.2.1 14) (S.2.2.1 12) (lsG S0 m n) (i + 1)).1)), (0, .ref (G.2.1 3)), (1, .int 0)] (by rw [ee]) ?_
                  exact ih (i + 1) (by omega) (by omega)
      · refine V_goto 123 dX4_nextVersion_32 (by decide) ?_
        refine V_iinc [(5, .int (nI (i + 1))), (3, .long ((nfo (S.2.2.1 14) (S.2.2.1 12) (lsG S0 m n) i).2)), (2, .int ((nfo (S.2.2.1 14) (S.2.2.1 12) (lsG S0 m n) i).1)), (0, .ref (G.2.1 3)), (1, .int 0)] dX4_nextVersion_123 0 rfl (nI_1 _) (Nat.le_of_ble_eq_true rfl) rfl ?_
        refine V_goto 8 dX4_nextVersion_126 (by decide) ?_
        have ee : nfo (S.2.2.1 14) (S.2.2.1 12) (lsG S0 m n) (i + 1) = nfo (S.2.2.1 14) (S.2.2.1 12) (lsG S0 m n) i := by rw [nfo_s, nst, if_neg (by simpa using h2)]
        refine V_lv [(5, .int (nI (i + 1))), (3, .long ((nfo (S.2.2.1 14) (S.2.2.1 12) (lsG S0 m n) i).2)), (2, .int ((nfo (S.2.2.1 14) (S.2.2.1 12) (lsG S0 m n) i).1)), (0, .ref (G.2.1 3)), (1, .int 0)] [0, 1, 2, 3, 4] rfl ?_
        refine V_lveq [(5, .int (nI (i + 1))), (3, .long ((nfo (S.2.2.1 14) (S.2.2.1 12) (lsG S0 m n) (i + 1)).2)), (2, .int ((nfo (S.2.2.1 14) (S.2.2.1 12) (lsG S0 m n) (i + 1)).1)), (0, .ref (G.2.1 3)), (1, .int 0)] (by rw [ee]) ?_
        exact ih (i + 1) (by omega) (by omega)
theorem c_X4_nextVersion0 {G : GX} {d : Nat} {S : ST} {S0 : ST} {n m : Nat} {Q : Int32 → ST → Prop} (hC : CS S0 m (stl n) S) (hn : S0.1 0 = nI n) (h12 : n ≤ 12) (hq : Q ((nfo (S0.2.2.1 14) (S0.2.2.1 12) (lsG S0 m n) n).1) S) : Cn G (d + 2) mX4_nextVersion [.ref (G.2.1 3), .int 0] S (qi Q) := by
  refine Cn.intro (lv := [(0, .ref (G.2.1 3)), (1, .int 0)]) (by decide) (Nat.le_of_ble_eq_true rfl) rfl ?_
  refine V_bipush (v := -6) dX4_nextVersion_0 kb_m6 ?_
  refine V_istore_n [(2, .int (-6)), (0, .ref (G.2.1 3)), (1, .int 0)] dX4_nextVersion_2 rfl (Nat.le_of_ble_eq_true rfl) rfl ?_
  refine V_lconst (v := 0) dX4_nextVersion_3 rfl ?_
  refine V_lstore_n [(3, .long 0), (2, .int (-6)), (0, .ref (G.2.1 3)), (1, .int 0)] dX4_nextVersion_4 rfl (Nat.le_of_ble_eq_true rfl) rfl ?_
  refine V_iconst (v := 0) dX4_nextVersion_5 ki_0 ?_
  refine V_istore [(5, .int 0), (3, .long 0), (2, .int (-6)), (0, .ref (G.2.1 3)), (1, .int 0)] dX4_nextVersion_6 (Nat.le_of_ble_eq_true rfl) rfl ?_
  refine V_lv [(5, .int 0), (3, .long 0), (2, .int (-6)), (0, .ref (G.2.1 3)), (1, .int 0)] [0, 1, 2, 3, 4] rfl ?_
  refine V_lveq [(5, .int 0), (3, .long ((nfo (S.2.2.1 14) (S.2.2.1 12) (lsG S0 m n) 0).2)), (2, .int ((nfo (S.2.2.1 14) (S.2.2.1 12) (lsG S0 m n) 0).1)), (0, .ref (G.2.1 3)), (1, .int 0)] (by rfl) ?_
  exact lp_next0 hC ((hC.1.1 0 (by decide) (by decide)).trans hn) h12 (qcast hq (by rw [hC.1.2.2.1 14 (by decide) (by decide), hC.1.2.2.1 12 (by decide) (by decide)])) (n + 1) 0 (by omega) (by omega)
theorem lp_next1 {G : GX} {d n m : Nat} {S0 S : ST} {Q : Int32 → ST → Prop} (hC : CS S0 m (stl n) S) (hn2 : S.1 0 = nI n) (h12 : n ≤ 12) (hq : Q (nfo (S.2.2.1 14) (S.2.2.1 12) (lsH S0 m n) n).1 S) : ∀ (k i : Nat), i ≤ n → n - i < k → V (pM G (d + 2) mX4_nextVersion (qi Q)) 8 [(5, .int (nI i)), (3, .long ((nfo (S.2.2.1 14) (S.2.2.1 12) (lsH S0 m n) i).2)), (2, .int ((nfo (S.2.2.1 14) (S.2.2.1 12) (lsH S0 m n) i).1)), (0, .ref (G.2.1 3)), (1, .int 1)] [] S := by
  intro k
  induction k with
  | zero => intro i hi hk; exact absurd hk (Nat.not_lt_zero _)
  | succ k ih =>
    intro i hi hk
    refine V_iload dX4_nextVersion_8 0 rfl ?_
    refine V_aload_n dX4_nextVersion_10 rfl 3 rfl ?_
    refine g_3_0 tw_91 dX4_nextVersion_11 ?_
    refine g_1_0 tw_32 dX4_nextVersion_14 ?_
    refine V_topi (v := nI n) (id hn2) ?_
    refine V_icmp_gen 129 (a := i) (b := n) dX4_nextVersion_17 (by decide) (by omega) (by omega) (fun h1 => ?_) (fun h1 => ?_)
    · refine V_iload_n dX4_nextVersion_129 rfl 2 rfl ?_
      have hin : i = n := by omega
      subst hin
      exact V_iret rfl dX4_nextVersion_130 ⟨_, rfl, hq⟩
    · refine V_aload_n dX4_nextVersion_20 rfl 3 rfl ?_
      refine g_3_0 tw_91 dX4_nextVersion_21 ?_
      refine V_iload dX4_nextVersion_24 0 rfl ?_
      refine V_cVi (P := pM G (d + 2) mX4_nextVersion _) (d := d + 1) 1 (r := []) (As := [.int (nI i)]) (K := mX1_hears) ok_X1_hears tw_409 (ob_1 _) rfl (rmOk (Nat.le_of_ble_eq_true rfl)) (Nat.le_of_ble_eq_true rfl) dX4_nextVersion_26 rfl (c_X1_hears hn2 h12 ?_)
      refine V_topi (v := b2i (decide (S.2.2.1 14 i = 0))) (by rw [hrs_nI h1 h12]) ?_
      refine V_ifb_ne 35 dX4_nextVersion_29 (by decide) (fun h2 => ?_) (fun h2 => ?_)
      · refine V_iload_n dX4_nextVersion_35 rfl 4 rfl ?_
        refine V_if_ne 48 dX4_nextVersion_36 (by decide) (fun _ => ?_) (fun hz => absurd hz (by decide))
        refine V_aload_n dX4_nextVersion_48 rfl 3 rfl ?_
        refine V_iload dX4_nextVersion_49 0 rfl ?_
        refine V_cVl (P := pM G (d + 2) mX4_nextVersion _) (d := d + 1) 3 (r := []) (As := [.int (nI i)]) (K := mX4_hopeWeight) ok_X4_hopeWeight tw_418 (ob_3 _) rfl (rmOk (Nat.le_of_ble_eq_true rfl)) (Nat.le_of_ble_eq_true rfl) dX4_nextVersion_51 rfl (c_X4_hopeWeight hC h12 (by omega) ?_)
        refine V_topl (v := hpC S0 m n i) rfl ?_
        refine V_lneg dX4_nextVersion_54 ?_
        refine V_topl (v := lsH S0 m n i) rfl ?_
        refine V_lstore [(6, .long (lsH S0 m n i)), (5, .int (nI i)), (3, .long ((nfo (S.2.2.1 14) (S.2.2.1 12) (lsH S0 m n) i).2)), (2, .int ((nfo (S.2.2.1 14) (S.2.2.1 12) (lsH S0 m n) i).1)), (0, .ref (G.2.1 3)), (1, .int 1)] dX4_nextVersion_55 (Nat.le_of_ble_eq_true rfl) rfl ?_
        refine V_iload_n dX4_nextVersion_57 rfl 3 rfl ?_
        refine V_bipush (v := -6) dX4_nextVersion_58 kb_m6 ?_
        refine V_icmp_eq 96 dX4_nextVersion_60 (by decide) (fun h3 => ?_) (fun h3 => ?_)
        · refine V_iconst (v := 0) dX4_nextVersion_96 ki_0 ?_
          refine V_istore [(8, .int 0), (6, .long (lsH S0 m n i)), (5, .int (nI i)), (3, .long ((nfo (S.2.2.1 14) (S.2.2.1 12) (lsH S0 m n) i).2)), (2, .int ((nfo (S.2.2.1 14) (S.2.2.1 12) (lsH S0 m n) i).1)), (0, .ref (G.2.1 3)), (1, .int 1)] dX4_nextVersion_97 (Nat.le_of_ble_eq_true rfl) rfl ?_
          refine V_iload_n dX4_nextVersion_99 rfl 4 rfl ?_
          refine V_bipush (v := -6) dX4_nextVersion_100 kb_m6 ?_
          refine V_icmp_eq 117 dX4_nextVersion_102 (by decide) (fun h4 => ?_) (fun h4 => ?_)
          · refine V_iload dX4_nextVersion_117 2 rfl ?_
            refine V_istore_n [(2, .int (nI i)), (8, .int 0), (6, .long (lsH S0 m n i)), (5, .int (nI i)), (3, .long ((nfo (S.2.2.1 14) (S.2.2.1 12) (lsH S0 m n) i).2)), (0, .ref (G.2.1 3)), (1, .int 1)] dX4_nextVersion_119 rfl (Nat.le_of_ble_eq_true rfl) rfl ?_
            refine V_lload dX4_nextVersion_120 2 rfl ?_
            refine V_lstore_n [(3, .long (lsH S0 m n i)), (2, .int (nI i)), (8, .int 0), (6, .long (lsH S0 m n i)), (5, .int (nI i)), (0, .ref (G.2.1 3)), (1, .int 1)] dX4_nextVersion_122 rfl (Nat.le_of_ble_eq_true rfl) rfl ?_
            refine V_iinc [(5, .int (nI (i + 1))), (3, .long (lsH S0 m n i)), (2, .int (nI i)), (8, .int 0), (6, .long (lsH S0 m n i)), (0, .ref (G.2.1 3)), (1, .int 1)] dX4_nextVersion_123 4 rfl (nI_1 _) (Nat.le_of_ble_eq_true rfl) rfl ?_
            refine V_goto 8 dX4_nextVersion_126 (by decide) ?_
            have ee : nfo (S.2.2.1 14) (S.2.2.1 12) (lsH S0 m n) (i + 1) = (nI i, lsH S0 m n i) := by rw [nfo_s, nst, if_pos (by simpa using h2), if_pos (by rw [← lg_lt, ← lg0]; simp [h3, h4])]
            refine V_lv [(5, .int (nI (i + 1))), (3, .long (lsH S0 m n i)), (2, .int (nI i)), (0, .ref (G.2.1 3)), (1, .int 1)] [0, 1, 2, 5, 6] rfl ?_
            refine V_lveq [(5, .int (nI (i + 1))), (3, .long ((nfo (S.2.2.1 14) (S.2.2.1 12) (lsH S0 m n) (i + 1)).2)), (2, .int ((nfo (S.2.2.1 14) (S.2.2.1 12) (lsH S0 m n) (i + 1)).1)), (0, .ref (G.2.1 3)), (1, .int 1)] (by rw [ee]) ?_
            exact ih (i + 1) (by omega) (by omega)
          · exact absurd h3 h4
        · refine V_lload dX4_nextVersion_63 0 rfl ?_
          refine V_lload_n dX4_nextVersion_65 rfl 2 rfl ?_
          refine V_lcmp dX4_nextVersion_66 ?_
          refine V_if_ne 96 dX4_nextVersion_67 (by decide) (fun h5 => ?_) (fun h5 => ?_)
          · refine V_iconst (v := 0) dX4_nextVersion_96 ki_0 ?_
            refine V_istore [(8, .int 0), (6, .long (lsH S0 m n i)), (5, .int (nI i)), (3, .long ((nfo (S.2.2.1 14) (S.2.2.1 12) (lsH S0 m n) i).2)), (2, .int ((nfo (S.2.2.1 14) (S.2.2.1 12) (lsH S0 m n) i).1)), (0, .ref (G.2.1 3)), (1, .int 1)] dX4_nextVersion_97 (Nat.le_of_ble_eq_true rfl) rfl ?_
            refine V_iload_n dX4_nextVersion_99 rfl 4 rfl ?_
            refine V_bipush (v := -6) dX4_nextVersion_100 kb_m6 ?_
            refine V_icmp_eq 117 dX4_nextVersion_102 (by decide) (fun h6 => ?_) (fun h6 => ?_)
            · exact absurd h6 h3
            · refine V_lload dX4_nextVersion_105 1 rfl ?_
              refine V_lload_n dX4_nextVersion_107 rfl 3 rfl ?_
              refine V_lcmp dX4_nextVersion_108 ?_
              refine V_if_lt 117 dX4_nextVersion_109 (by decide) (fun h7 => ?_) (fun h7 => ?_)
              · refine V_iload dX4_nextVersion_117 2 rfl ?_
                refine V_istore_n [(2, .int (nI i)), (8, .int 0), (6, .long (lsH S0 m n i)), (5, .int (nI i)), (3, .long ((nfo (S.2.2.1 14) (S.2.2.1 12) (lsH S0 m n) i).2)), (0, .ref (G.2.1 3)), (1, .int 1)] dX4_nextVersion_119 rfl (Nat.le_of_ble_eq_true rfl) rfl ?_
                refine V_lload dX4_nextVersion_120 2 rfl ?_
                refine V_lstore_n [(3, .long (lsH S0 m n i)), (2, .int (nI i)), (8, .int 0), (6, .long (lsH S0 m n i)), (5, .int (nI i)), (0, .ref (G.2.1 3)), (1, .int 1)] dX4_nextVersion_122 rfl (Nat.le_of_ble_eq_true rfl) rfl ?_
                refine V_iinc [(5, .int (nI (i + 1))), (3, .long (lsH S0 m n i)), (2, .int (nI i)), (8, .int 0), (6, .long (lsH S0 m n i)), (0, .ref (G.2.1 3)), (1, .int 1)] dX4_nextVersion_123 4 rfl (nI_1 _) (Nat.le_of_ble_eq_true rfl) rfl ?_
                refine V_goto 8 dX4_nextVersion_126 (by decide) ?_
                have ee : nfo (S.2.2.1 14) (S.2.2.1 12) (lsH S0 m n) (i + 1) = (nI i, lsH S0 m n i) := by rw [nfo_s, nst, if_pos (by simpa using h2), if_pos (by rw [← lg_lt, ← lg0]; simp [h3, h5, h6, h7])]
                refine V_lv [(5, .int (nI (i + 1))), (3, .long (lsH S0 m n i)), (2, .int (nI i)), (0, .ref (G.2.1 3)), (1, .int 1)] [0, 1, 2, 5, 6] rfl ?_
                refine V_lveq [(5, .int (nI (i + 1))), (3, .long ((nfo (S.2.2.1 14) (S.2.2.1 12) (lsH S0 m n) (i + 1)).2)), (2, .int ((nfo (S.2.2.1 14) (S.2.2.1 12) (lsH S0 m n) (i + 1)).1)), (0, .ref (G.2.1 3)), (1, .int 1)] (by rw [ee]) ?_
                exact ih (i + 1) (by omega) (by omega)
              · refine V_iload dX4_nextVersion_112 0 rfl ?_
                refine V_if_eq 123 dX4_nextVersion_114 (by decide) (fun _ => ?_) (fun hz => absurd hz (by decide))
                refine V_iinc [(5, .int (nI (i + 1))), (8, .int 0), (6, .long (lsH S0 m n i)), (3, .long ((nfo (S.2.2.1 14) (S.2.2.1 12) (lsH S0 m n) i).2)), (2, .int ((nfo (S.2.2.1 14) (S.2.2.1 12) (lsH S0 m n) i).1)), (0, .ref (G.2.1 3)), (1, .int 1)] dX4_nextVersion_123 2 rfl (nI_1 _) (Nat.le_of_ble_eq_true rfl) rfl ?_
                refine V_goto 8 dX4_nextVersion_126 (by decide) ?_
                have ee : nfo (S.2.2.1 14) (S.2.2.1 12) (lsH S0 m n) (i + 1) = nfo (S.2.2.1 14) (S.2.2.1 12) (lsH S0 m n) i := by rw [nfo_s, nst, if_pos (by simpa using h2), if_neg (by rw [← lg_lt, ← lg0]; simp [h3, h5, h6, h7])]
                refine V_lv [(5, .int (nI (i + 1))), (3, .long ((nfo (S.2.2.1 14) (S.2.2.1 12) (lsH S0 m n) i).2)), (2, .int ((nfo (S.2.2.1 14) (S.2.2.1 12) (lsH S0 m n) i).1)), (0, .ref (G.2.1 3)), (1, .int 1)] [0, 3, 4, 5, 6] rfl ?_
                refine V_lveq [(5, .int (nI (i + 1))), (3, .long ((nfo (S.2.2.1 14) (S.2.2.1 12) (lsH S0 m n) (i + 1)).2)), (2, .int ((nfo (S.2.2.1 14) (S.2.2.1 12) (lsH S0 m n) (i + 1)).1)), (0, .ref (G.2.1 3)), (1, .int 1)] (by rw [ee]) ?_
                exact ih (i + 1) (by omega) (by omega)
          · refine V_aload_n dX4_nextVersion_70 rfl 4 rfl ?_
            refine g_3_0 tw_91 dX4_nextVersion_71 ?_
            refine g_1_4 tw_42 dX4_nextVersion_74 ?_
            refine V_iload dX4_nextVersion_77 1 rfl ?_
            refine l_12n (by omega) dX4_nextVersion_79 ?_
            refine V_aload_n dX4_nextVersion_80 rfl 4 rfl ?_
            refine g_3_0 tw_91 dX4_nextVersion_81 ?_
            refine g_1_4 tw_42 dX4_nextVersion_84 ?_
            refine V_iload_n dX4_nextVersion_87 rfl 3 rfl ?_
            refine l_12 (nfo_in (by omega) h3) dX4_nextVersion_88 ?_
            refine V_icmp_ge 96 dX4_nextVersion_89 (by decide) (fun h8 => ?_) (fun h8 => ?_)
            · refine V_iconst (v := 0) dX4_nextVersion_96 ki_0 ?_
              refine V_istore [(8, .int 0), (6, .long (lsH S0 m n i)), (5, .int (nI i)), (3, .long ((nfo (S.2.2.1 14) (S.2.2.1 12) (lsH S0 m n) i).2)), (2, .int ((nfo (S.2.2.1 14) (S.2.2.1 12) (lsH S0 m n) i).1)), (0, .ref (G.2.1 3)), (1, .int 1)] dX4_nextVersion_97 (Nat.le_of_ble_eq_true rfl) rfl ?_
              refine V_iload_n dX4_nextVersion_99 rfl 4 rfl ?_
              refine V_bipush (v := -6) dX4_nextVersion_100 kb_m6 ?_
              refine V_icmp_eq 117 dX4_nextVersion_102 (by decide) (fun h9 => ?_) (fun h9 => ?_)
              · exact absurd h9 h3
              · refine V_lload dX4_nextVersion_105 1 rfl ?_
                refine V_lload_n dX4_nextVersion_107 rfl 3 rfl ?_
                refine V_lcmp dX4_nextVersion_108 ?_
                refine V_if_lt 117 dX4_nextVersion_109 (by decide) (fun h10 => ?_) (fun h10 => ?_)
                · rw [h5] at h10
                  exact absurd h10 (by decide)
                · refine V_iload dX4_nextVersion_112 0 rfl ?_
                  refine V_if_eq 123 dX4_nextVersion_114 (by decide) (fun _ => ?_) (fun hz => absurd hz (by decide))
                  refine V_iinc [(5, .int (nI (i + 1))), (8, .int 0), (6, .long (lsH S0 m n i)), (3, .long ((nfo (S.2.2.1 14) (S.2.2.1 12) (lsH S0 m n) i).2)), (2, .int ((nfo (S.2.2.1 14) (S.2.2.1 12) (lsH S0 m n) i).1)), (0, .ref (G.2.1 3)), (1, .int 1)] dX4_nextVersion_123 2 rfl (nI_1 _) (Nat.le_of_ble_eq_true rfl) rfl ?_
                  refine V_goto 8 dX4_nextVersion_126 (by decide) ?_
                  have ee : nfo (S.2.2.1 14) (S.2.2.1 12) (lsH S0 m n) (i + 1) = nfo (S.2.2.1 14) (S.2.2.1 12) (lsH S0 m n) i := by rw [nfo_s, nst, if_pos (by simpa using h2), if_neg (by rw [← lg_lt, ← lg0]; simp [h3, h5, h8, h9, h10, Int32.not_lt.mpr h8])]
                  refine V_lv [(5, .int (nI (i + 1))), (3, .long ((nfo (S.2.2.1 14) (S.2.2.1 12) (lsH S0 m n) i).2)), (2, .int ((nfo (S.2.2.1 14) (S.2.2.1 12) (lsH S0 m n) i).1)), (0, .ref (G.2.1 3)), (1, .int 1)] [0, 3, 4, 5, 6] rfl ?_
                  refine V_lveq [(5, .int (nI (i + 1))), (3, .long ((nfo (S.2.2.1 14) (S.2.2.1 12) (lsH S0 m n) (i + 1)).2)), (2, .int ((nfo (S.2.2.1 14) (S.2.2.1 12) (lsH S0 m n) (i + 1)).1)), (0, .ref (G.2.1 3)), (1, .int 1)] (by rw [ee]) ?_
                  exact ih (i + 1) (by omega) (by omega)
            · refine V_iconst (v := 1) dX4_nextVersion_92 ki_1 ?_
              refine V_goto 97 dX4_nextVersion_93 (by decide) ?_
              refine V_istore [(8, .int 1), (6, .long (lsH S0 m n i)), (5, .int (nI i)), (3, .long ((nfo (S.2.2.1 14) (S.2.2.1 12) (lsH S0 m n) i).2)), (2, .int ((nfo (S.2.2.1 14) (S.2.2.1 12) (lsH S0 m n) i).1)), (0, .ref (G.2.1 3)), (1, .int 1)] dX4_nextVersion_97 (Nat.le_of_ble_eq_true rfl) rfl ?_
              refine V_iload_n dX4_nextVersion_99 rfl 4 rfl ?_
              refine V_bipush (v := -6) dX4_nextVersion_100 kb_m6 ?_
              refine V_icmp_eq 117 dX4_nextVersion_102 (by decide) (fun h11 => ?_) (fun h11 => ?_)
              · exact absurd h11 h3
              · refine V_lload dX4_nextVersion_105 1 rfl ?_
                refine V_lload_n dX4_nextVersion_107 rfl 3 rfl ?_
                refine V_lcmp dX4_nextVersion_108 ?_
                refine V_if_lt 117 dX4_nextVersion_109 (by decide) (fun h13 => ?_) (fun h13 => ?_)
                · rw [h5] at h13
                  exact absurd h13 (by decide)
                · refine V_iload dX4_nextVersion_112 0 rfl ?_
                  refine V_if_eq 123 dX4_nextVersion_114 (by decide) (fun hz => absurd hz (by decide)) (fun _ => ?_)
                  refine V_iload dX4_nextVersion_117 2 rfl ?_
                  refine V_istore_n [(2, .int (nI i)), (8, .int 1), (6, .long (lsH S0 m n i)), (5, .int (nI i)), (3, .long ((nfo (S.2.2.1 14) (S.2.2.1 12) (lsH S0 m n) i).2)), (0, .ref (G.2.1 3)), (1, .int 1)] dX4_nextVersion_119 rfl (Nat.le_of_ble_eq_true rfl) rfl ?_
                  refine V_lload dX4_nextVersion_120 2 rfl ?_
                  refine V_lstore_n [(3, .long (lsH S0 m n i)), (2, .int (nI i)), (8, .int 1), (6, .long (lsH S0 m n i)), (5, .int (nI i)), (0, .ref (G.2.1 3)), (1, .int 1)] dX4_nextVersion_122 rfl (Nat.le_of_ble_eq_true rfl) rfl ?_
                  refine V_iinc [(5, .int (nI (i + 1))), (3, .long (lsH S0 m n i)), (2, .int (nI i)), (8, .int 1), (6, .long (lsH S0 m n i)), (0, .ref (G.2.1 3)), (1, .int 1)] dX4_nextVersion_123 4 rfl (nI_1 _) (Nat.le_of_ble_eq_true rfl) rfl ?_
                  refine V_goto 8 dX4_nextVersion_126 (by decide) ?_
                  have ee : nfo (S.2.2.1 14) (S.2.2.1 12) (lsH S0 m n) (i + 1) = (nI i, lsH S0 m n i) := by rw [nfo_s, nst, if_pos (by simpa using h2), if_pos (by rw [← lg_lt, ← lg0]; simp [h3, h5, h8, h11, h13, Int32.not_le.mp h8])]
                  refine V_lv [(5, .int (nI (i + 1))), (3, .long (lsH S0 m n i)), (2, .int (nI i)), (0, .ref (G.2.1 3)), (1, .int 1)] [0, 1, 2, 5, 6] rfl ?_
                  refine V_lveq [(5, .int (nI (i + 1))), (3, .long ((nfo (S.2.2.1 14) (S.2.2.1 12) (lsH S0 m n) (i + 1)).2)), (2, .int ((nfo (S.2.2.1 14) (S.2.2.1 12) (lsH S0 m n) (i + 1)).1)), (0, .ref (G.2.1 3)), (1, .int 1)] (by rw [ee]) ?_
                  exact ih (i + 1) (by omega) (by omega)
      · refine V_goto 123 dX4_nextVersion_32 (by decide) ?_
        refine V_iinc [(5, .int (nI (i + 1))), (3, .long ((nfo (S.2.2.1 14) (S.2.2.1 12) (lsH S0 m n) i).2)), (2, .int ((nfo (S.2.2.1 14) (S.2.2.1 12) (lsH S0 m n) i).1)), (0, .ref (G.2.1 3)), (1, .int 1)] dX4_nextVersion_123 0 rfl (nI_1 _) (Nat.le_of_ble_eq_true rfl) rfl ?_
        refine V_goto 8 dX4_nextVersion_126 (by decide) ?_
        have ee : nfo (S.2.2.1 14) (S.2.2.1 12) (lsH S0 m n) (i + 1) = nfo (S.2.2.1 14) (S.2.2.1 12) (lsH S0 m n) i := by rw [nfo_s, nst, if_neg (by simpa using h2)]
        refine V_lv [(5, .int (nI (i + 1))), (3, .long ((nfo (S.2.2.1 14) (S.2.2.1 12) (lsH S0 m n) i).2)), (2, .int ((nfo (S.2.2.1 14) (S.2.2.1 12) (lsH S0 m n) i).1)), (0, .ref (G.2.1 3)), (1, .int 1)] [0, 1, 2, 3, 4] rfl ?_
        refine V_lveq [(5, .int (nI (i + 1))), (3, .long ((nfo (S.2.2.1 14) (S.2.2.1 12) (lsH S0 m n) (i + 1)).2)), (2, .int ((nfo (S.2.2.1 14) (S.2.2.1 12) (lsH S0 m n) (i + 1)).1)), (0, .ref (G.2.1 3)), (1, .int 1)] (by rw [ee]) ?_
        exact ih (i + 1) (by omega) (by omega)
theorem c_X4_nextVersion1 {G : GX} {d : Nat} {S : ST} {S0 : ST} {n m : Nat} {Q : Int32 → ST → Prop} (hC : CS S0 m (stl n) S) (hn : S0.1 0 = nI n) (h12 : n ≤ 12) (hq : Q ((nfo (S0.2.2.1 14) (S0.2.2.1 12) (lsH S0 m n) n).1) S) : Cn G (d + 2) mX4_nextVersion [.ref (G.2.1 3), .int 1] S (qi Q) := by
  refine Cn.intro (lv := [(0, .ref (G.2.1 3)), (1, .int 1)]) (by decide) (Nat.le_of_ble_eq_true rfl) rfl ?_
  refine V_bipush (v := -6) dX4_nextVersion_0 kb_m6 ?_
  refine V_istore_n [(2, .int (-6)), (0, .ref (G.2.1 3)), (1, .int 1)] dX4_nextVersion_2 rfl (Nat.le_of_ble_eq_true rfl) rfl ?_
  refine V_lconst (v := 0) dX4_nextVersion_3 rfl ?_
  refine V_lstore_n [(3, .long 0), (2, .int (-6)), (0, .ref (G.2.1 3)), (1, .int 1)] dX4_nextVersion_4 rfl (Nat.le_of_ble_eq_true rfl) rfl ?_
  refine V_iconst (v := 0) dX4_nextVersion_5 ki_0 ?_
  refine V_istore [(5, .int 0), (3, .long 0), (2, .int (-6)), (0, .ref (G.2.1 3)), (1, .int 1)] dX4_nextVersion_6 (Nat.le_of_ble_eq_true rfl) rfl ?_
  refine V_lv [(5, .int 0), (3, .long 0), (2, .int (-6)), (0, .ref (G.2.1 3)), (1, .int 1)] [0, 1, 2, 3, 4] rfl ?_
  refine V_lveq [(5, .int 0), (3, .long ((nfo (S.2.2.1 14) (S.2.2.1 12) (lsH S0 m n) 0).2)), (2, .int ((nfo (S.2.2.1 14) (S.2.2.1 12) (lsH S0 m n) 0).1)), (0, .ref (G.2.1 3)), (1, .int 1)] (by rfl) ?_
  exact lp_next1 hC ((hC.1.1 0 (by decide) (by decide)).trans hn) h12 (qcast hq (by rw [hC.1.2.2.1 14 (by decide) (by decide), hC.1.2.2.1 12 (by decide) (by decide)])) (n + 1) 0 (by omega) (by omega)
