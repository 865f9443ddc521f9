def oldm (S : ST) (w : Int32) (v : Nat) : Int32 := if w = 0 then S.2.2.1 31 v else if w = 1 then S.2.2.1 32 v else if w = 2 then S.2.2.1 33 v else z01 (S.2.2.1 34 v)
def z1 (x : Int32) : Int32 := if x = 1 then 1 else 0
def newm (S : ST) (w : Int32) (v : Nat) (x : Int32) : ST := if w = 0 then setA S 31 v x else if w = 1 then setA S 32 v x else if w = 2 then setA S 33 v x else setA S 34 v (z1 x)
def setRm (S : ST) (n t : Nat) (v w x : Int32) : Int32 := if kn n v then (if mb v w x then (if w = 3 ∧ x = 1 ∧ anyEq (S.2.2.1 35) v t = true then -3 else oldm S w v.toNatClampNeg) else -2) else -1
def setSm (S : ST) (n t : Nat) (v w x : Int32) : ST := if kn n v then (if mb v w x then (if w = 3 ∧ x = 1 ∧ anyEq (S.2.2.1 35) v t = true then S else setI (newm S w v.toNatClampNeg x) 15 0) else S) else S
theorem anyEq_succ (f : Nat → Int32) (v : Int32) (k : Nat) : anyEq f v (k + 1) = (anyEq f v k || decide (f k = v)) := rfl
theorem lp_isTested {G : GX} {d t : Nat} {v : Int32} {S : ST} {Q : Int32 → ST → Prop} (ht : S.1 11 = nI t) (t12 : t ≤ 12) (hq : Q (b2i (anyEq (S.2.2.1 35) v t)) S) : ∀ (k i : Nat), i ≤ t → t - i < k → V (pM G d mX8_isTested (qi Q)) 4 [(3, .int (nI i)), (2, .int (b2i (anyEq (S.2.2.1 35) v i))), (0, .ref (G.2.1 29)), (1, .int v)] [] S := by
  intro k
  induction k with
  | zero => intro i hi hk; exact absurd hk (Nat.not_lt_zero _)
  | succ k ih =>
    intro i hi hk
    refine V_iload_n dX8_isTested_4 rfl 0 rfl ?_
    refine V_aload_n dX8_isTested_5 rfl 2 rfl ?_
    refine g_29_6 tw_634 dX8_isTested_6 ?_
    refine V_topi (v := nI t) (ht) ?_
    refine V_icmp_gen 38 (a := i) (b := t) dX8_isTested_9 (by decide) (by omega) (by omega) (fun h1 => ?_) (fun h1 => ?_)
    · refine V_iload_n dX8_isTested_38 rfl 1 rfl ?_
      have hin : i = t := by omega
      subst hin
      exact V_zret rfl dX8_isTested_39 (b2i_nar _) ⟨_, rfl, hq⟩
    · refine V_iload_n dX8_isTested_12 rfl 1 rfl ?_
      refine V_ifb_ne 26 dX8_isTested_13 (by decide) (fun h2 => ?_) (fun h2 => ?_)
      · refine V_iconst (v := 1) dX8_isTested_26 ki_1 ?_
        refine V_goto 31 dX8_isTested_27 (by decide) ?_
        refine V_istore_n [(2, .int 1), (3, .int (nI i)), (0, .ref (G.2.1 29)), (1, .int v)] dX8_isTested_31 rfl (Nat.le_of_ble_eq_true rfl) rfl ?_
        refine V_iinc [(3, .int (nI (i + 1))), (2, .int 1), (0, .ref (G.2.1 29)), (1, .int v)] dX8_isTested_32 1 rfl (nI_1 _) (Nat.le_of_ble_eq_true rfl) rfl ?_
        refine V_goto 4 dX8_isTested_35 (by decide) ?_
        refine V_lv [(3, .int (nI (i + 1))), (2, .int 1), (0, .ref (G.2.1 29)), (1, .int v)] [0, 1, 2, 3] rfl ?_
        refine V_lveq [(3, .int (nI (i + 1))), (2, .int (b2i (anyEq (S.2.2.1 35) v (i + 1)))), (0, .ref (G.2.1 29)), (1, .int v)] (by simp [anyEq_succ, b2i, h2]) ?_
        exact ih (i + 1) (by omega) (by omega)
      · refine V_aload_n dX8_isTested_16 rfl 2 rfl ?_
        refine g_29_7 tw_635 dX8_isTested_17 ?_
        refine V_iload_n dX8_isTested_20 rfl 0 rfl ?_
        refine l_35n (by omega) dX8_isTested_21 ?_
        refine V_iload_n dX8_isTested_22 rfl 3 rfl ?_
        refine V_icmp_ne 30 dX8_isTested_23 (by decide) (fun h3 => ?_) (fun h3 => ?_)
        · refine V_iconst (v := 0) dX8_isTested_30 ki_0 ?_
          refine V_istore_n [(2, .int 0), (3, .int (nI i)), (0, .ref (G.2.1 29)), (1, .int v)] dX8_isTested_31 rfl (Nat.le_of_ble_eq_true rfl) rfl ?_
          refine V_iinc [(3, .int (nI (i + 1))), (2, .int 0), (0, .ref (G.2.1 29)), (1, .int v)] dX8_isTested_32 1 rfl (nI_1 _) (Nat.le_of_ble_eq_true rfl) rfl ?_
          refine V_goto 4 dX8_isTested_35 (by decide) ?_
          refine V_lv [(3, .int (nI (i + 1))), (2, .int 0), (0, .ref (G.2.1 29)), (1, .int v)] [0, 1, 2, 3] rfl ?_
          refine V_lveq [(3, .int (nI (i + 1))), (2, .int (b2i (anyEq (S.2.2.1 35) v (i + 1)))), (0, .ref (G.2.1 29)), (1, .int v)] (by simp [anyEq_succ, b2i, h2, h3]) ?_
          exact ih (i + 1) (by omega) (by omega)
        · refine V_iconst (v := 1) dX8_isTested_26 ki_1 ?_
          refine V_goto 31 dX8_isTested_27 (by decide) ?_
          refine V_istore_n [(2, .int 1), (3, .int (nI i)), (0, .ref (G.2.1 29)), (1, .int v)] dX8_isTested_31 rfl (Nat.le_of_ble_eq_true rfl) rfl ?_
          refine V_iinc [(3, .int (nI (i + 1))), (2, .int 1), (0, .ref (G.2.1 29)), (1, .int v)] dX8_isTested_32 1 rfl (nI_1 _) (Nat.le_of_ble_eq_true rfl) rfl ?_
          refine V_goto 4 dX8_isTested_35 (by decide) ?_
          refine V_lv [(3, .int (nI (i + 1))), (2, .int 1), (0, .ref (G.2.1 29)), (1, .int v)] [0, 1, 2, 3] rfl ?_
          refine V_lveq [(3, .int (nI (i + 1))), (2, .int (b2i (anyEq (S.2.2.1 35) v (i + 1)))), (0, .ref (G.2.1 29)), (1, .int v)] (by simp [anyEq_succ, b2i, h2, h3]) ?_
          exact ih (i + 1) (by omega) (by omega)
theorem c_X8_isTested {G : GX} {d : Nat} {S : ST} {v : Int32} {t : Nat} {Q : Int32 → ST → Prop} (ht : S.1 11 = nI t) (t12 : t ≤ 12) (hq : Q (b2i (anyEq (S.2.2.1 35) v t)) S) : Cn G d mX8_isTested [.ref (G.2.1 29), .int v] S (qi Q) := by
  refine Cn.intro (lv := [(0, .ref (G.2.1 29)), (1, .int v)]) (by decide) (Nat.le_of_ble_eq_true rfl) rfl ?_
  refine V_iconst (v := 0) dX8_isTested_0 ki_0 ?_
  refine V_istore_n [(2, .int 0), (0, .ref (G.2.1 29)), (1, .int v)] dX8_isTested_1 rfl (Nat.le_of_ble_eq_true rfl) rfl ?_
  refine V_iconst (v := 0) dX8_isTested_2 ki_0 ?_
  refine V_istore_n [(3, .int 0), (2, .int 0), (0, .ref (G.2.1 29)), (1, .int v)] dX8_isTested_3 rfl (Nat.le_of_ble_eq_true rfl) rfl ?_
  refine V_lv [(3, .int 0), (2, .int 0), (0, .ref (G.2.1 29)), (1, .int v)] [0, 1, 2, 3] rfl ?_
  exact lp_isTested ht t12 hq (t + 1) 0 (by omega) (by omega)
theorem c_X8_set {G : GX} {d : Nat} {S : ST} {v w x : Int32} {n t : Nat} {Q : Int32 → ST → Prop} (hn : S.1 10 = nI n) (h12 : n ≤ 12) (ht : S.1 11 = nI t) (t12 : t ≤ 12) (hq : Q (setRm S n t v w x) (setSm S n t v w x)) : Cn G (d + 2) mX8_set [.ref (G.2.1 29), .int v, .int w, .int x] S (qi Q) := by
  refine Cn.intro (lv := [(0, .ref (G.2.1 29)), (1, .int v), (2, .int w), (3, .int x)]) (by decide) (Nat.le_of_ble_eq_true rfl) rfl ?_
  refine V_aload_n dX8_set_0 rfl 0 rfl ?_
  refine V_iload_n dX8_set_1 rfl 1 rfl ?_
  refine V_cVi (P := pM G (d + 2) mX8_set _) (d := d + 1) 29 (r := []) (As := [.int v]) (K := mX8_isVersion) ok_X8_isVersion tw_717 (ob_29 _) rfl (rmOk (Nat.le_of_ble_eq_true rfl)) (Nat.le_of_ble_eq_true rfl) dX8_set_2 rfl (c_X8_isVersion hn h12 ?_)
  refine V_ifb_ne 10 dX8_set_5 (by decide) (fun h1 => ?_) (fun h1 => ?_)
  · obtain ⟨j, hj, rfl⟩ := kn_ex h1 (by omega)
    refine V_iload_n dX8_set_10 rfl 2 rfl ?_
    refine V_if_eq 19 dX8_set_11 (by decide) (fun h2 => ?_) (fun h2 => ?_)
    · subst h2
      refine V_iload_n dX8_set_19 rfl 3 rfl ?_
      refine V_iconst (v := 1) dX8_set_20 ki_1 ?_
      refine V_bipush (v := 9) dX8_set_21 kb_9 ?_
      refine V_cSi (P := pM G (d + 2) mX8_set _) (d := d + 1) (r := []) (As := [.int x, .int 1, .int 9]) (K := mX8_in) ok_X8_in tw_721 rfl (rmOk (Nat.le_of_ble_eq_true rfl)) (Nat.le_of_ble_eq_true rfl) dX8_set_23 rfl (c_X8_in ?_)
      refine V_goto 64 dX8_set_26 (by decide) ?_
      refine V_istore [(4, .int (b2i (fr x 1 9))), (0, .ref (G.2.1 29)), (1, .int (nI j)), (2, .int 0), (3, .int x)] dX8_set_64 (Nat.le_of_ble_eq_true rfl) rfl ?_
      refine V_iload dX8_set_66 0 rfl ?_
      refine V_ifb_ne 74 dX8_set_68 (by decide) (fun h3 => ?_) (fun h3 => ?_)
      · refine V_iload_n dX8_set_74 rfl 3 rfl ?_
        refine V_iconst (v := 3) dX8_set_75 ki_3 ?_
        refine V_icmp_ne 95 dX8_set_76 (by decide) (fun _ => ?_) (fun hz => absurd hz (by decide))
        refine V_iload_n dX8_set_95 rfl 3 rfl ?_
        refine V_if_ne 108 dX8_set_96 (by decide) (fun hz => absurd hz (by decide)) (fun _ => ?_)
        refine V_aload_n dX8_set_99 rfl 1 rfl ?_
        refine g_29_2 tw_630 dX8_set_100 ?_
        refine V_iload_n dX8_set_103 rfl 2 rfl ?_
        refine l_31n (by omega) dX8_set_104 ?_
        refine V_goto 150 dX8_set_105 (by decide) ?_
        refine V_istore [(5, .int (S.2.2.1 31 j)), (4, .int (b2i (fr x 1 9))), (0, .ref (G.2.1 29)), (1, .int (nI j)), (2, .int 0), (3, .int x)] dX8_set_150 (Nat.le_of_ble_eq_true rfl) rfl ?_
        refine V_iload_n dX8_set_152 rfl 4 rfl ?_
        refine V_if_ne 166 dX8_set_153 (by decide) (fun hz => absurd hz (by decide)) (fun _ => ?_)
        refine V_aload_n dX8_set_156 rfl 2 rfl ?_
        refine g_29_2 tw_630 dX8_set_157 ?_
        refine V_iload_n dX8_set_160 rfl 3 rfl ?_
        refine V_iload_n dX8_set_161 rfl 5 rfl ?_
        refine s_31n (by omega) dX8_set_162 ?_
        refine V_goto 212 dX8_set_163 (by decide) ?_
        refine V_aload_n dX8_set_212 rfl 2 rfl ?_
        refine V_iconst (v := 0) dX8_set_213 ki_0 ?_
        refine p_29_20 (by decide) tw_648 dX8_set_214 ?_
        refine V_iload dX8_set_217 0 rfl ?_
        refine V_iret rfl dX8_set_219 ⟨_, rfl, ?_⟩
        exact qcast2 hq (by simp [setRm, mb, oldm, z01, h1, h3, nI_clamp (show j < 2 ^ 31 by omega)]) (by simp [setSm, mb, newm, z1, vpz0, vpz1, h1, h3, nI_clamp (show j < 2 ^ 31 by omega)])
      · refine V_bipush (v := -2) dX8_set_71 kb_m2 ?_
        refine V_iret rfl dX8_set_73 ⟨_, rfl, ?_⟩
        exact qcast2 hq (by simp [setRm, mb, oldm, z01, h1, h3, nI_clamp (show j < 2 ^ 31 by omega)]) (by simp [setSm, mb, newm, z1, vpz0, vpz1, h1, h3, nI_clamp (show j < 2 ^ 31 by omega)])
    · refine V_iload_n dX8_set_14 rfl 2 rfl ?_
      refine V_iconst (v := 1) dX8_set_15 ki_1 ?_
      refine V_icmp_ne 29 dX8_set_16 (by decide) (fun h4 => ?_) (fun h4 => ?_)
      · refine V_iload_n dX8_set_29 rfl 2 rfl ?_
        refine V_iconst (v := 2) dX8_set_30 ki_2 ?_
        refine V_icmp_ne 47 dX8_set_31 (by decide) (fun h5 => ?_) (fun h5 => ?_)
        · refine V_iload_n dX8_set_47 rfl 2 rfl ?_
          refine V_iconst (v := 3) dX8_set_48 ki_3 ?_
          refine V_icmp_ne 63 dX8_set_49 (by decide) (fun h6 => ?_) (fun h6 => ?_)
          · refine V_iconst (v := 0) dX8_set_63 ki_0 ?_
            refine V_istore [(4, .int 0), (0, .ref (G.2.1 29)), (1, .int (nI j)), (2, .int w), (3, .int x)] dX8_set_64 (Nat.le_of_ble_eq_true rfl) rfl ?_
            refine V_iload dX8_set_66 0 rfl ?_
            refine V_if_ne 74 dX8_set_68 (by decide) (fun hz => absurd hz (by decide)) (fun _ => ?_)
            refine V_bipush (v := -2) dX8_set_71 kb_m2 ?_
            refine V_iret rfl dX8_set_73 ⟨_, rfl, ?_⟩
            exact qcast2 hq (by simp [setRm, mb, oldm, z01, h1, h2, h4, h5, h6, nI_clamp (show j < 2 ^ 31 by omega)]) (by simp [setSm, mb, newm, z1, vpz0, vpz1, h1, h2, h4, h5, h6, nI_clamp (show j < 2 ^ 31 by omega)])
          · subst h6
            refine V_iload_n dX8_set_52 rfl 3 rfl ?_
            refine V_cSi (P := pM G (d + 2) mX8_set _) (d := d + 1) (r := []) (As := [.int x]) (K := mX8_isPart) ok_X8_isPart tw_732 rfl (rmOk (Nat.le_of_ble_eq_true rfl)) (Nat.le_of_ble_eq_true rfl) dX8_set_53 rfl (c_X8_isPart ?_)
            refine V_ifb_eq 63 dX8_set_56 (by decide) (fun h7 => ?_) (fun h7 => ?_)
            · refine V_iconst (v := 0) dX8_set_63 ki_0 ?_
              refine V_istore [(4, .int 0), (0, .ref (G.2.1 29)), (1, .int (nI j)), (2, .int 3), (3, .int x)] dX8_set_64 (Nat.le_of_ble_eq_true rfl) rfl ?_
              refine V_iload dX8_set_66 0 rfl ?_
              refine V_if_ne 74 dX8_set_68 (by decide) (fun hz => absurd hz (by decide)) (fun _ => ?_)
              refine V_bipush (v := -2) dX8_set_71 kb_m2 ?_
              refine V_iret rfl dX8_set_73 ⟨_, rfl, ?_⟩
              exact qcast2 hq (by simp [setRm, mb, oldm, z01, h1, h2, h4, h5, h7, nI_clamp (show j < 2 ^ 31 by omega)]) (by simp [setSm, mb, newm, z1, vpz0, vpz1, h1, h2, h4, h5, h7, nI_clamp (show j < 2 ^ 31 by omega)])
            · refine V_iconst (v := 1) dX8_set_59 ki_1 ?_
              refine V_goto 64 dX8_set_60 (by decide) ?_
              refine V_istore [(4, .int 1), (0, .ref (G.2.1 29)), (1, .int (nI j)), (2, .int 3), (3, .int x)] dX8_set_64 (Nat.le_of_ble_eq_true rfl) rfl ?_
              refine V_iload dX8_set_66 0 rfl ?_
              refine V_if_ne 74 dX8_set_68 (by decide) (fun _ => ?_) (fun hz => absurd hz (by decide))
              refine V_iload_n dX8_set_74 rfl 3 rfl ?_
              refine V_iconst (v := 3) dX8_set_75 ki_3 ?_
              refine V_icmp_ne 95 dX8_set_76 (by decide) (fun hz => absurd hz (by decide)) (fun _ => ?_)
              refine V_iload_n dX8_set_79 rfl 4 rfl ?_
              refine V_iconst (v := 1) dX8_set_80 ki_1 ?_
              refine V_icmp_ne 95 dX8_set_81 (by decide) (fun h8 => ?_) (fun h8 => ?_)
              · refine V_iload_n dX8_set_95 rfl 3 rfl ?_
                refine V_if_ne 108 dX8_set_96 (by decide) (fun _ => ?_) (fun hz => absurd hz (by decide))
                refine V_iload_n dX8_set_108 rfl 3 rfl ?_
                refine V_iconst (v := 1) dX8_set_109 ki_1 ?_
                refine V_icmp_ne 122 dX8_set_110 (by decide) (fun _ => ?_) (fun hz => absurd hz (by decide))
                refine V_iload_n dX8_set_122 rfl 3 rfl ?_
                refine V_iconst (v := 2) dX8_set_123 ki_2 ?_
                refine V_icmp_ne 136 dX8_set_124 (by decide) (fun _ => ?_) (fun hz => absurd hz (by decide))
                refine V_aload_n dX8_set_136 rfl 1 rfl ?_
                refine g_29_5 tw_633 dX8_set_137 ?_
                refine V_iload_n dX8_set_140 rfl 2 rfl ?_
                refine l_34n (by omega) dX8_set_141 ?_
                refine V_if_eq 149 dX8_set_142 (by decide) (fun h9 => ?_) (fun h9 => ?_)
                · refine V_iconst (v := 0) dX8_set_149 ki_0 ?_
                  refine V_istore [(5, .int 0), (4, .int 1), (0, .ref (G.2.1 29)), (1, .int (nI j)), (2, .int 3), (3, .int x)] dX8_set_150 (Nat.le_of_ble_eq_true rfl) rfl ?_
                  refine V_iload_n dX8_set_152 rfl 4 rfl ?_
                  refine V_if_ne 166 dX8_set_153 (by decide) (fun _ => ?_) (fun hz => absurd hz (by decide))
                  refine V_iload_n dX8_set_166 rfl 4 rfl ?_
                  refine V_iconst (v := 1) dX8_set_167 ki_1 ?_
                  refine V_icmp_ne 181 dX8_set_168 (by decide) (fun _ => ?_) (fun hz => absurd hz (by decide))
                  refine V_iload_n dX8_set_181 rfl 4 rfl ?_
                  refine V_iconst (v := 2) dX8_set_182 ki_2 ?_
                  refine V_icmp_ne 196 dX8_set_183 (by decide) (fun _ => ?_) (fun hz => absurd hz (by decide))
                  refine V_aload_n dX8_set_196 rfl 2 rfl ?_
                  refine g_29_5 tw_633 dX8_set_197 ?_
                  refine V_iload_n dX8_set_200 rfl 3 rfl ?_
                  refine V_iload_n dX8_set_201 rfl 5 rfl ?_
                  refine V_iconst (v := 1) dX8_set_202 ki_1 ?_
                  refine V_icmp_ne 210 dX8_set_203 (by decide) (fun h10 => ?_) (fun h10 => ?_)
                  · refine V_iconst (v := 0) dX8_set_210 ki_0 ?_
                    refine s_34n (by omega) dX8_set_211 ?_
                    refine V_aload_n dX8_set_212 rfl 2 rfl ?_
                    refine V_iconst (v := 0) dX8_set_213 ki_0 ?_
                    refine p_29_20 (by decide) tw_648 dX8_set_214 ?_
                    refine V_iload dX8_set_217 0 rfl ?_
                    refine V_iret rfl dX8_set_219 ⟨_, rfl, ?_⟩
                    exact qcast2 hq (by simp [setRm, mb, oldm, z01, h1, h2, h4, h5, h7, h8, h9, h10, nI_clamp (show j < 2 ^ 31 by omega)]) (by simp [setSm, mb, newm, z1, vpz0, vpz1, h1, h2, h4, h5, h7, h8, h9, h10, nI_clamp (show j < 2 ^ 31 by omega)])
                  · exact absurd h10 (by assumption)
                · refine V_iconst (v := 1) dX8_set_145 ki_1 ?_
                  refine V_goto 150 dX8_set_146 (by decide) ?_
                  refine V_istore [(5, .int 1), (4, .int 1), (0, .ref (G.2.1 29)), (1, .int (nI j)), (2, .int 3), (3, .int x)] dX8_set_150 (Nat.le_of_ble_eq_true rfl) rfl ?_
                  refine V_iload_n dX8_set_152 rfl 4 rfl ?_
                  refine V_if_ne 166 dX8_set_153 (by decide) (fun _ => ?_) (fun hz => absurd hz (by decide))
                  refine V_iload_n dX8_set_166 rfl 4 rfl ?_
                  refine V_iconst (v := 1) dX8_set_167 ki_1 ?_
                  refine V_icmp_ne 181 dX8_set_168 (by decide) (fun _ => ?_) (fun hz => absurd hz (by decide))
                  refine V_iload_n dX8_set_181 rfl 4 rfl ?_
                  refine V_iconst (v := 2) dX8_set_182 ki_2 ?_
                  refine V_icmp_ne 196 dX8_set_183 (by decide) (fun _ => ?_) (fun hz => absurd hz (by decide))
                  refine V_aload_n dX8_set_196 rfl 2 rfl ?_
                  refine g_29_5 tw_633 dX8_set_197 ?_
                  refine V_iload_n dX8_set_200 rfl 3 rfl ?_
                  refine V_iload_n dX8_set_201 rfl 5 rfl ?_
                  refine V_iconst (v := 1) dX8_set_202 ki_1 ?_
                  refine V_icmp_ne 210 dX8_set_203 (by decide) (fun h11 => ?_) (fun h11 => ?_)
                  · refine V_iconst (v := 0) dX8_set_210 ki_0 ?_
                    refine s_34n (by omega) dX8_set_211 ?_
                    refine V_aload_n dX8_set_212 rfl 2 rfl ?_
                    refine V_iconst (v := 0) dX8_set_213 ki_0 ?_
                    refine p_29_20 (by decide) tw_648 dX8_set_214 ?_
                    refine V_iload dX8_set_217 0 rfl ?_
                    refine V_iret rfl dX8_set_219 ⟨_, rfl, ?_⟩
                    exact qcast2 hq (by simp [setRm, mb, oldm, z01, h1, h2, h4, h5, h7, h8, h9, h11, nI_clamp (show j < 2 ^ 31 by omega)]) (by simp [setSm, mb, newm, z1, vpz0, vpz1, h1, h2, h4, h5, h7, h8, h9, h11, nI_clamp (show j < 2 ^ 31 by omega)])
                  · exact absurd h11 (by assumption)
              · subst h8
                refine V_aload_n dX8_set_84 rfl 1 rfl ?_
                refine V_iload_n dX8_set_85 rfl 2 rfl ?_
                refine V_cVi (P := pM G (d + 2) mX8_set _) (d := d + 1) 29 (r := []) (As := [.int (nI j)]) (K := mX8_isTested) ok_X8_isTested tw_735 (ob_29 _) rfl (rmOk (Nat.le_of_ble_eq_true rfl)) (Nat.le_of_ble_eq_true rfl) dX8_set_86 rfl (c_X8_isTested ht t12 ?_)
                refine V_ifb_eq 95 dX8_set_89 (by decide) (fun h12 => ?_) (fun h12 => ?_)
                · refine V_iload_n dX8_set_95 rfl 3 rfl ?_
                  refine V_if_ne 108 dX8_set_96 (by decide) (fun _ => ?_) (fun hz => absurd hz (by decide))
                  refine V_iload_n dX8_set_108 rfl 3 rfl ?_
                  refine V_iconst (v := 1) dX8_set_109 ki_1 ?_
                  refine V_icmp_ne 122 dX8_set_110 (by decide) (fun _ => ?_) (fun hz => absurd hz (by decide))
                  refine V_iload_n dX8_set_122 rfl 3 rfl ?_
                  refine V_iconst (v := 2) dX8_set_123 ki_2 ?_
                  refine V_icmp_ne 136 dX8_set_124 (by decide) (fun _ => ?_) (fun hz => absurd hz (by decide))
                  refine V_aload_n dX8_set_136 rfl 1 rfl ?_
                  refine g_29_5 tw_633 dX8_set_137 ?_
                  refine V_iload_n dX8_set_140 rfl 2 rfl ?_
                  refine l_34n (by omega) dX8_set_141 ?_
                  refine V_if_eq 149 dX8_set_142 (by decide) (fun h13 => ?_) (fun h13 => ?_)
                  · refine V_iconst (v := 0) dX8_set_149 ki_0 ?_
                    refine V_istore [(5, .int 0), (4, .int 1), (0, .ref (G.2.1 29)), (1, .int (nI j)), (2, .int 3), (3, .int 1)] dX8_set_150 (Nat.le_of_ble_eq_true rfl) rfl ?_
                    refine V_iload_n dX8_set_152 rfl 4 rfl ?_
                    refine V_if_ne 166 dX8_set_153 (by decide) (fun _ => ?_) (fun hz => absurd hz (by decide))
                    refine V_iload_n dX8_set_166 rfl 4 rfl ?_
                    refine V_iconst (v := 1) dX8_set_167 ki_1 ?_
                    refine V_icmp_ne 181 dX8_set_168 (by decide) (fun _ => ?_) (fun hz => absurd hz (by decide))
                    refine V_iload_n dX8_set_181 rfl 4 rfl ?_
                    refine V_iconst (v := 2) dX8_set_182 ki_2 ?_
                    refine V_icmp_ne 196 dX8_set_183 (by decide) (fun _ => ?_) (fun hz => absurd hz (by decide))
                    refine V_aload_n dX8_set_196 rfl 2 rfl ?_
                    refine g_29_5 tw_633 dX8_set_197 ?_
                    refine V_iload_n dX8_set_200 rfl 3 rfl ?_
                    refine V_iload_n dX8_set_201 rfl 5 rfl ?_
                    refine V_iconst (v := 1) dX8_set_202 ki_1 ?_
                    refine V_icmp_ne 210 dX8_set_203 (by decide) (fun hz => absurd hz (by decide)) (fun _ => ?_)
                    refine V_iconst (v := 1) dX8_set_206 ki_1 ?_
                    refine V_goto 211 dX8_set_207 (by decide) ?_
                    refine s_34n (by omega) dX8_set_211 ?_
                    refine V_aload_n dX8_set_212 rfl 2 rfl ?_
                    refine V_iconst (v := 0) dX8_set_213 ki_0 ?_
                    refine p_29_20 (by decide) tw_648 dX8_set_214 ?_
                    refine V_iload dX8_set_217 0 rfl ?_
                    refine V_iret rfl dX8_set_219 ⟨_, rfl, ?_⟩
                    exact qcast2 hq (by simp [setRm, mb, oldm, z01, h1, h2, h4, h5, h7, h12, h13, nI_clamp (show j < 2 ^ 31 by omega)]) (by simp [setSm, mb, newm, z1, vpz0, vpz1, h1, h2, h4, h5, h7, h12, h13, nI_clamp (show j < 2 ^ 31 by omega)])
                  · refine V_iconst (v := 1) dX8_set_145 ki_1 ?_
                    refine V_goto 150 dX8_set_146 (by decide) ?_
                    refine V_istore [(5, .int 1), (4, .int 1), (0, .ref (G.2.1 29)), (1, .int (nI j)), (2, .int 3), (3, .int 1)] dX8_set_150 (Nat.le_of_ble_eq_true rfl) rfl ?_
                    refine V_iload_n dX8_set_152 rfl 4 rfl ?_
                    refine V_if_ne 166 dX8_set_153 (by decide) (fun _ => ?_) (fun hz => absurd hz (by decide))
                    refine V_iload_n dX8_set_166 rfl 4 rfl ?_
                    refine V_iconst (v := 1) dX8_set_167 ki_1 ?_
                    refine V_icmp_ne 181 dX8_set_168 (by decide) (fun _ => ?_) (fun hz => absurd hz (by decide))
                    refine V_iload_n dX8_set_181 rfl 4 rfl ?_
                    refine V_iconst (v := 2) dX8_set_182 ki_2 ?_
                    refine V_icmp_ne 196 dX8_set_183 (by decide) (fun _ => ?_) (fun hz => absurd hz (by decide))
                    refine V_aload_n dX8_set_196 rfl 2 rfl ?_
                    refine g_29_5 tw_633 dX8_set_197 ?_
                    refine V_iload_n dX8_set_200 rfl 3 rfl ?_
                    refine V_iload_n dX8_set_201 rfl 5 rfl ?_
                    refine V_iconst (v := 1) dX8_set_202 ki_1 ?_
                    refine V_icmp_ne 210 dX8_set_203 (by decide) (fun hz => absurd hz (by decide)) (fun _ => ?_)
                    refine V_iconst (v := 1) dX8_set_206 ki_1 ?_
                    refine V_goto 211 dX8_set_207 (by decide) ?_
                    refine s_34n (by omega) dX8_set_211 ?_
                    refine V_aload_n dX8_set_212 rfl 2 rfl ?_
                    refine V_iconst (v := 0) dX8_set_213 ki_0 ?_
                    refine p_29_20 (by decide) tw_648 dX8_set_214 ?_
                    refine V_iload dX8_set_217 0 rfl ?_
                    refine V_iret rfl dX8_set_219 ⟨_, rfl, ?_⟩
                    exact qcast2 hq (by simp [setRm, mb, oldm, z01, h1, h2, h4, h5, h7, h12, h13, nI_clamp (show j < 2 ^ 31 by omega)]) (by simp [setSm, mb, newm, z1, vpz0, vpz1, h1, h2, h4, h5, h7, h12, h13, nI_clamp (show j < 2 ^ 31 by omega)])
                · refine V_bipush (v := -3) dX8_set_92 kb_m3 ?_
                  refine V_iret rfl dX8_set_94 ⟨_, rfl, ?_⟩
                  exact qcast2 hq (by simp [setRm, mb, oldm, z01, h1, h2, h4, h5, h7, h12, nI_clamp (show j < 2 ^ 31 by omega)]) (by simp [setSm, mb, newm, z1, vpz0, vpz1, h1, h2, h4, h5, h7, h12, nI_clamp (show j < 2 ^ 31 by omega)])
        · subst h5
          refine V_iload_n dX8_set_34 rfl 3 rfl ?_
          refine V_iconst (v := 0) dX8_set_35 ki_0 ?_
          refine V_iconst (v := 1) dX8_set_36 ki_1 ?_
          refine V_iload_n dX8_set_37 rfl 1 rfl ?_
          refine V_ishl dX8_set_38 ?_
          refine V_iconst (v := 1) dX8_set_39 ki_1 ?_
          refine V_isub dX8_set_40 ?_
          refine V_cSi (P := pM G (d + 2) mX8_set _) (d := d + 1) (r := []) (As := [.int x, .int 0, .int (((1 : Int32) <<< ((nI j) &&& 31)) - 1)]) (K := mX8_in) ok_X8_in tw_721 rfl (rmOk (Nat.le_of_ble_eq_true rfl)) (Nat.le_of_ble_eq_true rfl) dX8_set_41 rfl (c_X8_in ?_)
          refine V_goto 64 dX8_set_44 (by decide) ?_
          refine V_istore [(4, .int (b2i (fr x 0 (((1 : Int32) <<< ((nI j) &&& 31)) - 1)))), (0, .ref (G.2.1 29)), (1, .int (nI j)), (2, .int 2), (3, .int x)] dX8_set_64 (Nat.le_of_ble_eq_true rfl) rfl ?_
          refine V_iload dX8_set_66 0 rfl ?_
          refine V_ifb_ne 74 dX8_set_68 (by decide) (fun h14 => ?_) (fun h14 => ?_)
          · refine V_iload_n dX8_set_74 rfl 3 rfl ?_
            refine V_iconst (v := 3) dX8_set_75 ki_3 ?_
            refine V_icmp_ne 95 dX8_set_76 (by decide) (fun _ => ?_) (fun hz => absurd hz (by decide))
            refine V_iload_n dX8_set_95 rfl 3 rfl ?_
            refine V_if_ne 108 dX8_set_96 (by decide) (fun _ => ?_) (fun hz => absurd hz (by decide))
            refine V_iload_n dX8_set_108 rfl 3 rfl ?_
            refine V_iconst (v := 1) dX8_set_109 ki_1 ?_
            refine V_icmp_ne 122 dX8_set_110 (by decide) (fun _ => ?_) (fun hz => absurd hz (by decide))
            refine V_iload_n dX8_set_122 rfl 3 rfl ?_
            refine V_iconst (v := 2) dX8_set_123 ki_2 ?_
            refine V_icmp_ne 136 dX8_set_124 (by decide) (fun hz => absurd hz (by decide)) (fun _ => ?_)
            refine V_aload_n dX8_set_127 rfl 1 rfl ?_
            refine g_29_4 tw_632 dX8_set_128 ?_
            refine V_iload_n dX8_set_131 rfl 2 rfl ?_
            refine l_33n (by omega) dX8_set_132 ?_
            refine V_goto 150 dX8_set_133 (by decide) ?_
            refine V_istore [(5, .int (S.2.2.1 33 j)), (4, .int (b2i (fr x 0 (((1 : Int32) <<< ((nI j) &&& 31)) - 1)))), (0, .ref (G.2.1 29)), (1, .int (nI j)), (2, .int 2), (3, .int x)] dX8_set_150 (Nat.le_of_ble_eq_true rfl) rfl ?_
            refine V_iload_n dX8_set_152 rfl 4 rfl ?_
            refine V_if_ne 166 dX8_set_153 (by decide) (fun _ => ?_) (fun hz => absurd hz (by decide))
            refine V_iload_n dX8_set_166 rfl 4 rfl ?_
            refine V_iconst (v := 1) dX8_set_167 ki_1 ?_
            refine V_icmp_ne 181 dX8_set_168 (by decide) (fun _ => ?_) (fun hz => absurd hz (by decide))
            refine V_iload_n dX8_set_181 rfl 4 rfl ?_
            refine V_iconst (v := 2) dX8_set_182 ki_2 ?_
            refine V_icmp_ne 196 dX8_set_183 (by decide) (fun hz => absurd hz (by decide)) (fun _ => ?_)
            refine V_aload_n dX8_set_186 rfl 2 rfl ?_
            refine g_29_4 tw_632 dX8_set_187 ?_
            refine V_iload_n dX8_set_190 rfl 3 rfl ?_
            refine V_iload_n dX8_set_191 rfl 5 rfl ?_
            refine s_33n (by omega) dX8_set_192 ?_
            refine V_goto 212 dX8_set_193 (by decide) ?_
            refine V_aload_n dX8_set_212 rfl 2 rfl ?_
            refine V_iconst (v := 0) dX8_set_213 ki_0 ?_
            refine p_29_20 (by decide) tw_648 dX8_set_214 ?_
            refine V_iload dX8_set_217 0 rfl ?_
            refine V_iret rfl dX8_set_219 ⟨_, rfl, ?_⟩
            exact qcast2 hq (by simp [setRm, mb, oldm, z01, h1, h2, h4, h14, nI_clamp (show j < 2 ^ 31 by omega)]) (by simp [setSm, mb, newm, z1, vpz0, vpz1, h1, h2, h4, h14, nI_clamp (show j < 2 ^ 31 by omega)])
          · refine V_bipush (v := -2) dX8_set_71 kb_m2 ?_
            refine V_iret rfl dX8_set_73 ⟨_, rfl, ?_⟩
            exact qcast2 hq (by simp [setRm, mb, oldm, z01, h1, h2, h4, h14, nI_clamp (show j < 2 ^ 31 by omega)]) (by simp [setSm, mb, newm, z1, vpz0, vpz1, h1, h2, h4, h14, nI_clamp (show j < 2 ^ 31 by omega)])
      · subst h4
        refine V_iload_n dX8_set_19 rfl 3 rfl ?_
        refine V_iconst (v := 1) dX8_set_20 ki_1 ?_
        refine V_bipush (v := 9) dX8_set_21 kb_9 ?_
        refine V_cSi (P := pM G (d + 2) mX8_set _) (d := d + 1) (r := []) (As := [.int x, .int 1, .int 9]) (K := mX8_in) ok_X8_in tw_721 rfl (rmOk (Nat.le_of_ble_eq_true rfl)) (Nat.le_of_ble_eq_true rfl) dX8_set_23 rfl (c_X8_in ?_)
        refine V_goto 64 dX8_set_26 (by decide) ?_
        refine V_istore [(4, .int (b2i (fr x 1 9))), (0, .ref (G.2.1 29)), (1, .int (nI j)), (2, .int 1), (3, .int x)] dX8_set_64 (Nat.le_of_ble_eq_true rfl) rfl ?_
        refine V_iload dX8_set_66 0 rfl ?_
        refine V_ifb_ne 74 dX8_set_68 (by decide) (fun h15 => ?_) (fun h15 => ?_)
        · refine V_iload_n dX8_set_74 rfl 3 rfl ?_
          refine V_iconst (v := 3) dX8_set_75 ki_3 ?_
          refine V_icmp_ne 95 dX8_set_76 (by decide) (fun _ => ?_) (fun hz => absurd hz (by decide))
          refine V_iload_n dX8_set_95 rfl 3 rfl ?_
          refine V_if_ne 108 dX8_set_96 (by decide) (fun _ => ?_) (fun hz => absurd hz (by decide))
          refine V_iload_n dX8_set_108 rfl 3 rfl ?_
          refine V_iconst (v := 1) dX8_set_109 ki_1 ?_
          refine V_icmp_ne 122 dX8_set_110 (by decide) (fun hz => absurd hz (by decide)) (fun _ => ?_)
          refine V_aload_n dX8_set_113 rfl 1 rfl ?_
          refine g_29_3 tw_631 dX8_set_114 ?_
          refine V_iload_n dX8_set_117 rfl 2 rfl ?_
          refine l_32n (by omega) dX8_set_118 ?_
          refine V_goto 150 dX8_set_119 (by decide) ?_
          refine V_istore [(5, .int (S.2.2.1 32 j)), (4, .int (b2i (fr x 1 9))), (0, .ref (G.2.1 29)), (1, .int (nI j)), (2, .int 1), (3, .int x)] dX8_set_150 (Nat.le_of_ble_eq_true rfl) rfl ?_
          refine V_iload_n dX8_set_152 rfl 4 rfl ?_
          refine V_if_ne 166 dX8_set_153 (by decide) (fun _ => ?_) (fun hz => absurd hz (by decide))
          refine V_iload_n dX8_set_166 rfl 4 rfl ?_
          refine V_iconst (v := 1) dX8_set_167 ki_1 ?_
          refine V_icmp_ne 181 dX8_set_168 (by decide) (fun hz => absurd hz (by decide)) (fun _ => ?_)
          refine V_aload_n dX8_set_171 rfl 2 rfl ?_
          refine g_29_3 tw_631 dX8_set_172 ?_
          refine V_iload_n dX8_set_175 rfl 3 rfl ?_
          refine V_iload_n dX8_set_176 rfl 5 rfl ?_
          refine s_32n (by omega) dX8_set_177 ?_
          refine V_goto 212 dX8_set_178 (by decide) ?_
          refine V_aload_n dX8_set_212 rfl 2 rfl ?_
          refine V_iconst (v := 0) dX8_set_213 ki_0 ?_
          refine p_29_20 (by decide) tw_648 dX8_set_214 ?_
          refine V_iload dX8_set_217 0 rfl ?_
          refine V_iret rfl dX8_set_219 ⟨_, rfl, ?_⟩
          exact qcast2 hq (by simp [setRm, mb, oldm, z01, h1, h2, h15, nI_clamp (show j < 2 ^ 31 by omega)]) (by simp [setSm, mb, newm, z1, vpz0, vpz1, h1, h2, h15, nI_clamp (show j < 2 ^ 31 by omega)])
        · refine V_bipush (v := -2) dX8_set_71 kb_m2 ?_
          refine V_iret rfl dX8_set_73 ⟨_, rfl, ?_⟩
          exact qcast2 hq (by simp [setRm, mb, oldm, z01, h1, h2, h15, nI_clamp (show j < 2 ^ 31 by omega)]) (by simp [setSm, mb, newm, z1, vpz0, vpz1, h1, h2, h15, nI_clamp (show j < 2 ^ 31 by omega)])
  · refine V_iconst (v := -1) dX8_set_8 ki_m1 ?_
    refine V_iret rfl dX8_set_9 ⟨_, rfl, ?_⟩
    exact qcast2 hq (by simp [setRm, mb, oldm, z01, h1]) (by simp [setSm, mb, newm, z1, vpz0, vpz1, h1])
theorem lp_msizes {G : GX} {d n : Nat} {s : Int32} {S : ST} {Q : Int32 → ST → Prop} (hn : S.1 10 = nI n) (h12 : n ≤ 12) (hq : Q (szs (S.2.2.1 31) s n) S) : ∀ (k i : Nat), i ≤ n → n - i < k → V (pM G (d + 1) mX8_sizes (qi Q)) 4 [(3, .int (nI i)), (2, .int (szs (S.2.2.1 31) s i)), (0, .ref (G.2.1 29)), (1, .int s)] [] S := by
  intro k
  induction k with
  | zero => intro i hi hk; exact absurd hk (Nat.not_lt_zero _)
  | succ k ih =>
    intro i hi hk
    refine V_iload_n dX8_sizes_4 rfl 0 rfl ?_
    refine V_aload_n dX8_sizes_5 rfl 2 rfl ?_
    refine g_29_0 tw_628 dX8_sizes_6 ?_
    refine V_topi (v := nI n) (hn) ?_
    refine V_icmp_gen 39 (a := i) (b := n) dX8_sizes_9 (by decide) (by omega) (by omega) (fun h1 => ?_) (fun h1 => ?_)
    · refine V_iload_n dX8_sizes_39 rfl 1 rfl ?_
      have hin : i = n := by omega
      subst hin
      exact V_iret rfl dX8_sizes_40 ⟨_, rfl, hq⟩
    · refine V_iload_n dX8_sizes_12 rfl 1 rfl ?_
      refine V_iload_n dX8_sizes_13 rfl 3 rfl ?_
      refine V_iload_n dX8_sizes_14 rfl 0 rfl ?_
      refine V_cSi (P := pM G (d + 1) mX8_sizes _) (d := d) (r := [.int (szs (S.2.2.1 31) s i)]) (As := [.int s, .int (nI i)]) (K := mX8_hasBit) ok_X8_hasBit tw_772 rfl (rmOk (Nat.le_of_ble_eq_true rfl)) (Nat.le_of_ble_eq_true rfl) dX8_sizes_15 rfl (c_X8_hasBit (by omega) ?_)
      refine V_ifb_eq 30 dX8_sizes_18 (by decide) (fun h2 => ?_) (fun h2 => ?_)
      · refine V_iconst (v := 0) dX8_sizes_30 ki_0 ?_
        refine V_iadd dX8_sizes_31 ?_
        refine V_istore_n [(2, .int ((szs (S.2.2.1 31) s i) + 0)), (3, .int (nI i)), (0, .ref (G.2.1 29)), (1, .int s)] dX8_sizes_32 rfl (Nat.le_of_ble_eq_true rfl) rfl ?_
        refine V_iinc [(3, .int (nI (i + 1))), (2, .int ((szs (S.2.2.1 31) s i) + 0)), (0, .ref (G.2.1 29)), (1, .int s)] dX8_sizes_33 1 rfl (nI_1 _) (Nat.le_of_ble_eq_true rfl) rfl ?_
        refine V_goto 4 dX8_sizes_36 (by decide) ?_
        refine V_lv [(3, .int (nI (i + 1))), (2, .int ((szs (S.2.2.1 31) s i) + 0)), (0, .ref (G.2.1 29)), (1, .int s)] [0, 1, 2, 3] rfl ?_
        refine V_lveq [(3, .int (nI (i + 1))), (2, .int (szs (S.2.2.1 31) s (i + 1))), (0, .ref (G.2.1 29)), (1, .int s)] (by rw [szs_f h2, Int32.add_zero]) ?_
        exact ih (i + 1) (by omega) (by omega)
      · refine V_aload_n dX8_sizes_21 rfl 2 rfl ?_
        refine g_29_2 tw_630 dX8_sizes_22 ?_
        refine V_iload_n dX8_sizes_25 rfl 0 rfl ?_
        refine l_31n (by omega) dX8_sizes_26 ?_
        refine V_goto 31 dX8_sizes_27 (by decide) ?_
        refine V_iadd dX8_sizes_31 ?_
        refine V_istore_n [(2, .int ((szs (S.2.2.1 31) s i) + (S.2.2.1 31 i))), (3, .int (nI i)), (0, .ref (G.2.1 29)), (1, .int s)] dX8_sizes_32 rfl (Nat.le_of_ble_eq_true rfl) rfl ?_
        refine V_iinc [(3, .int (nI (i + 1))), (2, .int ((szs (S.2.2.1 31) s i) + (S.2.2.1 31 i))), (0, .ref (G.2.1 29)), (1, .int s)] dX8_sizes_33 1 rfl (nI_1 _) (Nat.le_of_ble_eq_true rfl) rfl ?_
        refine V_goto 4 dX8_sizes_36 (by decide) ?_
        refine V_lv [(3, .int (nI (i + 1))), (2, .int ((szs (S.2.2.1 31) s i) + (S.2.2.1 31 i))), (0, .ref (G.2.1 29)), (1, .int s)] [0, 1, 2, 3] rfl ?_
        refine V_lveq [(3, .int (nI (i + 1))), (2, .int (szs (S.2.2.1 31) s (i + 1))), (0, .ref (G.2.1 29)), (1, .int s)] (by rw [szs_t h2]) ?_
        exact ih (i + 1) (by omega) (by omega)
theorem c_X8_sizes {G : GX} {d : Nat} {S : ST} {n : Nat} {s : Int32} {Q : Int32 → ST → Prop} (hn : S.1 10 = nI n) (h12 : n ≤ 12) (hq : Q (szs (S.2.2.1 31) s n) S) : Cn G (d + 1) mX8_sizes [.ref (G.2.1 29), .int s] S (qi Q) := by
  refine Cn.intro (lv := [(0, .ref (G.2.1 29)), (1, .int s)]) (by decide) (Nat.le_of_ble_eq_true rfl) rfl ?_
  refine V_iconst (v := 0) dX8_sizes_0 ki_0 ?_
  refine V_istore_n [(2, .int 0), (0, .ref (G.2.1 29)), (1, .int s)] dX8_sizes_1 rfl (Nat.le_of_ble_eq_true rfl) rfl ?_
  refine V_iconst (v := 0) dX8_sizes_2 ki_0 ?_
  refine V_istore_n [(3, .int 0), (2, .int 0), (0, .ref (G.2.1 29)), (1, .int s)] dX8_sizes_3 rfl (Nat.le_of_ble_eq_true rfl) rfl ?_
  refine V_lv [(3, .int 0), (2, .int 0), (0, .ref (G.2.1 29)), (1, .int s)] [0, 1, 2, 3] rfl ?_
  exact lp_msizes hn h12 hq (n + 1) 0 (by omega) (by omega)
/-- sound: every change of the set finds what it needs -/
def snd (ne : Nat → Int32) (s : Int32) : Nat → Bool
  | 0 => true
  | k + 1 => snd ne s k && (!bt s k || decide ((ne k &&& (s ^^^ -1)) = 0))
theorem snd_cong {f g : Nat → Int32} {s : Int32} : ∀ {n : Nat}, (∀ k, k < n → f k = g k) → snd f s n = snd g s n
  | 0, _ => rfl
  | n + 1, h => by unfold snd; rw [snd_cong (fun k hk => h k (by omega)), h n (by omega)]
theorem snd_succ (ne : Nat → Int32) (s : Int32) (k : Nat) : snd ne s (k + 1) = (snd ne s k && (!bt s k || decide ((ne k &&& (s ^^^ -1)) = 0))) := rfl
/-- how many bits below n -/
def cnt (s : Int32) : Nat → Int32
  | 0 => 0
  | k + 1 => cnt s k + b2i (bt s k)
theorem lp_isSound {G : GX} {d n : Nat} {s : Int32} {S : ST} {Q : Int32 → ST → Prop} (hn : S.1 10 = nI n) (h12 : n ≤ 12) (hq : Q (b2i (snd (S.2.2.1 33) s n)) S) : ∀ (k i : Nat), i ≤ n → n - i < k → V (pM G (d + 1) mX8_isSound (qi Q)) 4 [(3, .int (nI i)), (2, .int (b2i (snd (S.2.2.1 33) s i))), (0, .ref (G.2.1 29)), (1, .int s)] [] S := by
  intro k
  induction k with
  | zero => intro i hi hk; exact absurd hk (Nat.not_lt_zero _)
  | succ k ih =>
    intro i hi hk
    refine V_iload_n dX8_isSound_4 rfl 0 rfl ?_
    refine V_aload_n dX8_isSound_5 rfl 2 rfl ?_
    refine g_29_0 tw_628 dX8_isSound_6 ?_
    refine V_topi (v := nI n) (hn) ?_
    refine V_icmp_gen 49 (a := i) (b := n) dX8_isSound_9 (by decide) (by omega) (by omega) (fun h1 => ?_) (fun h1 => ?_)
    · refine V_iload_n dX8_isSound_49 rfl 1 rfl ?_
      have hin : i = n := by omega
      subst hin
      exact V_zret rfl dX8_isSound_50 (b2i_nar _) ⟨_, rfl, hq⟩
    · refine V_iload_n dX8_isSound_12 rfl 1 rfl ?_
      refine V_ifb_eq 41 dX8_isSound_13 (by decide) (fun h2 => ?_) (fun h2 => ?_)
      · refine V_iconst (v := 0) dX8_isSound_41 ki_0 ?_
        refine V_istore_n [(2, .int 0), (3, .int (nI i)), (0, .ref (G.2.1 29)), (1, .int s)] dX8_isSound_42 rfl (Nat.le_of_ble_eq_true rfl) rfl ?_
        refine V_iinc [(3, .int (nI (i + 1))), (2, .int 0), (0, .ref (G.2.1 29)), (1, .int s)] dX8_isSound_43 1 rfl (nI_1 _) (Nat.le_of_ble_eq_true rfl) rfl ?_
        refine V_goto 4 dX8_isSound_46 (by decide) ?_
        refine V_lv [(3, .int (nI (i + 1))), (2, .int 0), (0, .ref (G.2.1 29)), (1, .int s)] [0, 1, 2, 3] rfl ?_
        refine V_lveq [(3, .int (nI (i + 1))), (2, .int (b2i (snd (S.2.2.1 33) s (i + 1)))), (0, .ref (G.2.1 29)), (1, .int s)] (by simp only [snd_succ, b2i, h2, decide_true, decide_false, Bool.not_true, Bool.not_false, Bool.true_and, Bool.false_and, Bool.true_or, Bool.false_or, Bool.or_false, Bool.and_false, Bool.and_true, Bool.or_true, reduceIte, Bool.false_eq_true]) ?_
        exact ih (i + 1) (by omega) (by omega)
      · refine V_iload_n dX8_isSound_16 rfl 3 rfl ?_
        refine V_iload_n dX8_isSound_17 rfl 0 rfl ?_
        refine V_cSi (P := pM G (d + 1) mX8_isSound _) (d := d) (r := []) (As := [.int s, .int (nI i)]) (K := mX8_hasBit) ok_X8_hasBit tw_772 rfl (rmOk (Nat.le_of_ble_eq_true rfl)) (Nat.le_of_ble_eq_true rfl) dX8_isSound_18 rfl (c_X8_hasBit (by omega) ?_)
        refine V_ifb_eq 37 dX8_isSound_21 (by decide) (fun h3 => ?_) (fun h3 => ?_)
        · refine V_iconst (v := 1) dX8_isSound_37 ki_1 ?_
          refine V_goto 42 dX8_isSound_38 (by decide) ?_
          refine V_istore_n [(2, .int 1), (3, .int (nI i)), (0, .ref (G.2.1 29)), (1, .int s)] dX8_isSound_42 rfl (Nat.le_of_ble_eq_true rfl) rfl ?_
          refine V_iinc [(3, .int (nI (i + 1))), (2, .int 1), (0, .ref (G.2.1 29)), (1, .int s)] dX8_isSound_43 1 rfl (nI_1 _) (Nat.le_of_ble_eq_true rfl) rfl ?_
          refine V_goto 4 dX8_isSound_46 (by decide) ?_
          refine V_lv [(3, .int (nI (i + 1))), (2, .int 1), (0, .ref (G.2.1 29)), (1, .int s)] [0, 1, 2, 3] rfl ?_
          refine V_lveq [(3, .int (nI (i + 1))), (2, .int (b2i (snd (S.2.2.1 33) s (i + 1)))), (0, .ref (G.2.1 29)), (1, .int s)] (by simp only [snd_succ, b2i, h2, h3, decide_true, decide_false, Bool.not_true, Bool.not_false, Bool.true_and, Bool.false_and, Bool.true_or, Bool.false_or, Bool.or_false, Bool.and_false, Bool.and_true, Bool.or_true, reduceIte, Bool.false_eq_true]) ?_
          exact ih (i + 1) (by omega) (by omega)
        · refine V_aload_n dX8_isSound_24 rfl 2 rfl ?_
          refine g_29_4 tw_632 dX8_isSound_25 ?_
          refine V_iload_n dX8_isSound_28 rfl 0 rfl ?_
          refine l_33n (by omega) dX8_isSound_29 ?_
          refine V_iload_n dX8_isSound_30 rfl 3 rfl ?_
          refine V_iconst (v := -1) dX8_isSound_31 ki_m1 ?_
          refine V_ixor dX8_isSound_32 ?_
          refine V_iand dX8_isSound_33 ?_
          refine V_if_ne 41 dX8_isSound_34 (by decide) (fun h4 => ?_) (fun h4 => ?_)
          · refine V_iconst (v := 0) dX8_isSound_41 ki_0 ?_
            refine V_istore_n [(2, .int 0), (3, .int (nI i)), (0, .ref (G.2.1 29)), (1, .int s)] dX8_isSound_42 rfl (Nat.le_of_ble_eq_true rfl) rfl ?_
            refine V_iinc [(3, .int (nI (i + 1))), (2, .int 0), (0, .ref (G.2.1 29)), (1, .int s)] dX8_isSound_43 1 rfl (nI_1 _) (Nat.le_of_ble_eq_true rfl) rfl ?_
            refine V_goto 4 dX8_isSound_46 (by decide) ?_
            refine V_lv [(3, .int (nI (i + 1))), (2, .int 0), (0, .ref (G.2.1 29)), (1, .int s)] [0, 1, 2, 3] rfl ?_
            refine V_lveq [(3, .int (nI (i + 1))), (2, .int (b2i (snd (S.2.2.1 33) s (i + 1)))), (0, .ref (G.2.1 29)), (1, .int s)] (by simp only [snd_succ, b2i, h2, h3, h4, decide_true, decide_false, Bool.not_true, Bool.not_false, Bool.true_and, Bool.false_and, Bool.true_or, Bool.false_or, Bool.or_false, Bool.and_false, Bool.and_true, Bool.or_true, reduceIte, Bool.false_eq_true]) ?_
            exact ih (i + 1) (by omega) (by omega)
          · refine V_iconst (v := 1) dX8_isSound_37 ki_1 ?_
            refine V_goto 42 dX8_isSound_38 (by decide) ?_
            refine V_istore_n [(2, .int 1), (3, .int (nI i)), (0, .ref (G.2.1 29)), (1, .int s)] dX8_isSound_42 rfl (Nat.le_of_ble_eq_true rfl) rfl ?_
            refine V_iinc [(3, .int (nI (i + 1))), (2, .int 1), (0, .ref (G.2.1 29)), (1, .int s)] dX8_isSound_43 1 rfl (nI_1 _) (Nat.le_of_ble_eq_true rfl) rfl ?_
            refine V_goto 4 dX8_isSound_46 (by decide) ?_
            refine V_lv [(3, .int (nI (i + 1))), (2, .int 1), (0, .ref (G.2.1 29)), (1, .int s)] [0, 1, 2, 3] rfl ?_
            refine V_lveq [(3, .int (nI (i + 1))), (2, .int (b2i (snd (S.2.2.1 33) s (i + 1)))), (0, .ref (G.2.1 29)), (1, .int s)] (by simp only [snd_succ, b2i, h2, h3, h4, decide_true, decide_false, Bool.not_true, Bool.not_false, Bool.true_and, Bool.false_and, Bool.true_or, Bool.false_or, Bool.or_false, Bool.and_false, Bool.and_true, Bool.or_true, reduceIte, Bool.false_eq_true]) ?_
            exact ih (i + 1) (by omega) (by omega)
theorem c_X8_isSound {G : GX} {d : Nat} {S : ST} {n : Nat} {s : Int32} {Q : Int32 → ST → Prop} (hn : S.1 10 = nI n) (h12 : n ≤ 12) (hq : Q (b2i (snd (S.2.2.1 33) s n)) S) : Cn G (d + 1) mX8_isSound [.ref (G.2.1 29), .int s] S (qi Q) := by
  refine Cn.intro (lv := [(0, .ref (G.2.1 29)), (1, .int s)]) (by decide) (Nat.le_of_ble_eq_true rfl) rfl ?_
  refine V_iconst (v := 1) dX8_isSound_0 ki_1 ?_
  refine V_istore_n [(2, .int 1), (0, .ref (G.2.1 29)), (1, .int s)] dX8_isSound_1 rfl (Nat.le_of_ble_eq_true rfl) rfl ?_
  refine V_iconst (v := 0) dX8_isSound_2 ki_0 ?_
  refine V_istore_n [(3, .int 0), (2, .int 1), (0, .ref (G.2.1 29)), (1, .int s)] dX8_isSound_3 rfl (Nat.le_of_ble_eq_true rfl) rfl ?_
  refine V_lv [(3, .int 0), (2, .int 1), (0, .ref (G.2.1 29)), (1, .int s)] [0, 1, 2, 3] rfl ?_
  exact lp_isSound hn h12 hq (n + 1) 0 (by omega) (by omega)
theorem lp_bits {G : GX} {d : Nat} {s : Int32} {S : ST} {Q : Int32 → ST → Prop} (hq : Q (cnt s 12) S) : ∀ (k i : Nat), i ≤ 12 → 12 - i < k → V (pM G d mX8_bits (qi Q)) 4 [(2, .int (nI i)), (1, .int (cnt s i)), (0, .int s)] [] S := by
  intro k
  induction k with
  | zero => intro i hi hk; exact absurd hk (Nat.not_lt_zero _)
  | succ k ih =>
    intro i hi hk
    refine V_iload_n dX8_bits_4 rfl 0 rfl ?_
    refine V_bipush (v := 12) dX8_bits_5 kb_12 ?_
    refine V_icmp_gen 24 (a := i) (b := 12) dX8_bits_7 (by decide) (by omega) (by omega) (fun h1 => ?_) (fun h1 => ?_)
    · refine V_iload_n dX8_bits_24 rfl 1 rfl ?_
      have hin : i = 12 := by omega
      subst hin
      exact V_iret rfl dX8_bits_25 ⟨_, rfl, hq⟩
    · refine V_iload_n dX8_bits_10 rfl 1 rfl ?_
      refine V_iload_n dX8_bits_11 rfl 2 rfl ?_
      refine V_iload_n dX8_bits_12 rfl 0 rfl ?_
      refine V_ishr dX8_bits_13 ?_
      refine V_iconst (v := 1) dX8_bits_14 ki_1 ?_
      refine V_iand dX8_bits_15 ?_
      refine V_topi (v := b2i (bt s i)) (b_ask s (by omega)) ?_
      refine V_iadd dX8_bits_16 ?_
      refine V_istore_n [(1, .int ((cnt s i) + (b2i (bt s i)))), (2, .int (nI i)), (0, .int s)] dX8_bits_17 rfl (Nat.le_of_ble_eq_true rfl) rfl ?_
      refine V_iinc [(2, .int (nI (i + 1))), (1, .int ((cnt s i) + (b2i (bt s i)))), (0, .int s)] dX8_bits_18 1 rfl (nI_1 _) (Nat.le_of_ble_eq_true rfl) rfl ?_
      refine V_goto 4 dX8_bits_21 (by decide) ?_
      refine V_lv [(2, .int (nI (i + 1))), (1, .int ((cnt s i) + (b2i (bt s i)))), (0, .int s)] [0, 1, 2] rfl ?_
      refine V_lveq [(2, .int (nI (i + 1))), (1, .int (cnt s (i + 1))), (0, .int s)] (by rfl) ?_
      exact ih (i + 1) (by omega) (by omega)
theorem c_X8_bits {G : GX} {d : Nat} {S : ST} {s : Int32} {Q : Int32 → ST → Prop}  (hq : Q (cnt s 12) S) : Cn G d mX8_bits [.int s] S (qi Q) := by
  refine Cn.intro (lv := [(0, .int s)]) (by decide) (Nat.le_of_ble_eq_true rfl) rfl ?_
  refine V_iconst (v := 0) dX8_bits_0 ki_0 ?_
  refine V_istore_n [(1, .int 0), (0, .int s)] dX8_bits_1 rfl (Nat.le_of_ble_eq_true rfl) rfl ?_
  refine V_iconst (v := 0) dX8_bits_2 ki_0 ?_
  refine V_istore_n [(2, .int 0), (1, .int 0), (0, .int s)] dX8_bits_3 rfl (Nat.le_of_ble_eq_true rfl) rfl ?_
  refine V_lv [(2, .int 0), (1, .int 0), (0, .int s)] [0, 1, 2] rfl ?_
  exact lp_bits hq 13 0 (by omega) (by omega)
theorem c_X8_canTest {G : GX} {d : Nat} {S : ST} {v : Int32} {n : Nat} {Q : Int32 → ST → Prop} (hn : S.1 10 = nI n) (h12 : n ≤ 12) (hq : Q (b2i (hrs n (S.2.2.1 34) v)) S) : Cn G (d + 2) mX8_canTest [.ref (G.2.1 29), .int v] S (qi Q) := by
  refine Cn.intro (lv := [(0, .ref (G.2.1 29)), (1, .int v)]) (by decide) (Nat.le_of_ble_eq_true rfl) rfl ?_
  refine V_aload_n dX8_canTest_0 rfl 0 rfl ?_
  refine V_iload_n dX8_canTest_1 rfl 1 rfl ?_
  refine V_cVi (P := pM G (d + 2) mX8_canTest _) (d := d + 1) 29 (r := []) (As := [.int v]) (K := mX8_isVersion) ok_X8_isVersion tw_717 (ob_29 _) rfl (rmOk (Nat.le_of_ble_eq_true rfl)) (Nat.le_of_ble_eq_true rfl) dX8_canTest_2 rfl (c_X8_isVersion hn h12 ?_)
  refine V_ifb_eq 21 dX8_canTest_5 (by decide) (fun h1 => ?_) (fun h1 => ?_)
  · refine V_iconst (v := 0) dX8_canTest_21 ki_0 ?_
    refine V_zret rfl dX8_canTest_22 rfl ⟨_, rfl, ?_⟩
    exact qcast hq (by simp [hrs, b2i, h1])
  · refine V_aload_n dX8_canTest_8 rfl 0 rfl ?_
    refine g_29_5 tw_633 dX8_canTest_9 ?_
    refine V_iload_n dX8_canTest_12 rfl 1 rfl ?_
    refine l_34 (vp_kn h1 (by omega) h12 (by decide)) dX8_canTest_13 ?_
    refine V_if_ne 21 dX8_canTest_14 (by decide) (fun h2 => ?_) (fun h2 => ?_)
    · refine V_iconst (v := 0) dX8_canTest_21 ki_0 ?_
      refine V_zret rfl dX8_canTest_22 rfl ⟨_, rfl, ?_⟩
      exact qcast hq (by simp [hrs, b2i, h1, h2])
    · refine V_iconst (v := 1) dX8_canTest_17 ki_1 ?_
      refine V_goto 22 dX8_canTest_18 (by decide) ?_
      refine V_zret rfl dX8_canTest_22 rfl ⟨_, rfl, ?_⟩
      exact qcast hq (by simp [hrs, b2i, h1, h2])
theorem c_X8_isSet {G : GX} {d : Nat} {S : ST} {s : Int32} {n : Nat} {Q : Int32 → ST → Prop} (hn : S.1 10 = nI n) (h12 : n ≤ 12) (hq : Q (b2i (fr s 0 (1 <<< (nI n &&& 31) - 1))) S) : Cn G (d + 1) mX8_isSet [.ref (G.2.1 29), .int s] S (qi Q) := by
  refine Cn.intro (lv := [(0, .ref (G.2.1 29)), (1, .int s)]) (by decide) (Nat.le_of_ble_eq_true rfl) rfl ?_
  refine V_iload_n dX8_isSet_0 rfl 1 rfl ?_
  refine V_iconst (v := 0) dX8_isSet_1 ki_0 ?_
  refine V_iconst (v := 1) dX8_isSet_2 ki_1 ?_
  refine V_aload_n dX8_isSet_3 rfl 0 rfl ?_
  refine g_29_0 tw_628 dX8_isSet_4 ?_
  refine V_topi (v := nI n) (hn) ?_
  refine V_ishl dX8_isSet_7 ?_
  refine V_iconst (v := 1) dX8_isSet_8 ki_1 ?_
  refine V_isub dX8_isSet_9 ?_
  refine V_cSi (P := pM G (d + 1) mX8_isSet _) (d := d) (r := []) (As := [.int s, .int 0, .int (((1 : Int32) <<< ((nI n) &&& 31)) - 1)]) (K := mX8_in) ok_X8_in tw_721 rfl (rmOk (Nat.le_of_ble_eq_true rfl)) (Nat.le_of_ble_eq_true rfl) dX8_isSet_10 rfl (c_X8_in ?_)
  refine V_zret rfl dX8_isSet_13 (b2i_nar _) ⟨_, rfl, ?_⟩
  exact hq
