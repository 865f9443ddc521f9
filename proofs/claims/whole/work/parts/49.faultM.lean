/-- the reference's pile of numbers awaited by depth, as a list of depths behind the next one -/
def rl (g : Nat → Int32) : Nat → List Nat
  | 0 => []
  | j + 1 => List.replicate ((g j).toNatClampNeg - 1) (j + 1) ++ rl g j
theorem rl_1 {g : Nat → Int32} {j : Nat} (h : g j = 1) : rl g (j + 1) = rl g j := by rw [rl, h]; rfl
theorem rl_2 {g : Nat → Int32} {j : Nat} (h : g j = 2) : rl g (j + 1) = (j + 1) :: rl g j := by rw [rl, h]; rfl
theorem rl_upd {g : Nat → Int32} {j : Nat} {v : Int32} : ∀ {dp : Nat}, dp ≤ j → rl (upd g j v) dp = rl g dp
  | 0, _ => rfl
  | dp + 1, h => by
    rw [rl, rl, rl_upd (by omega), pk_un (by omega)]
def OKD (g : Nat → Int32) (dp : Nat) : Prop := ∀ i, i < dp → g i = 1 ∨ g i = 2
theorem OKD_upd {g : Nat → Int32} {j dp : Nat} {v : Int32} (h : OKD g dp) (hj : dp ≤ j) : OKD (upd g j v) dp := fun i hi => by rw [pk_un (by omega)]; exact h i hi
theorem OKD_push {g : Nat → Int32} {dp : Nat} {v : Int32} (h : OKD g dp) (hv : v = 1 ∨ v = 2) : OKD (upd g dp v) (dp + 1) := fun i hi => by
  by_cases e : i = dp
  · rw [e, pk_us]; exact hv
  · rw [pk_un e]; exact h i (by omega)
def FrE (S0 S : ST) : Prop := S.1 = S0.1 ∧ S.2.1 = S0.2.1 ∧ (∀ c, c ≠ 48 → S.2.2.1 c = S0.2.2.1 c) ∧ S.2.2.2 = S0.2.2.2
theorem FrE.set (S : ST) (f : Nat → Int32) : FrE S (setAr S 48 f) := ⟨rfl, rfl, fun c h => by simp [setAr, va_up, h], rfl⟩
theorem lp_pop {G : GX} {d i : Nat} {S : ST} {Q : Int32 → ST → Prop} : ∀ (f e : Nat) (g : Nat → Int32), e < f → e + 1 ≤ 9 → OKD g (e + 1) → (∀ h b, b ≤ 9 → ((b = 0 ∧ rl g (e + 1) = []) ∨ (0 < b ∧ rl g (e + 1) = b :: rl h b)) → OKD h b → V (pM G (d + 1) mX8_faultOf (qi Q)) 112 [(5, .int 0), (1, .int (nI b)), (2, .int (nI i)), (0, .ref (G.2.1 29))] [] (setAr S 48 h)) → V (pM G (d + 1) mX8_faultOf (qi Q)) 112 [(5, .int 1), (1, .int (nI (e + 1))), (2, .int (nI i)), (0, .ref (G.2.1 29))] [] (setAr S 48 g) := by
  intro f
  induction f with
  | zero => intro e g hk; exact absurd hk (Nat.not_lt_zero _)
  | succ f ih =>
    intro e g hk hb9 hO K
    rcases hO e (by omega) with hg | hg
    · refine V_iload dX8_faultOf_112 0 rfl ?_
      refine V_if_eq 179 dX8_faultOf_114 (by decide) (fun hz => absurd hz (by decide)) (fun _ => ?_)
      refine V_aload_n dX8_faultOf_117 rfl 3 rfl ?_
      refine g_29_25 tw_653 dX8_faultOf_118 ?_
      refine V_iload_n dX8_faultOf_121 rfl 1 rfl ?_
      refine V_iconst (v := 1) dX8_faultOf_122 ki_1 ?_
      refine V_isub dX8_faultOf_123 ?_
      refine V_topi (v := nI e) (nI_pred e) ?_
      refine V_dup2 dX8_faultOf_124 rfl rfl ?_
      refine l_48n (by omega) dX8_faultOf_125 ?_
      refine V_topi (v := 1) (id hg) ?_
      refine V_iconst (v := 1) dX8_faultOf_126 ki_1 ?_
      refine V_isub dX8_faultOf_127 ?_
      refine V_topi (v := 0) (by decide +kernel) ?_
      refine s_48n (by omega) dX8_faultOf_128 ?_
      refine V_aload_n dX8_faultOf_129 rfl 3 rfl ?_
      refine g_29_25 tw_653 dX8_faultOf_130 ?_
      refine V_iload_n dX8_faultOf_133 rfl 1 rfl ?_
      refine V_iconst (v := 1) dX8_faultOf_134 ki_1 ?_
      refine V_isub dX8_faultOf_135 ?_
      refine V_topi (v := nI e) (nI_pred e) ?_
      refine l_48n (by omega) dX8_faultOf_136 ?_
      refine V_topi (v := (upd ((setAr S 48 g).2.2.1 48) e 0) e) rfl ?_
      refine V_topi (v := 0) ((pk_us)) ?_
      refine V_if_ne 144 dX8_faultOf_137 (by decide) (fun hz => absurd hz (by decide)) (fun _ => ?_)
      refine V_iconst (v := 1) dX8_faultOf_140 ki_1 ?_
      refine V_goto 145 dX8_faultOf_141 (by decide) ?_
      refine V_istore [(5, .int 1), (1, .int (nI (e + 1))), (2, .int (nI i)), (0, .ref (G.2.1 29))] dX8_faultOf_145 (Nat.le_of_ble_eq_true rfl) rfl ?_
      refine V_iload_n dX8_faultOf_147 rfl 1 rfl ?_
      refine V_iload dX8_faultOf_148 0 rfl ?_
      refine V_if_eq 157 dX8_faultOf_150 (by decide) (fun hz => absurd hz (by decide)) (fun _ => ?_)
      refine V_iconst (v := 1) dX8_faultOf_153 ki_1 ?_
      refine V_goto 158 dX8_faultOf_154 (by decide) ?_
      refine V_isub dX8_faultOf_158 ?_
      refine V_topi (v := nI e) (nI_pred e) ?_
      refine V_istore_n [(1, .int (nI e)), (5, .int 1), (2, .int (nI i)), (0, .ref (G.2.1 29))] dX8_faultOf_159 rfl (Nat.le_of_ble_eq_true rfl) rfl ?_
      refine V_iload dX8_faultOf_160 1 rfl ?_
      refine V_if_eq 173 dX8_faultOf_162 (by decide) (fun hz => absurd hz (by decide)) (fun _ => ?_)
      refine V_iload_n dX8_faultOf_165 rfl 0 rfl ?_
      refine V_if_len 173 (a := e) dX8_faultOf_166 (by decide) (by omega) (fun h1 => ?_) (fun h1 => ?_)
      · refine V_iconst (v := 0) dX8_faultOf_173 ki_0 ?_
        refine V_istore [(5, .int 0), (1, .int (nI e)), (2, .int (nI i)), (0, .ref (G.2.1 29))] dX8_faultOf_174 (Nat.le_of_ble_eq_true rfl) rfl ?_
        refine V_goto 112 dX8_faultOf_176 (by decide) ?_
        refine V_lv [(5, .int 0), (1, .int (nI e)), (2, .int (nI i)), (0, .ref (G.2.1 29))] [0, 1, 2, 3] rfl ?_
        refine V_lveq [(5, .int 0), (1, .int (nI 0)), (2, .int (nI i)), (0, .ref (G.2.1 29))] (by rw [h1]) ?_
        refine V_S (S2 := setAr S 48 (upd g e 0)) (setA_Ar S 48 _ g _) ?_
        subst h1
        exact K (upd g 0 0) 0 (by omega) (Or.inl ⟨rfl, rl_1 hg⟩) (fun i hi => absurd hi (Nat.not_lt_zero _))
      · refine V_iconst (v := 1) dX8_faultOf_169 ki_1 ?_
        refine V_goto 174 dX8_faultOf_170 (by decide) ?_
        refine V_istore [(5, .int 1), (1, .int (nI e)), (2, .int (nI i)), (0, .ref (G.2.1 29))] dX8_faultOf_174 (Nat.le_of_ble_eq_true rfl) rfl ?_
        refine V_goto 112 dX8_faultOf_176 (by decide) ?_
        obtain ⟨e2, rfl⟩ : ∃ e2, e = e2 + 1 := ⟨e - 1, by omega⟩
        refine V_lv [(5, .int 1), (1, .int (nI (e2 + 1))), (2, .int (nI i)), (0, .ref (G.2.1 29))] [0, 1, 2, 3] rfl ?_
        refine V_S (S2 := setAr S 48 (upd g (e2 + 1) 0)) (setA_Ar S 48 _ g _) ?_
        exact ih e2 _ (by omega) (by omega) (OKD_upd (fun i hi => hO i (by omega)) (Nat.le_refl _)) (fun h b hb hr hh => K h b hb (by rw [rl_1 hg, ← rl_upd (g := g) (v := 0) (Nat.le_refl (e2 + 1))]; exact hr) hh)
    · refine V_iload dX8_faultOf_112 0 rfl ?_
      refine V_if_eq 179 dX8_faultOf_114 (by decide) (fun hz => absurd hz (by decide)) (fun _ => ?_)
      refine V_aload_n dX8_faultOf_117 rfl 3 rfl ?_
      refine g_29_25 tw_653 dX8_faultOf_118 ?_
      refine V_iload_n dX8_faultOf_121 rfl 1 rfl ?_
      refine V_iconst (v := 1) dX8_faultOf_122 ki_1 ?_
      refine V_isub dX8_faultOf_123 ?_
      refine V_topi (v := nI e) (nI_pred e) ?_
      refine V_dup2 dX8_faultOf_124 rfl rfl ?_
      refine l_48n (by omega) dX8_faultOf_125 ?_
      refine V_topi (v := 2) (id hg) ?_
      refine V_iconst (v := 1) dX8_faultOf_126 ki_1 ?_
      refine V_isub dX8_faultOf_127 ?_
      refine V_topi (v := 1) (by decide +kernel) ?_
      refine s_48n (by omega) dX8_faultOf_128 ?_
      refine V_aload_n dX8_faultOf_129 rfl 3 rfl ?_
      refine g_29_25 tw_653 dX8_faultOf_130 ?_
      refine V_iload_n dX8_faultOf_133 rfl 1 rfl ?_
      refine V_iconst (v := 1) dX8_faultOf_134 ki_1 ?_
      refine V_isub dX8_faultOf_135 ?_
      refine V_topi (v := nI e) (nI_pred e) ?_
      refine l_48n (by omega) dX8_faultOf_136 ?_
      refine V_topi (v := (upd ((setAr S 48 g).2.2.1 48) e 1) e) rfl ?_
      refine V_topi (v := 1) ((pk_us)) ?_
      refine V_if_ne 144 dX8_faultOf_137 (by decide) (fun _ => ?_) (fun hz => absurd hz (by decide))
      refine V_iconst (v := 0) dX8_faultOf_144 ki_0 ?_
      refine V_istore [(5, .int 0), (1, .int (nI (e + 1))), (2, .int (nI i)), (0, .ref (G.2.1 29))] dX8_faultOf_145 (Nat.le_of_ble_eq_true rfl) rfl ?_
      refine V_iload_n dX8_faultOf_147 rfl 1 rfl ?_
      refine V_iload dX8_faultOf_148 0 rfl ?_
      refine V_if_eq 157 dX8_faultOf_150 (by decide) (fun _ => ?_) (fun hz => absurd hz (by decide))
      refine V_iconst (v := 0) dX8_faultOf_157 ki_0 ?_
      refine V_isub dX8_faultOf_158 ?_
      refine V_topi (v := nI (e + 1)) (Int32.sub_zero _) ?_
      refine V_istore_n [(1, .int (nI (e + 1))), (5, .int 0), (2, .int (nI i)), (0, .ref (G.2.1 29))] dX8_faultOf_159 rfl (Nat.le_of_ble_eq_true rfl) rfl ?_
      refine V_iload dX8_faultOf_160 1 rfl ?_
      refine V_if_eq 173 dX8_faultOf_162 (by decide) (fun _ => ?_) (fun hz => absurd hz (by decide))
      refine V_iconst (v := 0) dX8_faultOf_173 ki_0 ?_
      refine V_istore [(5, .int 0), (1, .int (nI (e + 1))), (2, .int (nI i)), (0, .ref (G.2.1 29))] dX8_faultOf_174 (Nat.le_of_ble_eq_true rfl) rfl ?_
      refine V_goto 112 dX8_faultOf_176 (by decide) ?_
      refine V_lv [(5, .int 0), (1, .int (nI (e + 1))), (2, .int (nI i)), (0, .ref (G.2.1 29))] [0, 1, 2, 3] rfl ?_
      refine V_S (S2 := setAr S 48 (upd g e 1)) (setA_Ar S 48 _ g _) ?_
      exact K (upd g e 1) (e + 1) hb9 (Or.inr ⟨by omega, by rw [rl_2 hg, rl_1 pk_us, rl_upd (Nat.le_refl _)]⟩) (OKD_push (fun i hi => hO i (by omega)) (Or.inl rfl))
theorem lp_fo {G : GX} {d y : Nat} {S : ST} {Q : Int32 → ST → Prop} (hg : S.1 12 = nI y) (hy : y ≤ 40) : ∀ (k i : Nat) (g : Nat → Int32) (dp : Nat), i + k = y → dp ≤ 9 → OKD g dp → (∀ S2, FrE S S2 → Q (flt (S.2.2.1 38) y k (dp :: rl g dp)) S2) → V (pM G (d + 1) mX8_faultOf (qi Q)) 4 [(2, .int (nI i)), (1, .int (nI dp)), (0, .ref (G.2.1 29))] [] (setAr S 48 g) := by
  intro k
  induction k with
  | zero =>
    intro i g dp hi hb9 hO hq
    refine V_iload_n dX8_faultOf_4 rfl 0 rfl ?_
    refine V_aload_n dX8_faultOf_5 rfl 2 rfl ?_
    refine g_29_10 tw_638 dX8_faultOf_6 ?_
    refine V_topi (v := nI y) (id hg) ?_
    refine V_icmp_gen 208 (a := i) (b := y) dX8_faultOf_9 (by decide) (by omega) (by omega) (fun h1 => ?_) (fun h1 => ?_)
    · refine V_aload_n dX8_faultOf_208 rfl 2 rfl ?_
      refine g_29_10 tw_638 dX8_faultOf_209 ?_
      refine V_topi (v := nI y) (id hg) ?_
      exact V_iret rfl dX8_faultOf_212 ⟨_, rfl, qcast (hq _ (FrE.set S g)) (by rw [flt_0n (by simp)])⟩
    · exact absurd h1 (by omega)
  | succ k ih =>
    intro i g dp hi hb9 hO hq
    have ei : y - (k + 1) = i := by omega
    refine V_iload_n dX8_faultOf_4 rfl 0 rfl ?_
    refine V_aload_n dX8_faultOf_5 rfl 2 rfl ?_
    refine g_29_10 tw_638 dX8_faultOf_6 ?_
    refine V_topi (v := nI y) (id hg) ?_
    refine V_icmp_gen 208 (a := i) (b := y) dX8_faultOf_9 (by decide) (by omega) (by omega) (fun h1 => ?_) (fun h1 => ?_)
    · exact absurd h1 (by omega)
    · refine V_aload_n dX8_faultOf_12 rfl 2 rfl ?_
      refine g_29_11 tw_639 dX8_faultOf_13 ?_
      refine V_iload_n dX8_faultOf_16 rfl 0 rfl ?_
      refine l_38n (by omega) dX8_faultOf_17 ?_
      refine V_topi (v := S.2.2.1 38 i) ((rfl)) ?_
      refine V_istore_n [(3, .int (S.2.2.1 38 i)), (2, .int (nI i)), (1, .int (nI dp)), (0, .ref (G.2.1 29))] dX8_faultOf_18 rfl (Nat.le_of_ble_eq_true rfl) rfl ?_
      refine V_iload_n dX8_faultOf_19 rfl 0 rfl ?_
      refine V_bipush (v := 97) dX8_faultOf_20 kb_97 ?_
      refine V_bipush (v := 108) dX8_faultOf_22 kb_108 ?_
      refine V_cSi (P := pM G (d + 1) mX8_faultOf _) (d := d) (r := []) (As := [.int (S.2.2.1 38 i), .int 97, .int 108]) (K := mX8_in) ok_X8_in tw_721 rfl (rmOk (Nat.le_of_ble_eq_true rfl)) (Nat.le_of_ble_eq_true rfl) dX8_faultOf_24 rfl (c_X8_in ?_)
      refine V_ifb_eq 34 dX8_faultOf_27 (by decide) (fun h2 => ?_) (fun h2 => ?_)
      · refine V_iload_n dX8_faultOf_34 rfl 0 rfl ?_
        refine V_bipush (v := 33) dX8_faultOf_35 kb_33 ?_
        refine V_icmp_ne 44 dX8_faultOf_37 (by decide) (fun h3 => ?_) (fun h3 => ?_)
        · refine V_iload_n dX8_faultOf_44 rfl 0 rfl ?_
          refine V_bipush (v := 38) dX8_faultOf_45 kb_38 ?_
          refine V_icmp_eq 56 dX8_faultOf_47 (by decide) (fun h4 => ?_) (fun h4 => ?_)
          · refine V_iconst (v := 2) dX8_faultOf_56 ki_2 ?_
            refine V_goto 62 dX8_faultOf_57 (by decide) ?_
            have ht : txO (S.2.2.1 38 i) = 2 := txO_2 (Or.inl h4)
            refine V_istore [(4, .int 2), (3, .int (S.2.2.1 38 i)), (2, .int (nI i)), (1, .int (nI dp)), (0, .ref (G.2.1 29))] dX8_faultOf_62 (Nat.le_of_ble_eq_true rfl) rfl ?_
            refine V_iload dX8_faultOf_64 0 rfl ?_
            refine V_if_lt 80 dX8_faultOf_66 (by decide) (fun hz => absurd hz (by decide)) (fun _ => ?_)
            refine V_iload dX8_faultOf_69 0 rfl ?_
            refine V_if_le 82 dX8_faultOf_71 (by decide) (fun hz => absurd hz (by decide)) (fun _ => ?_)
            refine V_iload_n dX8_faultOf_74 rfl 3 rfl ?_
            refine V_bipush (v := 9) dX8_faultOf_75 kb_9 ?_
            refine V_icmp_nen 82 (a := dp) (b := 9) dX8_faultOf_77 (by decide) (by omega) (by omega) (fun h5 => ?_) (fun h5 => ?_)
            · refine V_iload dX8_faultOf_82 0 rfl ?_
              refine V_if_le 101 dX8_faultOf_84 (by decide) (fun hz => absurd hz (by decide)) (fun _ => ?_)
              refine V_aload_n dX8_faultOf_87 rfl 4 rfl ?_
              refine g_29_25 tw_653 dX8_faultOf_88 ?_
              refine V_iload_n dX8_faultOf_91 rfl 3 rfl ?_
              refine V_iload dX8_faultOf_92 0 rfl ?_
              refine s_48n (by omega) dX8_faultOf_94 ?_
              refine V_iinc [(1, .int (nI (dp + 1))), (4, .int 2), (3, .int (S.2.2.1 38 i)), (2, .int (nI i)), (0, .ref (G.2.1 29))] dX8_faultOf_95 3 rfl (nI_1 _) (Nat.le_of_ble_eq_true rfl) rfl ?_
              refine V_goto 202 dX8_faultOf_98 (by decide) ?_
              refine V_iinc [(2, .int (nI (i + 1))), (1, .int (nI (dp + 1))), (4, .int 2), (3, .int (S.2.2.1 38 i)), (0, .ref (G.2.1 29))] dX8_faultOf_202 3 rfl (nI_1 _) (Nat.le_of_ble_eq_true rfl) rfl ?_
              refine V_goto 4 dX8_faultOf_205 (by decide) ?_
              refine V_lv [(2, .int (nI (i + 1))), (1, .int (nI (dp + 1))), (0, .ref (G.2.1 29))] [0, 1, 4] rfl ?_
              refine V_S (S2 := setAr S 48 (upd g dp 2)) (setA_Ar S 48 _ g _) ?_
              rw [flt_s (by rw [ei, ht]; exact fun z => z.elim (fun z => absurd z (by decide)) (fun z => absurd z.2 (by omega))), ei, ht] at hq
              exact ih (i + 1) _ (dp + 1) (by omega) (by omega) (OKD_push hO (Or.inr rfl)) (by rw [rl_2 pk_us, rl_upd (Nat.le_refl _)]; exact hq)
            · refine V_iload_n dX8_faultOf_80 rfl 2 rfl ?_
              exact V_iret rfl dX8_faultOf_81 ⟨_, rfl, qcast (hq _ (FrE.set S g)) (by rw [flt_x (by rw [ei, ht]; exact Or.inr ⟨by decide, by omega⟩), ei])⟩
          · refine V_iload_n dX8_faultOf_50 rfl 0 rfl ?_
            refine V_bipush (v := 124) dX8_faultOf_51 kb_124 ?_
            refine V_icmp_ne 60 dX8_faultOf_53 (by decide) (fun h6 => ?_) (fun h6 => ?_)
            · refine V_bipush (v := -6) dX8_faultOf_60 kb_m6 ?_
              have ht : txO (S.2.2.1 38 i) = -1 := by simp [txO, h2, h3, h4, h6]
              refine V_istore [(4, .int (-6)), (3, .int (S.2.2.1 38 i)), (2, .int (nI i)), (1, .int (nI dp)), (0, .ref (G.2.1 29))] dX8_faultOf_62 (Nat.le_of_ble_eq_true rfl) rfl ?_
              refine V_iload dX8_faultOf_64 0 rfl ?_
              refine V_if_lt 80 dX8_faultOf_66 (by decide) (fun _ => ?_) (fun hz => absurd hz (by decide))
              refine V_iload_n dX8_faultOf_80 rfl 2 rfl ?_
              exact V_iret rfl dX8_faultOf_81 ⟨_, rfl, qcast (hq _ (FrE.set S g)) (by rw [flt_x (by rw [ei]; exact Or.inl ht), ei])⟩
            · refine V_iconst (v := 2) dX8_faultOf_56 ki_2 ?_
              refine V_goto 62 dX8_faultOf_57 (by decide) ?_
              have ht : txO (S.2.2.1 38 i) = 2 := txO_2 (Or.inr h6)
              refine V_istore [(4, .int 2), (3, .int (S.2.2.1 38 i)), (2, .int (nI i)), (1, .int (nI dp)), (0, .ref (G.2.1 29))] dX8_faultOf_62 (Nat.le_of_ble_eq_true rfl) rfl ?_
              refine V_iload dX8_faultOf_64 0 rfl ?_
              refine V_if_lt 80 dX8_faultOf_66 (by decide) (fun hz => absurd hz (by decide)) (fun _ => ?_)
              refine V_iload dX8_faultOf_69 0 rfl ?_
              refine V_if_le 82 dX8_faultOf_71 (by decide) (fun hz => absurd hz (by decide)) (fun _ => ?_)
              refine V_iload_n dX8_faultOf_74 rfl 3 rfl ?_
              refine V_bipush (v := 9) dX8_faultOf_75 kb_9 ?_
              refine V_icmp_nen 82 (a := dp) (b := 9) dX8_faultOf_77 (by decide) (by omega) (by omega) (fun h7 => ?_) (fun h7 => ?_)
              · refine V_iload dX8_faultOf_82 0 rfl ?_
                refine V_if_le 101 dX8_faultOf_84 (by decide) (fun hz => absurd hz (by decide)) (fun _ => ?_)
                refine V_aload_n dX8_faultOf_87 rfl 4 rfl ?_
                refine g_29_25 tw_653 dX8_faultOf_88 ?_
                refine V_iload_n dX8_faultOf_91 rfl 3 rfl ?_
                refine V_iload dX8_faultOf_92 0 rfl ?_
                refine s_48n (by omega) dX8_faultOf_94 ?_
                refine V_iinc [(1, .int (nI (dp + 1))), (4, .int 2), (3, .int (S.2.2.1 38 i)), (2, .int (nI i)), (0, .ref (G.2.1 29))] dX8_faultOf_95 3 rfl (nI_1 _) (Nat.le_of_ble_eq_true rfl) rfl ?_
                refine V_goto 202 dX8_faultOf_98 (by decide) ?_
                refine V_iinc [(2, .int (nI (i + 1))), (1, .int (nI (dp + 1))), (4, .int 2), (3, .int (S.2.2.1 38 i)), (0, .ref (G.2.1 29))] dX8_faultOf_202 3 rfl (nI_1 _) (Nat.le_of_ble_eq_true rfl) rfl ?_
                refine V_goto 4 dX8_faultOf_205 (by decide) ?_
                refine V_lv [(2, .int (nI (i + 1))), (1, .int (nI (dp + 1))), (0, .ref (G.2.1 29))] [0, 1, 4] rfl ?_
                refine V_S (S2 := setAr S 48 (upd g dp 2)) (setA_Ar S 48 _ g _) ?_
                rw [flt_s (by rw [ei, ht]; exact fun z => z.elim (fun z => absurd z (by decide)) (fun z => absurd z.2 (by omega))), ei, ht] at hq
                exact ih (i + 1) _ (dp + 1) (by omega) (by omega) (OKD_push hO (Or.inr rfl)) (by rw [rl_2 pk_us, rl_upd (Nat.le_refl _)]; exact hq)
              · refine V_iload_n dX8_faultOf_80 rfl 2 rfl ?_
                exact V_iret rfl dX8_faultOf_81 ⟨_, rfl, qcast (hq _ (FrE.set S g)) (by rw [flt_x (by rw [ei, ht]; exact Or.inr ⟨by decide, by omega⟩), ei])⟩
        · refine V_iconst (v := 1) dX8_faultOf_40 ki_1 ?_
          refine V_goto 62 dX8_faultOf_41 (by decide) ?_
          have ht : txO (S.2.2.1 38 i) = 1 := txO_n h3
          refine V_istore [(4, .int 1), (3, .int (S.2.2.1 38 i)), (2, .int (nI i)), (1, .int (nI dp)), (0, .ref (G.2.1 29))] dX8_faultOf_62 (Nat.le_of_ble_eq_true rfl) rfl ?_
          refine V_iload dX8_faultOf_64 0 rfl ?_
          refine V_if_lt 80 dX8_faultOf_66 (by decide) (fun hz => absurd hz (by decide)) (fun _ => ?_)
          refine V_iload dX8_faultOf_69 0 rfl ?_
          refine V_if_le 82 dX8_faultOf_71 (by decide) (fun hz => absurd hz (by decide)) (fun _ => ?_)
          refine V_iload_n dX8_faultOf_74 rfl 3 rfl ?_
          refine V_bipush (v := 9) dX8_faultOf_75 kb_9 ?_
          refine V_icmp_nen 82 (a := dp) (b := 9) dX8_faultOf_77 (by decide) (by omega) (by omega) (fun h8 => ?_) (fun h8 => ?_)
          · refine V_iload dX8_faultOf_82 0 rfl ?_
            refine V_if_le 101 dX8_faultOf_84 (by decide) (fun hz => absurd hz (by decide)) (fun _ => ?_)
            refine V_aload_n dX8_faultOf_87 rfl 4 rfl ?_
            refine g_29_25 tw_653 dX8_faultOf_88 ?_
            refine V_iload_n dX8_faultOf_91 rfl 3 rfl ?_
            refine V_iload dX8_faultOf_92 0 rfl ?_
            refine s_48n (by omega) dX8_faultOf_94 ?_
            refine V_iinc [(1, .int (nI (dp + 1))), (4, .int 1), (3, .int (S.2.2.1 38 i)), (2, .int (nI i)), (0, .ref (G.2.1 29))] dX8_faultOf_95 3 rfl (nI_1 _) (Nat.le_of_ble_eq_true rfl) rfl ?_
            refine V_goto 202 dX8_faultOf_98 (by decide) ?_
            refine V_iinc [(2, .int (nI (i + 1))), (1, .int (nI (dp + 1))), (4, .int 1), (3, .int (S.2.2.1 38 i)), (0, .ref (G.2.1 29))] dX8_faultOf_202 3 rfl (nI_1 _) (Nat.le_of_ble_eq_true rfl) rfl ?_
            refine V_goto 4 dX8_faultOf_205 (by decide) ?_
            refine V_lv [(2, .int (nI (i + 1))), (1, .int (nI (dp + 1))), (0, .ref (G.2.1 29))] [0, 1, 4] rfl ?_
            refine V_S (S2 := setAr S 48 (upd g dp 1)) (setA_Ar S 48 _ g _) ?_
            rw [flt_s (by rw [ei, ht]; exact fun z => z.elim (fun z => absurd z (by decide)) (fun z => absurd z.2 (by omega))), ei, ht] at hq
            exact ih (i + 1) _ (dp + 1) (by omega) (by omega) (OKD_push hO (Or.inl rfl)) (by rw [rl_1 pk_us, rl_upd (Nat.le_refl _)]; exact hq)
          · refine V_iload_n dX8_faultOf_80 rfl 2 rfl ?_
            exact V_iret rfl dX8_faultOf_81 ⟨_, rfl, qcast (hq _ (FrE.set S g)) (by rw [flt_x (by rw [ei, ht]; exact Or.inr ⟨by decide, by omega⟩), ei])⟩
      · refine V_iconst (v := 0) dX8_faultOf_30 ki_0 ?_
        refine V_goto 62 dX8_faultOf_31 (by decide) ?_
        have ht : txO (S.2.2.1 38 i) = 0 := txO_l h2
        refine V_istore [(4, .int 0), (3, .int (S.2.2.1 38 i)), (2, .int (nI i)), (1, .int (nI dp)), (0, .ref (G.2.1 29))] dX8_faultOf_62 (Nat.le_of_ble_eq_true rfl) rfl ?_
        refine V_iload dX8_faultOf_64 0 rfl ?_
        refine V_if_lt 80 dX8_faultOf_66 (by decide) (fun hz => absurd hz (by decide)) (fun _ => ?_)
        refine V_iload dX8_faultOf_69 0 rfl ?_
        refine V_if_le 82 dX8_faultOf_71 (by decide) (fun _ => ?_) (fun hz => absurd hz (by decide))
        refine V_iload dX8_faultOf_82 0 rfl ?_
        refine V_if_le 101 dX8_faultOf_84 (by decide) (fun _ => ?_) (fun hz => absurd hz (by decide))
        refine V_iload_n dX8_faultOf_101 rfl 3 rfl ?_
        refine V_if_len 109 (a := dp) dX8_faultOf_102 (by decide) (by omega) (fun h9 => ?_) (fun h9 => ?_)
        · refine V_iconst (v := 0) dX8_faultOf_109 ki_0 ?_
          refine V_istore [(5, .int 0), (4, .int 0), (3, .int (S.2.2.1 38 i)), (2, .int (nI i)), (1, .int (nI dp)), (0, .ref (G.2.1 29))] dX8_faultOf_110 (Nat.le_of_ble_eq_true rfl) rfl ?_
          have hq2 : ∀ S2, FrE S S2 → Q (flt (S.2.2.1 38) y k (rl g dp)) S2 := by
            rw [flt_s (by rw [ei, ht]; rintro (z | ⟨z, -⟩) <;> exact absurd z (by decide)), ei, ht] at hq
            exact hq
          subst h9
          refine V_lv [(5, .int 0), (1, .int 0), (2, .int (nI i)), (0, .ref (G.2.1 29))] [0, 4, 3, 5] rfl ?_
          refine V_iload dX8_faultOf_112 0 rfl ?_
          refine V_if_eq 179 dX8_faultOf_114 (by decide) (fun _ => ?_) (fun hz => absurd hz (by decide))
          refine V_iload_n dX8_faultOf_179 rfl 1 rfl ?_
          refine V_if_ne 202 dX8_faultOf_180 (by decide) (fun hz => absurd hz (by decide)) (fun _ => ?_)
          refine V_iload_n dX8_faultOf_183 rfl 2 rfl ?_
          refine V_iconst (v := 1) dX8_faultOf_184 ki_1 ?_
          refine V_iadd dX8_faultOf_185 ?_
          refine V_topi (v := nI (i + 1)) (nI_1 _) ?_
          refine V_aload_n dX8_faultOf_186 rfl 3 rfl ?_
          refine g_29_10 tw_638 dX8_faultOf_187 ?_
          refine V_topi (v := nI y) (id hg) ?_
          refine V_icmp_nen 198 (a := (i + 1)) (b := y) dX8_faultOf_190 (by decide) (by omega) (by omega) (fun h10 => ?_) (fun h10 => ?_)
          · refine V_iload_n dX8_faultOf_198 rfl 2 rfl ?_
            refine V_iconst (v := 1) dX8_faultOf_199 ki_1 ?_
            refine V_iadd dX8_faultOf_200 ?_
            refine V_topi (v := nI (i + 1)) (nI_1 _) ?_
            obtain ⟨k2, rfl⟩ : ∃ k2, k = k2 + 1 := ⟨k - 1, by omega⟩
            exact V_iret rfl dX8_faultOf_201 ⟨_, rfl, qcast (hq2 _ (FrE.set S g)) (by rw [show rl g 0 = [] from rfl, flt_e, show y - (k2 + 1) = i + 1 by omega])⟩
          · refine V_bipush (v := -6) dX8_faultOf_193 kb_m6 ?_
            refine V_goto 201 dX8_faultOf_195 (by decide) ?_
            obtain rfl : k = 0 := by omega
            exact V_iret rfl dX8_faultOf_201 ⟨_, rfl, qcast (hq2 _ (FrE.set S g)) (by rw [show rl g 0 = [] from rfl]; rfl)⟩
        · refine V_iconst (v := 1) dX8_faultOf_105 ki_1 ?_
          refine V_goto 110 dX8_faultOf_106 (by decide) ?_
          refine V_istore [(5, .int 1), (4, .int 0), (3, .int (S.2.2.1 38 i)), (2, .int (nI i)), (1, .int (nI dp)), (0, .ref (G.2.1 29))] dX8_faultOf_110 (Nat.le_of_ble_eq_true rfl) rfl ?_
          have hq2 : ∀ S2, FrE S S2 → Q (flt (S.2.2.1 38) y k (rl g dp)) S2 := by
            rw [flt_s (by rw [ei, ht]; rintro (z | ⟨z, -⟩) <;> exact absurd z (by decide)), ei, ht] at hq
            exact hq
          obtain ⟨e, rfl⟩ : ∃ e, dp = e + 1 := ⟨dp - 1, by omega⟩
          refine V_lv [(5, .int 1), (1, .int (nI (e + 1))), (2, .int (nI i)), (0, .ref (G.2.1 29))] [0, 4, 3, 5] rfl ?_
          refine lp_pop (e + 1) e g (by omega) hb9 hO (fun h b hb hr hh => ?_)
          refine V_iload dX8_faultOf_112 0 rfl ?_
          refine V_if_eq 179 dX8_faultOf_114 (by decide) (fun _ => ?_) (fun hz => absurd hz (by decide))
          refine V_iload_n dX8_faultOf_179 rfl 1 rfl ?_
          refine V_if_nen 202 (a := b) dX8_faultOf_180 (by decide) (by omega) (fun h11 => ?_) (fun h11 => ?_)
          · refine V_iinc [(2, .int (nI (i + 1))), (5, .int 0), (1, .int (nI b)), (0, .ref (G.2.1 29))] dX8_faultOf_202 2 rfl (nI_1 _) (Nat.le_of_ble_eq_true rfl) rfl ?_
            refine V_goto 4 dX8_faultOf_205 (by decide) ?_
            refine V_lv [(2, .int (nI (i + 1))), (1, .int (nI b)), (0, .ref (G.2.1 29))] [0, 2, 3] rfl ?_
            have hr1 : rl g (e + 1) = b :: rl h b := hr.elim (fun z => absurd z.1 (by omega)) (fun z => z.2)
            rw [hr1] at hq2
            exact ih (i + 1) h b (by omega) hb hh hq2
          · refine V_iload_n dX8_faultOf_183 rfl 2 rfl ?_
            refine V_iconst (v := 1) dX8_faultOf_184 ki_1 ?_
            refine V_iadd dX8_faultOf_185 ?_
            refine V_topi (v := nI (i + 1)) (nI_1 _) ?_
            refine V_aload_n dX8_faultOf_186 rfl 3 rfl ?_
            refine g_29_10 tw_638 dX8_faultOf_187 ?_
            refine V_topi (v := nI y) (id hg) ?_
            refine V_icmp_nen 198 (a := (i + 1)) (b := y) dX8_faultOf_190 (by decide) (by omega) (by omega) (fun h13 => ?_) (fun h13 => ?_)
            · refine V_iload_n dX8_faultOf_198 rfl 2 rfl ?_
              refine V_iconst (v := 1) dX8_faultOf_199 ki_1 ?_
              refine V_iadd dX8_faultOf_200 ?_
              refine V_topi (v := nI (i + 1)) (nI_1 _) ?_
              have hr0 : rl g (e + 1) = [] := hr.elim (fun z => z.2) (fun z => absurd z.1 (by omega))
              obtain ⟨k2, rfl⟩ : ∃ k2, k = k2 + 1 := ⟨k - 1, by omega⟩
              exact V_iret rfl dX8_faultOf_201 ⟨_, rfl, qcast (hq2 _ (FrE.set S h)) (by rw [show rl g (e + 1) = [] from hr0, flt_e, show y - (k2 + 1) = i + 1 by omega])⟩
            · refine V_bipush (v := -6) dX8_faultOf_193 kb_m6 ?_
              refine V_goto 201 dX8_faultOf_195 (by decide) ?_
              have hr0 : rl g (e + 1) = [] := hr.elim (fun z => z.2) (fun z => absurd z.1 (by omega))
              obtain rfl : k = 0 := by omega
              exact V_iret rfl dX8_faultOf_201 ⟨_, rfl, qcast (hq2 _ (FrE.set S h)) (by rw [show rl g (e + 1) = [] from hr0]; rfl)⟩
theorem c_X8_faultOf {G : GX} {d : Nat} {S : ST} {y : Nat} {Q : Int32 → ST → Prop} (hg : S.1 12 = nI y) (hy : y ≤ 40) (hq : ∀ S2, FrE S S2 → Q (flt (S.2.2.1 38) y y [0]) S2) : Cn G (d + 1) mX8_faultOf [.ref (G.2.1 29)] S (qi Q) := by
  refine Cn.intro (lv := [(0, .ref (G.2.1 29))]) (by decide) (Nat.le_of_ble_eq_true rfl) rfl ?_
  refine V_iconst (v := 0) dX8_faultOf_0 ki_0 ?_
  refine V_istore_n [(1, .int 0), (0, .ref (G.2.1 29))] dX8_faultOf_1 rfl (Nat.le_of_ble_eq_true rfl) rfl ?_
  refine V_iconst (v := 0) dX8_faultOf_2 ki_0 ?_
  refine V_istore_n [(2, .int 0), (1, .int 0), (0, .ref (G.2.1 29))] dX8_faultOf_3 rfl (Nat.le_of_ble_eq_true rfl) rfl ?_
  refine V_lv [(2, .int 0), (1, .int 0), (0, .ref (G.2.1 29))] [0, 1, 2] rfl ?_
  refine V_lveq [(2, .int (nI 0)), (1, .int (nI 0)), (0, .ref (G.2.1 29))] (by rfl) ?_
  refine V_S (S2 := setAr S 48 (S.2.2.1 48)) ((setAr_id S 48).symm) ?_
  exact lp_fo hg hy y 0 _ 0 (by omega) (by omega) (fun i hi => absurd hi (Nat.not_lt_zero _)) hq
theorem c_X8_fault {G : GX} {d : Nat} {S : ST} {y : Nat} {Q : Int32 → ST → Prop} (hg : S.1 12 = nI y) (hy : y ≤ 40) (hq : ∀ S2, FrE S S2 → Q (flt (S.2.2.1 38) y y [0]) S2) : Cn G (d + 2) mX8_fault [.ref (G.2.1 29)] S (qi Q) := by
  refine Cn.intro (lv := [(0, .ref (G.2.1 29))]) (by decide) (Nat.le_of_ble_eq_true rfl) rfl ?_
  refine V_aload_n dX8_fault_0 rfl 0 rfl ?_
  refine V_cVi (P := pM G (d + 2) mX8_fault _) (d := d + 1) 29 (r := []) (As := []) (K := mX8_faultOf) ok_X8_faultOf tw_872 (ob_29 _) rfl (rmOk (Nat.le_of_ble_eq_true rfl)) (Nat.le_of_ble_eq_true rfl) dX8_fault_1 rfl (c_X8_faultOf hg hy (fun S2 hF => ?_))
  exact V_iret rfl dX8_fault_4 ⟨_, rfl, hq S2 hF⟩
theorem flt_c {sg : Nat → Int32} {y : Nat} : ∀ (k : Nat) (A : List Nat), k ≤ y → flt sg y k A = -6 ∨ ∃ j, j ≤ y ∧ flt sg y k A = nI j
  | 0, A, _ => by
    by_cases h : A.length = 0
    · exact Or.inl (by rw [flt, if_pos h])
    · exact Or.inr ⟨y, Nat.le_refl y, flt_0n h⟩
  | k + 1, [], hk => Or.inr ⟨y - (k + 1), by omega, flt_e⟩
  | k + 1, dp :: R, hk => by
    by_cases hx : txO (sg (y - (k + 1))) = -1 ∨ (0 < txO (sg (y - (k + 1))) ∧ 9 ≤ dp)
    · exact Or.inr ⟨y - (k + 1), by omega, flt_x hx⟩
    · rw [flt_s hx]; exact flt_c k _ (by omega)
theorem flt_n {sg : Nat → Int32} {y : Nat} (hy : y ≤ 40) : flt sg y y [0] < 0 ↔ flt sg y y [0] = -6 := by
  rcases flt_c (sg := sg) (y := y) y [0] (Nat.le_refl y) with h | ⟨j, hj, h⟩
  · rw [h]; exact ⟨fun _ => rfl, fun _ => by decide⟩
  · rw [h]; exact ⟨fun z => absurd z (nI_pos (by omega)), fun z => (nI_ne6 (by omega) z).elim⟩
/-- the reference's told text: the first i signs are copied -/
def cpT (S : ST) (i : Nat) : ST := setAr S 39 (fun j => if j < i then S.2.2.1 38 j else S.2.2.1 39 j)
theorem cpT_0 (S : ST) : cpT S 0 = S := by
  unfold cpT
  rw [show (fun j => if j < 0 then S.2.2.1 38 j else S.2.2.1 39 j) = S.2.2.1 39 from funext (fun j => if_neg (Nat.not_lt_zero j))]
  exact setAr_id S 39
theorem cpT_s (S : ST) (i : Nat) : setA (cpT S i) 39 i (S.2.2.1 38 i) = cpT S (i + 1) := by
  unfold cpT
  rw [setA_Ar]
  congr 1
  funext j
  unfold upd
  by_cases e : j = i
  · subst e; rw [if_pos rfl, if_pos (Nat.lt_succ_self j)]
  · rw [if_neg e]
    by_cases h : j < i
    · show (if j < i then _ else _) = _
      rw [if_pos h, if_pos (by omega)]
    · show (if j < i then _ else _) = _
      rw [if_neg h, if_neg (by omega)]
theorem lp_cpt {G : GX} {d y : Nat} {S : ST} {Q : Int32 → ST → Prop} (hg : S.1 12 = nI y) (hy : y ≤ 40) (hq : Q (S.1 13) (setI (cpT S y) 12 0)) : ∀ (k i : Nat), i ≤ y → y - i < k → V (pM G (d + 2) mX8_truth (qi Q)) 20 [(1, .int (nI i)), (0, .ref (G.2.1 29))] [] (cpT S i) := by
  intro k
  induction k with
  | zero => intro i hi hk; exact absurd hk (Nat.not_lt_zero _)
  | succ k ih =>
    intro i hi hk
    refine V_iload_n dX8_truth_20 rfl 0 rfl ?_
    refine V_aload_n dX8_truth_21 rfl 1 rfl ?_
    refine g_29_10 tw_638 dX8_truth_22 ?_
    refine V_topi (v := nI y) (id hg) ?_
    refine V_icmp_gen 46 (a := i) (b := y) dX8_truth_25 (by decide) (by omega) (by omega) (fun h1 => ?_) (fun h1 => ?_)
    · refine V_aload_n dX8_truth_46 rfl 1 rfl ?_
      refine V_iconst (v := 0) dX8_truth_47 ki_0 ?_
      refine p_29_10 tw_638 dX8_truth_48 ?_
      refine V_aload_n dX8_truth_51 rfl 1 rfl ?_
      refine g_29_12 tw_640 dX8_truth_52 ?_
      refine V_topi (v := (cpT S i).1 13) rfl ?_
      have hin : i = y := by omega
      subst hin
      exact V_iret rfl dX8_truth_55 ⟨_, rfl, hq⟩
    · refine V_aload_n dX8_truth_28 rfl 1 rfl ?_
      refine g_29_13 tw_641 dX8_truth_29 ?_
      refine V_iload_n dX8_truth_32 rfl 0 rfl ?_
      refine V_aload_n dX8_truth_33 rfl 1 rfl ?_
      refine g_29_11 tw_639 dX8_truth_34 ?_
      refine V_iload_n dX8_truth_37 rfl 0 rfl ?_
      refine l_38n (by omega) dX8_truth_38 ?_
      refine V_topi (v := S.2.2.1 38 i) ((rfl)) ?_
      refine s_39n (by omega) dX8_truth_39 ?_
      refine V_iinc [(1, .int (nI (i + 1))), (0, .ref (G.2.1 29))] dX8_truth_40 0 rfl (nI_1 _) (Nat.le_of_ble_eq_true rfl) rfl ?_
      refine V_goto 20 dX8_truth_43 (by decide) ?_
      refine V_lv [(1, .int (nI (i + 1))), (0, .ref (G.2.1 29))] [0, 1] rfl ?_
      refine V_S (S2 := cpT S (i + 1)) (cpT_s S i) ?_
      exact ih (i + 1) (by omega) (by omega)
theorem c_X8_truth {G : GX} {d : Nat} {S : ST} {y : Nat} {Q : Int32 → ST → Prop} (hg : S.1 12 = nI y) (hy : y ≤ 40) (hq : ∀ S2, FrE S S2 → (¬ flt (S.2.2.1 38) y y [0] = -6 → Q (-5) S2) ∧ (flt (S.2.2.1 38) y y [0] = -6 → Q (nI y) (setI (cpT (setI S2 13 (nI y)) y) 12 0))) : Cn G (d + 2) mX8_truth [.ref (G.2.1 29)] S (qi Q) := by
  refine Cn.intro (lv := [(0, .ref (G.2.1 29))]) (by decide) (Nat.le_of_ble_eq_true rfl) rfl ?_
  refine V_aload_n dX8_truth_0 rfl 0 rfl ?_
  refine V_cVi (P := pM G (d + 2) mX8_truth _) (d := d + 1) 29 (r := []) (As := []) (K := mX8_faultOf) ok_X8_faultOf tw_872 (ob_29 _) rfl (rmOk (Nat.le_of_ble_eq_true rfl)) (Nat.le_of_ble_eq_true rfl) dX8_truth_1 rfl (c_X8_faultOf hg hy (fun S2 hF => ?_))
  refine V_if_lt 10 dX8_truth_4 (by decide) (fun h1 => ?_) (fun h1 => ?_)
  · refine V_aload_n dX8_truth_10 rfl 0 rfl ?_
    refine V_aload_n dX8_truth_11 rfl 0 rfl ?_
    refine g_29_10 tw_638 dX8_truth_12 ?_
    refine V_topi (v := nI y) ((show S2.1 12 = nI y by rw [hF.1]; exact hg)) ?_
    refine p_29_12 tw_640 dX8_truth_15 ?_
    refine V_iconst (v := 0) dX8_truth_18 ki_0 ?_
    refine V_istore_n [(1, .int 0), (0, .ref (G.2.1 29))] dX8_truth_19 rfl (Nat.le_of_ble_eq_true rfl) rfl ?_
    refine V_lv [(1, .int 0), (0, .ref (G.2.1 29))] [0, 1] rfl ?_
    refine V_lveq [(1, .int (nI 0)), (0, .ref (G.2.1 29))] (by rfl) ?_
    refine V_S (S2 := cpT (setI S2 13 (nI y)) 0) ((cpT_0 _).symm) ?_
    exact lp_cpt (S := setI S2 13 (nI y)) (show S2.1 12 = nI y by rw [hF.1]; exact hg) hy ((hq S2 hF).2 ((flt_n hy).mp h1)) (y + 1) 0 (by omega) (by omega)
  · refine V_bipush (v := -5) dX8_truth_7 kb_m5 ?_
    exact V_iret rfl dX8_truth_9 ⟨_, rfl, (hq S2 hF).1 (fun z => h1 ((flt_n hy).mpr z))⟩
