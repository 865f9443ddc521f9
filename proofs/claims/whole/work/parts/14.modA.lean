theorem kn_m1 (n : Nat) : kn n (-1) = false := kn_f.mpr (fun h => absurd h.1 (by decide))
def msm (n : Nat) (a b : Int32) : Bool := if a = -1 then decide (b = -1) else kn n a && (decide (b = -1) || (kn n b && decide (b ≠ a)))
theorem msm_mso (n : Nat) (a b : Int32) : msm n a b = mso n a b := by
  unfold msm mso
  by_cases ha : a = -1
  · subst ha
    by_cases hb : b = -1
    · simp [hb]
    · simp [hb, kn_m1]
  · by_cases hb : b = -1
    · simp [ha, hb]
    · have e : decide (b ≠ a) = decide (a ≠ b) := by congr 1; apply propext; exact ⟨Ne.symm, Ne.symm⟩
      simp only [ha, hb, if_false, decide_false, Bool.false_or, e, Bool.and_assoc]
def nhm (n : Nat) (h : Nat → Int32) (a b : Int32) : Int32 := (1 : Int32) <<< (nI n &&& 31) ||| hbo n h a ||| hbo n h b
def addM (S : ST) (n : Nat) (a b sz : Int32) : ST := setI (setI (setA (setA (setA (setA (setA S 30 n (nhm n (S.2.2.1 30) a b)) 31 n sz) 32 n 1) 33 n 0) 34 n 0) 10 (nI (n + 1))) 15 0
def verRm (n : Nat) (a b sz : Int32) : Int32 := if msm n a b then (if fr sz 1 9 then (if n = 12 then -4 else nI n) else -2) else -1
def verSm (S : ST) (n : Nat) (a b sz : Int32) : ST := if msm n a b then (if fr sz 1 9 then (if n = 12 then S else addM S n a b sz) else S) else S
theorem c_X8_version {G : GX} {d : Nat} {S : ST} {a b sz : Int32} {n : Nat} {Q : Int32 → ST → Prop} (hn : S.1 10 = nI n) (h12 : n ≤ 12) (hq : Q (verRm n a b sz) (verSm S n a b sz)) : Cn G (d + 2) mX8_version [.ref (G.2.1 29), .int a, .int b, .int sz] S (qi Q) := by
  refine Cn.intro (lv := [(0, .ref (G.2.1 29)), (1, .int a), (2, .int b), (3, .int sz)]) (by decide) (Nat.le_of_ble_eq_true rfl) rfl ?_
  refine V_iload_n dX8_version_0 rfl 1 rfl ?_
  refine V_iconst (v := -1) dX8_version_1 ki_m1 ?_
  refine V_icmp_ne 18 dX8_version_2 (by decide) (fun h1 => ?_) (fun h1 => ?_)
  · refine V_aload_n dX8_version_18 rfl 0 rfl ?_
    refine V_iload_n dX8_version_19 rfl 1 rfl ?_
    refine V_cVi (P := pM G (d + 2) mX8_version _) (d := d + 1) 29 (r := []) (As := [.int a]) (K := mX8_isVersion) ok_X8_isVersion tw_717 (ob_29 _) rfl (rmOk (Nat.le_of_ble_eq_true rfl)) (Nat.le_of_ble_eq_true rfl) dX8_version_20 rfl (c_X8_isVersion hn h12 ?_)
    refine V_ifb_eq 48 dX8_version_23 (by decide) (fun h2 => ?_) (fun h2 => ?_)
    · refine V_iconst (v := 0) dX8_version_48 ki_0 ?_
      refine V_istore [(4, .int 0), (0, .ref (G.2.1 29)), (1, .int a), (2, .int b), (3, .int sz)] dX8_version_49 (Nat.le_of_ble_eq_true rfl) rfl ?_
      refine V_iload dX8_version_51 0 rfl ?_
      refine V_if_ne 58 dX8_version_53 (by decide) (fun hz => absurd hz (by decide)) (fun _ => ?_)
      refine V_iconst (v := -1) dX8_version_56 ki_m1 ?_
      refine V_iret rfl dX8_version_57 ⟨_, rfl, ?_⟩
      exact qcast2 hq (by simp [verRm, verSm, msm, h1, h2]) (by simp [verRm, verSm, msm, h1, h2])
    · obtain ⟨ja, hja, rfl⟩ := kn_ex h2 (by omega)
      refine V_iload_n dX8_version_26 rfl 2 rfl ?_
      refine V_iconst (v := -1) dX8_version_27 ki_m1 ?_
      refine V_icmp_eq 44 dX8_version_28 (by decide) (fun h3 => ?_) (fun h3 => ?_)
      · subst h3
        refine V_iconst (v := 1) dX8_version_44 ki_1 ?_
        refine V_goto 49 dX8_version_45 (by decide) ?_
        refine V_istore [(4, .int 1), (0, .ref (G.2.1 29)), (1, .int (nI ja)), (2, .int (-1)), (3, .int sz)] dX8_version_49 (Nat.le_of_ble_eq_true rfl) rfl ?_
        refine V_iload dX8_version_51 0 rfl ?_
        refine V_if_ne 58 dX8_version_53 (by decide) (fun _ => ?_) (fun hz => absurd hz (by decide))
        refine V_iload_n dX8_version_58 rfl 4 rfl ?_
        refine V_iconst (v := 1) dX8_version_59 ki_1 ?_
        refine V_bipush (v := 9) dX8_version_60 kb_9 ?_
        refine V_cSi (P := pM G (d + 2) mX8_version _) (d := d + 1) (r := []) (As := [.int sz, .int 1, .int 9]) (K := mX8_in) ok_X8_in tw_721 rfl (rmOk (Nat.le_of_ble_eq_true rfl)) (Nat.le_of_ble_eq_true rfl) dX8_version_62 rfl (c_X8_in ?_)
        refine V_ifb_ne 71 dX8_version_65 (by decide) (fun h4 => ?_) (fun h4 => ?_)
        · refine V_aload_n dX8_version_71 rfl 1 rfl ?_
          refine g_29_0 tw_628 dX8_version_72 ?_
          refine V_topi (v := nI n) (hn) ?_
          refine V_bipush (v := 12) dX8_version_75 kb_12 ?_
          refine V_icmp_nen 83 (a := n) (b := 12) dX8_version_77 (by decide) (by omega) (by omega) (fun h5 => ?_) (fun h5 => ?_)
          · refine V_aload_n dX8_version_83 rfl 1 rfl ?_
            refine g_29_1 tw_629 dX8_version_84 ?_
            refine V_aload_n dX8_version_87 rfl 1 rfl ?_
            refine g_29_0 tw_628 dX8_version_88 ?_
            refine V_topi (v := nI n) (hn) ?_
            refine V_iconst (v := 1) dX8_version_91 ki_1 ?_
            refine V_aload_n dX8_version_92 rfl 1 rfl ?_
            refine g_29_0 tw_628 dX8_version_93 ?_
            refine V_topi (v := nI n) (hn) ?_
            refine V_ishl dX8_version_96 ?_
            refine V_iload_n dX8_version_97 rfl 2 rfl ?_
            refine V_if_gen 105 (a := ja) dX8_version_98 (by decide) (by omega) (fun _ => ?_) (fun hz => hz.elim)
            refine V_aload_n dX8_version_105 rfl 1 rfl ?_
            refine g_29_1 tw_629 dX8_version_106 ?_
            refine V_iload_n dX8_version_109 rfl 2 rfl ?_
            refine l_30n (by omega) dX8_version_110 ?_
            refine V_ior dX8_version_111 ?_
            refine V_iload_n dX8_version_112 rfl 3 rfl ?_
            refine V_if_ge 120 dX8_version_113 (by decide) (fun hz => absurd hz (by decide)) (fun _ => ?_)
            refine V_iconst (v := 0) dX8_version_116 ki_0 ?_
            refine V_goto 126 dX8_version_117 (by decide) ?_
            refine V_ior dX8_version_126 ?_
            refine s_30n (by omega) dX8_version_127 ?_
            refine V_aload_n dX8_version_128 rfl 1 rfl ?_
            refine g_29_2 tw_630 dX8_version_129 ?_
            refine V_aload_n dX8_version_132 rfl 1 rfl ?_
            refine g_29_0 tw_628 dX8_version_133 ?_
            refine V_topi (v := S.1 10) rfl ?_
            refine V_topi (v := nI n) (hn) ?_
            refine V_iload_n dX8_version_136 rfl 4 rfl ?_
            refine s_31n (by omega) dX8_version_137 ?_
            refine V_aload_n dX8_version_138 rfl 1 rfl ?_
            refine g_29_3 tw_631 dX8_version_139 ?_
            refine V_aload_n dX8_version_142 rfl 1 rfl ?_
            refine g_29_0 tw_628 dX8_version_143 ?_
            refine V_topi (v := S.1 10) rfl ?_
            refine V_topi (v := nI n) (hn) ?_
            refine V_iconst (v := 1) dX8_version_146 ki_1 ?_
            refine s_32n (by omega) dX8_version_147 ?_
            refine V_aload_n dX8_version_148 rfl 1 rfl ?_
            refine g_29_4 tw_632 dX8_version_149 ?_
            refine V_aload_n dX8_version_152 rfl 1 rfl ?_
            refine g_29_0 tw_628 dX8_version_153 ?_
            refine V_topi (v := S.1 10) rfl ?_
            refine V_topi (v := nI n) (hn) ?_
            refine V_iconst (v := 0) dX8_version_156 ki_0 ?_
            refine s_33n (by omega) dX8_version_157 ?_
            refine V_aload_n dX8_version_158 rfl 1 rfl ?_
            refine g_29_5 tw_633 dX8_version_159 ?_
            refine V_aload_n dX8_version_162 rfl 1 rfl ?_
            refine g_29_0 tw_628 dX8_version_163 ?_
            refine V_topi (v := S.1 10) rfl ?_
            refine V_topi (v := nI n) (hn) ?_
            refine V_iconst (v := 0) dX8_version_166 ki_0 ?_
            refine s_34n (by omega) dX8_version_167 ?_
            refine V_aload_n dX8_version_168 rfl 1 rfl ?_
            refine V_dup dX8_version_169 rfl ?_
            refine g_29_0 tw_628 dX8_version_170 ?_
            refine V_topi (v := S.1 10) rfl ?_
            refine V_topi (v := nI n) (hn) ?_
            refine V_iconst (v := 1) dX8_version_173 ki_1 ?_
            refine V_iadd dX8_version_174 ?_
            refine V_topi (v := nI (n + 1)) (nI_1 _) ?_
            refine p_29_0 tw_628 dX8_version_175 ?_
            refine V_aload_n dX8_version_178 rfl 1 rfl ?_
            refine V_iconst (v := 0) dX8_version_179 ki_0 ?_
            refine p_29_20 (by decide) tw_648 dX8_version_180 ?_
            refine V_aload_n dX8_version_183 rfl 1 rfl ?_
            refine g_29_0 tw_628 dX8_version_184 ?_
            refine V_topi (v := nI (n + 1)) rfl ?_
            refine V_iconst (v := 1) dX8_version_187 ki_1 ?_
            refine V_isub dX8_version_188 ?_
            refine V_topi (v := nI n) (nI_pred n) ?_
            refine V_iret rfl dX8_version_189 ⟨_, rfl, ?_⟩
            exact qcast2 hq (by simp [verRm, verSm, msm, h1, h2, h4, h5]) (by simp [verRm, verSm, msm, h1, h2, h4, h5, addM, nhm, hbo, kn_m1, vpz0, nI_clamp (show ja < 2 ^ 31 by omega)])
          · subst h5
            refine V_bipush (v := -4) dX8_version_80 kb_m4 ?_
            refine V_iret rfl dX8_version_82 ⟨_, rfl, ?_⟩
            exact qcast2 hq (by simp [verRm, verSm, msm, h1, h2, h4]) (by simp [verRm, verSm, msm, h1, h2, h4])
        · refine V_bipush (v := -2) dX8_version_68 kb_m2 ?_
          refine V_iret rfl dX8_version_70 ⟨_, rfl, ?_⟩
          exact qcast2 hq (by simp [verRm, verSm, msm, h1, h2, h4]) (by simp [verRm, verSm, msm, h1, h2, h4])
      · refine V_aload_n dX8_version_31 rfl 0 rfl ?_
        refine V_iload_n dX8_version_32 rfl 2 rfl ?_
        refine V_cVi (P := pM G (d + 2) mX8_version _) (d := d + 1) 29 (r := []) (As := [.int b]) (K := mX8_isVersion) ok_X8_isVersion tw_717 (ob_29 _) rfl (rmOk (Nat.le_of_ble_eq_true rfl)) (Nat.le_of_ble_eq_true rfl) dX8_version_33 rfl (c_X8_isVersion hn h12 ?_)
        refine V_ifb_eq 48 dX8_version_36 (by decide) (fun h6 => ?_) (fun h6 => ?_)
        · refine V_iconst (v := 0) dX8_version_48 ki_0 ?_
          refine V_istore [(4, .int 0), (0, .ref (G.2.1 29)), (1, .int (nI ja)), (2, .int b), (3, .int sz)] dX8_version_49 (Nat.le_of_ble_eq_true rfl) rfl ?_
          refine V_iload dX8_version_51 0 rfl ?_
          refine V_if_ne 58 dX8_version_53 (by decide) (fun hz => absurd hz (by decide)) (fun _ => ?_)
          refine V_iconst (v := -1) dX8_version_56 ki_m1 ?_
          refine V_iret rfl dX8_version_57 ⟨_, rfl, ?_⟩
          exact qcast2 hq (by simp [verRm, verSm, msm, h1, h2, h3, h6]) (by simp [verRm, verSm, msm, h1, h2, h3, h6])
        · obtain ⟨jb, hjb, rfl⟩ := kn_ex h6 (by omega)
          refine V_iload_n dX8_version_39 rfl 2 rfl ?_
          refine V_iload_n dX8_version_40 rfl 1 rfl ?_
          refine V_icmp_eqn 48 (a := jb) (b := ja) dX8_version_41 (by decide) (by omega) (by omega) (fun h7 => ?_) (fun h7 => ?_)
          · refine V_iconst (v := 0) dX8_version_48 ki_0 ?_
            refine V_istore [(4, .int 0), (0, .ref (G.2.1 29)), (1, .int (nI ja)), (2, .int (nI jb)), (3, .int sz)] dX8_version_49 (Nat.le_of_ble_eq_true rfl) rfl ?_
            refine V_iload dX8_version_51 0 rfl ?_
            refine V_if_ne 58 dX8_version_53 (by decide) (fun hz => absurd hz (by decide)) (fun _ => ?_)
            refine V_iconst (v := -1) dX8_version_56 ki_m1 ?_
            refine V_iret rfl dX8_version_57 ⟨_, rfl, ?_⟩
            exact qcast2 hq (by simp [verRm, verSm, msm, h1, h2, h3, h6, h7, nI_eq (show jb < 2 ^ 31 by omega) (show ja < 2 ^ 31 by omega)]) (by simp [verRm, verSm, msm, h1, h2, h3, h6, h7, nI_eq (show jb < 2 ^ 31 by omega) (show ja < 2 ^ 31 by omega)])
          · refine V_iconst (v := 1) dX8_version_44 ki_1 ?_
            refine V_goto 49 dX8_version_45 (by decide) ?_
            refine V_istore [(4, .int 1), (0, .ref (G.2.1 29)), (1, .int (nI ja)), (2, .int (nI jb)), (3, .int sz)] dX8_version_49 (Nat.le_of_ble_eq_true rfl) rfl ?_
            refine V_iload dX8_version_51 0 rfl ?_
            refine V_if_ne 58 dX8_version_53 (by decide) (fun _ => ?_) (fun hz => absurd hz (by decide))
            refine V_iload_n dX8_version_58 rfl 4 rfl ?_
            refine V_iconst (v := 1) dX8_version_59 ki_1 ?_
            refine V_bipush (v := 9) dX8_version_60 kb_9 ?_
            refine V_cSi (P := pM G (d + 2) mX8_version _) (d := d + 1) (r := []) (As := [.int sz, .int 1, .int 9]) (K := mX8_in) ok_X8_in tw_721 rfl (rmOk (Nat.le_of_ble_eq_true rfl)) (Nat.le_of_ble_eq_true rfl) dX8_version_62 rfl (c_X8_in ?_)
            refine V_ifb_ne 71 dX8_version_65 (by decide) (fun h8 => ?_) (fun h8 => ?_)
            · refine V_aload_n dX8_version_71 rfl 1 rfl ?_
              refine g_29_0 tw_628 dX8_version_72 ?_
              refine V_topi (v := nI n) (hn) ?_
              refine V_bipush (v := 12) dX8_version_75 kb_12 ?_
              refine V_icmp_nen 83 (a := n) (b := 12) dX8_version_77 (by decide) (by omega) (by omega) (fun h9 => ?_) (fun h9 => ?_)
              · refine V_aload_n dX8_version_83 rfl 1 rfl ?_
                refine g_29_1 tw_629 dX8_version_84 ?_
                refine V_aload_n dX8_version_87 rfl 1 rfl ?_
                refine g_29_0 tw_628 dX8_version_88 ?_
                refine V_topi (v := nI n) (hn) ?_
                refine V_iconst (v := 1) dX8_version_91 ki_1 ?_
                refine V_aload_n dX8_version_92 rfl 1 rfl ?_
                refine g_29_0 tw_628 dX8_version_93 ?_
                refine V_topi (v := nI n) (hn) ?_
                refine V_ishl dX8_version_96 ?_
                refine V_iload_n dX8_version_97 rfl 2 rfl ?_
                refine V_if_gen 105 (a := ja) dX8_version_98 (by decide) (by omega) (fun _ => ?_) (fun hz => hz.elim)
                refine V_aload_n dX8_version_105 rfl 1 rfl ?_
                refine g_29_1 tw_629 dX8_version_106 ?_
                refine V_iload_n dX8_version_109 rfl 2 rfl ?_
                refine l_30n (by omega) dX8_version_110 ?_
                refine V_ior dX8_version_111 ?_
                refine V_iload_n dX8_version_112 rfl 3 rfl ?_
                refine V_if_gen 120 (a := jb) dX8_version_113 (by decide) (by omega) (fun _ => ?_) (fun hz => hz.elim)
                refine V_aload_n dX8_version_120 rfl 1 rfl ?_
                refine g_29_1 tw_629 dX8_version_121 ?_
                refine V_iload_n dX8_version_124 rfl 3 rfl ?_
                refine l_30n (by omega) dX8_version_125 ?_
                refine V_ior dX8_version_126 ?_
                refine s_30n (by omega) dX8_version_127 ?_
                refine V_aload_n dX8_version_128 rfl 1 rfl ?_
                refine g_29_2 tw_630 dX8_version_129 ?_
                refine V_aload_n dX8_version_132 rfl 1 rfl ?_
                refine g_29_0 tw_628 dX8_version_133 ?_
                refine V_topi (v := S.1 10) rfl ?_
                refine V_topi (v := nI n) (hn) ?_
                refine V_iload_n dX8_version_136 rfl 4 rfl ?_
                refine s_31n (by omega) dX8_version_137 ?_
                refine V_aload_n dX8_version_138 rfl 1 rfl ?_
                refine g_29_3 tw_631 dX8_version_139 ?_
                refine V_aload_n dX8_version_142 rfl 1 rfl ?_
                refine g_29_0 tw_628 dX8_version_143 ?_
                refine V_topi (v := S.1 10) rfl ?_
                refine V_topi (v := nI n) (hn) ?_
                refine V_iconst (v := 1) dX8_version_146 ki_1 ?_
                refine s_32n (by omega) dX8_version_147 ?_
                refine V_aload_n dX8_version_148 rfl 1 rfl ?_
                refine g_29_4 tw_632 dX8_version_149 ?_
                refine V_aload_n dX8_version_152 rfl 1 rfl ?_
                refine g_29_0 tw_628 dX8_version_153 ?_
                refine V_topi (v := S.1 10) rfl ?_
                refine V_topi (v := nI n) (hn) ?_
                refine V_iconst (v := 0) dX8_version_156 ki_0 ?_
                refine s_33n (by omega) dX8_version_157 ?_
                refine V_aload_n dX8_version_158 rfl 1 rfl ?_
                refine g_29_5 tw_633 dX8_version_159 ?_
                refine V_aload_n dX8_version_162 rfl 1 rfl ?_
                refine g_29_0 tw_628 dX8_version_163 ?_
                refine V_topi (v := S.1 10) rfl ?_
                refine V_topi (v := nI n) (hn) ?_
                refine V_iconst (v := 0) dX8_version_166 ki_0 ?_
                refine s_34n (by omega) dX8_version_167 ?_
                refine V_aload_n dX8_version_168 rfl 1 rfl ?_
                refine V_dup dX8_version_169 rfl ?_
                refine g_29_0 tw_628 dX8_version_170 ?_
                refine V_topi (v := S.1 10) rfl ?_
                refine V_topi (v := nI n) (hn) ?_
                refine V_iconst (v := 1) dX8_version_173 ki_1 ?_
                refine V_iadd dX8_version_174 ?_
                refine V_topi (v := nI (n + 1)) (nI_1 _) ?_
                refine p_29_0 tw_628 dX8_version_175 ?_
                refine V_aload_n dX8_version_178 rfl 1 rfl ?_
                refine V_iconst (v := 0) dX8_version_179 ki_0 ?_
                refine p_29_20 (by decide) tw_648 dX8_version_180 ?_
                refine V_aload_n dX8_version_183 rfl 1 rfl ?_
                refine g_29_0 tw_628 dX8_version_184 ?_
                refine V_topi (v := nI (n + 1)) rfl ?_
                refine V_iconst (v := 1) dX8_version_187 ki_1 ?_
                refine V_isub dX8_version_188 ?_
                refine V_topi (v := nI n) (nI_pred n) ?_
                refine V_iret rfl dX8_version_189 ⟨_, rfl, ?_⟩
                exact qcast2 hq (by simp [verRm, verSm, msm, h1, h2, h3, h6, h7, h8, h9, nI_eq (show jb < 2 ^ 31 by omega) (show ja < 2 ^ 31 by omega)]) (by simp [verRm, verSm, msm, h1, h2, h3, h6, h7, h8, h9, nI_eq (show jb < 2 ^ 31 by omega) (show ja < 2 ^ 31 by omega), addM, nhm, hbo, kn_m1, vpz0, nI_clamp (show ja < 2 ^ 31 by omega), nI_clamp (show jb < 2 ^ 31 by omega)])
              · subst h9
                refine V_bipush (v := -4) dX8_version_80 kb_m4 ?_
                refine V_iret rfl dX8_version_82 ⟨_, rfl, ?_⟩
                exact qcast2 hq (by simp [verRm, verSm, msm, h1, h2, h3, h6, h7, h8, nI_eq (show jb < 2 ^ 31 by omega) (show ja < 2 ^ 31 by omega)]) (by simp [verRm, verSm, msm, h1, h2, h3, h6, h7, h8, nI_eq (show jb < 2 ^ 31 by omega) (show ja < 2 ^ 31 by omega)])
            · refine V_bipush (v := -2) dX8_version_68 kb_m2 ?_
              refine V_iret rfl dX8_version_70 ⟨_, rfl, ?_⟩
              exact qcast2 hq (by simp [verRm, verSm, msm, h1, h2, h3, h6, h7, h8, nI_eq (show jb < 2 ^ 31 by omega) (show ja < 2 ^ 31 by omega)]) (by simp [verRm, verSm, msm, h1, h2, h3, h6, h7, h8, nI_eq (show jb < 2 ^ 31 by omega) (show ja < 2 ^ 31 by omega)])
  · subst h1
    refine V_iload_n dX8_version_5 rfl 2 rfl ?_
    refine V_iconst (v := -1) dX8_version_6 ki_m1 ?_
    refine V_icmp_ne 14 dX8_version_7 (by decide) (fun h10 => ?_) (fun h10 => ?_)
    · refine V_iconst (v := 0) dX8_version_14 ki_0 ?_
      refine V_goto 49 dX8_version_15 (by decide) ?_
      refine V_istore [(4, .int 0), (0, .ref (G.2.1 29)), (1, .int (-1)), (2, .int b), (3, .int sz)] dX8_version_49 (Nat.le_of_ble_eq_true rfl) rfl ?_
      refine V_iload dX8_version_51 0 rfl ?_
      refine V_if_ne 58 dX8_version_53 (by decide) (fun hz => absurd hz (by decide)) (fun _ => ?_)
      refine V_iconst (v := -1) dX8_version_56 ki_m1 ?_
      refine V_iret rfl dX8_version_57 ⟨_, rfl, ?_⟩
      exact qcast2 hq (by simp [verRm, verSm, msm, h10]) (by simp [verRm, verSm, msm, h10])
    · subst h10
      refine V_iconst (v := 1) dX8_version_10 ki_1 ?_
      refine V_goto 49 dX8_version_11 (by decide) ?_
      refine V_istore [(4, .int 1), (0, .ref (G.2.1 29)), (1, .int (-1)), (2, .int (-1)), (3, .int sz)] dX8_version_49 (Nat.le_of_ble_eq_true rfl) rfl ?_
      refine V_iload dX8_version_51 0 rfl ?_
      refine V_if_ne 58 dX8_version_53 (by decide) (fun _ => ?_) (fun hz => absurd hz (by decide))
      refine V_iload_n dX8_version_58 rfl 4 rfl ?_
      refine V_iconst (v := 1) dX8_version_59 ki_1 ?_
      refine V_bipush (v := 9) dX8_version_60 kb_9 ?_
      refine V_cSi (P := pM G (d + 2) mX8_version _) (d := d + 1) (r := []) (As := [.int sz, .int 1, .int 9]) (K := mX8_in) ok_X8_in tw_721 rfl (rmOk (Nat.le_of_ble_eq_true rfl)) (Nat.le_of_ble_eq_true rfl) dX8_version_62 rfl (c_X8_in ?_)
      refine V_ifb_ne 71 dX8_version_65 (by decide) (fun h11 => ?_) (fun h11 => ?_)
      · refine V_aload_n dX8_version_71 rfl 1 rfl ?_
        refine g_29_0 tw_628 dX8_version_72 ?_
        refine V_topi (v := nI n) (hn) ?_
        refine V_bipush (v := 12) dX8_version_75 kb_12 ?_
        refine V_icmp_nen 83 (a := n) (b := 12) dX8_version_77 (by decide) (by omega) (by omega) (fun h12 => ?_) (fun h12 => ?_)
        · refine V_aload_n dX8_version_83 rfl 1 rfl ?_
          refine g_29_1 tw_629 dX8_version_84 ?_
          refine V_aload_n dX8_version_87 rfl 1 rfl ?_
          refine g_29_0 tw_628 dX8_version_88 ?_
          refine V_topi (v := nI n) (hn) ?_
          refine V_iconst (v := 1) dX8_version_91 ki_1 ?_
          refine V_aload_n dX8_version_92 rfl 1 rfl ?_
          refine g_29_0 tw_628 dX8_version_93 ?_
          refine V_topi (v := nI n) (hn) ?_
          refine V_ishl dX8_version_96 ?_
          refine V_iload_n dX8_version_97 rfl 2 rfl ?_
          refine V_if_ge 105 dX8_version_98 (by decide) (fun hz => absurd hz (by decide)) (fun _ => ?_)
          refine V_iconst (v := 0) dX8_version_101 ki_0 ?_
          refine V_goto 111 dX8_version_102 (by decide) ?_
          refine V_ior dX8_version_111 ?_
          refine V_iload_n dX8_version_112 rfl 3 rfl ?_
          refine V_if_ge 120 dX8_version_113 (by decide) (fun hz => absurd hz (by decide)) (fun _ => ?_)
          refine V_iconst (v := 0) dX8_version_116 ki_0 ?_
          refine V_goto 126 dX8_version_117 (by decide) ?_
          refine V_ior dX8_version_126 ?_
          refine s_30n (by omega) dX8_version_127 ?_
          refine V_aload_n dX8_version_128 rfl 1 rfl ?_
          refine g_29_2 tw_630 dX8_version_129 ?_
          refine V_aload_n dX8_version_132 rfl 1 rfl ?_
          refine g_29_0 tw_628 dX8_version_133 ?_
          refine V_topi (v := S.1 10) rfl ?_
          refine V_topi (v := nI n) (hn) ?_
          refine V_iload_n dX8_version_136 rfl 4 rfl ?_
          refine s_31n (by omega) dX8_version_137 ?_
          refine V_aload_n dX8_version_138 rfl 1 rfl ?_
          refine g_29_3 tw_631 dX8_version_139 ?_
          refine V_aload_n dX8_version_142 rfl 1 rfl ?_
          refine g_29_0 tw_628 dX8_version_143 ?_
          refine V_topi (v := S.1 10) rfl ?_
          refine V_topi (v := nI n) (hn) ?_
          refine V_iconst (v := 1) dX8_version_146 ki_1 ?_
          refine s_32n (by omega) dX8_version_147 ?_
          refine V_aload_n dX8_version_148 rfl 1 rfl ?_
          refine g_29_4 tw_632 dX8_version_149 ?_
          refine V_aload_n dX8_version_152 rfl 1 rfl ?_
          refine g_29_0 tw_628 dX8_version_153 ?_
          refine V_topi (v := S.1 10) rfl ?_
          refine V_topi (v := nI n) (hn) ?_
          refine V_iconst (v := 0) dX8_version_156 ki_0 ?_
          refine s_33n (by omega) dX8_version_157 ?_
          refine V_aload_n dX8_version_158 rfl 1 rfl ?_
          refine g_29_5 tw_633 dX8_version_159 ?_
          refine V_aload_n dX8_version_162 rfl 1 rfl ?_
          refine g_29_0 tw_628 dX8_version_163 ?_
          refine V_topi (v := S.1 10) rfl ?_
          refine V_topi (v := nI n) (hn) ?_
          refine V_iconst (v := 0) dX8_version_166 ki_0 ?_
          refine s_34n (by omega) dX8_version_167 ?_
          refine V_aload_n dX8_version_168 rfl 1 rfl ?_
          refine V_dup dX8_version_169 rfl ?_
          refine g_29_0 tw_628 dX8_version_170 ?_
          refine V_topi (v := S.1 10) rfl ?_
          refine V_topi (v := nI n) (hn) ?_
          refine V_iconst (v := 1) dX8_version_173 ki_1 ?_
          refine V_iadd dX8_version_174 ?_
          refine V_topi (v := nI (n + 1)) (nI_1 _) ?_
          refine p_29_0 tw_628 dX8_version_175 ?_
          refine V_aload_n dX8_version_178 rfl 1 rfl ?_
          refine V_iconst (v := 0) dX8_version_179 ki_0 ?_
          refine p_29_20 (by decide) tw_648 dX8_version_180 ?_
          refine V_aload_n dX8_version_183 rfl 1 rfl ?_
          refine g_29_0 tw_628 dX8_version_184 ?_
          refine V_topi (v := nI (n + 1)) rfl ?_
          refine V_iconst (v := 1) dX8_version_187 ki_1 ?_
          refine V_isub dX8_version_188 ?_
          refine V_topi (v := nI n) (nI_pred n) ?_
          refine V_iret rfl dX8_version_189 ⟨_, rfl, ?_⟩
          exact qcast2 hq (by simp [verRm, verSm, msm, h11, h12]) (by simp [verRm, verSm, msm, h11, h12, addM, nhm, hbo, kn_m1, vpz0])
        · subst h12
          refine V_bipush (v := -4) dX8_version_80 kb_m4 ?_
          refine V_iret rfl dX8_version_82 ⟨_, rfl, ?_⟩
          exact qcast2 hq (by simp [verRm, verSm, msm, h11]) (by simp [verRm, verSm, msm, h11])
      · refine V_bipush (v := -2) dX8_version_68 kb_m2 ?_
        refine V_iret rfl dX8_version_70 ⟨_, rfl, ?_⟩
        exact qcast2 hq (by simp [verRm, verSm, msm, h11]) (by simp [verRm, verSm, msm, h11])
theorem c_X8_has {G : GX} {d : Nat} {S : ST} {v : Int32} {n : Nat} {Q : Int32 → ST → Prop} (hn : S.1 10 = nI n) (h12 : n ≤ 12) (hq : Q (if kn n v then S.2.2.1 30 v.toNatClampNeg else -1) S) : Cn G (d + 2) mX8_has [.ref (G.2.1 29), .int v] S (qi Q) := by
  refine Cn.intro (lv := [(0, .ref (G.2.1 29)), (1, .int v)]) (by decide) (Nat.le_of_ble_eq_true rfl) rfl ?_
  refine V_aload_n dX8_has_0 rfl 0 rfl ?_
  refine V_iload_n dX8_has_1 rfl 1 rfl ?_
  refine V_cVi (P := pM G (d + 2) mX8_has _) (d := d + 1) 29 (r := []) (As := [.int v]) (K := mX8_isVersion) ok_X8_isVersion tw_717 (ob_29 _) rfl (rmOk (Nat.le_of_ble_eq_true rfl)) (Nat.le_of_ble_eq_true rfl) dX8_has_2 rfl (c_X8_isVersion hn h12 ?_)
  refine V_ifb_eq 17 dX8_has_5 (by decide) (fun h1 => ?_) (fun h1 => ?_)
  · refine V_iconst (v := -1) dX8_has_17 ki_m1 ?_
    refine V_iret rfl dX8_has_18 ⟨_, rfl, ?_⟩
    exact qcast hq (by simp [h1])
  · refine V_aload_n dX8_has_8 rfl 0 rfl ?_
    refine g_29_1 tw_629 dX8_has_9 ?_
    refine V_iload_n dX8_has_12 rfl 1 rfl ?_
    refine l_30 (vp_kn h1 (by omega) h12 (by decide)) dX8_has_13 ?_
    refine V_goto 18 dX8_has_14 (by decide) ?_
    refine V_iret rfl dX8_has_18 ⟨_, rfl, ?_⟩
    exact qcast hq (by simp [h1])
theorem c_X8_untest {G : GX} {d : Nat} {S : ST} {t : Nat} {Q : Int32 → ST → Prop} (ht : S.1 11 = nI t) (t12 : t ≤ 12) (hq : Q (if 0 < t then nI (t - 1) else -5) (if 0 < t then setI S 11 (nI (t - 1)) else S)) : Cn G d mX8_untest [.ref (G.2.1 29)] S (qi Q) := by
  refine Cn.intro (lv := [(0, .ref (G.2.1 29))]) (by decide) (Nat.le_of_ble_eq_true rfl) rfl ?_
  refine V_aload_n dX8_untest_0 rfl 0 rfl ?_
  refine g_29_6 tw_634 dX8_untest_1 ?_
  refine V_topi (v := nI t) (ht) ?_
  refine V_if_nen 10 (a := t) dX8_untest_4 (by decide) (by omega) (fun h1 => ?_) (fun h1 => ?_)
  · refine V_aload_n dX8_untest_10 rfl 0 rfl ?_
    refine V_dup dX8_untest_11 rfl ?_
    refine g_29_6 tw_634 dX8_untest_12 ?_
    refine V_topi (v := nI t) (ht) ?_
    refine V_iconst (v := 1) dX8_untest_15 ki_1 ?_
    refine V_isub dX8_untest_16 ?_
    refine V_topi (v := nI (t - 1)) (pk_sub (a := t) (b := 1) (by omega)) ?_
    refine p_29_6 tw_634 dX8_untest_17 ?_
    refine V_aload_n dX8_untest_20 rfl 0 rfl ?_
    refine g_29_6 tw_634 dX8_untest_21 ?_
    refine V_topi (v := nI (t - 1)) rfl ?_
    refine V_iret rfl dX8_untest_24 ⟨_, rfl, ?_⟩
    exact qcast2 hq (by rw [if_pos h1]) (by rw [if_pos h1])
  · refine V_bipush (v := -5) dX8_untest_7 kb_m5 ?_
    refine V_iret rfl dX8_untest_9 ⟨_, rfl, ?_⟩
    exact qcast2 hq (by rw [if_neg (by omega)]) (by rw [if_neg (by omega)])
theorem c_X8_say {G : GX} {d : Nat} {S : ST} {s : Int32} {g : Nat} {Q : Int32 → ST → Prop} (hg : S.1 12 = nI g) (g40 : g ≤ 40) (hq : Q (if fr s 33 126 then (if g = 40 then -4 else nI (g + 1)) else -2) (if fr s 33 126 then (if g = 40 then S else setI (setA S 38 g s) 12 (nI (g + 1))) else S)) : Cn G (d + 1) mX8_say [.ref (G.2.1 29), .int s] S (qi Q) := by
  refine Cn.intro (lv := [(0, .ref (G.2.1 29)), (1, .int s)]) (by decide) (Nat.le_of_ble_eq_true rfl) rfl ?_
  refine V_iload_n dX8_say_0 rfl 1 rfl ?_
  refine V_bipush (v := 33) dX8_say_1 kb_33 ?_
  refine V_bipush (v := 126) dX8_say_3 kb_126 ?_
  refine V_cSi (P := pM G (d + 1) mX8_say _) (d := d) (r := []) (As := [.int s, .int 33, .int 126]) (K := mX8_in) ok_X8_in tw_721 rfl (rmOk (Nat.le_of_ble_eq_true rfl)) (Nat.le_of_ble_eq_true rfl) dX8_say_5 rfl (c_X8_in ?_)
  refine V_ifb_ne 14 dX8_say_8 (by decide) (fun h1 => ?_) (fun h1 => ?_)
  · refine V_aload_n dX8_say_14 rfl 0 rfl ?_
    refine g_29_10 tw_638 dX8_say_15 ?_
    refine V_topi (v := nI g) (hg) ?_
    refine V_bipush (v := 40) dX8_say_18 kb_40 ?_
    refine V_icmp_nen 26 (a := g) (b := 40) dX8_say_20 (by decide) (by omega) (by omega) (fun h2 => ?_) (fun h2 => ?_)
    · refine V_aload_n dX8_say_26 rfl 0 rfl ?_
      refine g_29_11 tw_639 dX8_say_27 ?_
      refine V_aload_n dX8_say_30 rfl 0 rfl ?_
      refine g_29_10 tw_638 dX8_say_31 ?_
      refine V_topi (v := nI g) (hg) ?_
      refine V_iload_n dX8_say_34 rfl 1 rfl ?_
      refine s_38n (by omega) dX8_say_35 ?_
      refine V_aload_n dX8_say_36 rfl 0 rfl ?_
      refine V_dup dX8_say_37 rfl ?_
      refine g_29_10 tw_638 dX8_say_38 ?_
      refine V_topi (v := S.1 12) rfl ?_
      refine V_topi (v := nI g) (hg) ?_
      refine V_iconst (v := 1) dX8_say_41 ki_1 ?_
      refine V_iadd dX8_say_42 ?_
      refine V_topi (v := nI (g + 1)) (nI_1 _) ?_
      refine p_29_10 tw_638 dX8_say_43 ?_
      refine V_aload_n dX8_say_46 rfl 0 rfl ?_
      refine g_29_10 tw_638 dX8_say_47 ?_
      refine V_topi (v := nI (g + 1)) rfl ?_
      refine V_iret rfl dX8_say_50 ⟨_, rfl, ?_⟩
      exact qcast2 hq (by simp [h1, h2]) (by simp [h1, h2])
    · refine V_bipush (v := -4) dX8_say_23 kb_m4 ?_
      refine V_iret rfl dX8_say_25 ⟨_, rfl, ?_⟩
      exact qcast2 hq (by simp [h1, h2]) (by simp [h1, h2])
  · refine V_bipush (v := -2) dX8_say_11 kb_m2 ?_
    refine V_iret rfl dX8_say_13 ⟨_, rfl, ?_⟩
    exact qcast2 hq (by simp [h1]) (by simp [h1])
theorem c_X8_wipe {G : GX} {d : Nat} {S : ST}  {Q : Int32 → ST → Prop}  (hq : Q (S.1 12) (setI S 12 0)) : Cn G d mX8_wipe [.ref (G.2.1 29)] S (qi Q) := by
  refine Cn.intro (lv := [(0, .ref (G.2.1 29))]) (by decide) (Nat.le_of_ble_eq_true rfl) rfl ?_
  refine V_aload_n dX8_wipe_0 rfl 0 rfl ?_
  refine g_29_10 tw_638 dX8_wipe_1 ?_
  refine V_istore_n [(1, .int (S.1 12)), (0, .ref (G.2.1 29))] dX8_wipe_4 rfl (Nat.le_of_ble_eq_true rfl) rfl ?_
  refine V_aload_n dX8_wipe_5 rfl 1 rfl ?_
  refine V_iconst (v := 0) dX8_wipe_6 ki_0 ?_
  refine p_29_10 tw_638 dX8_wipe_7 ?_
  refine V_iload_n dX8_wipe_10 rfl 0 rfl ?_
  refine V_iret rfl dX8_wipe_11 ⟨_, rfl, ?_⟩
  exact hq
theorem c_X8_test {G : GX} {d : Nat} {S : ST} {v : Int32} {q : Bool} {n t : Nat} {Q : Int32 → ST → Prop} (hn : S.1 10 = nI n) (h12 : n ≤ 12) (ht : S.1 11 = nI t) (t12 : t ≤ 12) (hq : Q (if kn n v then (if S.2.2.1 34 v.toNatClampNeg = 0 then (if t = 12 then -4 else nI t) else -3) else -1) (if kn n v then (if S.2.2.1 34 v.toNatClampNeg = 0 then (if t = 12 then S else setI (setA (setA S 35 t v) 36 t (b2i q)) 11 (nI (t + 1))) else S) else S)) : Cn G (d + 2) mX8_test [.ref (G.2.1 29), .int v, .int (b2i q)] S (qi Q) := by
  refine Cn.intro (lv := [(0, .ref (G.2.1 29)), (1, .int v), (2, .int (b2i q))]) (by decide) (Nat.le_of_ble_eq_true rfl) rfl ?_
  refine V_aload_n dX8_test_0 rfl 0 rfl ?_
  refine V_iload_n dX8_test_1 rfl 1 rfl ?_
  refine V_cVi (P := pM G (d + 2) mX8_test _) (d := d + 1) 29 (r := []) (As := [.int v]) (K := mX8_isVersion) ok_X8_isVersion tw_717 (ob_29 _) rfl (rmOk (Nat.le_of_ble_eq_true rfl)) (Nat.le_of_ble_eq_true rfl) dX8_test_2 rfl (c_X8_isVersion hn h12 ?_)
  refine V_ifb_ne 10 dX8_test_5 (by decide) (fun h1 => ?_) (fun h1 => ?_)
  · refine V_aload_n dX8_test_10 rfl 0 rfl ?_
    refine g_29_5 tw_633 dX8_test_11 ?_
    refine V_iload_n dX8_test_14 rfl 1 rfl ?_
    refine l_34 (vp_kn h1 (by omega) h12 (by decide)) dX8_test_15 ?_
    refine V_if_eq 22 dX8_test_16 (by decide) (fun h2 => ?_) (fun h2 => ?_)
    · refine V_aload_n dX8_test_22 rfl 0 rfl ?_
      refine g_29_6 tw_634 dX8_test_23 ?_
      refine V_topi (v := nI t) (ht) ?_
      refine V_bipush (v := 12) dX8_test_26 kb_12 ?_
      refine V_icmp_nen 34 (a := t) (b := 12) dX8_test_28 (by decide) (by omega) (by omega) (fun h3 => ?_) (fun h3 => ?_)
      · refine V_aload_n dX8_test_34 rfl 0 rfl ?_
        refine g_29_7 tw_635 dX8_test_35 ?_
        refine V_aload_n dX8_test_38 rfl 0 rfl ?_
        refine g_29_6 tw_634 dX8_test_39 ?_
        refine V_topi (v := nI t) (ht) ?_
        refine V_iload_n dX8_test_42 rfl 1 rfl ?_
        refine s_35n (by omega) dX8_test_43 ?_
        refine V_aload_n dX8_test_44 rfl 0 rfl ?_
        refine g_29_8 tw_636 dX8_test_45 ?_
        refine V_aload_n dX8_test_48 rfl 0 rfl ?_
        refine g_29_6 tw_634 dX8_test_49 ?_
        refine V_topi (v := S.1 11) rfl ?_
        refine V_topi (v := nI t) (ht) ?_
        refine V_iload_n dX8_test_52 rfl 2 rfl ?_
        refine s_36n (by omega) dX8_test_53 ?_
        refine V_aload_n dX8_test_54 rfl 0 rfl ?_
        refine V_dup dX8_test_55 rfl ?_
        refine g_29_6 tw_634 dX8_test_56 ?_
        refine V_topi (v := S.1 11) rfl ?_
        refine V_topi (v := nI t) (ht) ?_
        refine V_iconst (v := 1) dX8_test_59 ki_1 ?_
        refine V_iadd dX8_test_60 ?_
        refine V_topi (v := nI (t + 1)) (nI_1 _) ?_
        refine p_29_6 tw_634 dX8_test_61 ?_
        refine V_aload_n dX8_test_64 rfl 0 rfl ?_
        refine g_29_6 tw_634 dX8_test_65 ?_
        refine V_topi (v := nI (t + 1)) rfl ?_
        refine V_iconst (v := 1) dX8_test_68 ki_1 ?_
        refine V_isub dX8_test_69 ?_
        refine V_topi (v := nI t) (nI_pred t) ?_
        refine V_iret rfl dX8_test_70 ⟨_, rfl, ?_⟩
        exact qcast2 hq (by simp [vpz, h1, h2, h3]) (by simp [vpz, h1, h2, h3])
      · refine V_bipush (v := -4) dX8_test_31 kb_m4 ?_
        refine V_iret rfl dX8_test_33 ⟨_, rfl, ?_⟩
        exact qcast2 hq (by simp [vpz, h1, h2, h3]) (by simp [vpz, h1, h2, h3])
    · refine V_bipush (v := -3) dX8_test_19 kb_m3 ?_
      refine V_iret rfl dX8_test_21 ⟨_, rfl, ?_⟩
      exact qcast2 hq (by simp [vpz, h1, h2]) (by simp [vpz, h1, h2])
  · refine V_iconst (v := -1) dX8_test_8 ki_m1 ?_
    refine V_iret rfl dX8_test_9 ⟨_, rfl, ?_⟩
    exact qcast2 hq (by simp [vpz, h1]) (by simp [vpz, h1])
theorem c_X8_tested {G : GX} {d : Nat} {S : ST} {x w : Int32} {t : Nat} {Q : Int32 → ST → Prop} (ht : S.1 11 = nI t) (t12 : t ≤ 12) (hq : Q (if kn t x then (if w = 0 then S.2.2.1 35 x.toNatClampNeg else if w = 1 then z01 (S.2.2.1 36 x.toNatClampNeg) else -2) else -1) S) : Cn G (d + 1) mX8_tested [.ref (G.2.1 29), .int x, .int w] S (qi Q) := by
  refine Cn.intro (lv := [(0, .ref (G.2.1 29)), (1, .int x), (2, .int w)]) (by decide) (Nat.le_of_ble_eq_true rfl) rfl ?_
  refine V_iload_n dX8_tested_0 rfl 1 rfl ?_
  refine V_iconst (v := 0) dX8_tested_1 ki_0 ?_
  refine V_aload_n dX8_tested_2 rfl 0 rfl ?_
  refine g_29_6 tw_634 dX8_tested_3 ?_
  refine V_topi (v := nI t) (ht) ?_
  refine V_iconst (v := 1) dX8_tested_6 ki_1 ?_
  refine V_isub dX8_tested_7 ?_
  refine V_cSi (P := pM G (d + 1) mX8_tested _) (d := d) (r := []) (As := [.int x, .int 0, .int ((nI t) - 1)]) (K := mX8_in) ok_X8_in tw_721 rfl (rmOk (Nat.le_of_ble_eq_true rfl)) (Nat.le_of_ble_eq_true rfl) dX8_tested_8 rfl (c_X8_in ?_)
  refine V_topi (v := b2i (kn t x)) (by rw [kn_fr t12]) ?_
  refine V_ifb_ne 16 dX8_tested_11 (by decide) (fun h1 => ?_) (fun h1 => ?_)
  · refine V_iload_n dX8_tested_16 rfl 2 rfl ?_
    refine V_if_ne 29 dX8_tested_17 (by decide) (fun h2 => ?_) (fun h2 => ?_)
    · refine V_iload_n dX8_tested_29 rfl 2 rfl ?_
      refine V_iconst (v := 1) dX8_tested_30 ki_1 ?_
      refine V_icmp_ne 51 dX8_tested_31 (by decide) (fun h3 => ?_) (fun h3 => ?_)
      · refine V_bipush (v := -2) dX8_tested_51 kb_m2 ?_
        refine V_iret rfl dX8_tested_53 ⟨_, rfl, ?_⟩
        exact qcast hq (by simp [z01, h1, h2, h3])
      · refine V_aload_n dX8_tested_34 rfl 0 rfl ?_
        refine g_29_8 tw_636 dX8_tested_35 ?_
        refine V_iload_n dX8_tested_38 rfl 1 rfl ?_
        refine l_36 (vp_kn h1 (by omega) t12 (by decide)) dX8_tested_39 ?_
        refine V_if_eq 47 dX8_tested_40 (by decide) (fun h4 => ?_) (fun h4 => ?_)
        · refine V_iconst (v := 0) dX8_tested_47 ki_0 ?_
          refine V_goto 53 dX8_tested_48 (by decide) ?_
          refine V_iret rfl dX8_tested_53 ⟨_, rfl, ?_⟩
          exact qcast hq (by simp [z01, h1, h2, h3, h4])
        · refine V_iconst (v := 1) dX8_tested_43 ki_1 ?_
          refine V_goto 53 dX8_tested_44 (by decide) ?_
          refine V_iret rfl dX8_tested_53 ⟨_, rfl, ?_⟩
          exact qcast hq (by simp [z01, h1, h2, h3, h4])
    · refine V_aload_n dX8_tested_20 rfl 0 rfl ?_
      refine g_29_7 tw_635 dX8_tested_21 ?_
      refine V_iload_n dX8_tested_24 rfl 1 rfl ?_
      refine l_35 (vp_kn h1 (by omega) t12 (by decide)) dX8_tested_25 ?_
      refine V_goto 53 dX8_tested_26 (by decide) ?_
      refine V_iret rfl dX8_tested_53 ⟨_, rfl, ?_⟩
      exact qcast hq (by simp [z01, h1, h2])
  · refine V_iconst (v := -1) dX8_tested_14 ki_m1 ?_
    refine V_iret rfl dX8_tested_15 ⟨_, rfl, ?_⟩
    exact qcast hq (by simp [z01, h1])
theorem c_X8_trust {G : GX} {d : Nat} {S : ST} {w x : Int32} {Q : Int32 → ST → Prop}  (hq : Q (if trB w x then S.2.2.1 37 w.toNatClampNeg else -2) (if trB w x then setA S 37 w.toNatClampNeg x else S)) : Cn G (d + 1) mX8_trust [.ref (G.2.1 29), .int w, .int x] S (qi Q) := by
  refine Cn.intro (lv := [(0, .ref (G.2.1 29)), (1, .int w), (2, .int x)]) (by decide) (Nat.le_of_ble_eq_true rfl) rfl ?_
  refine V_iload_n dX8_trust_0 rfl 1 rfl ?_
  refine V_iconst (v := 0) dX8_trust_1 ki_0 ?_
  refine V_iconst (v := 4) dX8_trust_2 ki_4 ?_
  refine V_cSi (P := pM G (d + 1) mX8_trust _) (d := d) (r := []) (As := [.int w, .int 0, .int 4]) (K := mX8_in) ok_X8_in tw_721 rfl (rmOk (Nat.le_of_ble_eq_true rfl)) (Nat.le_of_ble_eq_true rfl) dX8_trust_3 rfl (c_X8_in ?_)
  refine V_ifb_eq 28 dX8_trust_6 (by decide) (fun h1 => ?_) (fun h1 => ?_)
  · refine V_bipush (v := -2) dX8_trust_28 kb_m2 ?_
    refine V_iret rfl dX8_trust_30 ⟨_, rfl, ?_⟩
    exact qcast2 hq (by simp [trB, h1]) (by simp [trB, h1])
  · refine V_iload_n dX8_trust_9 rfl 2 rfl ?_
    refine V_iconst (v := 0) dX8_trust_10 ki_0 ?_
    refine V_iload_n dX8_trust_11 rfl 1 rfl ?_
    refine V_iconst (v := 2) dX8_trust_12 ki_2 ?_
    refine V_icmp_ge 20 dX8_trust_13 (by decide) (fun h2 => ?_) (fun h2 => ?_)
    · refine V_bipush (v := 9) dX8_trust_20 kb_9 ?_
      refine V_cSi (P := pM G (d + 1) mX8_trust _) (d := d) (r := []) (As := [.int x, .int 0, .int 9]) (K := mX8_in) ok_X8_in tw_721 rfl (rmOk (Nat.le_of_ble_eq_true rfl)) (Nat.le_of_ble_eq_true rfl) dX8_trust_22 rfl (c_X8_in ?_)
      refine V_ifb_ne 31 dX8_trust_25 (by decide) (fun h3 => ?_) (fun h3 => ?_)
      · obtain ⟨j, hj, rfl⟩ := fr04 h1
        rw [nI_clamp (show j < 2 ^ 31 by omega)] at hq
        refine V_aload_n dX8_trust_31 rfl 0 rfl ?_
        refine g_29_9 tw_637 dX8_trust_32 ?_
        refine V_iload_n dX8_trust_35 rfl 1 rfl ?_
        refine l_37n (by omega) dX8_trust_36 ?_
        refine V_istore_n [(3, .int (S.2.2.1 37 j)), (0, .ref (G.2.1 29)), (1, .int (nI j)), (2, .int x)] dX8_trust_37 rfl (Nat.le_of_ble_eq_true rfl) rfl ?_
        refine V_aload_n dX8_trust_38 rfl 1 rfl ?_
        refine g_29_9 tw_637 dX8_trust_39 ?_
        refine V_iload_n dX8_trust_42 rfl 2 rfl ?_
        refine V_iload_n dX8_trust_43 rfl 3 rfl ?_
        refine s_37n (by omega) dX8_trust_44 ?_
        refine V_iload_n dX8_trust_45 rfl 0 rfl ?_
        refine V_iret rfl dX8_trust_46 ⟨_, rfl, ?_⟩
        exact qcast2 hq (by simp [trB, h1, h2, h3]) (by simp [trB, h1, h2, h3])
      · refine V_bipush (v := -2) dX8_trust_28 kb_m2 ?_
        refine V_iret rfl dX8_trust_30 ⟨_, rfl, ?_⟩
        exact qcast2 hq (by simp [trB, h1, h2, h3]) (by simp [trB, h1, h2, h3])
    · refine V_iconst (v := 5) dX8_trust_16 ki_5 ?_
      refine V_goto 22 dX8_trust_17 (by decide) ?_
      refine V_cSi (P := pM G (d + 1) mX8_trust _) (d := d) (r := []) (As := [.int x, .int 0, .int 5]) (K := mX8_in) ok_X8_in tw_721 rfl (rmOk (Nat.le_of_ble_eq_true rfl)) (Nat.le_of_ble_eq_true rfl) dX8_trust_22 rfl (c_X8_in ?_)
      refine V_ifb_ne 31 dX8_trust_25 (by decide) (fun h4 => ?_) (fun h4 => ?_)
      · obtain ⟨j, hj, rfl⟩ := fr04 h1
        rw [nI_clamp (show j < 2 ^ 31 by omega)] at hq
        refine V_aload_n dX8_trust_31 rfl 0 rfl ?_
        refine g_29_9 tw_637 dX8_trust_32 ?_
        refine V_iload_n dX8_trust_35 rfl 1 rfl ?_
        refine l_37n (by omega) dX8_trust_36 ?_
        refine V_istore_n [(3, .int (S.2.2.1 37 j)), (0, .ref (G.2.1 29)), (1, .int (nI j)), (2, .int x)] dX8_trust_37 rfl (Nat.le_of_ble_eq_true rfl) rfl ?_
        refine V_aload_n dX8_trust_38 rfl 1 rfl ?_
        refine g_29_9 tw_637 dX8_trust_39 ?_
        refine V_iload_n dX8_trust_42 rfl 2 rfl ?_
        refine V_iload_n dX8_trust_43 rfl 3 rfl ?_
        refine s_37n (by omega) dX8_trust_44 ?_
        refine V_iload_n dX8_trust_45 rfl 0 rfl ?_
        refine V_iret rfl dX8_trust_46 ⟨_, rfl, ?_⟩
        exact qcast2 hq (by simp [trB, h1, h2, h4]) (by simp [trB, h1, h2, h4])
      · refine V_bipush (v := -2) dX8_trust_28 kb_m2 ?_
        refine V_iret rfl dX8_trust_30 ⟨_, rfl, ?_⟩
        exact qcast2 hq (by simp [trB, h1, h2, h4]) (by simp [trB, h1, h2, h4])
