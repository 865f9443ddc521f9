theorem V_tsD {P : PX} {pc : Nat} {lv : LV} {r : List Value} {S : ST} {dflt lo hi : Int} {offs : Array Int} {len : Nat} {x : Int32} (tgt : Nat) (hd : decode P.2.2.2.2.2.2.1 pc = .ok (.tableswitch dflt lo hi offs, len)) (ht : (pc : Int) + dflt = (tgt : Int)) (h : x.toInt < lo ∨ hi < x.toInt ∨ offs[(x.toInt - lo).toNat]? = some dflt) (k : V P tgt lv r S) : V P pc lv (.int x :: r) S := by
  by_cases a1 : x.toInt < lo
  · exact V_tsO tgt hd (Or.inl a1) ht k
  by_cases a2 : hi < x.toInt
  · exact V_tsO tgt hd (Or.inr a2) ht k
  rcases h with h | h | h
  · exact absurd h a1
  · exact absurd h a2
  · exact V_tsI tgt hd a1 a2 h ht k
def rowc (n : Nat) (f : Nat → Int32) (w k : Int32) : Int32 := if kn n (w - k) then f (w - k).toNatClampNeg else -6
def tldC (S : ST) (n : Nat) (w : Int32) : Int32 := if w = 0 then nI n else if w = 1 then S.1 1 else if w = 2 then S.1 8 else if w = 3 then S.1 9 else if w = 9 then (1 <<< (nI n &&& 31) - 1) &&& (bitsOf (fun v => decide (S.2.2.1 14 v = 0)) n ^^^ -1) else if fr w 4 8 then S.2.2.1 17 (w - 4).toNatClampNeg else if fr w 10 21 then rowc n (S.2.2.1 11) w 10 else if fr w 30 41 then rowc n (S.2.2.1 12) w 30 else if fr w 50 61 then rowc n (S.2.2.1 13) w 50 else -2
theorem fr_ex {w : Int32} {a b : Nat} {A B : Int32} (hA : A.toInt = a) (hB : B.toInt = b) (h : fr w A B = true) (hb : b < 2 ^ 31) : ∃ j, a ≤ j ∧ j ≤ b ∧ w = nI j := by
  obtain ⟨h1, h2⟩ := fr_t.mp h
  rw [Int32.le_iff_toInt_le] at h1 h2
  rw [hA] at h1
  rw [hB] at h2
  obtain ⟨j, hj, rfl⟩ := nI_of (x := w) (by rw [Int32.lt_iff_toInt_lt]; have : (0 : Int32).toInt = 0 := rfl; omega)
  rw [nI_toInt hj] at h1 h2
  exact ⟨j, by omega, by omega, rfl⟩
theorem vin48 {w : Int32} (h : fr w 4 8 = true) : vp_in (w - 4) 5 := by
  obtain ⟨j, h1, h2, rfl⟩ := fr_ex (a := 4) (b := 8) rfl rfl h (by omega)
  rw [show nI j - 4 = nI (j - 4) from pk_sub (b := 4) h1]
  exact vp_in_nI (by omega) (by decide)
theorem c_X7_told {G : GX} {d : Nat} {S : ST} {w : Int32} {n : Nat} {Q : Int32 → ST → Prop} (hn : S.1 0 = nI n) (h12 : n ≤ 12) (hq : Q (tldC S n w) S) : Cn G (d + 1) mX7_told [.ref (G.2.1 0), .int w] S (qi Q) := by
  refine Cn.intro (lv := [(0, .ref (G.2.1 0)), (1, .int w)]) (by decide) (Nat.le_of_ble_eq_true rfl) rfl ?_
  refine V_iload_n dX7_told_0 rfl 1 rfl ?_
  by_cases h1 : w = 0
  · refine V_tsI 56 (off := 55) dX7_told_1 (by rw [h1]; decide +kernel) (by rw [h1]; decide +kernel) (by rw [h1]; decide +kernel) (by decide) ?_
    refine V_aload_n dX7_told_56 rfl 0 rfl ?_
    refine g_0_0 tw_203 dX7_told_57 ?_
    refine g_1_0 tw_30 dX7_told_60 ?_
    refine V_topi (v := nI n) (hn) ?_
    subst h1
    refine V_iret rfl dX7_told_63 ⟨_, rfl, ?_⟩
    exact qcast hq (by rfl)
  by_cases h2 : w = 1
  · refine V_tsI 64 (off := 63) dX7_told_1 (by rw [h2]; decide +kernel) (by rw [h2]; decide +kernel) (by rw [h2]; decide +kernel) (by decide) ?_
    refine V_aload_n dX7_told_64 rfl 0 rfl ?_
    refine g_0_1 tw_204 dX7_told_65 ?_
    refine g_2_0 tw_70 dX7_told_68 ?_
    subst h2
    refine V_iret rfl dX7_told_71 ⟨_, rfl, ?_⟩
    exact qcast hq (by rfl)
  by_cases h3 : w = 2
  · refine V_tsI 72 (off := 71) dX7_told_1 (by rw [h3]; decide +kernel) (by rw [h3]; decide +kernel) (by rw [h3]; decide +kernel) (by decide) ?_
    refine V_aload_n dX7_told_72 rfl 0 rfl ?_
    refine g_0_5 tw_208 dX7_told_73 ?_
    refine g_6_0 tw_154 dX7_told_76 ?_
    subst h3
    refine V_iret rfl dX7_told_79 ⟨_, rfl, ?_⟩
    exact qcast hq (by rfl)
  by_cases h4 : w = 3
  · refine V_tsI 80 (off := 79) dX7_told_1 (by rw [h4]; decide +kernel) (by rw [h4]; decide +kernel) (by rw [h4]; decide +kernel) (by decide) ?_
    refine V_aload_n dX7_told_80 rfl 0 rfl ?_
    refine g_0_6 tw_209 dX7_told_81 ?_
    refine g_7_0 tw_172 dX7_told_84 ?_
    subst h4
    refine V_iret rfl dX7_told_87 ⟨_, rfl, ?_⟩
    exact qcast hq (by rfl)
  by_cases h5 : w = 9
  · refine V_tsI 88 (off := 87) dX7_told_1 (by rw [h5]; decide +kernel) (by rw [h5]; decide +kernel) (by rw [h5]; decide +kernel) (by decide) ?_
    refine V_aload_n dX7_told_88 rfl 0 rfl ?_
    refine g_0_0 tw_203 dX7_told_89 ?_
    refine V_cVi (P := pM G (d + 1) mX7_told _) (d := d) 1 (r := []) (As := []) (K := mX1_everyVersion) ok_X1_everyVersion tw_427 (ob_1 _) rfl (rmOk (Nat.le_of_ble_eq_true rfl)) (Nat.le_of_ble_eq_true rfl) dX7_told_92 rfl (c_X1_everyVersion hn ?_)
    refine V_aload_n dX7_told_95 rfl 0 rfl ?_
    refine g_0_0 tw_203 dX7_told_96 ?_
    refine V_cVi (P := pM G (d + 1) mX7_told _) (d := d) 1 (r := [.int (1 <<< (nI n &&& 31) - 1)]) (As := []) (K := mX1_hearing) ok_X1_hearing tw_559 (ob_1 _) rfl (rmOk (Nat.le_of_ble_eq_true rfl)) (Nat.le_of_ble_eq_true rfl) dX7_told_99 rfl (c_X1_hearing hn h12 ?_)
    refine V_iconst (v := -1) dX7_told_102 ki_m1 ?_
    refine V_ixor dX7_told_103 ?_
    refine V_iand dX7_told_104 ?_
    subst h5
    refine V_iret rfl dX7_told_105 ⟨_, rfl, ?_⟩
    exact qcast hq (by rfl)
  have hdf : Int32.toInt w < 0 ∨ 9 < Int32.toInt w ∨ Int32.toInt w = 4 ∨ Int32.toInt w = 5 ∨ Int32.toInt w = 6 ∨ Int32.toInt w = 7 ∨ Int32.toInt w = 8 := by have zh1 := lv_neT (k := 0) (a := 0) h1 rfl; have zh2 := lv_neT (k := 1) (a := 1) h2 rfl; have zh3 := lv_neT (k := 2) (a := 2) h3 rfl; have zh4 := lv_neT (k := 3) (a := 3) h4 rfl; have zh5 := lv_neT (k := 9) (a := 9) h5 rfl; omega
  refine V_tsD 106 dX7_told_1 (by decide) (by rcases hdf with hdf | hdf | hdf | hdf | hdf | hdf | hdf <;> first | exact Or.inl hdf | exact Or.inr (Or.inl hdf) | exact Or.inr (Or.inr (by rw [hdf]; rfl))) ?_
  refine V_iload_n dX7_told_106 rfl 1 rfl ?_
  refine V_iconst (v := 4) dX7_told_107 ki_4 ?_
  refine V_bipush (v := 8) dX7_told_108 kb_8 ?_
  refine V_cSi (P := pM G (d + 1) mX7_told _) (d := d) (r := []) (As := [.int w, .int 4, .int 8]) (K := mX7_isFrom) ok_X7_isFrom tw_240 rfl (rmOk (Nat.le_of_ble_eq_true rfl)) (Nat.le_of_ble_eq_true rfl) dX7_told_110 rfl (c_X7_isFrom ?_)
  refine V_ifb_eq 128 dX7_told_113 (by decide) (fun h6 => ?_) (fun h6 => ?_)
  · refine V_iconst (v := 0) dX7_told_128 ki_0 ?_
    refine V_istore_n [(2, .int 0), (0, .ref (G.2.1 0)), (1, .int w)] dX7_told_129 rfl (Nat.le_of_ble_eq_true rfl) rfl ?_
    refine V_iload_n dX7_told_130 rfl 0 rfl ?_
    refine V_iconst (v := 2) dX7_told_131 ki_2 ?_
    refine V_icmp_gt 194 dX7_told_132 (by decide) (fun hz => absurd hz (by decide)) (fun _ => ?_)
    refine V_bipush (v := 10) dX7_told_135 kb_10 ?_
    refine V_bipush (v := 20) dX7_told_137 kb_20 ?_
    refine V_iload_n dX7_told_139 rfl 0 rfl ?_
    refine V_imul dX7_told_140 ?_
    refine V_topi (v := 0) (by decide +kernel) ?_
    refine V_iadd dX7_told_141 ?_
    refine V_topi (v := 10) (by decide +kernel) ?_
    refine V_istore_n [(3, .int 10), (2, .int 0), (0, .ref (G.2.1 0)), (1, .int w)] dX7_told_142 rfl (Nat.le_of_ble_eq_true rfl) rfl ?_
    refine V_iload_n dX7_told_143 rfl 3 rfl ?_
    refine V_iload_n dX7_told_144 rfl 0 rfl ?_
    refine V_iload_n dX7_told_145 rfl 0 rfl ?_
    refine V_bipush (v := 12) dX7_told_146 kb_12 ?_
    refine V_iadd dX7_told_148 ?_
    refine V_topi (v := 22) (by decide +kernel) ?_
    refine V_iconst (v := 1) dX7_told_149 ki_1 ?_
    refine V_isub dX7_told_150 ?_
    refine V_topi (v := 21) (by decide +kernel) ?_
    refine V_cSi (P := pM G (d + 1) mX7_told _) (d := d) (r := []) (As := [.int w, .int 10, .int 21]) (K := mX7_isFrom) ok_X7_isFrom tw_240 rfl (rmOk (Nat.le_of_ble_eq_true rfl)) (Nat.le_of_ble_eq_true rfl) dX7_told_151 rfl (c_X7_isFrom ?_)
    refine V_ifb_eq 188 dX7_told_154 (by decide) (fun h7 => ?_) (fun h7 => ?_)
    · refine V_iinc [(2, .int 1), (3, .int 10), (0, .ref (G.2.1 0)), (1, .int w)] dX7_told_188 1 rfl rfl (Nat.le_of_ble_eq_true rfl) rfl ?_
      refine V_goto 130 dX7_told_191 (by decide) ?_
      refine V_iload_n dX7_told_130 rfl 0 rfl ?_
      refine V_iconst (v := 2) dX7_told_131 ki_2 ?_
      refine V_icmp_gt 194 dX7_told_132 (by decide) (fun hz => absurd hz (by decide)) (fun _ => ?_)
      refine V_bipush (v := 10) dX7_told_135 kb_10 ?_
      refine V_bipush (v := 20) dX7_told_137 kb_20 ?_
      refine V_iload_n dX7_told_139 rfl 0 rfl ?_
      refine V_imul dX7_told_140 ?_
      refine V_topi (v := 20) (by decide +kernel) ?_
      refine V_iadd dX7_told_141 ?_
      refine V_topi (v := 30) (by decide +kernel) ?_
      refine V_istore_n [(3, .int 30), (2, .int 1), (0, .ref (G.2.1 0)), (1, .int w)] dX7_told_142 rfl (Nat.le_of_ble_eq_true rfl) rfl ?_
      refine V_iload_n dX7_told_143 rfl 3 rfl ?_
      refine V_iload_n dX7_told_144 rfl 0 rfl ?_
      refine V_iload_n dX7_told_145 rfl 0 rfl ?_
      refine V_bipush (v := 12) dX7_told_146 kb_12 ?_
      refine V_iadd dX7_told_148 ?_
      refine V_topi (v := 42) (by decide +kernel) ?_
      refine V_iconst (v := 1) dX7_told_149 ki_1 ?_
      refine V_isub dX7_told_150 ?_
      refine V_topi (v := 41) (by decide +kernel) ?_
      refine V_cSi (P := pM G (d + 1) mX7_told _) (d := d) (r := []) (As := [.int w, .int 30, .int 41]) (K := mX7_isFrom) ok_X7_isFrom tw_240 rfl (rmOk (Nat.le_of_ble_eq_true rfl)) (Nat.le_of_ble_eq_true rfl) dX7_told_151 rfl (c_X7_isFrom ?_)
      refine V_ifb_eq 188 dX7_told_154 (by decide) (fun h8 => ?_) (fun h8 => ?_)
      · refine V_iinc [(2, .int 2), (3, .int 30), (0, .ref (G.2.1 0)), (1, .int w)] dX7_told_188 1 rfl rfl (Nat.le_of_ble_eq_true rfl) rfl ?_
        refine V_goto 130 dX7_told_191 (by decide) ?_
        refine V_iload_n dX7_told_130 rfl 0 rfl ?_
        refine V_iconst (v := 2) dX7_told_131 ki_2 ?_
        refine V_icmp_gt 194 dX7_told_132 (by decide) (fun hz => absurd hz (by decide)) (fun _ => ?_)
        refine V_bipush (v := 10) dX7_told_135 kb_10 ?_
        refine V_bipush (v := 20) dX7_told_137 kb_20 ?_
        refine V_iload_n dX7_told_139 rfl 0 rfl ?_
        refine V_imul dX7_told_140 ?_
        refine V_topi (v := 40) (by decide +kernel) ?_
        refine V_iadd dX7_told_141 ?_
        refine V_topi (v := 50) (by decide +kernel) ?_
        refine V_istore_n [(3, .int 50), (2, .int 2), (0, .ref (G.2.1 0)), (1, .int w)] dX7_told_142 rfl (Nat.le_of_ble_eq_true rfl) rfl ?_
        refine V_iload_n dX7_told_143 rfl 3 rfl ?_
        refine V_iload_n dX7_told_144 rfl 0 rfl ?_
        refine V_iload_n dX7_told_145 rfl 0 rfl ?_
        refine V_bipush (v := 12) dX7_told_146 kb_12 ?_
        refine V_iadd dX7_told_148 ?_
        refine V_topi (v := 62) (by decide +kernel) ?_
        refine V_iconst (v := 1) dX7_told_149 ki_1 ?_
        refine V_isub dX7_told_150 ?_
        refine V_topi (v := 61) (by decide +kernel) ?_
        refine V_cSi (P := pM G (d + 1) mX7_told _) (d := d) (r := []) (As := [.int w, .int 50, .int 61]) (K := mX7_isFrom) ok_X7_isFrom tw_240 rfl (rmOk (Nat.le_of_ble_eq_true rfl)) (Nat.le_of_ble_eq_true rfl) dX7_told_151 rfl (c_X7_isFrom ?_)
        refine V_ifb_eq 188 dX7_told_154 (by decide) (fun h9 => ?_) (fun h9 => ?_)
        · refine V_iinc [(2, .int 3), (3, .int 50), (0, .ref (G.2.1 0)), (1, .int w)] dX7_told_188 1 rfl rfl (Nat.le_of_ble_eq_true rfl) rfl ?_
          refine V_goto 130 dX7_told_191 (by decide) ?_
          refine V_iload_n dX7_told_130 rfl 0 rfl ?_
          refine V_iconst (v := 2) dX7_told_131 ki_2 ?_
          refine V_icmp_gt 194 dX7_told_132 (by decide) (fun _ => ?_) (fun hz => absurd hz (by decide))
          refine V_bipush (v := -2) dX7_told_194 kb_m2 ?_
          refine V_iret rfl dX7_told_196 ⟨_, rfl, ?_⟩
          exact qcast hq (by simp only [tldC, rowc, h1, h2, h3, h4, h5, h6, h7, h8, h9, if_true, if_false, reduceIte, Bool.false_eq_true])
        · refine V_aload_n dX7_told_157 rfl 2 rfl ?_
          refine g_0_0 tw_203 dX7_told_158 ?_
          refine V_iload_n dX7_told_161 rfl 3 rfl ?_
          refine V_iload_n dX7_told_162 rfl 0 rfl ?_
          refine V_isub dX7_told_163 ?_
          refine V_cVi (P := pM G (d + 1) mX7_told _) (d := d) 1 (r := []) (As := [.int (w - 50)]) (K := mX1_knows) ok_X1_knows tw_258 (ob_1 _) rfl (rmOk (Nat.le_of_ble_eq_true rfl)) (Nat.le_of_ble_eq_true rfl) dX7_told_164 rfl (c_X1_knows hn ?_)
          refine V_ifb_eq 185 dX7_told_167 (by decide) (fun h10 => ?_) (fun h10 => ?_)
          · refine V_bipush (v := -6) dX7_told_185 kb_m6 ?_
            refine V_iret rfl dX7_told_187 ⟨_, rfl, ?_⟩
            exact qcast hq (by simp only [tldC, rowc, h1, h2, h3, h4, h5, h6, h7, h8, h9, h10, if_true, if_false, reduceIte, Bool.false_eq_true])
          · refine V_aload_n dX7_told_170 rfl 2 rfl ?_
            refine g_0_0 tw_203 dX7_told_171 ?_
            refine V_iload_n dX7_told_174 rfl 1 rfl ?_
            refine V_cVr (P := pM G (d + 1) mX7_told _) (d := d) 1 (r := []) (As := [.int 2]) (K := mX1_row) ok_X1_row tw_272 (ob_1 _) rfl (rmOk (Nat.le_of_ble_eq_true rfl)) (Nat.le_of_ble_eq_true rfl) dX7_told_175 rfl (c_X1_row ?_)
            refine V_iload_n dX7_told_178 rfl 3 rfl ?_
            refine V_iload_n dX7_told_179 rfl 0 rfl ?_
            refine V_isub dX7_told_180 ?_
            refine l_13 (vp_kn h10 (by omega) h12 (by decide)) dX7_told_181 ?_
            refine V_goto 187 dX7_told_182 (by decide) ?_
            refine V_iret rfl dX7_told_187 ⟨_, rfl, ?_⟩
            exact qcast hq (by simp only [tldC, rowc, h1, h2, h3, h4, h5, h6, h7, h8, h9, h10, if_true, if_false, reduceIte, Bool.false_eq_true])
      · refine V_aload_n dX7_told_157 rfl 2 rfl ?_
        refine g_0_0 tw_203 dX7_told_158 ?_
        refine V_iload_n dX7_told_161 rfl 3 rfl ?_
        refine V_iload_n dX7_told_162 rfl 0 rfl ?_
        refine V_isub dX7_told_163 ?_
        refine V_cVi (P := pM G (d + 1) mX7_told _) (d := d) 1 (r := []) (As := [.int (w - 30)]) (K := mX1_knows) ok_X1_knows tw_258 (ob_1 _) rfl (rmOk (Nat.le_of_ble_eq_true rfl)) (Nat.le_of_ble_eq_true rfl) dX7_told_164 rfl (c_X1_knows hn ?_)
        refine V_ifb_eq 185 dX7_told_167 (by decide) (fun h11 => ?_) (fun h11 => ?_)
        · refine V_bipush (v := -6) dX7_told_185 kb_m6 ?_
          refine V_iret rfl dX7_told_187 ⟨_, rfl, ?_⟩
          exact qcast hq (by simp only [tldC, rowc, h1, h2, h3, h4, h5, h6, h7, h8, h11, if_true, if_false, reduceIte, Bool.false_eq_true])
        · refine V_aload_n dX7_told_170 rfl 2 rfl ?_
          refine g_0_0 tw_203 dX7_told_171 ?_
          refine V_iload_n dX7_told_174 rfl 1 rfl ?_
          refine V_cVr (P := pM G (d + 1) mX7_told _) (d := d) 1 (r := []) (As := [.int 1]) (K := mX1_row) ok_X1_row tw_272 (ob_1 _) rfl (rmOk (Nat.le_of_ble_eq_true rfl)) (Nat.le_of_ble_eq_true rfl) dX7_told_175 rfl (c_X1_row ?_)
          refine V_iload_n dX7_told_178 rfl 3 rfl ?_
          refine V_iload_n dX7_told_179 rfl 0 rfl ?_
          refine V_isub dX7_told_180 ?_
          refine l_12 (vp_kn h11 (by omega) h12 (by decide)) dX7_told_181 ?_
          refine V_goto 187 dX7_told_182 (by decide) ?_
          refine V_iret rfl dX7_told_187 ⟨_, rfl, ?_⟩
          exact qcast hq (by simp only [tldC, rowc, h1, h2, h3, h4, h5, h6, h7, h8, h11, if_true, if_false, reduceIte, Bool.false_eq_true])
    · refine V_aload_n dX7_told_157 rfl 2 rfl ?_
      refine g_0_0 tw_203 dX7_told_158 ?_
      refine V_iload_n dX7_told_161 rfl 3 rfl ?_
      refine V_iload_n dX7_told_162 rfl 0 rfl ?_
      refine V_isub dX7_told_163 ?_
      refine V_cVi (P := pM G (d + 1) mX7_told _) (d := d) 1 (r := []) (As := [.int (w - 10)]) (K := mX1_knows) ok_X1_knows tw_258 (ob_1 _) rfl (rmOk (Nat.le_of_ble_eq_true rfl)) (Nat.le_of_ble_eq_true rfl) dX7_told_164 rfl (c_X1_knows hn ?_)
      refine V_ifb_eq 185 dX7_told_167 (by decide) (fun h13 => ?_) (fun h13 => ?_)
      · refine V_bipush (v := -6) dX7_told_185 kb_m6 ?_
        refine V_iret rfl dX7_told_187 ⟨_, rfl, ?_⟩
        exact qcast hq (by simp only [tldC, rowc, h1, h2, h3, h4, h5, h6, h7, h13, if_true, if_false, reduceIte, Bool.false_eq_true])
      · refine V_aload_n dX7_told_170 rfl 2 rfl ?_
        refine g_0_0 tw_203 dX7_told_171 ?_
        refine V_iload_n dX7_told_174 rfl 1 rfl ?_
        refine V_cVr (P := pM G (d + 1) mX7_told _) (d := d) 1 (r := []) (As := [.int 0]) (K := mX1_row) ok_X1_row tw_272 (ob_1 _) rfl (rmOk (Nat.le_of_ble_eq_true rfl)) (Nat.le_of_ble_eq_true rfl) dX7_told_175 rfl (c_X1_row ?_)
        refine V_iload_n dX7_told_178 rfl 3 rfl ?_
        refine V_iload_n dX7_told_179 rfl 0 rfl ?_
        refine V_isub dX7_told_180 ?_
        refine l_11 (vp_kn h13 (by omega) h12 (by decide)) dX7_told_181 ?_
        refine V_goto 187 dX7_told_182 (by decide) ?_
        refine V_iret rfl dX7_told_187 ⟨_, rfl, ?_⟩
        exact qcast hq (by simp only [tldC, rowc, h1, h2, h3, h4, h5, h6, h7, h13, if_true, if_false, reduceIte, Bool.false_eq_true])
  · refine V_aload_n dX7_told_116 rfl 0 rfl ?_
    refine g_0_2 tw_205 dX7_told_117 ?_
    refine g_3_2 tw_94 dX7_told_120 ?_
    refine V_iload_n dX7_told_123 rfl 1 rfl ?_
    refine V_iconst (v := 4) dX7_told_124 ki_4 ?_
    refine V_isub dX7_told_125 ?_
    refine l_17 (vin48 h6) dX7_told_126 ?_
    refine V_iret rfl dX7_told_127 ⟨_, rfl, ?_⟩
    exact qcast hq (by simp only [tldC, rowc, h1, h2, h3, h4, h5, h6, if_true, if_false, reduceIte, Bool.false_eq_true])
/-- the reference's row of a number from 10 to 61 -/
def rowm (n : Nat) (a b c : Nat → Int32) (j : Nat) : Int32 := if 11 < (j - 10) % 20 then -2 else if (j - 10) % 20 < n then (if (j - 10) / 20 = 0 then a ((j - 10) % 20) else if (j - 10) / 20 = 1 then b ((j - 10) % 20) else c ((j - 10) % 20)) else -6
def tldM (S : ST) (n : Nat) (w : Int32) : Int32 := if fr w 10 61 then rowm n (S.2.2.1 31) (S.2.2.1 32) (S.2.2.1 33) w.toNatClampNeg else if w = 0 then nI n else if w = 1 then S.1 11 else if w = 2 then S.1 12 else if w = 3 then S.1 13 else if w = 9 then bitsOf (fun v => decide (S.2.2.1 34 v ≠ 0)) n else if fr w 4 8 then S.2.2.1 37 (w - 4).toNatClampNeg else -2
theorem lp_mtold {G : GX} {d n : Nat} {w : Int32} {S : ST} {Q : Int32 → ST → Prop} (hn : S.1 10 = nI n) (h12 : n ≤ 12) (hf : fr w 10 61 = false) (hq : Q (tldM S n w) S) : ∀ (k i : Nat), i ≤ n → n - i < k → V (pM G (d + 1) mX8_told (qi Q)) 87 [(3, .int (nI i)), (2, .int (bitsOf (fun v => decide (S.2.2.1 34 v ≠ 0)) i)), (0, .ref (G.2.1 29)), (1, .int w)] [] S := by
  intro k
  induction k with
  | zero => intro i hi hk; exact absurd hk (Nat.not_lt_zero _)
  | succ k ih =>
    intro i hi hk
    refine V_iload_n dX8_told_87 rfl 0 rfl ?_
    refine V_aload_n dX8_told_88 rfl 2 rfl ?_
    refine g_29_0 tw_628 dX8_told_89 ?_
    refine V_topi (v := nI n) (hn) ?_
    refine V_icmp_gen 120 (a := i) (b := n) dX8_told_92 (by decide) (by omega) (by omega) (fun h1 => ?_) (fun h1 => ?_)
    · refine V_iload_n dX8_told_120 rfl 3 rfl ?_
      by_cases h2 : w = 0
      · refine V_tsI 176 (off := 55) dX8_told_121 (by rw [h2]; decide +kernel) (by rw [h2]; decide +kernel) (by rw [h2]; decide +kernel) (by decide) ?_
        refine V_aload_n dX8_told_176 rfl 2 rfl ?_
        refine g_29_0 tw_628 dX8_told_177 ?_
        refine V_topi (v := nI n) (hn) ?_
        subst h2
        refine V_iret rfl dX8_told_180 ⟨_, rfl, ?_⟩
        have hin : i = n := by omega
        subst hin
        exact qcast hq (by rfl)
      by_cases h3 : w = 1
      · refine V_tsI 181 (off := 60) dX8_told_121 (by rw [h3]; decide +kernel) (by rw [h3]; decide +kernel) (by rw [h3]; decide +kernel) (by decide) ?_
        refine V_aload_n dX8_told_181 rfl 2 rfl ?_
        refine g_29_6 tw_634 dX8_told_182 ?_
        subst h3
        refine V_iret rfl dX8_told_185 ⟨_, rfl, ?_⟩
        have hin : i = n := by omega
        subst hin
        exact qcast hq (by rfl)
      by_cases h4 : w = 2
      · refine V_tsI 186 (off := 65) dX8_told_121 (by rw [h4]; decide +kernel) (by rw [h4]; decide +kernel) (by rw [h4]; decide +kernel) (by decide) ?_
        refine V_aload_n dX8_told_186 rfl 2 rfl ?_
        refine g_29_10 tw_638 dX8_told_187 ?_
        subst h4
        refine V_iret rfl dX8_told_190 ⟨_, rfl, ?_⟩
        have hin : i = n := by omega
        subst hin
        exact qcast hq (by rfl)
      by_cases h5 : w = 3
      · refine V_tsI 191 (off := 70) dX8_told_121 (by rw [h5]; decide +kernel) (by rw [h5]; decide +kernel) (by rw [h5]; decide +kernel) (by decide) ?_
        refine V_aload_n dX8_told_191 rfl 2 rfl ?_
        refine g_29_12 tw_640 dX8_told_192 ?_
        subst h5
        refine V_iret rfl dX8_told_195 ⟨_, rfl, ?_⟩
        have hin : i = n := by omega
        subst hin
        exact qcast hq (by rfl)
      by_cases h6 : w = 9
      · refine V_tsI 196 (off := 75) dX8_told_121 (by rw [h6]; decide +kernel) (by rw [h6]; decide +kernel) (by rw [h6]; decide +kernel) (by decide) ?_
        refine V_iload_n dX8_told_196 rfl 1 rfl ?_
        subst h6
        refine V_iret rfl dX8_told_197 ⟨_, rfl, ?_⟩
        have hin : i = n := by omega
        subst hin
        exact qcast hq (by rfl)
      have hdf : Int32.toInt w < 0 ∨ 9 < Int32.toInt w ∨ Int32.toInt w = 4 ∨ Int32.toInt w = 5 ∨ Int32.toInt w = 6 ∨ Int32.toInt w = 7 ∨ Int32.toInt w = 8 := by have zh2 := lv_neT (k := 0) (a := 0) h2 rfl; have zh3 := lv_neT (k := 1) (a := 1) h3 rfl; have zh4 := lv_neT (k := 2) (a := 2) h4 rfl; have zh5 := lv_neT (k := 3) (a := 3) h5 rfl; have zh6 := lv_neT (k := 9) (a := 9) h6 rfl; omega
      refine V_tsD 198 dX8_told_121 (by decide) (by rcases hdf with hdf | hdf | hdf | hdf | hdf | hdf | hdf <;> first | exact Or.inl hdf | exact Or.inr (Or.inl hdf) | exact Or.inr (Or.inr (by rw [hdf]; rfl))) ?_
      refine V_iload_n dX8_told_198 rfl 3 rfl ?_
      refine V_iconst (v := 4) dX8_told_199 ki_4 ?_
      refine V_bipush (v := 8) dX8_told_200 kb_8 ?_
      refine V_cSi (P := pM G (d + 1) mX8_told _) (d := d) (r := []) (As := [.int w, .int 4, .int 8]) (K := mX8_in) ok_X8_in tw_721 rfl (rmOk (Nat.le_of_ble_eq_true rfl)) (Nat.le_of_ble_eq_true rfl) dX8_told_202 rfl (c_X8_in ?_)
      refine V_ifb_eq 219 dX8_told_205 (by decide) (fun h7 => ?_) (fun h7 => ?_)
      · refine V_bipush (v := -2) dX8_told_219 kb_m2 ?_
        refine V_iret rfl dX8_told_221 ⟨_, rfl, ?_⟩
        exact qcast hq (by simp only [tldM, hf, h2, h3, h4, h5, h6, h7, if_true, if_false, reduceIte, Bool.false_eq_true])
      · refine V_aload_n dX8_told_208 rfl 2 rfl ?_
        refine g_29_9 tw_637 dX8_told_209 ?_
        refine V_iload_n dX8_told_212 rfl 3 rfl ?_
        refine V_iconst (v := 4) dX8_told_213 ki_4 ?_
        refine V_isub dX8_told_214 ?_
        refine l_37 (vin48 h7) dX8_told_215 ?_
        refine V_goto 221 dX8_told_216 (by decide) ?_
        refine V_iret rfl dX8_told_221 ⟨_, rfl, ?_⟩
        exact qcast hq (by simp only [tldM, hf, h2, h3, h4, h5, h6, h7, if_true, if_false, reduceIte, Bool.false_eq_true])
    · refine V_iload_n dX8_told_95 rfl 1 rfl ?_
      refine V_aload_n dX8_told_96 rfl 2 rfl ?_
      refine g_29_5 tw_633 dX8_told_97 ?_
      refine V_iload_n dX8_told_100 rfl 0 rfl ?_
      refine l_34n (by omega) dX8_told_101 ?_
      refine V_if_eq 111 dX8_told_102 (by decide) (fun h8 => ?_) (fun h8 => ?_)
      · refine V_iconst (v := 0) dX8_told_111 ki_0 ?_
        refine V_ior dX8_told_112 ?_
        refine V_istore_n [(2, .int ((bitsOf (fun v => decide (S.2.2.1 34 v ≠ 0)) i) ||| 0)), (3, .int (nI i)), (0, .ref (G.2.1 29)), (1, .int w)] dX8_told_113 rfl (Nat.le_of_ble_eq_true rfl) rfl ?_
        refine V_iinc [(3, .int (nI (i + 1))), (2, .int ((bitsOf (fun v => decide (S.2.2.1 34 v ≠ 0)) i) ||| 0)), (0, .ref (G.2.1 29)), (1, .int w)] dX8_told_114 1 rfl (nI_1 _) (Nat.le_of_ble_eq_true rfl) rfl ?_
        refine V_goto 87 dX8_told_117 (by decide) ?_
        refine V_lv [(3, .int (nI (i + 1))), (2, .int ((bitsOf (fun v => decide (S.2.2.1 34 v ≠ 0)) i) ||| 0)), (0, .ref (G.2.1 29)), (1, .int w)] [0, 1, 2, 3] rfl ?_
        refine V_lveq [(3, .int (nI (i + 1))), (2, .int (bitsOf (fun v => decide (S.2.2.1 34 v ≠ 0)) (i + 1))), (0, .ref (G.2.1 29)), (1, .int w)] (by rw [bits_f (by simp [h8]), Int32.or_zero]) ?_
        exact ih (i + 1) (by omega) (by omega)
      · refine V_iconst (v := 1) dX8_told_105 ki_1 ?_
        refine V_iload_n dX8_told_106 rfl 0 rfl ?_
        refine V_ishl dX8_told_107 ?_
        refine V_goto 112 dX8_told_108 (by decide) ?_
        refine V_ior dX8_told_112 ?_
        refine V_istore_n [(2, .int ((bitsOf (fun v => decide (S.2.2.1 34 v ≠ 0)) i) ||| ((1 : Int32) <<< ((nI i) &&& 31)))), (3, .int (nI i)), (0, .ref (G.2.1 29)), (1, .int w)] dX8_told_113 rfl (Nat.le_of_ble_eq_true rfl) rfl ?_
        refine V_iinc [(3, .int (nI (i + 1))), (2, .int ((bitsOf (fun v => decide (S.2.2.1 34 v ≠ 0)) i) ||| ((1 : Int32) <<< ((nI i) &&& 31)))), (0, .ref (G.2.1 29)), (1, .int w)] dX8_told_114 1 rfl (nI_1 _) (Nat.le_of_ble_eq_true rfl) rfl ?_
        refine V_goto 87 dX8_told_117 (by decide) ?_
        refine V_lv [(3, .int (nI (i + 1))), (2, .int ((bitsOf (fun v => decide (S.2.2.1 34 v ≠ 0)) i) ||| ((1 : Int32) <<< ((nI i) &&& 31)))), (0, .ref (G.2.1 29)), (1, .int w)] [0, 1, 2, 3] rfl ?_
        refine V_lveq [(3, .int (nI (i + 1))), (2, .int (bitsOf (fun v => decide (S.2.2.1 34 v ≠ 0)) (i + 1))), (0, .ref (G.2.1 29)), (1, .int w)] (by rw [bits_t (by simp [h8])]) ?_
        exact ih (i + 1) (by omega) (by omega)
theorem c_X8_told {G : GX} {d : Nat} {S : ST} {w : Int32} {n : Nat} {Q : Int32 → ST → Prop} (hn : S.1 10 = nI n) (h12 : n ≤ 12) (hq : Q (tldM S n w) S) : Cn G (d + 2) mX8_told [.ref (G.2.1 29), .int w] S (qi Q) := by
  refine Cn.intro (lv := [(0, .ref (G.2.1 29)), (1, .int w)]) (by decide) (Nat.le_of_ble_eq_true rfl) rfl ?_
  refine V_iload_n dX8_told_0 rfl 1 rfl ?_
  refine V_bipush (v := 10) dX8_told_1 kb_10 ?_
  refine V_bipush (v := 61) dX8_told_3 kb_61 ?_
  refine V_cSi (P := pM G (d + 2) mX8_told _) (d := d + 1) (r := []) (As := [.int w, .int 10, .int 61]) (K := mX8_in) ok_X8_in tw_721 rfl (rmOk (Nat.le_of_ble_eq_true rfl)) (Nat.le_of_ble_eq_true rfl) dX8_told_5 rfl (c_X8_in ?_)
  refine V_ifb_eq 83 dX8_told_8 (by decide) (fun h1 => ?_) (fun h1 => ?_)
  · refine V_iconst (v := 0) dX8_told_83 ki_0 ?_
    refine V_istore_n [(2, .int 0), (0, .ref (G.2.1 29)), (1, .int w)] dX8_told_84 rfl (Nat.le_of_ble_eq_true rfl) rfl ?_
    refine V_iconst (v := 0) dX8_told_85 ki_0 ?_
    refine V_istore_n [(3, .int 0), (2, .int 0), (0, .ref (G.2.1 29)), (1, .int w)] dX8_told_86 rfl (Nat.le_of_ble_eq_true rfl) rfl ?_
    refine V_lv [(3, .int 0), (2, .int 0), (0, .ref (G.2.1 29)), (1, .int w)] [0, 1, 2, 3] rfl ?_
    exact lp_mtold hn h12 h1 hq (n + 1) 0 (by omega) (by omega)
  · obtain ⟨j, hj1, hj2, rfl⟩ := fr_ex (a := 10) (b := 61) rfl rfl h1 (by omega)
    refine V_iload_n dX8_told_11 rfl 1 rfl ?_
    refine V_bipush (v := 10) dX8_told_12 kb_10 ?_
    refine V_isub dX8_told_14 ?_
    refine V_topi (v := nI (j - 10)) (pk_sub (b := 10) hj1) ?_
    refine V_bipush (v := 20) dX8_told_15 kb_20 ?_
    refine V_irem dX8_told_17 (by decide) ?_
    refine V_topi (v := nI ((j - 10) % 20)) (pk_rem (d := 20) (by omega) (by omega) (by omega)) ?_
    refine V_istore_n [(2, .int (nI ((j - 10) % 20))), (0, .ref (G.2.1 29)), (1, .int (nI j))] dX8_told_18 rfl (Nat.le_of_ble_eq_true rfl) rfl ?_
    refine V_iload_n dX8_told_19 rfl 2 rfl ?_
    refine V_bipush (v := 10) dX8_told_20 kb_10 ?_
    refine V_isub dX8_told_22 ?_
    refine V_topi (v := nI (j - 10)) (pk_sub (b := 10) hj1) ?_
    refine V_bipush (v := 20) dX8_told_23 kb_20 ?_
    refine V_idiv dX8_told_25 (by decide) ?_
    refine V_topi (v := nI ((j - 10) / 20)) (pk_div (d := 20) (by omega) (by omega) (by omega)) ?_
    refine V_istore_n [(3, .int (nI ((j - 10) / 20))), (2, .int (nI ((j - 10) % 20))), (0, .ref (G.2.1 29)), (1, .int (nI j))] dX8_told_26 rfl (Nat.le_of_ble_eq_true rfl) rfl ?_
    refine V_iload_n dX8_told_27 rfl 1 rfl ?_
    refine V_bipush (v := 11) dX8_told_28 kb_11 ?_
    refine V_icmp_len 36 (a := ((j - 10) % 20)) (b := 11) dX8_told_30 (by decide) (by omega) (by omega) (fun h2 => ?_) (fun h2 => ?_)
    · refine V_aload_n dX8_told_36 rfl 2 rfl ?_
      refine V_iload_n dX8_told_37 rfl 1 rfl ?_
      refine V_cVi (P := pM G (d + 2) mX8_told _) (d := d + 1) 29 (r := []) (As := [.int (nI ((j - 10) % 20))]) (K := mX8_isVersion) ok_X8_isVersion tw_717 (ob_29 _) rfl (rmOk (Nat.le_of_ble_eq_true rfl)) (Nat.le_of_ble_eq_true rfl) dX8_told_38 rfl (c_X8_isVersion hn h12 ?_)
      refine V_ifb_ne 49 dX8_told_41 (by decide) (fun h3 => ?_) (fun h3 => ?_)
      · refine V_iload_n dX8_told_49 rfl 0 rfl ?_
        refine V_if_nen 62 (a := ((j - 10) / 20)) dX8_told_50 (by decide) (by omega) (fun h4 => ?_) (fun h4 => ?_)
        · refine V_iload_n dX8_told_62 rfl 0 rfl ?_
          refine V_iconst (v := 1) dX8_told_63 ki_1 ?_
          refine V_icmp_nen 76 (a := ((j - 10) / 20)) (b := 1) dX8_told_64 (by decide) (by omega) (by omega) (fun h5 => ?_) (fun h5 => ?_)
          · refine V_aload_n dX8_told_76 rfl 2 rfl ?_
            refine g_29_4 tw_632 dX8_told_77 ?_
            refine V_iload_n dX8_told_80 rfl 1 rfl ?_
            refine l_33n (by omega) dX8_told_81 ?_
            refine V_iret rfl dX8_told_82 ⟨_, rfl, ?_⟩
            exact qcast hq (by simp only [tldM, rowm, if_pos h1, nI_clamp (show j < 2 ^ 31 by omega)]; rw [kn_nI (by omega) (by omega), decide_eq_true_iff] at h3; rw [if_neg (by omega), if_pos h3]; rw [if_neg (by omega), if_neg (by omega)])
          · refine V_aload_n dX8_told_67 rfl 2 rfl ?_
            refine g_29_3 tw_631 dX8_told_68 ?_
            refine V_iload_n dX8_told_71 rfl 1 rfl ?_
            refine l_32n (by omega) dX8_told_72 ?_
            refine V_goto 82 dX8_told_73 (by decide) ?_
            refine V_iret rfl dX8_told_82 ⟨_, rfl, ?_⟩
            exact qcast hq (by simp only [tldM, rowm, if_pos h1, nI_clamp (show j < 2 ^ 31 by omega)]; rw [kn_nI (by omega) (by omega), decide_eq_true_iff] at h3; rw [if_neg (by omega), if_pos h3]; rw [if_neg (by omega), if_pos (by omega)])
        · refine V_aload_n dX8_told_53 rfl 2 rfl ?_
          refine g_29_2 tw_630 dX8_told_54 ?_
          refine V_iload_n dX8_told_57 rfl 1 rfl ?_
          refine l_31n (by omega) dX8_told_58 ?_
          refine V_goto 82 dX8_told_59 (by decide) ?_
          refine V_iret rfl dX8_told_82 ⟨_, rfl, ?_⟩
          exact qcast hq (by simp only [tldM, rowm, if_pos h1, nI_clamp (show j < 2 ^ 31 by omega)]; rw [kn_nI (by omega) (by omega), decide_eq_true_iff] at h3; rw [if_neg (by omega), if_pos h3]; rw [if_pos (by omega)])
      · refine V_bipush (v := -6) dX8_told_44 kb_m6 ?_
        refine V_goto 82 dX8_told_46 (by decide) ?_
        refine V_iret rfl dX8_told_82 ⟨_, rfl, ?_⟩
        exact qcast hq (by simp only [tldM, rowm, if_pos h1, nI_clamp (show j < 2 ^ 31 by omega)]; rw [if_neg (by omega), if_neg (by intro hz; rw [kn_nI (by omega) (by omega), decide_eq_false_iff_not] at h3; exact h3 hz)])
    · refine V_bipush (v := -2) dX8_told_33 kb_m2 ?_
      refine V_iret rfl dX8_told_35 ⟨_, rfl, ?_⟩
      exact qcast hq (by simp only [tldM, rowm, if_pos h1, nI_clamp (show j < 2 ^ 31 by omega)]; rw [if_pos (by omega)])
