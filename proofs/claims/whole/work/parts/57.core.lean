/-- the set for which F holds with i such ahead of it -/
def fdI (F : Nat → Bool) (i : Int32) : Nat → Int32
  | 0 => -6
  | t + 1 => if F t = true ∧ nI (cn F t) = i then nI t else fdI F i t
theorem fdI_t {F : Nat → Bool} {i : Int32} {t : Nat} (h : F t = true) (h2 : nI (cn F t) = i) : fdI F i (t + 1) = nI t := by rw [fdI, if_pos ⟨h, h2⟩]
theorem fdI_f {F : Nat → Bool} {i : Int32} {t : Nat} (h : F t = false) : fdI F i (t + 1) = fdI F i t := by rw [fdI, if_neg (fun z => by rw [h] at z; exact absurd z.1 (by decide))]
theorem fdI_n {F : Nat → Bool} {i : Int32} {t : Nat} (h : ¬ nI (cn F t) = i) : fdI F i (t + 1) = fdI F i t := by rw [fdI, if_neg (fun z => h z.2)]
theorem cn_mono (F : Nat → Bool) {a : Nat} : ∀ {b : Nat}, a ≤ b → cn F a ≤ cn F b
  | 0, h => by rw [show a = 0 by omega]; exact Nat.le_refl _
  | b + 1, h => by
    rcases (show a ≤ b ∨ a = b + 1 by omega) with z | z
    · have := cn_mono F z
      rw [cn_s]
      omega
    · rw [z]; exact Nat.le_refl _
theorem cn_t {F : Nat → Bool} {t : Nat} (h : F t = true) : cn F (t + 1) = cn F t + 1 := by rw [cn_s, h]; rfl
theorem cn_f {F : Nat → Bool} {t : Nat} (h : F t = false) : cn F (t + 1) = cn F t := by rw [cn_s, h]; rfl
theorem fdI_hit {F : Nat → Bool} {a s : Nat} (h : F s = true) (h2 : cn F s = a) : ∀ {m : Nat}, s < m → m ≤ 4096 → fdI F (nI a) m = nI s
  | 0, hs, _ => absurd hs (Nat.not_lt_zero _)
  | m + 1, hs, hm => by
    rcases (show s < m ∨ s = m by omega) with z | z
    · have h3 := cn_mono F (a := s + 1) (b := m) z
      have h4 := cn_le F m
      rw [cn_t h] at h3
      rw [fdI_n (by rw [nI_eq (by omega) (by omega)]; omega), fdI_hit h h2 z (by omega)]
    · rw [← z]; exact fdI_t h (by rw [h2])
theorem fdI_no {F : Nat → Bool} {a : Nat} (ha : a < 2 ^ 31) : ∀ {m : Nat}, m ≤ 4096 → cn F m ≤ a → fdI F (nI a) m = -6
  | 0, _, _ => rfl
  | m + 1, hm, h => by
    cases hf : F m with
    | false => rw [cn_f hf] at h; rw [fdI_f hf, fdI_no ha (by omega) h]
    | true =>
      have h4 := cn_le F m
      rw [cn_t hf] at h
      rw [fdI_n (by rw [nI_eq (by omega) ha]; omega), fdI_no ha (by omega) (by omega)]
theorem fdI_neg {F : Nat → Bool} {i : Int32} (hi : i < 0) : ∀ {m : Nat}, m ≤ 4096 → fdI F i m = -6
  | 0, _ => rfl
  | m + 1, hm => by
    have h4 := cn_le F m
    rw [fdI_n (fun z => by rw [← z] at hi; exact nI_pos (by omega) hi), fdI_neg hi (by omega)]
theorem cn_w {F : Nat → Bool} {f : Nat → Int64} {w : Nat} (h : RW F f 64) (hw : w < 64) : cn F (64 * (w + 1)) = cn F (64 * w) + cn (fun j => bl (f w) j) 64 := by
  rw [show 64 * (w + 1) = 64 * w + 64 by omega, cn_add]
  congr 1
  exact cn_cong (fun j hj => (RW_at h hw hj).symm)
theorem lp_cf {G : GX} {d : Nat} {S : ST} {F : Nat → Bool} {Q : Int32 → ST → Prop} (hR : RW F (S.2.2.2 27) 64) (hq : Q (nI (cn F 4096)) S) : ∀ (k w : Nat), w ≤ 64 → 64 - w < k → V (pM G (d + 1) mX0_countFound (qi Q)) 4 [(2, .int (nI w)), (1, .int (nI (cn F (64 * w)))), (0, .ref (G.2.1 8))] [] S := by
  intro k
  induction k with
  | zero => intro w hw hk; exact absurd hk (Nat.not_lt_zero _)
  | succ k ih =>
    intro w hw hk
    refine V_iload_n dX0_countFound_4 rfl 0 rfl ?_
    refine V_bipush (v := 64) dX0_countFound_5 kb_64 ?_
    refine V_icmp_gen 28 (a := w) (b := 64) dX0_countFound_7 (by decide) (by omega) (by omega) (fun h1 => ?_) (fun h1 => ?_)
    · refine V_iload_n dX0_countFound_28 rfl 1 rfl ?_
      have hin : w = 64 := by omega
      subst hin
      exact V_iret rfl dX0_countFound_29 ⟨_, rfl, hq⟩
    · refine V_iload_n dX0_countFound_10 rfl 1 rfl ?_
      refine V_aload_n dX0_countFound_11 rfl 2 rfl ?_
      refine g_8_2 tw_192 dX0_countFound_12 ?_
      refine V_iload_n dX0_countFound_15 rfl 0 rfl ?_
      refine l_27n (by omega) dX0_countFound_16 ?_
      refine V_cSi (P := pM G (d + 1) mX0_countFound _) (d := d) (r := [.int (nI (cn F (64 * w)))]) (As := [.long (S.2.2.2 27 w)]) (K := mJ13_bitCount_95d88) ok_J13_bitCount_95d88 tw_604 rfl (rmOk (Nat.le_of_ble_eq_true rfl)) (Nat.le_of_ble_eq_true rfl) dX0_countFound_17 rfl (c_bcL ?_)
      refine V_iadd dX0_countFound_20 ?_
      refine V_topi (v := nI (cn F (64 * (w + 1)))) (by rw [nI_add, cn_w hR h1]) ?_
      refine V_istore_n [(1, .int (nI (cn F (64 * (w + 1))))), (2, .int (nI w)), (0, .ref (G.2.1 8))] dX0_countFound_21 rfl (Nat.le_of_ble_eq_true rfl) rfl ?_
      refine V_iinc [(2, .int (nI (w + 1))), (1, .int (nI (cn F (64 * (w + 1))))), (0, .ref (G.2.1 8))] dX0_countFound_22 1 rfl (nI_1 _) (Nat.le_of_ble_eq_true rfl) rfl ?_
      refine V_goto 4 dX0_countFound_25 (by decide) ?_
      refine V_lv [(2, .int (nI (w + 1))), (1, .int (nI (cn F (64 * (w + 1))))), (0, .ref (G.2.1 8))] [0, 1, 2] rfl ?_
      exact ih (w + 1) (by omega) (by omega)
theorem c_X0_countFound {G : GX} {d : Nat} {S : ST} {F : Nat → Bool} {Q : Int32 → ST → Prop} (hR : RW F (S.2.2.2 27) 64) (hq : Q (nI (cn F 4096)) S) : Cn G (d + 1) mX0_countFound [.ref (G.2.1 8)] S (qi Q) := by
  refine Cn.intro (lv := [(0, .ref (G.2.1 8))]) (by decide) (Nat.le_of_ble_eq_true rfl) rfl ?_
  refine V_iconst (v := 0) dX0_countFound_0 ki_0 ?_
  refine V_istore_n [(1, .int 0), (0, .ref (G.2.1 8))] dX0_countFound_1 rfl (Nat.le_of_ble_eq_true rfl) rfl ?_
  refine V_iconst (v := 0) dX0_countFound_2 ki_0 ?_
  refine V_istore_n [(2, .int 0), (1, .int 0), (0, .ref (G.2.1 8))] dX0_countFound_3 rfl (Nat.le_of_ble_eq_true rfl) rfl ?_
  refine V_lv [(2, .int 0), (1, .int 0), (0, .ref (G.2.1 8))] [0, 1, 2] rfl ?_
  refine V_lveq [(2, .int (nI 0)), (1, .int (nI (cn F (64 * 0)))), (0, .ref (G.2.1 8))] (by rfl) ?_
  exact lp_cf hR hq 65 0 (by omega) (by omega)
theorem lp_ffm {G : GX} {d w a : Nat} {S : ST} {F : Nat → Bool} {Q : Int32 → ST → Prop} (hR : RW F (S.2.2.2 27) 64) (hw : w < 64) (hlt : a < cn F (64 * (w + 1))) (ha : a < 2 ^ 31) (hq : Q (fdI F (nI a) 4096) S) : ∀ (k s : Nat), 64 * w ≤ s → s ≤ 64 * w + 64 → 64 * w + 64 - s < k → cn F s ≤ a → V (pM G (d + 2) mX0_foundFrom (qi Q)) 5 [(4, .int (nI s)), (3, .int (nI (a - cn F s))), (0, .ref (G.2.1 8)), (1, .int (nI (64 * w)))] [] S := by
  intro k
  induction k with
  | zero => intro s h1 h2 hk; exact absurd hk (Nat.not_lt_zero _)
  | succ k ih =>
    intro s hs1 hs2 hk hcn
    have hcl := cn_le F s
    have hs3 : s < 64 * w + 64 := by
      rcases Nat.lt_or_ge s (64 * w + 64) with z | z
      · exact z
      · exfalso
        rw [show s = 64 * (w + 1) by omega] at hcn
        omega
    refine V_iload dX0_foundFrom_5 0 rfl ?_
    refine V_iload_n dX0_foundFrom_7 rfl 3 rfl ?_
    refine V_bipush (v := 64) dX0_foundFrom_8 kb_64 ?_
    refine V_iadd dX0_foundFrom_10 ?_
    refine V_topi (v := nI (64 * w + 64)) (nI_add _ 64) ?_
    refine V_icmp_gen 50 (a := s) (b := (64 * w + 64)) dX0_foundFrom_11 (by decide) (by omega) (by omega) (fun h1 => ?_) (fun h1 => ?_)
    · exact absurd h1 (by omega)
    · refine V_iload dX0_foundFrom_14 0 rfl ?_
      refine V_sipush (v := 4096) dX0_foundFrom_16 ks_4096 ?_
      refine V_icmp_gen 50 (a := s) (b := 4096) dX0_foundFrom_19 (by decide) (by omega) (by omega) (fun h2 => ?_) (fun h2 => ?_)
      · exact absurd h2 (by omega)
      · refine V_aload_n dX0_foundFrom_22 rfl 2 rfl ?_
        refine g_8_2 tw_192 dX0_foundFrom_23 ?_
        refine V_iload dX0_foundFrom_26 0 rfl ?_
        refine V_cNi (P := pM G (d + 2) mX0_foundFrom _) (d := d + 1) (r := []) (As := [.ref (G.2.1 27), .int (nI s)]) (K := mX7_isAmong) ok_X7_isAmong nl_573 rfl (rmOk (Nat.le_of_ble_eq_true rfl)) (Nat.le_of_ble_eq_true rfl) dX0_foundFrom_28 rfl (c_X7_isAmong_27 (by omega) ?_)
        refine V_topi (v := b2i (F s)) (by rw [hR s (by omega)]) ?_
        refine V_ifb_eq 44 dX0_foundFrom_31 (by decide) (fun h3 => ?_) (fun h3 => ?_)
        · refine V_iinc [(4, .int (nI (s + 1))), (3, .int (nI (a - cn F s))), (0, .ref (G.2.1 8)), (1, .int (nI (64 * w)))] dX0_foundFrom_44 0 rfl (nI_1 _) (Nat.le_of_ble_eq_true rfl) rfl ?_
          refine V_goto 5 dX0_foundFrom_47 (by decide) ?_
          refine V_lv [(4, .int (nI (s + 1))), (3, .int (nI (a - cn F s))), (0, .ref (G.2.1 8)), (1, .int (nI (64 * w)))] [0, 1, 2, 3] rfl ?_
          refine V_lveq [(4, .int (nI (s + 1))), (3, .int (nI (a - cn F (s + 1)))), (0, .ref (G.2.1 8)), (1, .int (nI (64 * w)))] (by rw [cn_f h3]) ?_
          exact ih (s + 1) (by omega) (by omega) (by omega) (by rw [cn_f h3]; omega)
        · refine V_iload_n dX0_foundFrom_34 rfl 1 rfl ?_
          refine V_if_nen 41 (a := (a - cn F s)) dX0_foundFrom_35 (by decide) (by omega) (fun h4 => ?_) (fun h4 => ?_)
          · refine V_iinc [(3, .int (nI (a - cn F s - 1))), (4, .int (nI s)), (0, .ref (G.2.1 8)), (1, .int (nI (64 * w)))] dX0_foundFrom_41 1 rfl (by rw [ki_m1]; exact sb_m1 (by omega)) (Nat.le_of_ble_eq_true rfl) rfl ?_
            refine V_iinc [(4, .int (nI (s + 1))), (3, .int (nI (a - cn F s - 1))), (0, .ref (G.2.1 8)), (1, .int (nI (64 * w)))] dX0_foundFrom_44 1 rfl (nI_1 _) (Nat.le_of_ble_eq_true rfl) rfl ?_
            refine V_goto 5 dX0_foundFrom_47 (by decide) ?_
            refine V_lv [(4, .int (nI (s + 1))), (3, .int (nI (a - cn F s - 1))), (0, .ref (G.2.1 8)), (1, .int (nI (64 * w)))] [0, 1, 2, 3] rfl ?_
            refine V_lveq [(4, .int (nI (s + 1))), (3, .int (nI (a - cn F (s + 1)))), (0, .ref (G.2.1 8)), (1, .int (nI (64 * w)))] (by rw [cn_t h3, show a - cn F s - 1 = a - (cn F s + 1) by omega]) ?_
            exact ih (s + 1) (by omega) (by omega) (by omega) (by rw [cn_t h3]; omega)
          · refine V_iload dX0_foundFrom_38 0 rfl ?_
            exact V_iret rfl dX0_foundFrom_40 ⟨_, rfl, qcast hq (by rw [fdI_hit h3 (show cn F s = a by omega) (show s < 4096 by omega) (Nat.le_refl _)])⟩
theorem c_X0_foundFrom {G : GX} {d : Nat} {S : ST} {w l a : Nat} {F : Nat → Bool} {Q : Int32 → ST → Prop} (hR : RW F (S.2.2.2 27) 64) (hw : w < 64) (hla : l + cn F (64 * w) = a) (hlt : a < cn F (64 * (w + 1))) (ha : a < 2 ^ 31) (hq : Q (fdI F (nI a) 4096) S) : Cn G (d + 2) mX0_foundFrom [.ref (G.2.1 8), .int (nI (64 * w)), .int (nI l)] S (qi Q) := by
  refine Cn.intro (lv := [(0, .ref (G.2.1 8)), (1, .int (nI (64 * w))), (2, .int (nI l))]) (by decide) (Nat.le_of_ble_eq_true rfl) rfl ?_
  refine V_iload_n dX0_foundFrom_0 rfl 2 rfl ?_
  refine V_istore_n [(3, .int (nI l)), (0, .ref (G.2.1 8)), (1, .int (nI (64 * w))), (2, .int (nI l))] dX0_foundFrom_1 rfl (Nat.le_of_ble_eq_true rfl) rfl ?_
  refine V_iload_n dX0_foundFrom_2 rfl 2 rfl ?_
  refine V_istore [(4, .int (nI (64 * w))), (3, .int (nI l)), (0, .ref (G.2.1 8)), (1, .int (nI (64 * w))), (2, .int (nI l))] dX0_foundFrom_3 (Nat.le_of_ble_eq_true rfl) rfl ?_
  refine V_lv [(4, .int (nI (64 * w))), (3, .int (nI l)), (0, .ref (G.2.1 8)), (1, .int (nI (64 * w)))] [0, 1, 2, 3] rfl ?_
  refine V_lveq [(4, .int (nI (64 * w))), (3, .int (nI (a - cn F (64 * w)))), (0, .ref (G.2.1 8)), (1, .int (nI (64 * w)))] (by rw [show a - cn F (64 * w) = l by omega]) ?_
  exact lp_ffm hR hw hlt ha hq 65 (64 * w) (by omega) (by omega) (by omega) (by omega)
theorem lp_fat {G : GX} {d a : Nat} {S : ST} {F : Nat → Bool} {Q : Int32 → ST → Prop} (hR : RW F (S.2.2.2 27) 64) (ha : a < 2 ^ 31) (hq : Q (fdI F (nI a) 4096) S) : ∀ (k w l : Nat), w ≤ 64 → 64 - w < k → l + cn F (64 * w) = a → V (pM G (d + 3) mX0_foundAt (qi Q)) 4 [(3, .int (nI w)), (2, .int (nI l)), (0, .ref (G.2.1 8))] [] S := by
  intro k
  induction k with
  | zero => intro w l hw hk; exact absurd hk (Nat.not_lt_zero _)
  | succ k ih =>
    intro w l hw hk hl
    have hh := cn_le (fun j => bl (S.2.2.2 27 w) j) 64
    refine V_iload_n dX0_foundAt_4 rfl 0 rfl ?_
    refine V_bipush (v := 64) dX0_foundAt_5 kb_64 ?_
    refine V_icmp_gen 52 (a := w) (b := 64) dX0_foundAt_7 (by decide) (by omega) (by omega) (fun h1 => ?_) (fun h1 => ?_)
    · refine V_bipush (v := -6) dX0_foundAt_52 kb_m6 ?_
      have hin : w = 64 := by omega
      subst hin
      have hl2 : l + cn F 4096 = a := hl
      exact V_iret rfl dX0_foundAt_54 ⟨_, rfl, qcast hq (by rw [fdI_no ha (Nat.le_refl _) (by omega)])⟩
    · refine V_iload_n dX0_foundAt_10 rfl 1 rfl ?_
      refine V_if_ltn 52 (a := l) dX0_foundAt_11 (by decide) (by omega) (fun hz => hz.elim) (fun _ => ?_)
      refine V_aload_n dX0_foundAt_14 rfl 2 rfl ?_
      refine g_8_2 tw_192 dX0_foundAt_15 ?_
      refine V_iload_n dX0_foundAt_18 rfl 0 rfl ?_
      refine l_27n (by omega) dX0_foundAt_19 ?_
      refine V_cSi (P := pM G (d + 3) mX0_foundAt _) (d := d + 2) (r := []) (As := [.long (S.2.2.2 27 w)]) (K := mJ13_bitCount_95d88) ok_J13_bitCount_95d88 tw_604 rfl (rmOk (Nat.le_of_ble_eq_true rfl)) (Nat.le_of_ble_eq_true rfl) dX0_foundAt_20 rfl (c_bcL ?_)
      refine V_istore [(4, .int (nI (cn (fun j => bl (S.2.2.2 27 w) j) 64))), (3, .int (nI w)), (2, .int (nI l)), (0, .ref (G.2.1 8))] dX0_foundAt_23 (Nat.le_of_ble_eq_true rfl) rfl ?_
      refine V_iload_n dX0_foundAt_25 rfl 2 rfl ?_
      refine V_iload dX0_foundAt_26 0 rfl ?_
      refine V_icmp_gen 41 (a := l) (b := (cn (fun j => bl (S.2.2.2 27 w) j) 64)) dX0_foundAt_28 (by decide) (by omega) (by omega) (fun h2 => ?_) (fun h2 => ?_)
      · refine V_iload_n dX0_foundAt_41 rfl 2 rfl ?_
        refine V_iload dX0_foundAt_42 0 rfl ?_
        refine V_isub dX0_foundAt_44 ?_
        refine V_topi (v := nI (l - cn (fun j => bl (S.2.2.2 27 w) j) 64)) (pk_sub h2) ?_
        refine V_istore_n [(2, .int (nI (l - cn (fun j => bl (S.2.2.2 27 w) j) 64))), (4, .int (nI (cn (fun j => bl (S.2.2.2 27 w) j) 64))), (3, .int (nI w)), (0, .ref (G.2.1 8))] dX0_foundAt_45 rfl (Nat.le_of_ble_eq_true rfl) rfl ?_
        refine V_iinc [(3, .int (nI (w + 1))), (2, .int (nI (l - cn (fun j => bl (S.2.2.2 27 w) j) 64))), (4, .int (nI (cn (fun j => bl (S.2.2.2 27 w) j) 64))), (0, .ref (G.2.1 8))] dX0_foundAt_46 2 rfl (nI_1 _) (Nat.le_of_ble_eq_true rfl) rfl ?_
        refine V_goto 4 dX0_foundAt_49 (by decide) ?_
        refine V_lv [(3, .int (nI (w + 1))), (2, .int (nI (l - cn (fun j => bl (S.2.2.2 27 w) j) 64))), (0, .ref (G.2.1 8))] [0, 1, 3] rfl ?_
        exact ih (w + 1) (l - cn (fun j => bl (S.2.2.2 27 w) j) 64) (by omega) (by omega) (by rw [cn_w hR h1]; omega)
      · refine V_aload_n dX0_foundAt_31 rfl 3 rfl ?_
        refine V_iload_n dX0_foundAt_32 rfl 1 rfl ?_
        refine V_bipush (v := 64) dX0_foundAt_33 kb_64 ?_
        refine V_imul dX0_foundAt_35 ?_
        refine V_topi (v := nI (64 * w)) (by rw [show (64 : Int32) = nI 64 from rfl, pk_mul, Nat.mul_comm]) ?_
        refine V_iload_n dX0_foundAt_36 rfl 2 rfl ?_
        refine V_cVi (P := pM G (d + 3) mX0_foundAt _) (d := d + 2) 8 (r := []) (As := [.int (nI (64 * w)), .int (nI l)]) (K := mX0_foundFrom) ok_X0_foundFrom tw_614 (ob_8 _) rfl (rmOk (Nat.le_of_ble_eq_true rfl)) (Nat.le_of_ble_eq_true rfl) dX0_foundAt_37 rfl (c_X0_foundFrom (l := l) hR h1 hl (by rw [cn_w hR h1]; omega) ha ?_)
        exact V_iret rfl dX0_foundAt_40 ⟨_, rfl, hq⟩
theorem c_X0_foundAt {G : GX} {d : Nat} {S : ST} {x : Int32} {F : Nat → Bool} {Q : Int32 → ST → Prop} (hR : RW F (S.2.2.2 27) 64) (hq : Q (fdI F x 4096) S) : Cn G (d + 3) mX0_foundAt [.ref (G.2.1 8), .int x] S (qi Q) := by
  refine Cn.intro (lv := [(0, .ref (G.2.1 8)), (1, .int x)]) (by decide) (Nat.le_of_ble_eq_true rfl) rfl ?_
  refine V_iload_n dX0_foundAt_0 rfl 1 rfl ?_
  refine V_istore_n [(2, .int x), (0, .ref (G.2.1 8)), (1, .int x)] dX0_foundAt_1 rfl (Nat.le_of_ble_eq_true rfl) rfl ?_
  refine V_iconst (v := 0) dX0_foundAt_2 ki_0 ?_
  refine V_istore_n [(3, .int 0), (2, .int x), (0, .ref (G.2.1 8)), (1, .int x)] dX0_foundAt_3 rfl (Nat.le_of_ble_eq_true rfl) rfl ?_
  by_cases hx : x < 0
  · refine V_iload_n dX0_foundAt_4 rfl 0 rfl ?_
    refine V_bipush (v := 64) dX0_foundAt_5 kb_64 ?_
    refine V_icmp_ge 52 dX0_foundAt_7 (by decide) (fun hz => absurd hz (by decide)) (fun _ => ?_)
    refine V_iload_n dX0_foundAt_10 rfl 1 rfl ?_
    refine V_if_lt 52 dX0_foundAt_11 (by decide) (fun h1 => ?_) (fun h1 => ?_)
    · refine V_bipush (v := -6) dX0_foundAt_52 kb_m6 ?_
      exact V_iret rfl dX0_foundAt_54 ⟨_, rfl, qcast hq (by rw [fdI_neg hx (Nat.le_refl _)])⟩
    · exact absurd hx h1
  · obtain ⟨a, ha, rfl⟩ := nI_of hx
    refine V_lv [(3, .int 0), (2, .int (nI a)), (0, .ref (G.2.1 8))] [0, 1, 2] rfl ?_
    refine V_lveq [(3, .int (nI 0)), (2, .int (nI a)), (0, .ref (G.2.1 8))] (by rfl) ?_
    exact lp_fat hR ha hq 65 0 a (by omega) (by omega) (by show a + 0 = a; omega)
def corR (n : Nat) (v i : Int32) (told : Bool) (F : Nat → Bool) (m : Nat) : Int32 := if kn n v = true then (if told = true then (if i = -1 then nI (cn F m) else fdI F i m) else -3) else -1
theorem corR_1 {n m : Nat} {v i : Int32} {t : Bool} {F : Nat → Bool} (h : kn n v = false) : corR n v i t F m = -1 := by unfold corR; rw [h]; rfl
theorem corR_3 {n m : Nat} {v i : Int32} {t : Bool} {F : Nat → Bool} (h : kn n v = true) (h2 : t = false) : corR n v i t F m = -3 := by unfold corR; rw [h, h2]; rfl
theorem corR_n {n m : Nat} {v i : Int32} {t : Bool} {F : Nat → Bool} (h : kn n v = true) (h2 : t = true) (h3 : i = -1) : corR n v i t F m = nI (cn F m) := by unfold corR; rw [h, h2, if_pos h3]; rfl
theorem corR_a {n m : Nat} {v i : Int32} {t : Bool} {F : Nat → Bool} (h : kn n v = true) (h2 : t = true) (h3 : ¬ i = -1) : corR n v i t F m = fdI F i m := by unfold corR; rw [h, h2, if_neg h3]; rfl
def corC (S : ST) (n : Nat) (v i : Int32) : Int32 := corR n v i (decide ((1 : Int32) ≤ S.1 9)) (cor (owC S n (hv (S.2.2.1 9) v))) 4096
theorem c_X7_core {G : GX} {d : Nat} {S : ST} {v i : Int32} {n : Nat} {Q : Int32 → ST → Prop} (hn : S.1 0 = nI n) (h12 : n ≤ 12) (hN : NE (S.2.2.1 13) n) (hH : HS n S) (hq : ∀ S2, FrF S S2 → Q (corC S n v i) S2) : Cn G (d + 5) mX7_core [.ref (G.2.1 0), .int v, .int i] S (qi Q) := by
  refine Cn.intro (lv := [(0, .ref (G.2.1 0)), (1, .int v), (2, .int i)]) (by decide) (Nat.le_of_ble_eq_true rfl) rfl ?_
  refine V_aload_n dX7_core_0 rfl 0 rfl ?_
  refine g_0_0 tw_203 dX7_core_1 ?_
  refine V_iload_n dX7_core_4 rfl 1 rfl ?_
  refine V_cVi (P := pM G (d + 5) mX7_core _) (d := d + 4) 1 (r := []) (As := [.int v]) (K := mX1_knows) ok_X1_knows tw_258 (ob_1 _) rfl (rmOk (Nat.le_of_ble_eq_true rfl)) (Nat.le_of_ble_eq_true rfl) dX7_core_5 rfl (c_X1_knows hn ?_)
  refine V_ifb_ne 13 dX7_core_8 (by decide) (fun h1 => ?_) (fun h1 => ?_)
  · refine V_aload_n dX7_core_13 rfl 0 rfl ?_
    refine g_0_6 tw_209 dX7_core_14 ?_
    refine g_7_0 tw_172 dX7_core_17 ?_
    refine V_iconst (v := 1) dX7_core_20 ki_1 ?_
    refine V_icmp_ge 27 dX7_core_21 (by decide) (fun h2 => ?_) (fun h2 => ?_)
    · obtain ⟨j, hj, rfl⟩ := kn_ex h1 (by omega)
      obtain ⟨ch, hch, ech⟩ := hH.2 j hj
      refine V_aload_n dX7_core_27 rfl 0 rfl ?_
      refine g_0_7 tw_210 dX7_core_28 ?_
      refine V_aload_n dX7_core_31 rfl 0 rfl ?_
      refine g_0_0 tw_203 dX7_core_32 ?_
      refine g_1_1 tw_34 dX7_core_35 ?_
      refine V_iload_n dX7_core_38 rfl 1 rfl ?_
      refine l_9n (by omega) dX7_core_39 ?_
      refine V_topi (v := nI ch) (id ech) ?_
      refine V_cVv (P := pM G (d + 5) mX7_core _) (d := d + 4) 8 (r := []) (As := [.int (nI ch)]) (K := mX0_findCores) ok_X0_findCores tw_590 (ob_8 _) rfl (rmOk (Nat.le_of_ble_eq_true rfl)) (Nat.le_of_ble_eq_true rfl) dX7_core_40 rfl (c_X0_findCores (ch := ch) hn h12 hN (fun S2 hF hR => ?_))
      refine V_iload_n dX7_core_43 rfl 2 rfl ?_
      refine V_iconst (v := -1) dX7_core_44 ki_m1 ?_
      refine V_icmp_ne 58 dX7_core_45 (by decide) (fun h3 => ?_) (fun h3 => ?_)
      · refine V_aload_n dX7_core_58 rfl 0 rfl ?_
        refine g_0_7 tw_210 dX7_core_59 ?_
        refine V_iload_n dX7_core_62 rfl 2 rfl ?_
        refine V_cVi (P := pM G (d + 5) mX7_core _) (d := d + 4) 8 (r := []) (As := [.int i]) (K := mX0_foundAt) ok_X0_foundAt tw_610 (ob_8 _) rfl (rmOk (Nat.le_of_ble_eq_true rfl)) (Nat.le_of_ble_eq_true rfl) dX7_core_63 rfl (c_X0_foundAt hR ?_)
        exact V_iret rfl dX7_core_66 ⟨_, rfl, qcast (hq S2 hF) (by unfold corC; rw [corR_a h1 (decide_eq_true h2) h3, hv_j (by omega) hch ech])⟩
      · refine V_aload_n dX7_core_48 rfl 0 rfl ?_
        refine g_0_7 tw_210 dX7_core_49 ?_
        refine V_cVi (P := pM G (d + 5) mX7_core _) (d := d + 4) 8 (r := []) (As := []) (K := mX0_countFound) ok_X0_countFound tw_600 (ob_8 _) rfl (rmOk (Nat.le_of_ble_eq_true rfl)) (Nat.le_of_ble_eq_true rfl) dX7_core_52 rfl (c_X0_countFound hR ?_)
        refine V_goto 66 dX7_core_55 (by decide) ?_
        exact V_iret rfl dX7_core_66 ⟨_, rfl, qcast (hq S2 hF) (by unfold corC; rw [corR_n h1 (decide_eq_true h2) h3, hv_j (by omega) hch ech])⟩
    · refine V_bipush (v := -3) dX7_core_24 kb_m3 ?_
      exact V_iret rfl dX7_core_26 ⟨_, rfl, qcast (hq S (FrF.rf S)) (by unfold corC; rw [corR_3 h1 (decide_eq_false h2)])⟩
  · refine V_iconst (v := -1) dX7_core_11 ki_m1 ?_
    exact V_iret rfl dX7_core_12 ⟨_, rfl, qcast (hq S (FrF.rf S)) (by unfold corC; rw [corR_1 h1])⟩
