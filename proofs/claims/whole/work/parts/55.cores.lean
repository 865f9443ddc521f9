def clr (t c : Nat) : Nat := nd t (2 ^ c)
theorem clr_tb {t : Nat} (c i : Nat) (ht : t < 4096) : (clr t c).testBit i = (t.testBit i && !decide (c = i)) := by
  unfold clr
  rw [nd_tb _ _ ht, Nat.testBit_two_pow]
theorem clr_le (t c : Nat) : clr t c ≤ t := nd_le _ _
theorem clr_lt {t c : Nat} (ht : t < 4096) (h : t.testBit c = true) : clr t c < t := by
  rcases Nat.lt_or_ge (clr t c) t with z | z
  · exact z
  · exfalso
    have e : clr t c = t := Nat.le_antisymm (clr_le t c) z
    have h2 := clr_tb c c ht
    rw [e, h] at h2
    simp at h2
/-- a set of bits below k taken away from t makes it own -/
def Hk (own : Nat → Bool) : Nat → Nat → Bool
  | 0, t => own t
  | k + 1, t => Hk own k t || (t.testBit k && Hk own k (clr t k))
theorem Hk_s (own : Nat → Bool) (k t : Nat) : Hk own (k + 1) t = (Hk own k t || (t.testBit k && Hk own k (clr t k))) := rfl
theorem Hk_ex {own : Nat → Bool} : ∀ {k t : Nat}, t < 4096 → (Hk own k t = true ↔ ∃ s, s < 4096 ∧ (∀ i, s.testBit i = true → t.testBit i = true) ∧ (∀ i, k ≤ i → s.testBit i = t.testBit i) ∧ own s = true)
  | 0, t, ht => by
    constructor
    · exact fun h => ⟨t, ht, fun i hi => hi, fun i _ => rfl, h⟩
    · rintro ⟨s, -, -, h2, h3⟩
      have e : s = t := Nat.eq_of_testBit_eq (fun i => h2 i (Nat.zero_le i))
      rw [← e]; exact h3
  | k + 1, t, ht => by
    have ih1 := Hk_ex (own := own) (k := k) ht
    have ih2 := Hk_ex (own := own) (k := k) (t := clr t k) (Nat.lt_of_le_of_lt (clr_le t k) ht)
    rw [Hk_s, Bool.or_eq_true, Bool.and_eq_true, ih1, ih2]
    constructor
    · rintro (⟨s, h0, h1, h2, h3⟩ | ⟨hk, s, h0, h1, h2, h3⟩)
      · exact ⟨s, h0, h1, fun i hi => h2 i (by omega), h3⟩
      · refine ⟨s, h0, fun i hi => ?_, fun i hi => ?_, h3⟩
        · have z := h1 i hi
          rw [clr_tb k i ht, Bool.and_eq_true] at z
          exact z.1
        · rw [h2 i (by omega), clr_tb k i ht]
          have : decide (k = i) = false := decide_eq_false (by omega)
          rw [this]; simp
    · rintro ⟨s, h0, h1, h2, h3⟩
      cases hs : s.testBit k with
      | true =>
        refine Or.inl ⟨s, h0, h1, fun i hi => ?_, h3⟩
        rcases (show k = i ∨ k + 1 ≤ i by omega) with z | z
        · rw [← z, hs, h1 k hs]
        · exact h2 i z
      | false =>
        cases ht2 : t.testBit k with
        | false =>
          refine Or.inl ⟨s, h0, h1, fun i hi => ?_, h3⟩
          rcases (show k = i ∨ k + 1 ≤ i by omega) with z | z
          · rw [← z, hs, ht2]
          · exact h2 i z
        | true =>
          refine Or.inr ⟨rfl, s, h0, fun i hi => ?_, fun i hi => ?_, h3⟩
          · rw [clr_tb k i ht, h1 i hi]
            have : decide (k = i) = false := decide_eq_false (fun z => by rw [← z, hs] at hi; cases hi)
            rw [this]; rfl
          · rw [clr_tb k i ht]
            rcases (show k = i ∨ k + 1 ≤ i by omega) with z | z
            · rw [← z, hs]; simp
            · rw [h2 i z]
              have : decide (k = i) = false := decide_eq_false (by omega)
              rw [this]; simp
theorem Hk_12 {own : Nat → Bool} {t : Nat} (ht : t < 4096) : Hk own 12 t = true ↔ ∃ s, s < 4096 ∧ (∀ i, s.testBit i = true → t.testBit i = true) ∧ own s = true := by
  rw [Hk_ex ht]
  constructor
  · rintro ⟨s, h0, h1, -, h3⟩; exact ⟨s, h0, h1, h3⟩
  · rintro ⟨s, h0, h1, h3⟩; exact ⟨s, h0, h1, fun i hi => by rw [tb_hi h0 hi, tb_hi ht hi], h3⟩
def pt (own : Nat → Bool) (t : Nat) : Nat → Bool
  | 0 => false
  | c + 1 => pt own t c || (t.testBit c && Hk own 12 (clr t c))
theorem pt_s (own : Nat → Bool) (t c : Nat) : pt own t (c + 1) = (pt own t c || (t.testBit c && Hk own 12 (clr t c))) := rfl
theorem pt_ex {own : Nat → Bool} {t : Nat} : ∀ {m : Nat}, pt own t m = true ↔ ∃ c, c < m ∧ t.testBit c = true ∧ Hk own 12 (clr t c) = true
  | 0 => by
    constructor
    · intro h; exact absurd h Bool.false_ne_true
    · rintro ⟨c, h, -⟩; exact absurd h (Nat.not_lt_zero _)
  | m + 1 => by
    rw [pt_s, Bool.or_eq_true, Bool.and_eq_true, pt_ex]
    constructor
    · rintro (⟨c, h1, h2⟩ | h)
      · exact ⟨c, by omega, h2⟩
      · exact ⟨m, by omega, h⟩
    · rintro ⟨c, h1, h2⟩
      rcases (show c < m ∨ c = m by omega) with z | z
      · exact Or.inl ⟨c, z, h2⟩
      · rw [z] at h2; exact Or.inr h2
theorem Hk_rec {own : Nat → Bool} {t : Nat} (ht : t < 4096) : Hk own 12 t = (own t || pt own t 12) := by
  rw [Bool.eq_iff_iff, Hk_12 ht, Bool.or_eq_true, pt_ex]
  constructor
  · rintro ⟨s, h0, h1, h3⟩
    by_cases e : s = t
    · exact Or.inl (e ▸ h3)
    · refine Or.inr ?_
      have : ∃ c, t.testBit c = true ∧ s.testBit c = false := by
        refine Classical.byContradiction fun hx => e (Nat.eq_of_testBit_eq (fun i => ?_))
        cases hs : s.testBit i with
        | true => exact (h1 i hs).symm
        | false =>
          cases h : t.testBit i with
          | false => rfl
          | true => exact absurd ⟨i, h, hs⟩ hx
      obtain ⟨c, hc, hs⟩ := this
      refine ⟨c, ?_, hc, (Hk_12 (Nat.lt_of_le_of_lt (clr_le t c) ht)).mpr ⟨s, h0, fun i hi => ?_, h3⟩⟩
      · rcases Nat.lt_or_ge c 12 with z | z
        · exact z
        · rw [tb_hi ht z] at hc; cases hc
      · rw [clr_tb c i ht, h1 i hi]
        have : decide (c = i) = false := decide_eq_false (fun z => by rw [← z, hs] at hi; cases hi)
        rw [this]; rfl
  · rintro (h | ⟨c, -, hc, h⟩)
    · exact ⟨t, ht, fun i hi => hi, h⟩
    · obtain ⟨s, h0, h1, h3⟩ := (Hk_12 (Nat.lt_of_le_of_lt (clr_le t c) ht)).mp h
      refine ⟨s, h0, fun i hi => ?_, h3⟩
      have z := h1 i hi
      rw [clr_tb c i ht, Bool.and_eq_true] at z
      exact z.1
theorem Hk_clr {own : Nat → Bool} {t c : Nat} (ht : t < 4096) : Hk own (c + 1) (clr t c) = Hk own c (clr t c) := by
  rw [Hk_s, clr_tb c c ht]
  simp
theorem pt_n {own : Nat → Bool} {t n : Nat} (ht : t < 2 ^ n) : ∀ {m : Nat}, n ≤ m → pt own t m = pt own t n := by
  intro m
  induction m with
  | zero => intro h; rw [show n = 0 by omega]
  | succ m ih =>
    intro h
    rcases (show n = m + 1 ∨ n ≤ m by omega) with z | z
    · rw [z]
    · rw [pt_s, ih z, Nat.testBit_lt_two_pow (Nat.lt_of_lt_of_le ht (Nat.pow_le_pow_right (n := 2) (by decide) z))]
      simp
def cor (own : Nat → Bool) (t : Nat) : Bool := own t && !pt own t 12
/-! sets that are given a change, by words -/
theorem g6 : ∀ c, c < 6 → ∀ j, j < 64 → j.testBit c = (decide (2 ^ c ≤ j) && !(j - 2 ^ c).testBit c) := by decide +kernel
theorem g6b : ∀ c, c < 6 → ∀ j, j < 64 → j.testBit c = true → ∀ i, i < 6 → (j - 2 ^ c).testBit i = (j.testBit i && !decide (c = i)) := by decide +kernel
theorem g7 : ∀ e, e < 6 → ∀ w, w < 64 → ((w &&& 2 ^ e = 0) ↔ w.testBit e = false) := by decide +kernel
theorem g7b : ∀ e, e < 6 → ∀ w, w < 64 → w.testBit e = true → (w ^^^ 2 ^ e) < 64 ∧ (w ^^^ 2 ^ e) < w ∧ ∀ i, i < 6 → (w ^^^ 2 ^ e).testBit i = (w.testBit i && !decide (e = i)) := by decide +kernel
theorem tb_wj {w j i : Nat} (hj : j < 64) : (64 * w + j).testBit i = if i < 6 then j.testBit i else w.testBit (i - 6) := by
  rw [show 64 * w + j = 2 ^ 6 * w + j by omega, Nat.testBit_two_pow_mul_add w (by omega)]
theorem tb_64 {w i : Nat} (h : w < 64) (hi : 6 ≤ i) : w.testBit i = false := Nat.testBit_lt_two_pow (Nat.lt_of_lt_of_le h (Nat.pow_le_pow_right (n := 2) (i := 6) (by decide) hi))
theorem clr_lo {c w j : Nat} (hc : c < 6) (hw : w < 64) (hj : j < 64) (h : j.testBit c = true) : clr (64 * w + j) c = 64 * w + (j - 2 ^ c) := by
  have hjc : j - 2 ^ c < 64 := Nat.lt_of_le_of_lt (Nat.sub_le _ _) hj
  apply Nat.eq_of_testBit_eq
  intro i
  rw [clr_tb c i (by omega), tb_wj hj, tb_wj hjc]
  by_cases hi : i < 6
  · rw [if_pos hi, if_pos hi, g6b c hc j hj h i hi]
  · rw [if_neg hi, if_neg hi]
    have : decide (c = i) = false := decide_eq_false (by omega)
    rw [this]; simp
theorem clr_hi {e w j : Nat} (he : e < 6) (hw : w < 64) (hj : j < 64) (h : w.testBit e = true) : clr (64 * w + j) (e + 6) = 64 * (w ^^^ 2 ^ e) + j := by
  have hb := g7b e he w hw h
  apply Nat.eq_of_testBit_eq
  intro i
  rw [clr_tb _ i (by omega), tb_wj hj, tb_wj hj]
  by_cases hi : i < 6
  · rw [if_pos hi, if_pos hi]
    have : decide (e + 6 = i) = false := decide_eq_false (by omega)
    rw [this]; simp
  · rw [if_neg hi, if_neg hi]
    by_cases h2 : i - 6 < 6
    · rw [hb.2.2 (i - 6) h2]
      have : decide (e + 6 = i) = decide (e = i - 6) := by congr 1; apply propext; omega
      rw [this]
    · rw [tb_64 hw (by omega), tb_64 hb.1 (by omega)]; rfl
def sgv (f : Nat → Int64) (c w : Nat) : Int64 := if c < 6 then (f w &&& (lowF c ^^^ -1)) <<< ((nI (2 ^ c)).toInt64 &&& 63) else if w &&& 2 ^ (c - 6) = 0 then 0 else f (w ^^^ 2 ^ (c - 6))
theorem bl_shl0 : ∀ k, k < 64 → (((nI k).toInt64 &&& 63).toBitVec.smod 64).toNat = k := by decide +kernel
theorem bl_shl {x : Int64} {k j : Nat} (hk : k < 64) (hj : j < 64) : bl (x <<< ((nI k).toInt64 &&& 63)) j = (decide (k ≤ j) && bl x (j - k)) := by
  unfold bl
  rw [Int64.toBitVec_shiftLeft]
  show (x.toBitVec <<< (((nI k).toInt64 &&& 63).toBitVec.smod 64).toNat).getLsbD j = _
  rw [bl_shl0 k hk, BitVec.getLsbD_shiftLeft]
  rcases Nat.lt_or_ge j k with h | h
  · simp [h, Nat.not_le.mpr h]
  · simp [hj, h, Nat.not_lt.mpr h]
theorem p2_6 : ∀ c, c < 6 → 2 ^ c < 64 := by decide
theorem bl_sgv {f : Nat → Int64} {c w j : Nat} (hc : c < 12) (hw : w < 64) (hj : j < 64) : bl (sgv f c w) j = ((64 * w + j).testBit c && bl (f (clr (64 * w + j) c / 64)) (clr (64 * w + j) c % 64)) := by
  unfold sgv
  have hjc : j - 2 ^ c < 64 := Nat.lt_of_le_of_lt (Nat.sub_le _ _) hj
  rw [tb_wj hj]
  by_cases h : c < 6
  · rw [if_pos h, if_pos h, bl_shl (p2_6 c h) hj]
    cases hb : j.testBit c with
    | false =>
      have g := g6 c h j hj
      rw [hb] at g
      rcases Nat.lt_or_ge j (2 ^ c) with z | z
      · rw [decide_eq_false (by omega)]; rfl
      · rw [decide_eq_true z, Bool.true_and] at g
        rw [bl_and, bl_xor, bl_m1 _ (by omega), bl_low c h _ (by omega), Bool.xor_true, ← g]
        simp
    | true =>
      have g := g6 c h j hj
      rw [hb] at g
      have z : 2 ^ c ≤ j := by
        rcases Nat.lt_or_ge j (2 ^ c) with z | z
        · rw [decide_eq_false (by omega)] at g; cases g
        · exact z
      rw [decide_eq_true z, Bool.true_and] at g
      rw [bl_and, bl_xor, bl_m1 _ (by omega), bl_low c h _ (by omega), Bool.xor_true, ← g, clr_lo h hw hj hb, decide_eq_true z, show (64 * w + (j - 2 ^ c)) / 64 = w by omega, show (64 * w + (j - 2 ^ c)) % 64 = j - 2 ^ c by omega]
      simp
  · rw [if_neg h, if_neg h]
    cases hb : w.testBit (c - 6) with
    | false => rw [if_pos ((g7 (c - 6) (by omega) w hw).mpr hb), bl_0]; rfl
    | true =>
      rw [if_neg (fun z => by rw [(g7 (c - 6) (by omega) w hw).mp z] at hb; cases hb)]
      have e := clr_hi (e := c - 6) (by omega) hw hj hb
      rw [show c - 6 + 6 = c by omega] at e
      rw [e, show (64 * (w ^^^ 2 ^ (c - 6)) + j) / 64 = w ^^^ 2 ^ (c - 6) by omega, show (64 * (w ^^^ 2 ^ (c - 6)) + j) % 64 = j by omega]
      rfl
theorem nI_xor (a b : Nat) : nI a ^^^ nI b = nI (a ^^^ b) := by
  apply b_ext
  intro i hi
  rw [b_xor, bt_eq hi, bt_eq hi, bt_eq hi, Nat.testBit_xor]
theorem c_X7_setsGiven {G : GX} {d : Nat} {S : ST} {c w : Nat} {Q : Int64 → ST → Prop} (hc : c < 12) (hw : w < 64) (hq : Q (sgv (S.2.2.2 28) c w) S) : Cn G d mX7_setsGiven [.int (nI c), .ref (G.2.1 28), .int (nI w)] S (ql Q) := by
  refine Cn.intro (lv := [(0, .int (nI c)), (1, .ref (G.2.1 28)), (2, .int (nI w))]) (by decide) (Nat.le_of_ble_eq_true rfl) rfl ?_
  refine V_iload_n dX7_setsGiven_0 rfl 0 rfl ?_
  refine V_bipush (v := 6) dX7_setsGiven_1 kb_6 ?_
  refine V_icmp_gen 24 (a := c) (b := 6) dX7_setsGiven_3 (by decide) (by omega) (by omega) (fun h1 => ?_) (fun h1 => ?_)
  · have hal : w &&& 2 ^ (c - 6) ≤ w := Nat.and_le_left
    refine V_iconst (v := 1) dX7_setsGiven_24 ki_1 ?_
    refine V_iload_n dX7_setsGiven_25 rfl 0 rfl ?_
    refine V_bipush (v := 6) dX7_setsGiven_26 kb_6 ?_
    refine V_isub dX7_setsGiven_28 ?_
    refine V_topi (v := nI (c - 6)) (pk_sub (b := 6) h1) ?_
    refine V_ishl dX7_setsGiven_29 ?_
    refine V_topi (v := nI (2 ^ (c - 6))) (sh1n (c - 6) (by omega)) ?_
    refine V_istore_n [(3, .int (nI (2 ^ (c - 6)))), (0, .int (nI c)), (1, .ref (G.2.1 28)), (2, .int (nI w))] dX7_setsGiven_30 rfl (Nat.le_of_ble_eq_true rfl) rfl ?_
    refine V_iload_n dX7_setsGiven_31 rfl 3 rfl ?_
    refine V_iload_n dX7_setsGiven_32 rfl 0 rfl ?_
    refine V_iand dX7_setsGiven_33 ?_
    refine V_topi (v := nI (w &&& 2 ^ (c - 6))) (nI_and _ _) ?_
    refine V_if_eqn 45 (a := (w &&& 2 ^ (c - 6))) dX7_setsGiven_34 (by decide) (by omega) (fun h2 => ?_) (fun h2 => ?_)
    · refine V_lconst (v := 0) dX7_setsGiven_45 rfl ?_
      refine V_lret rfl dX7_setsGiven_46 ⟨_, rfl, ?_⟩
      exact qcast hq (by unfold sgv; rw [if_neg (by omega), if_pos h2])
    · refine V_aload_n dX7_setsGiven_37 rfl 2 rfl ?_
      refine V_iload_n dX7_setsGiven_38 rfl 3 rfl ?_
      refine V_iload_n dX7_setsGiven_39 rfl 0 rfl ?_
      refine V_ixor dX7_setsGiven_40 ?_
      refine V_topi (v := nI (w ^^^ 2 ^ (c - 6))) (nI_xor _ _) ?_
      refine l_28n (g7b (c - 6) (by omega) w hw (by cases hb : w.testBit (c - 6) with
      | false => exact absurd ((g7 (c - 6) (by omega) w hw).mpr hb) (by omega)
      | true => rfl)).1 dX7_setsGiven_41 ?_
      refine V_goto 46 dX7_setsGiven_42 (by decide) ?_
      refine V_lret rfl dX7_setsGiven_46 ⟨_, rfl, ?_⟩
      exact qcast hq (by unfold sgv; rw [if_neg (by omega), if_neg (by omega)])
  · refine V_aload_n dX7_setsGiven_6 rfl 1 rfl ?_
    refine V_iload_n dX7_setsGiven_7 rfl 2 rfl ?_
    refine l_28n (by omega) dX7_setsGiven_8 ?_
    refine V_low tw_525 dX7_setsGiven_9 ?_
    refine V_iload_n dX7_setsGiven_12 rfl 0 rfl ?_
    refine l_lown (by omega) dX7_setsGiven_13 ?_
    refine V_ldc2 dX7_setsGiven_14 tw_528 ?_
    refine V_lxor dX7_setsGiven_17 ?_
    refine V_land dX7_setsGiven_18 ?_
    refine V_iconst (v := 1) dX7_setsGiven_19 ki_1 ?_
    refine V_iload_n dX7_setsGiven_20 rfl 0 rfl ?_
    refine V_ishl dX7_setsGiven_21 ?_
    refine V_topi (v := nI (2 ^ c)) (sh1n c (by omega)) ?_
    refine V_lshl dX7_setsGiven_22 ?_
    refine V_lret rfl dX7_setsGiven_23 ⟨_, rfl, ?_⟩
    exact qcast hq (by unfold sgv; rw [if_pos h1])
