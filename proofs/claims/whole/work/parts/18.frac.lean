def euN : Nat → Nat → Nat → Nat
  | 0, a, _ => a
  | k + 1, a, b => if b = 0 then a else euN k b (a % b)
theorem euN_0 (k a : Nat) : euN k a 0 = a := by cases k <;> simp [euN]
theorem euN_s {k a b : Nat} (h : 0 < b) : euN (k + 1) a b = euN k b (a % b) := by rw [euN, if_neg (by omega)]
theorem half_mod {b r : Nat} (hr : 0 < r) (hrb : r < b) : 2 * (b % r) < b := by
  have h1 := Nat.mod_lt b hr
  have h2 := Nat.div_add_mod b r
  have h3 : 1 ≤ b / r := Nat.div_pos (Nat.le_of_lt hrb) hr
  have h4 : r * 1 ≤ r * (b / r) := Nat.mul_le_mul_left r h3
  omega
theorem euN_gcd : ∀ (k a b : Nat), b < 2 ^ k → euN (2 * k + 1) a b = Nat.gcd a b
  | 0, a, b, h => by
    have : b = 0 := by omega
    subst this
    rw [euN_0, Nat.gcd_zero_right]
  | k + 1, a, b, h => by
    by_cases hb : b = 0
    · subst hb; rw [euN_0, Nat.gcd_zero_right]
    have hb0 : 0 < b := by omega
    rw [show 2 * (k + 1) + 1 = (2 * k + 1) + 1 + 1 by omega, euN_s hb0]
    have hg : Nat.gcd a b = Nat.gcd b (a % b) := by rw [Nat.gcd_comm a b, Nat.gcd_rec b a, Nat.gcd_comm]
    by_cases hr : a % b = 0
    · rw [hr, euN_0, hg, hr, Nat.gcd_zero_right]
    have hr0 : 0 < a % b := by omega
    have hrb := Nat.mod_lt a hb0
    rw [euN_s hr0]
    have hh := half_mod hr0 hrb
    rw [euN_gcd k (a % b) (b % (a % b)) (by rw [Nat.pow_succ] at h; omega), hg, Nat.gcd_comm b (a % b), Nat.gcd_rec (a % b) b, Nat.gcd_comm]
theorem euN_more {k a b g : Nat} (h : euN k a b = g) (hz : ∀ j, j ≤ k → True) : True := trivial
theorem euN_fix : ∀ (k j a b : Nat), b < 2 ^ k → 2 * k + 1 ≤ j → euN j a b = Nat.gcd a b := by
  intro k
  induction k with
  | zero =>
    intro j a b h hj
    have : b = 0 := by omega
    subst this
    rw [euN_0, Nat.gcd_zero_right]
  | succ k ih =>
    intro j a b h hj
    by_cases hb : b = 0
    · subst hb; rw [euN_0, Nat.gcd_zero_right]
    have hb0 : 0 < b := by omega
    obtain ⟨j, rfl⟩ : ∃ i, j = i + 1 + 1 := ⟨j - 2, by omega⟩
    rw [euN_s hb0]
    have hg : Nat.gcd a b = Nat.gcd b (a % b) := by rw [Nat.gcd_comm a b, Nat.gcd_rec b a, Nat.gcd_comm]
    by_cases hr : a % b = 0
    · rw [hr, euN_0, hg, hr, Nat.gcd_zero_right]
    have hr0 : 0 < a % b := by omega
    have hrb := Nat.mod_lt a hb0
    rw [euN_s hr0]
    have hh := half_mod hr0 hrb
    rw [ih j (a % b) (b % (a % b)) (by rw [Nat.pow_succ] at h; omega) (by omega), hg, Nat.gcd_comm b (a % b), Nat.gcd_rec (a % b) b, Nat.gcd_comm]
theorem lN_0 : lN 0 = 0 := rfl
theorem lg_lN0 {a : Nat} (ha : a < 2 ^ 63) : lg_cmp (lN a) 0 = 0 ↔ a = 0 := by rw [lg0, ← lN_0, pk_lEQ ha (by omega)]
theorem lg_gt {x y : Int64} : 0 < lg_cmp x y ↔ y < x := by
  unfold lg_cmp
  by_cases h : x > y
  · rw [if_pos h]; exact ⟨fun _ => h, fun _ => by decide⟩
  · rw [if_neg h]
    refine ⟨fun e => ?_, fun e => absurd e h⟩
    by_cases h2 : x = y
    · rw [if_pos h2] at e; exact absurd e (by decide)
    · rw [if_neg h2] at e; exact absurd e (by decide)
theorem lg_le {x y : Int64} : lg_cmp x y ≤ 0 ↔ x ≤ y := by rw [← Int32.not_lt, lg_gt, Int64.not_lt]
theorem lg_lt {x y : Int64} : lg_cmp x y < 0 ↔ x < y := by
  unfold lg_cmp
  by_cases h : x > y
  · simp only [h, if_true]; exact ⟨fun e => absurd e (by decide), fun e => by rw [gt_iff_lt, Int64.lt_iff_toInt_lt] at h; rw [Int64.lt_iff_toInt_lt] at e; omega⟩
  · simp only [h, if_false]
    by_cases h2 : x = y
    · subst h2; simp only [if_true]; exact ⟨fun e => absurd e (by decide), fun e => by rw [Int64.lt_iff_toInt_lt] at e; omega⟩
    · simp only [h2, if_false]
      refine ⟨fun _ => ?_, fun _ => by decide⟩
      rw [gt_iff_lt, Int64.lt_iff_toInt_lt] at h
      rw [Int64.lt_iff_toInt_lt]
      have : x.toInt ≠ y.toInt := fun e => h2 (Int64.toInt_inj.mp e)
      omega
theorem lg_ge {x y : Int64} : 0 ≤ lg_cmp x y ↔ y ≤ x := by rw [← Int32.not_lt, lg_lt, Int64.not_lt]
def frac (a b : Nat) (q : Int32) : Int64 := if a = 0 ∨ b = 0 then q.toInt64 else lN ((if q = 0 then a else b) / Nat.gcd a b)
theorem lp_cd {G : GX} {d y : Nat} {S : ST} {Q : Int64 → ST → Prop} (hy : 0 < y) (hy2 : y < 2 ^ 63) (hq : Q (lN y) S) : ∀ (k i a b : Nat), i ≤ 200 → 200 - i < k → a < 2 ^ 63 → b < 2 ^ 63 → euN (200 - i) a b = y → V (pM G (d + 1) mX7_commonDivisor (ql Q)) 3 [(4, .int (nI i)), (0, .long (lN a)), (2, .long (lN b))] [] S := by
  intro k
  induction k with
  | zero => intro i a b hi hk; exact absurd hk (Nat.not_lt_zero _)
  | succ k ih =>
    intro i a b hi hk ha hb he
    refine V_iload dX7_commonDivisor_3 0 rfl ?_
    refine V_sipush (v := 200) dX7_commonDivisor_5 ks_200 ?_
    refine V_icmp_gen 33 (a := i) (b := 200) dX7_commonDivisor_8 (by decide) (by omega) (by omega) (fun h1 => ?_) (fun h1 => ?_)
    · refine V_lconst (v := 1) dX7_commonDivisor_33 rfl ?_
      refine V_lload_n dX7_commonDivisor_34 rfl 1 rfl ?_
      refine V_lmax tw_355 (mR (Nat.le_of_ble_eq_true rfl)) dX7_commonDivisor_35 ?_
      have ea : a = y := by rw [show 200 - i = 0 by omega] at he; exact he
      subst ea
      exact V_lret rfl dX7_commonDivisor_38 ⟨_, rfl, qcast hq (by rw [if_neg]; rw [show (1 : Int64) = lN 1 from rfl, pk_lLT hy2 (by omega)]; omega)⟩
    · refine V_lload_n dX7_commonDivisor_11 rfl 2 rfl ?_
      refine V_lconst (v := 0) dX7_commonDivisor_12 rfl ?_
      refine V_lcmp dX7_commonDivisor_13 ?_
      refine V_if_eq 33 dX7_commonDivisor_14 (by decide) (fun h2 => ?_) (fun h2 => ?_)
      · refine V_lconst (v := 1) dX7_commonDivisor_33 rfl ?_
        refine V_lload_n dX7_commonDivisor_34 rfl 1 rfl ?_
        refine V_lmax tw_355 (mR (Nat.le_of_ble_eq_true rfl)) dX7_commonDivisor_35 ?_
        have ea : a = y := by rw [(lg_lN0 hb).mp h2, euN_0] at he; exact he
        subst ea
        exact V_lret rfl dX7_commonDivisor_38 ⟨_, rfl, qcast hq (by rw [if_neg]; rw [show (1 : Int64) = lN 1 from rfl, pk_lLT hy2 (by omega)]; omega)⟩
      · refine V_lload_n dX7_commonDivisor_17 rfl 1 rfl ?_
        refine V_lload_n dX7_commonDivisor_18 rfl 2 rfl ?_
        refine V_lrem dX7_commonDivisor_19 (by intro hz; exact h2 (lg0.mpr hz)) ?_
        refine V_topl (v := lN (a % b)) (pk_lRem ha (by have := mt (lg_lN0 hb).mpr h2; omega) hb) ?_
        refine V_lstore [(5, .long (lN (a % b))), (4, .int (nI i)), (0, .long (lN a)), (2, .long (lN b))] dX7_commonDivisor_20 (Nat.le_of_ble_eq_true rfl) rfl ?_
        refine V_lload_n dX7_commonDivisor_22 rfl 3 rfl ?_
        refine V_lstore_n [(0, .long (lN b)), (5, .long (lN (a % b))), (4, .int (nI i)), (2, .long (lN b))] dX7_commonDivisor_23 rfl (Nat.le_of_ble_eq_true rfl) rfl ?_
        refine V_lload dX7_commonDivisor_24 1 rfl ?_
        refine V_lstore_n [(2, .long (lN (a % b))), (0, .long (lN b)), (5, .long (lN (a % b))), (4, .int (nI i))] dX7_commonDivisor_26 rfl (Nat.le_of_ble_eq_true rfl) rfl ?_
        refine V_iinc [(4, .int (nI (i + 1))), (2, .long (lN (a % b))), (0, .long (lN b)), (5, .long (lN (a % b)))] dX7_commonDivisor_27 3 rfl (nI_1 _) (Nat.le_of_ble_eq_true rfl) rfl ?_
        refine V_goto 3 dX7_commonDivisor_30 (by decide) ?_
        refine V_lv [(4, .int (nI (i + 1))), (0, .long (lN b)), (2, .long (lN (a % b)))] [0, 2, 1] rfl ?_
        have h0 : 0 < b := by have := mt (lg_lN0 hb).mpr h2; omega
        rw [show 200 - i = 200 - (i + 1) + 1 by omega, euN_s h0] at he
        exact ih (i + 1) b (a % b) (by omega) (by omega) hb (Nat.lt_of_le_of_lt (Nat.mod_le a b) ha) he
theorem c_X7_commonDivisor {G : GX} {d : Nat} {S : ST} {a b : Nat} {Q : Int64 → ST → Prop} (ha : a < 2 ^ 63) (hb : b < 2 ^ 63) (h0 : 0 < a) (hq : Q (lN (Nat.gcd a b)) S) : Cn G (d + 1) mX7_commonDivisor [.long (lN a), .long (lN b)] S (ql Q) := by
  refine Cn.intro (lv := [(0, .long (lN a)), (2, .long (lN b))]) (by decide) (Nat.le_of_ble_eq_true rfl) rfl ?_
  refine V_iconst (v := 0) dX7_commonDivisor_0 ki_0 ?_
  refine V_istore [(4, .int 0), (0, .long (lN a)), (2, .long (lN b))] dX7_commonDivisor_1 (Nat.le_of_ble_eq_true rfl) rfl ?_
  refine V_lv [(4, .int 0), (0, .long (lN a)), (2, .long (lN b))] [0, 1, 2] rfl ?_
  exact lp_cd (Nat.gcd_pos_of_pos_left b h0) (Nat.lt_of_le_of_lt (Nat.gcd_le_left b h0) ha) hq 201 0 a b (by omega) (by omega) ha hb (euN_fix 63 200 a b hb (by omega))
theorem c_X7_fraction {G : GX} {d : Nat} {S : ST} {a b : Nat} {q : Int32} {Q : Int64 → ST → Prop} (ha : a < 2 ^ 63) (hb : b < 2 ^ 63) (hq : Q (frac a b q) S) : Cn G (d + 2) mX7_fraction [.long (lN a), .long (lN b), .int q] S (ql Q) := by
  refine Cn.intro (lv := [(0, .long (lN a)), (2, .long (lN b)), (4, .int q)]) (by decide) (Nat.le_of_ble_eq_true rfl) rfl ?_
  refine V_lload_n dX7_fraction_0 rfl 0 rfl ?_
  refine V_lconst (v := 0) dX7_fraction_1 rfl ?_
  refine V_lcmp dX7_fraction_2 ?_
  refine V_if_le 12 dX7_fraction_3 (by decide) (fun h1 => ?_) (fun h1 => ?_)
  · have za : a = 0 := by rw [lg_le, ← lN_0, pk_lLE ha (by omega)] at h1; omega
    refine V_iload dX7_fraction_12 2 rfl ?_
    refine V_i2l dX7_fraction_14 ?_
    refine V_lret rfl dX7_fraction_15 ⟨_, rfl, ?_⟩
    exact qcast hq (by rw [frac, if_pos (by omega)])
  · have za : 0 < a := by rw [lg_le, ← lN_0, pk_lLE ha (by omega)] at h1; omega
    refine V_lload_n dX7_fraction_6 rfl 1 rfl ?_
    refine V_lconst (v := 0) dX7_fraction_7 rfl ?_
    refine V_lcmp dX7_fraction_8 ?_
    refine V_if_gt 16 dX7_fraction_9 (by decide) (fun h2 => ?_) (fun h2 => ?_)
    · have zb : 0 < b := by rw [lg_gt, ← lN_0, pk_lLT (by omega) hb] at h2; omega
      refine V_iload dX7_fraction_16 2 rfl ?_
      refine V_if_ne 25 dX7_fraction_18 (by decide) (fun h3 => ?_) (fun h3 => ?_)
      · refine V_lload_n dX7_fraction_25 rfl 1 rfl ?_
        refine V_lload_n dX7_fraction_26 rfl 0 rfl ?_
        refine V_lload_n dX7_fraction_27 rfl 1 rfl ?_
        refine V_cSl (P := pM G (d + 2) mX7_fraction _) (d := d + 1) (r := [.long (lN b)]) (As := [.long (lN a), .long (lN b)]) (K := mX7_commonDivisor) ok_X7_commonDivisor tw_352 rfl (rmOk (Nat.le_of_ble_eq_true rfl)) (Nat.le_of_ble_eq_true rfl) dX7_fraction_28 rfl (c_X7_commonDivisor ha hb (by omega) ?_)
        refine V_ldiv dX7_fraction_31 (by rw [← lN_0, pk_lEQ (Nat.lt_of_le_of_lt (Nat.gcd_le_left b (by omega)) ha) (by omega)]; have := Nat.gcd_pos_of_pos_left b (show 0 < a by omega); omega) ?_
        refine V_lret rfl dX7_fraction_32 ⟨_, rfl, ?_⟩
        exact qcast hq (by rw [frac, if_neg (by omega), if_neg h3, pk_lDiv hb (Nat.gcd_pos_of_pos_left b za) (Nat.lt_of_le_of_lt (Nat.gcd_le_left b za) ha)])
      · refine V_lload_n dX7_fraction_21 rfl 0 rfl ?_
        refine V_goto 26 dX7_fraction_22 (by decide) ?_
        refine V_lload_n dX7_fraction_26 rfl 0 rfl ?_
        refine V_lload_n dX7_fraction_27 rfl 1 rfl ?_
        refine V_cSl (P := pM G (d + 2) mX7_fraction _) (d := d + 1) (r := [.long (lN a)]) (As := [.long (lN a), .long (lN b)]) (K := mX7_commonDivisor) ok_X7_commonDivisor tw_352 rfl (rmOk (Nat.le_of_ble_eq_true rfl)) (Nat.le_of_ble_eq_true rfl) dX7_fraction_28 rfl (c_X7_commonDivisor ha hb (by omega) ?_)
        refine V_ldiv dX7_fraction_31 (by rw [← lN_0, pk_lEQ (Nat.lt_of_le_of_lt (Nat.gcd_le_left b (by omega)) ha) (by omega)]; have := Nat.gcd_pos_of_pos_left b (show 0 < a by omega); omega) ?_
        refine V_lret rfl dX7_fraction_32 ⟨_, rfl, ?_⟩
        exact qcast hq (by rw [frac, if_neg (by omega), if_pos h3, pk_lDiv ha (Nat.gcd_pos_of_pos_left b za) (Nat.lt_of_le_of_lt (Nat.gcd_le_left b za) ha)])
    · have zb : b = 0 := by rw [lg_gt, ← lN_0, pk_lLT (by omega) hb] at h2; omega
      refine V_iload dX7_fraction_12 2 rfl ?_
      refine V_i2l dX7_fraction_14 ?_
      refine V_lret rfl dX7_fraction_15 ⟨_, rfl, ?_⟩
      exact qcast hq (by rw [frac, if_pos (by omega)])
