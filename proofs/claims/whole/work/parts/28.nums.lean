/-- what trust() and set() leave: small numbers -/
def RG (tr sz : Nat → Int32) (n : Nat) : Prop := (∀ k, k < 2 → ∃ a, a ≤ 5 ∧ tr k = nI a) ∧ (∀ k, 2 ≤ k → k < 5 → ∃ a, a ≤ 9 ∧ tr k = nI a) ∧ ∀ c, c < n → ∃ a, 1 ≤ a ∧ a ≤ 9 ∧ sz c = nI a
def ub (b : Nat) (w : Int64) : Prop := ∃ a, a ≤ b ∧ w = lN a
theorem ten_nat {tr sz : Nat → Int32} {n : Nat} (h : RG tr sz n) (f q : Bool) : ∃ a, a ≤ 10 ∧ ten tr f q = nI a := by
  obtain ⟨a, ha, ea⟩ := h.1 0 (by omega)
  obtain ⟨b, hb, eb⟩ := h.1 1 (by omega)
  have e10 : ∀ k, k ≤ 10 → (10 : Int32) - nI k = nI (10 - k) := fun k hk => pk_sub (a := 10) hk
  cases f <;> cases q <;> simp only [ten, if_true, if_false, Bool.false_eq_true]
  · exact ⟨b, by omega, eb⟩
  · exact ⟨10 - b, by omega, by rw [eb, e10 b (by omega)]⟩
  · exact ⟨10 - a, by omega, by rw [ea, e10 a (by omega)]⟩
  · exact ⟨a, by omega, ea⟩
theorem ub_mul {a b : Nat} {x y : Int64} (h1 : ub a x) (h2 : ub b y) : ub (a * b) (x * y) := by
  obtain ⟨p, hp, rfl⟩ := h1
  obtain ⟨q, hq, rfl⟩ := h2
  exact ⟨p * q, Nat.mul_le_mul hp hq, lN_mul p q⟩
theorem ub_add {a b : Nat} {x y : Int64} (h1 : ub a x) (h2 : ub b y) : ub (a + b) (x + y) := by
  obtain ⟨p, hp, rfl⟩ := h1
  obtain ⟨q, hq, rfl⟩ := h2
  exact ⟨p + q, by omega, lN_add p q⟩
theorem ub_le {a b : Nat} {x : Int64} (h : ub a x) (hab : a ≤ b) : ub b x := by
  obtain ⟨p, hp, e⟩ := h
  exact ⟨p, by omega, e⟩
theorem ub_i {a b : Nat} (h : a ≤ b) (hb : b < 2 ^ 31) : ub b (nI a).toInt64 := ⟨a, h, nI_l (by omega)⟩
theorem w0c_nat {tr sz : Nat → Int32} {n s c e : Nat} (h : RG tr sz n) (hs : s < 3) (hc : c < n) (he : e < n) : ub 729 (w0c tr sz s c e) := by
  obtain ⟨b, hb0, hb, eb⟩ := h.2.2 c hc
  obtain ⟨q, hq0, hq, eq⟩ := h.2.2 e he
  unfold w0c
  split
  · obtain ⟨a, ha, ea⟩ := h.2.1 2 (by omega) (by omega)
    rw [ea, eb, pk_mul]
    have : a * b ≤ 9 * 9 := Nat.mul_le_mul ha hb
    exact ub_le (ub_i (b := 81) (by omega) (by omega)) (by omega)
  · obtain ⟨a, ha, ea⟩ := h.2.1 (2 + s) (by omega) (by omega)
    rw [ea, eb, eq, pk_mul]
    have : a * b ≤ 9 * 9 := Nat.mul_le_mul ha hb
    exact ub_le (ub_mul (ub_i (b := 81) (by omega) (by omega)) (ub_i (b := 9) hq (by omega))) (by omega)
theorem w0m_nat {tr sz : Nat → Int32} {n s c e : Nat} (h : RG tr sz n) (hs : s < 3) (hc : c < n) (he : e < n) : w0m tr sz s c e = w0c tr sz s c e := by
  obtain ⟨b, hb0, hb, eb⟩ := h.2.2 c hc
  unfold w0c w0m
  by_cases h0 : s = 0
  · subst h0
    obtain ⟨a, ha, ea⟩ := h.2.1 2 (by omega) (by omega)
    have : a * b ≤ 9 * 9 := Nat.mul_le_mul ha hb
    rw [if_pos rfl, if_pos rfl, Int64.mul_one, ea, eb, pk_mul, nI_l (by omega), nI_l (by omega), nI_l (by omega), lN_mul]
  · obtain ⟨a, ha, ea⟩ := h.2.1 (2 + s) (by omega) (by omega)
    have : a * b ≤ 9 * 9 := Nat.mul_le_mul ha hb
    rw [if_neg h0, if_neg h0, ea, eb, pk_mul, nI_l (n := a) (by omega), nI_l (n := b) (by omega), nI_l (by omega), lN_mul]
theorem wprod_nat {w : Int64} {f : Nat → Int64} {b : Nat} (hw : ub b w) : ∀ {m : Nat}, (∀ k, k < m → ub 10 (f k)) → ub (b * 10 ^ m) (wprod w f m)
  | 0, _ => by simpa [wprod] using hw
  | m + 1, h => by
    have ih := wprod_nat hw (m := m) (fun k hk => h k (by omega))
    have := ub_mul ih (h m (by omega))
    rw [Nat.mul_assoc] at this
    rw [Nat.pow_succ]
    exact this
theorem wX_nat {S : ST} {m n : Nat} {x : XT} (h : RG (S.2.2.1 17) (S.2.2.1 11) n) (hm : m ≤ 12) (hx : okX n x) : ub 729000000000000 (wX S m x) := by
  have h1 := wprod_nat (f := tenc S (fO (S.2.2.1 10) x.1 x.2.1 x.2.2)) (m := m) (w0c_nat h hx.1 hx.2.1 hx.2.2) (fun k _ => by
    obtain ⟨a, ha, ea⟩ := ten_nat h (bt (fO (S.2.2.1 10) x.1 x.2.1 x.2.2) (S.2.2.1 15 k).toNatClampNeg) (decide (S.2.2.1 16 k ≠ 0))
    unfold tenc
    rw [ea]
    exact ub_i ha (by omega))
  refine ub_le h1 ?_
  have : 10 ^ m ≤ 10 ^ 12 := Nat.pow_le_pow_right (by omega) hm
  have := Nat.mul_le_mul_left 729 this
  omega
theorem lsum_nat {f : XT → Int64} {b : Nat} (L : List XT) (h : ∀ x, x ∈ L → ub b (f x)) : ub (L.length * b) (lsum f L) := by
  have key : ∀ (L : List XT) (a : Int64) (c : Nat), ub c a → (∀ x, x ∈ L → ub b (f x)) → ub (c + L.length * b) (L.foldl (fun a x => a + f x) a) := by
    intro L
    induction L with
    | nil => intro a c ha _; simpa using ha
    | cons y L ih =>
      intro a c ha h
      have := ih (a + f y) (c + b) (ub_add ha (h y List.mem_cons_self)) (fun x hx => h x (List.mem_cons_of_mem _ hx))
      rw [List.length_cons, Nat.succ_mul]
      refine ub_le this (by omega)
  have := key L 0 0 ⟨0, Nat.le_refl 0, rfl⟩ h
  simpa [lsum] using this
theorem mxs_nat {f : XT → Int64} {b : Nat} (L : List XT) (h : ∀ x, x ∈ L → ub b (f x)) : ub b (mxs f L) := by
  have key : ∀ (L : List XT) (a : Int64), ub b a → (∀ x, x ∈ L → ub b (f x)) → ub b (L.foldl (fun a x => mx a (f x)) a) := by
    intro L
    induction L with
    | nil => intro a ha _; exact ha
    | cons y L ih =>
      intro a ha h
      refine ih _ ?_ (fun x hx => h x (List.mem_cons_of_mem _ hx))
      show ub b (mx a (f y))
      unfold mx
      split
      · exact h y List.mem_cons_self
      · exact ha
  exact key L 0 ⟨0, Nat.zero_le _, rfl⟩ h
def frc (a b : Int64) (q : Int32) : Int64 := frac a.toInt.toNat b.toInt.toNat q
theorem lN_tn {a : Nat} (h : a < 2 ^ 63) : (lN a).toInt.toNat = a := by rw [pk_lT h]; rfl
theorem c_X7_frc {G : GX} {d : Nat} {S : ST} {a b : Int64} {q : Int32} {ba bb : Nat} {Q : Int64 → ST → Prop} (ha : ub ba a) (hb : ub bb b) (ha2 : ba < 2 ^ 63) (hb2 : bb < 2 ^ 63) (hq : Q (frc a b q) S) : Cn G (d + 2) mX7_fraction [.long a, .long b, .int q] S (ql Q) := by
  obtain ⟨x, hx, rfl⟩ := ha
  obtain ⟨y, hy, rfl⟩ := hb
  refine c_X7_fraction (by omega) (by omega) ?_
  rw [frc, lN_tn (by omega), lN_tn (by omega)] at hq
  exact hq
theorem gcd_r (a b : Nat) : Nat.gcd a b = Nat.gcd b (a % b) := by rw [Nat.gcd_comm a b, Nat.gcd_rec b a, Nat.gcd_comm]
theorem lp_term {G : GX} {d a b : Nat} {q : Int32} {S : ST} {Q : Int64 → ST → Prop} (ha : a < 2 ^ 63) (hb : b < 2 ^ 63) (hb0 : 0 < b) (hq : Q (lN ((if q = 0 then a else b) / Nat.gcd a b)) S) : ∀ (k x y : Nat), y < k → x < 2 ^ 63 → y < 2 ^ 63 → Nat.gcd x y = Nat.gcd a b → V (pM G d mX8_term (ql Q)) 16 [(7, .long (lN y)), (5, .long (lN x)), (0, .long (lN a)), (2, .long (lN b)), (4, .int q)] [] S := by
  intro k
  induction k with
  | zero => intro x y hk; exact absurd hk (Nat.not_lt_zero _)
  | succ k ih =>
    intro x y hk hx hy hg
    refine V_lload dX8_term_16 0 rfl ?_
    refine V_lconst (v := 0) dX8_term_18 rfl ?_
    refine V_lcmp dX8_term_19 ?_
    refine V_if_eq 41 dX8_term_20 (by decide) (fun h1 => ?_) (fun h1 => ?_)
    · have zy : y = 0 := (lg_lN0 hy).mp h1
      rw [zy, Nat.gcd_zero_right] at hg
      have gp : 0 < Nat.gcd a b := Nat.gcd_pos_of_pos_right a hb0
      have gz : ¬ lN x = 0 := by rw [← lN_0, pk_lEQ hx (by omega)]; omega
      refine V_iload dX8_term_41 4 rfl ?_
      refine V_if_ne 53 dX8_term_43 (by decide) (fun h2 => ?_) (fun h2 => ?_)
      · refine V_lload_n dX8_term_53 rfl 3 rfl ?_
        refine V_lload dX8_term_54 1 rfl ?_
        refine V_ldiv dX8_term_56 (by assumption) ?_
        refine V_lret rfl dX8_term_57 ⟨_, rfl, ?_⟩
        exact qcast hq (by rw [if_neg h2, hg, pk_lDiv hb gp (by omega)])
      · refine V_lload_n dX8_term_46 rfl 2 rfl ?_
        refine V_lload dX8_term_47 1 rfl ?_
        refine V_ldiv dX8_term_49 (by assumption) ?_
        refine V_goto 57 dX8_term_50 (by decide) ?_
        refine V_lret rfl dX8_term_57 ⟨_, rfl, ?_⟩
        exact qcast hq (by rw [if_pos h2, hg, pk_lDiv ha gp (by omega)])
    · have zy : 0 < y := by have := mt (lg_lN0 hy).mpr h1; omega
      have gz : ¬ lN y = 0 := by rw [← lN_0, pk_lEQ hy (by omega)]; omega
      refine V_lload dX8_term_23 1 rfl ?_
      refine V_lload dX8_term_25 0 rfl ?_
      refine V_lrem dX8_term_27 (by assumption) ?_
      refine V_topl (v := lN (x % y)) (pk_lRem hx zy hy) ?_
      refine V_lstore [(9, .long (lN (x % y))), (7, .long (lN y)), (5, .long (lN x)), (0, .long (lN a)), (2, .long (lN b)), (4, .int q)] dX8_term_28 (Nat.le_of_ble_eq_true rfl) rfl ?_
      refine V_lload dX8_term_30 1 rfl ?_
      refine V_lstore [(5, .long (lN y)), (9, .long (lN (x % y))), (7, .long (lN y)), (0, .long (lN a)), (2, .long (lN b)), (4, .int q)] dX8_term_32 (Nat.le_of_ble_eq_true rfl) rfl ?_
      refine V_lload dX8_term_34 1 rfl ?_
      refine V_lstore [(7, .long (lN (x % y))), (5, .long (lN y)), (9, .long (lN (x % y))), (0, .long (lN a)), (2, .long (lN b)), (4, .int q)] dX8_term_36 (Nat.le_of_ble_eq_true rfl) rfl ?_
      refine V_goto 16 dX8_term_38 (by decide) ?_
      refine V_lv [(7, .long (lN (x % y))), (5, .long (lN y)), (0, .long (lN a)), (2, .long (lN b)), (4, .int q)] [0, 1, 3, 4, 5] rfl ?_
      exact ih y (x % y) (by have := Nat.mod_lt x zy; omega) hy (Nat.lt_of_le_of_lt (Nat.mod_le x y) hx) (by rw [← gcd_r]; exact hg)
theorem frac_m {a b : Nat} {q : Int32} (hf : fr q 0 1 = true) (hb : 0 < b) : frac a b q = lN ((if q = 0 then a else b) / Nat.gcd a b) := by
  unfold frac
  by_cases ha : a = 0
  · subst ha
    rw [if_pos (Or.inl rfl), Nat.gcd_zero_left]
    obtain ⟨j, h1, h2, rfl⟩ := fr_ex (a := 0) (b := 1) rfl rfl hf (by omega)
    rcases (show j = 0 ∨ j = 1 by omega) with rfl | rfl
    · rw [if_pos (show nI 0 = 0 from rfl), Nat.zero_div]; rfl
    · rw [if_neg (show ¬ nI 1 = 0 by decide), Nat.div_self hb]; rfl
  · rw [if_neg (by omega)]
theorem c_X8_term {G : GX} {d : Nat} {S : ST} {a b : Nat} {q : Int32} {Q : Int64 → ST → Prop} (ha : a < 2 ^ 63) (hb : b < 2 ^ 63) (hf : fr q 0 1 = true) (hq : Q (frac a b q) S) : Cn G d mX8_term [.long (lN a), .long (lN b), .int q] S (ql Q) := by
  refine Cn.intro (lv := [(0, .long (lN a)), (2, .long (lN b)), (4, .int q)]) (by decide) (Nat.le_of_ble_eq_true rfl) rfl ?_
  refine V_lload_n dX8_term_0 rfl 1 rfl ?_
  refine V_lconst (v := 0) dX8_term_1 rfl ?_
  refine V_lcmp dX8_term_2 ?_
  refine V_if_ne 10 dX8_term_3 (by decide) (fun h1 => ?_) (fun h1 => ?_)
  · have zb : 0 < b := by have := mt (lg_lN0 hb).mpr h1; omega
    refine V_lload_n dX8_term_10 rfl 0 rfl ?_
    refine V_lstore [(5, .long (lN a)), (0, .long (lN a)), (2, .long (lN b)), (4, .int q)] dX8_term_11 (Nat.le_of_ble_eq_true rfl) rfl ?_
    refine V_lload_n dX8_term_13 rfl 2 rfl ?_
    refine V_lstore [(7, .long (lN b)), (5, .long (lN a)), (0, .long (lN a)), (2, .long (lN b)), (4, .int q)] dX8_term_14 (Nat.le_of_ble_eq_true rfl) rfl ?_
    refine V_lv [(7, .long (lN b)), (5, .long (lN a)), (0, .long (lN a)), (2, .long (lN b)), (4, .int q)] [0, 1, 2, 3, 4] rfl ?_
    exact lp_term ha hb zb (qcast hq (frac_m hf zb).symm) (b + 1) a b (by omega) ha hb rfl
  · have zb : b = 0 := (lg_lN0 hb).mp (by simpa using h1)
    refine V_iload dX8_term_6 2 rfl ?_
    refine V_i2l dX8_term_8 ?_
    refine V_lret rfl dX8_term_9 ⟨_, rfl, ?_⟩
    exact qcast hq (by rw [frac, if_pos (Or.inr zb)])
