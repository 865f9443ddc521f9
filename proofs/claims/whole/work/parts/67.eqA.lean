/-! twins -/
def atw (h df : Nat → Int32) (c i : Nat) : Nat → Bool
  | 0 => true
  | k + 1 => atw h df c i k && (!decide (df k = 0) || (bt (h k) c == bt (h k) i))
theorem atw_iff {h df : Nat → Int32} {c i : Nat} : ∀ {n : Nat}, atw h df c i n = true ↔ ∀ v, v < n → df v = 0 → bt (h v) c = bt (h v) i
  | 0 => by
    constructor
    · intro _ v hv; exact absurd hv (Nat.not_lt_zero _)
    · intro _; rfl
  | n + 1 => by
    have hs : atw h df c i (n + 1) = (atw h df c i n && (!decide (df n = 0) || (bt (h n) c == bt (h n) i))) := rfl
    rw [hs, Bool.and_eq_true, atw_iff]
    constructor
    · rintro ⟨h1, h2⟩ v hv hd
      rcases (show v < n ∨ v = n by omega) with z | z
      · exact h1 v z hd
      · subst z
        rw [decide_eq_true hd] at h2
        simpa using h2
    · intro h1
      refine ⟨fun v hv => h1 v (by omega), ?_⟩
      by_cases hd : df n = 0
      · rw [h1 n (by omega) hd]; simp
      · rw [decide_eq_false hd]; rfl
theorem twm_bt {h df : Nat → Int32} {c i : Nat} {x0 : Int32} (hi : i < 32) : ∀ k, bt (twm h df c x0 k) i = (bt x0 i && atw h df c i k)
  | 0 => by show bt x0 i = (bt x0 i && true); simp
  | k + 1 => by
    have ih := twm_bt (h := h) (df := df) (c := c) (x0 := x0) hi k
    have hs : atw h df c i (k + 1) = (atw h df c i k && (!decide (df k = 0) || (bt (h k) c == bt (h k) i))) := rfl
    rw [twm_s, hs]
    by_cases hd : df k = 0
    · rw [if_pos hd, decide_eq_true hd, b_and, ih]
      cases hb : bt (h k) c with
      | true => rw [if_pos rfl]; cases bt (h k) i <;> simp
      | false => rw [if_neg Bool.false_ne_true, b_xor, b_m1 i hi]; cases bt (h k) i <;> simp
    · rw [if_neg hd, decide_eq_false hd, ih]; simp
theorem e_2n {n : Nat} (hn : n ≤ 12) : ((1 : Int32) <<< (nI n &&& 31)) - 1 = nI (2 ^ n - 1) := by
  rw [sh1n n hn]
  exact pk_sub (b := 1) (Nat.one_le_two_pow)
theorem b_2n {n i : Nat} (hn : n ≤ 12) (hi : i < 32) : bt (((1 : Int32) <<< (nI n &&& 31)) - 1) i = decide (i < n) := by
  rw [e_2n hn, bt_eq hi, Nat.testBit_two_pow_sub_one]
theorem i_zero {x : Int32} : x = 0 ↔ ∀ i, i < 32 → bt x i = false := by
  constructor
  · intro h i _; rw [h, b_0]
  · intro h; exact b_ext (fun i hi => by rw [h i hi, b_0])
theorem tw_eq {n : Nat} {A B : ST} (h : JV n A B) (h12 : n ≤ 12) {ch : Nat} (hc : ch < n) : bitsOf (fun c => decide (((A.2.2.1 10 c ^^^ A.2.2.1 10 ch) &&& bitsOf (fun v => decide (A.2.2.1 14 v = 0)) n) = 0)) n = twm (B.2.2.1 30) (B.2.2.1 34) ch ((1 : Int32) <<< (nI n &&& 31) - 1) n := by
  apply b_ext
  intro i hi
  rw [bt_bits _ (by omega) hi, twm_bt hi, b_2n h12 hi]
  by_cases hin : i < n
  · rw [decide_eq_true hin, Bool.true_and, Bool.true_and, Bool.eq_iff_iff, decide_eq_true_iff, atw_iff, i_zero]
    constructor
    · intro h1 v hv hd
      have h2 := h1 v (by omega)
      rw [b_and, b_xor, bt_bits _ (by omega) (show v < 32 by omega), decide_eq_true hv, h.2.1 i hin v (by omega), h.2.1 ch hc v (by omega), decide_eq_true hv] at h2
      rw [(h.1 v hv).2.2.2] at hd
      rw [decide_eq_true hd] at h2
      rw [(h.1 v hv).1]
      revert h2
      cases bt (A.2.2.1 9 v) i <;> cases bt (A.2.2.1 9 v) ch <;> simp
    · intro h1 v hv
      rw [b_and, b_xor, bt_bits _ (by omega) hv, h.2.1 i hin v hv, h.2.1 ch hc v hv]
      by_cases hvn : v < n
      · rw [decide_eq_true hvn]
        by_cases hd : A.2.2.1 14 v = 0
        · have h2 := h1 v hvn (by rw [(h.1 v hvn).2.2.2]; exact hd)
          rw [(h.1 v hvn).1] at h2
          rw [h2]; simp
        · rw [decide_eq_false hd]; simp
      · rw [decide_eq_false hvn]; simp
  · rw [decide_eq_false hin]; simp
theorem twi_eq {n : Nat} {A B : ST} (h : JV n A B) (h12 : n ≤ 12) (v : Int32) : (if kn n v then bitsOf (fun c => decide (((A.2.2.1 10 c ^^^ A.2.2.1 10 v.toNatClampNeg) &&& bitsOf (fun v => decide (A.2.2.1 14 v = 0)) n) = 0)) n else -1) = (if kn n v then twm (B.2.2.1 30) (B.2.2.1 34) v.toNatClampNeg ((1 : Int32) <<< (nI n &&& 31) - 1) n else -1) := by
  by_cases hk : kn n v = true
  · rw [if_pos hk, if_pos hk]
    obtain ⟨j, hj, rfl⟩ := kn_ex hk (by omega)
    rw [nI_clamp (by omega)]
    exact tw_eq h h12 hj
  · rw [if_neg hk, if_neg hk]
/-! told -/
theorem fr_nI {j a b : Nat} (hj : j < 2 ^ 31) (ha : a < 2 ^ 31) (hb : b < 2 ^ 31) : fr (nI j) (nI a) (nI b) = decide (a ≤ j ∧ j ≤ b) := by
  unfold fr
  congr 1
  apply propext
  rw [nI_leI ha hj, nI_leI hj hb]
theorem kn_d {n k : Nat} (hk : k < 2 ^ 31) (hn : n ≤ 12) : kn n (nI k) = decide (k < n) := kn_nI hk (by omega)
theorem rowc_j {n j k : Nat} {f : Nat → Int32} (hn : n ≤ 12) (hk : k ≤ j) (hj : j < 100) : rowc n f (nI j) (nI k) = if j - k < n then f (j - k) else -6 := by
  unfold rowc
  rw [pk_sub hk, kn_d (by omega) hn, nI_clamp (by omega)]
  by_cases h : j - k < n
  · rw [if_pos h, decide_eq_true h]; rfl
  · rw [if_neg h, decide_eq_false h]; rfl
theorem tld_eq {n t g y : Nat} {S : ST} (h : IV n t g y S) (w : Int32) : tldC S n w = tldM S n w := by
  have h12 := h.n12
  have rows : ∀ v, v < n → S.2.2.1 31 v = S.2.2.1 11 v ∧ S.2.2.1 32 v = S.2.2.1 12 v ∧ S.2.2.1 33 v = S.2.2.1 13 v := fun v hv => ⟨(h.a v hv).2.2.2.1, (h.a v hv).2.2.2.2.2.1, (h.a v hv).2.2.2.2.2.2.2.1⟩
  unfold tldC tldM
  by_cases hf : fr w 10 61 = true
  · obtain ⟨j, h1, h2, rfl⟩ := fr_ex (a := 10) (b := 61) rfl rfl hf (by decide)
    have ne : ∀ k, k < 10 → ¬ nI j = nI k := fun k hk z => by rw [nI_eq (by omega) (by omega)] at z; omega
    rw [if_pos hf, if_neg (show ¬ nI j = 0 from ne 0 (by decide)), if_neg (show ¬ nI j = 1 from ne 1 (by decide)), if_neg (show ¬ nI j = 2 from ne 2 (by decide)), if_neg (show ¬ nI j = 3 from ne 3 (by decide)), if_neg (show ¬ nI j = 9 from ne 9 (by decide)), nI_clamp (by omega)]
    rw [show fr (nI j) 4 8 = decide (4 ≤ j ∧ j ≤ 8) from fr_nI (a := 4) (b := 8) (by omega) (by decide) (by decide), decide_eq_false (show ¬ (4 ≤ j ∧ j ≤ 8) by omega), if_neg Bool.false_ne_true]
    rw [show fr (nI j) 10 21 = decide (10 ≤ j ∧ j ≤ 21) from fr_nI (a := 10) (b := 21) (by omega) (by decide) (by decide), show fr (nI j) 30 41 = decide (30 ≤ j ∧ j ≤ 41) from fr_nI (a := 30) (b := 41) (by omega) (by decide) (by decide), show fr (nI j) 50 61 = decide (50 ≤ j ∧ j ≤ 61) from fr_nI (a := 50) (b := 61) (by omega) (by decide) (by decide)]
    unfold rowm
    rcases (show (10 ≤ j ∧ j ≤ 21) ∨ (22 ≤ j ∧ j ≤ 29) ∨ (30 ≤ j ∧ j ≤ 41) ∨ (42 ≤ j ∧ j ≤ 49) ∨ (50 ≤ j ∧ j ≤ 61) by omega) with z | z | z | z | z
    · rw [decide_eq_true z, if_pos rfl, show rowc n (S.2.2.1 11) (nI j) 10 = if j - 10 < n then S.2.2.1 11 (j - 10) else -6 from rowc_j (k := 10) h12 (by omega) (by omega), if_neg (show ¬ 11 < (j - 10) % 20 by omega), show (j - 10) % 20 = j - 10 by omega, show (j - 10) / 20 = 0 by omega, if_pos rfl]
      by_cases hv : j - 10 < n
      · rw [if_pos hv, if_pos hv, (rows _ hv).1]
      · rw [if_neg hv, if_neg hv]
    · rw [decide_eq_false (show ¬ (10 ≤ j ∧ j ≤ 21) by omega), if_neg Bool.false_ne_true, decide_eq_false (show ¬ (30 ≤ j ∧ j ≤ 41) by omega), if_neg Bool.false_ne_true, decide_eq_false (show ¬ (50 ≤ j ∧ j ≤ 61) by omega), if_neg Bool.false_ne_true, if_pos (show 11 < (j - 10) % 20 by omega)]
    · rw [decide_eq_false (show ¬ (10 ≤ j ∧ j ≤ 21) by omega), if_neg Bool.false_ne_true, decide_eq_true z, if_pos rfl, show rowc n (S.2.2.1 12) (nI j) 30 = if j - 30 < n then S.2.2.1 12 (j - 30) else -6 from rowc_j (k := 30) h12 (by omega) (by omega), if_neg (show ¬ 11 < (j - 10) % 20 by omega), show (j - 10) % 20 = j - 30 by omega, show (j - 10) / 20 = 1 by omega, if_neg (show ¬ (1 : Nat) = 0 by decide), if_pos (show (1 : Nat) = 1 from rfl)]
      by_cases hv : j - 30 < n
      · rw [if_pos hv, if_pos hv, (rows _ hv).2.1]
      · rw [if_neg hv, if_neg hv]
    · rw [decide_eq_false (show ¬ (10 ≤ j ∧ j ≤ 21) by omega), if_neg Bool.false_ne_true, decide_eq_false (show ¬ (30 ≤ j ∧ j ≤ 41) by omega), if_neg Bool.false_ne_true, decide_eq_false (show ¬ (50 ≤ j ∧ j ≤ 61) by omega), if_neg Bool.false_ne_true, if_pos (show 11 < (j - 10) % 20 by omega)]
    · rw [decide_eq_false (show ¬ (10 ≤ j ∧ j ≤ 21) by omega), if_neg Bool.false_ne_true, decide_eq_false (show ¬ (30 ≤ j ∧ j ≤ 41) by omega), if_neg Bool.false_ne_true, decide_eq_true z, if_pos rfl, show rowc n (S.2.2.1 13) (nI j) 50 = if j - 50 < n then S.2.2.1 13 (j - 50) else -6 from rowc_j (k := 50) h12 (by omega) (by omega), if_neg (show ¬ 11 < (j - 10) % 20 by omega), show (j - 10) % 20 = j - 50 by omega, show (j - 10) / 20 = 2 by omega, if_neg (show ¬ (2 : Nat) = 0 by decide), if_neg (show ¬ (2 : Nat) = 1 by decide)]
      by_cases hv : j - 50 < n
      · rw [if_pos hv, if_pos hv, (rows _ hv).2.2]
      · rw [if_neg hv, if_neg hv]
  · rw [if_neg hf]
    have n1 : ¬ fr w 10 21 = true := fun z => hf (by rw [fr_t] at z ⊢; exact ⟨z.1, Int32.le_trans z.2 (by decide)⟩)
    have n2 : ¬ fr w 30 41 = true := fun z => hf (by rw [fr_t] at z ⊢; exact ⟨Int32.le_trans (by decide) z.1, Int32.le_trans z.2 (by decide)⟩)
    have n3 : ¬ fr w 50 61 = true := fun z => hf (by rw [fr_t] at z ⊢; exact ⟨Int32.le_trans (by decide) z.1, z.2⟩)
    rw [if_neg n1, if_neg n2, if_neg n3, h.t0, h.t1, h.g0, h.g1, h.y0, h.y1]
    have e9 : ((1 : Int32) <<< (nI n &&& 31) - 1) &&& (bitsOf (fun v => decide (S.2.2.1 14 v = 0)) n ^^^ -1) = bitsOf (fun v => decide (S.2.2.1 34 v ≠ 0)) n := by
      apply b_ext
      intro i hi
      rw [b_and, b_xor, b_m1 i hi, b_2n h12 hi, bt_bits _ (by omega) hi, bt_bits _ (by omega) hi]
      by_cases hin : i < n
      · rw [decide_eq_true hin, (h.a i hin).2.2.2.2.2.2.2.2.2]
        by_cases hd : S.2.2.1 14 i = 0
        · simp [hd]
        · simp [hd]
      · rw [decide_eq_false hin]; simp
    rw [e9]
    by_cases h48 : fr w 4 8 = true
    · obtain ⟨j, h1, h2, rfl⟩ := fr_ex (a := 4) (b := 8) rfl rfl h48 (by decide)
      have e17 : S.2.2.1 37 (nI j - 4).toNatClampNeg = S.2.2.1 17 (nI j - 4).toNatClampNeg := by
        rw [show nI j - 4 = nI (j - 4) from pk_sub (b := 4) h1, nI_clamp (by omega)]
        exact h.r.1 _ (by omega)
      rw [e17]
    · rw [if_neg h48, if_neg h48]
