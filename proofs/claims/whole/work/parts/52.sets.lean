/-! sets of changes as numbers below 4096 -/
theorem nt_lt {x k : Nat} (h : ∀ i, k ≤ i → x.testBit i = false) : x < 2 ^ k := Nat.lt_pow_two_of_testBit x h
theorem tb_hi {x i : Nat} (h : x < 4096) (hi : 12 ≤ i) : x.testBit i = false := Nat.testBit_lt_two_pow (Nat.lt_of_lt_of_le h (Nat.pow_le_pow_right (n := 2) (by decide) hi))
def nd (a b : Nat) : Nat := a &&& (4095 ^^^ b)
theorem tb_4095 (i : Nat) : (4095 : Nat).testBit i = decide (i < 12) := by
  rw [show (4095 : Nat) = 2 ^ 12 - 1 from rfl, Nat.testBit_two_pow_sub_one]
theorem nd_tb {a : Nat} (b i : Nat) (ha : a < 4096) : (nd a b).testBit i = (a.testBit i && !b.testBit i) := by
  unfold nd
  rw [Nat.testBit_and, Nat.testBit_xor, tb_4095]
  by_cases h : i < 12
  · simp [h]
  · rw [tb_hi ha (by omega)]; simp
theorem nd_le (a b : Nat) : nd a b ≤ a := Nat.and_le_left
theorem bt_eq {a i : Nat} (hi : i < 32) : bt (nI a) i = a.testBit i := bt_nI hi
theorem nI_and (a b : Nat) : nI a &&& nI b = nI (a &&& b) := by
  apply b_ext
  intro i hi
  rw [b_and, bt_eq hi, bt_eq hi, bt_eq hi, Nat.testBit_and]
theorem nI_nd {a : Nat} (b : Nat) (ha : a < 4096) : nI a &&& (nI b ^^^ -1) = nI (nd a b) := by
  apply b_ext
  intro i hi
  rw [b_and, b_xor, b_m1 i hi, bt_eq hi, bt_eq hi, bt_eq hi, nd_tb b i ha, Bool.xor_true]
/-- a lies within b -/
def sub (a b : Nat) : Bool := decide (nd a b = 0)
theorem sub_iff {a b : Nat} (ha : a < 4096) : sub a b = true ↔ ∀ i, a.testBit i = true → b.testBit i = true := by
  unfold sub
  rw [decide_eq_true_iff]
  constructor
  · intro h i hi
    have h2 := nd_tb b i ha
    rw [h, Nat.zero_testBit, hi] at h2
    cases hb : b.testBit i
    · rw [hb] at h2; cases h2
    · rfl
  · intro h
    apply Nat.eq_of_testBit_eq
    intro i
    rw [nd_tb b i ha, Nat.zero_testBit]
    cases hi : a.testBit i
    · rfl
    · rw [h i hi]; rfl
theorem sub_and {a b : Nat} (ha : a < 4096) : sub a b = true ↔ a &&& b = a := by
  rw [sub_iff ha]
  constructor
  · intro h
    apply Nat.eq_of_testBit_eq
    intro i
    rw [Nat.testBit_and]
    cases hi : a.testBit i
    · rfl
    · rw [h i hi]; rfl
  · intro h i hi
    have h2 := congrArg (fun x => Nat.testBit x i) h
    simp only [Nat.testBit_and, hi, Bool.true_and] at h2
    exact h2
theorem sub_le {a b : Nat} (ha : a < 4096) (h : sub a b = true) : a ≤ b := by
  have := (sub_and ha).mp h
  rw [← this]
  exact Nat.and_le_right
theorem sub_rf {a : Nat} (ha : a < 4096) : sub a a = true := (sub_and ha).mpr (Nat.and_self a)
theorem nI_z {x : Nat} (h : x < 4096) : nI x = 0 ↔ x = 0 := by
  rw [show (0 : Int32) = nI 0 from rfl]
  exact nI_eq (by omega) (by omega)
/-- the sets of a word that have all of some changes -/
theorem bl_swA {ch : Int32} {w j : Nat} (hj : j < 64) : ∀ {m : Nat}, m ≤ 12 → (bl (swA ch w m) j = true ↔ ∀ c, c < m → bt ch c = true → (64 * w + j).testBit c = true)
  | 0, _ => by
    rw [show swA ch w 0 = -1 from rfl, bl_m1 j hj]
    exact ⟨fun _ c hc => absurd hc (Nat.not_lt_zero _), fun _ => rfl⟩
  | m + 1, hm => by
    have ih := bl_swA (ch := ch) (w := w) hj (m := m) (by omega)
    rw [swA_s]
    cases hb : bt ch m
    · rw [if_neg (by simp), ih]
      constructor
      · intro h c hc hc2
        rcases (show c < m ∨ c = m by omega) with z | z
        · exact h c z hc2
        · rw [z, hb] at hc2; cases hc2
      · exact fun h c hc => h c (by omega)
    · rw [if_pos rfl, bl_and, bl_sW (by omega) hj, Bool.and_eq_true_iff, ih]
      constructor
      · intro h c hc hc2
        rcases (show c < m ∨ c = m by omega) with z | z
        · exact h.1 c z hc2
        · rw [z]; exact h.2
      · exact fun h => ⟨fun c hc => h c (by omega), h m (by omega) hb⟩
theorem bl_swI {ch w j : Nat} (hj : j < 64) : ∀ {m : Nat}, m ≤ 12 → (bl (swI (nI ch) w m) j = true ↔ ∀ c, c < m → (64 * w + j).testBit c = true → ch.testBit c = true)
  | 0, _ => by
    rw [show swI (nI ch) w 0 = -1 from rfl, bl_m1 j hj]
    exact ⟨fun _ c hc => absurd hc (Nat.not_lt_zero _), fun _ => rfl⟩
  | m + 1, hm => by
    have ih := bl_swI (ch := ch) (w := w) hj (m := m) (by omega)
    rw [swI_s, bt_eq (by omega)]
    cases hb : ch.testBit m
    · rw [if_neg (by simp), bl_and, bl_xor, bl_m1 j hj, bl_sW (by omega) hj, Bool.xor_true, Bool.and_eq_true_iff, ih]
      constructor
      · intro h c hc hc2
        rcases (show c < m ∨ c = m by omega) with z | z
        · exact h.1 c z hc2
        · rw [z] at hc2; rw [hc2] at h; exact absurd h.2 (by decide)
      · intro h
        refine ⟨fun c hc => h c (by omega), ?_⟩
        cases ht : (64 * w + j).testBit m
        · rfl
        · have := h m (by omega) ht
          rw [hb] at this; cases this
    · rw [if_pos rfl, ih]
      constructor
      · intro h c hc hc2
        rcases (show c < m ∨ c = m by omega) with z | z
        · exact h c z hc2
        · rw [z]; exact hb
      · exact fun h c hc => h c (by omega)
theorem bl_swI12 {ch w j : Nat} (hj : j < 64) (hw : w < 64) : bl (swI (nI ch) w 12) j = sub (64 * w + j) ch := by
  have h1 := bl_swI (ch := ch) (w := w) hj (Nat.le_refl 12)
  have h2 := sub_iff (a := 64 * w + j) (b := ch) (by omega)
  rw [Bool.eq_iff_iff, h1, h2]
  constructor
  · intro h i hi
    rcases Nat.lt_or_ge i 12 with z | z
    · exact h i z hi
    · rw [tb_hi (by omega) z] at hi; cases hi
  · exact fun h c _ => h c
/-- needs are sets -/
def NE (ne : Nat → Int32) (n : Nat) : Prop := ∀ c, c < n → ∃ z, z < 4096 ∧ ne c = nI z
theorem bl_sSe {ne : Nat → Int32} {w j : Nat} (hj : j < 64) (hw : w < 64) : ∀ {n : Nat}, n ≤ 12 → NE ne n → bl (sSe ne w n) j = snd ne (nI (64 * w + j)) n
  | 0, _, _ => by rw [show sSe ne w 0 = -1 from rfl, bl_m1 j hj]; rfl
  | n + 1, hn, hN => by
    have ih := bl_sSe (ne := ne) hj hw (n := n) (by omega) (fun c hc => hN c (by omega))
    obtain ⟨z, hz, ez⟩ := hN n (Nat.lt_succ_self n)
    have hs : snd ne (nI (64 * w + j)) (n + 1) = (snd ne (nI (64 * w + j)) n && (!bt (nI (64 * w + j)) n || decide ((ne n &&& (nI (64 * w + j) ^^^ -1)) = 0))) := rfl
    rw [hs, sSe_s, bt_eq (by omega), ez, nI_nd _ hz]
    have hd : decide (nI (nd z (64 * w + j)) = 0) = sub z (64 * w + j) := by
      unfold sub
      congr 1
      exact propext (nI_z (Nat.lt_of_le_of_lt (nd_le _ _) hz))
    rw [hd]
    by_cases h0 : nI z = 0
    · rw [if_pos h0, ih]
      have hz0 := (nI_z hz).mp h0
      subst hz0
      have : sub 0 (64 * w + j) = true := (sub_iff (by decide)).mpr (fun i hi => by rw [Nat.zero_testBit] at hi; cases hi)
      rw [this]; simp
    · rw [if_neg h0, bl_and, bl_or, bl_xor, bl_m1 j hj, bl_sW (by omega) hj, Bool.xor_true, ih]
      have : bl (swA (nI z) w 12) j = sub z (64 * w + j) := by
        rw [Bool.eq_iff_iff, bl_swA hj (Nat.le_refl 12), sub_iff hz]
        constructor
        · intro h i hi
          rcases Nat.lt_or_ge i 12 with q | q
          · exact h i q (by rw [bt_eq (by omega)]; exact hi)
          · rw [tb_hi hz q] at hi; cases hi
        · intro h c hc hc2
          rw [bt_eq (by omega)] at hc2
          exact h c hc2
      rw [this]
/-! the next greater set within a set -/
theorem land_2 {a b q r : Nat} (hq : q < 2) (hr : r < 2) : (2 * a + q) &&& (2 * b + r) = 2 * (a &&& b) + (q &&& r) := by
  apply Nat.eq_of_testBit_eq
  intro i
  have h1 := Nat.testBit_two_pow_mul_add a (i := 1) (b := q) hq i
  have h2 := Nat.testBit_two_pow_mul_add b (i := 1) (b := r) hr i
  have h3 := Nat.testBit_two_pow_mul_add (a &&& b) (i := 1) (b := q &&& r) (Nat.and_lt_two_pow q hr) i
  rw [Nat.testBit_and]
  rw [show (2 : Nat) ^ 1 = 2 from rfl] at h1 h2 h3
  rw [h1, h2, h3]
  by_cases h : i < 1
  · rw [if_pos h, if_pos h, if_pos h, Nat.testBit_and]
  · rw [if_neg h, if_neg h, if_neg h, Nat.testBit_and]
theorem sp_2 {a b q r : Nat} (hq : q < 2) (hr : r < 2) (h : (2 * a + q) &&& (2 * b + r) = 2 * a + q) : (a &&& b) = a ∧ (q = 0 ∨ r = 1) := by
  rw [land_2 hq hr] at h
  rcases (show q = 0 ∨ q = 1 by omega) with e | e <;> rcases (show r = 0 ∨ r = 1 by omega) with f | f
  · subst e; subst f
    have : (0 : Nat) &&& 0 = 0 := rfl
    rw [this] at h
    exact ⟨by omega, Or.inl rfl⟩
  · subst e; subst f
    have : (0 : Nat) &&& 1 = 0 := rfl
    rw [this] at h
    exact ⟨by omega, Or.inl rfl⟩
  · subst e; subst f
    have : (1 : Nat) &&& 0 = 0 := rfl
    rw [this] at h
    omega
  · subst e; subst f
    have : (1 : Nat) &&& 1 = 1 := rfl
    rw [this] at h
    exact ⟨by omega, Or.inr rfl⟩
theorem nx_B : ∀ (k o ch : Nat), ch < 2 ^ k → o &&& ch = o → (o + (2 ^ k - 1 - ch)) &&& ch = o
  | 0, o, ch, h, h2 => by
    have e : ch = 0 := by rw [show (2 : Nat) ^ 0 = 1 from rfl] at h; omega
    subst e
    rw [Nat.and_zero] at h2 ⊢
    exact h2
  | k + 1, o, ch, h, h2 => by
    rw [Nat.pow_succ] at h ⊢
    have e1 : o = 2 * (o / 2) + o % 2 := by omega
    have e2 : ch = 2 * (ch / 2) + ch % 2 := by omega
    have hs := sp_2 (a := o / 2) (b := ch / 2) (q := o % 2) (r := ch % 2) (by omega) (by omega) (by rw [← e1, ← e2]; exact h2)
    have ih := nx_B k (o / 2) (ch / 2) (by omega) hs.1
    generalize 2 ^ k = P at *
    have e3 : o + (P * 2 - 1 - ch) = 2 * (o / 2 + (P - 1 - ch / 2)) + (o % 2 + (1 - ch % 2)) := by omega
    have hq : o % 2 + (1 - ch % 2) < 2 := by rcases hs.2 with z | z <;> omega
    rw [e3]
    have l := land_2 (a := o / 2 + (P - 1 - ch / 2)) (b := ch / 2) (q := o % 2 + (1 - ch % 2)) (r := ch % 2) hq (by omega)
    rw [← e2, ih] at l
    rw [l]
    rcases (show o % 2 = 0 ∨ o % 2 = 1 by omega) with e | e <;> rcases (show ch % 2 = 0 ∨ ch % 2 = 1 by omega) with f | f
    · rw [e, f]; show 2 * (o / 2) + 0 = o; omega
    · rw [e, f]; show 2 * (o / 2) + 0 = o; omega
    · rcases hs.2 with z | z <;> omega
    · rw [e, f]; show 2 * (o / 2) + 1 = o; omega
theorem nx_C : ∀ (k o ch : Nat), ch < 2 ^ k → o &&& ch = o → o ≠ ch → o < (o + (2 ^ k - 1 - ch) + 1) &&& ch ∧ ∀ t, t &&& ch = t → o < t → (o + (2 ^ k - 1 - ch) + 1) &&& ch ≤ t
  | 0, o, ch, h, h2, h3 => by
    have e : ch = 0 := by rw [show (2 : Nat) ^ 0 = 1 from rfl] at h; omega
    subst e
    rw [Nat.and_zero] at h2
    exact absurd h2.symm h3
  | k + 1, o, ch, h, h2, h3 => by
    rw [Nat.pow_succ] at h ⊢
    have e1 : o = 2 * (o / 2) + o % 2 := by omega
    have e2 : ch = 2 * (ch / 2) + ch % 2 := by omega
    have hs := sp_2 (a := o / 2) (b := ch / 2) (q := o % 2) (r := ch % 2) (by omega) (by omega) (by rw [← e1, ← e2]; exact h2)
    have hB := nx_B k (o / 2) (ch / 2) (by omega) hs.1
    have ih := nx_C k (o / 2) (ch / 2) (by omega) hs.1
    have hch : ch / 2 < 2 ^ k := by omega
    generalize 2 ^ k = P at *
    have htt : ∀ t, t &&& ch = t → t / 2 &&& ch / 2 = t / 2 := fun t ht => (sp_2 (a := t / 2) (b := ch / 2) (q := t % 2) (r := ch % 2) (by omega) (by omega) (by rw [← e2, show 2 * (t / 2) + t % 2 = t by omega]; exact ht)).1
    by_cases hc : o % 2 = 0 ∧ ch % 2 = 1
    · have e3 : o + (P * 2 - 1 - ch) + 1 = 2 * (o / 2 + (P - 1 - ch / 2)) + 1 := by omega
      have l := land_2 (a := o / 2 + (P - 1 - ch / 2)) (b := ch / 2) (q := 1) (r := ch % 2) (by decide) (by omega)
      rw [← e2, hB, hc.2] at l
      rw [e3, l]
      have z : (1 : Nat) &&& 1 = 1 := rfl
      rw [z]
      exact ⟨by omega, fun t _ ht => by omega⟩
    · have hne : o / 2 ≠ ch / 2 := by
        intro z
        rcases hs.2 with y | y <;> omega
      obtain ⟨g1, g2⟩ := ih hne
      have e3 : o + (P * 2 - 1 - ch) + 1 = 2 * (o / 2 + (P - 1 - ch / 2) + 1) + 0 := by rcases hs.2 with y | y <;> omega
      have l := land_2 (a := o / 2 + (P - 1 - ch / 2) + 1) (b := ch / 2) (q := 0) (r := ch % 2) (by decide) (by omega)
      rw [← e2, Nat.zero_and] at l
      rw [e3, l]
      generalize (o / 2 + (P - 1 - ch / 2) + 1) &&& ch / 2 = g at *
      refine ⟨by omega, fun t ht hot => ?_⟩
      have ht2 := htt t ht
      have : o / 2 < t / 2 := by
        rcases (show o / 2 < t / 2 ∨ o / 2 = t / 2 by omega) with y | y
        · exact y
        · exfalso
          have ho : o % 2 = 0 := by omega
          have hc0 : ch % 2 = 0 := by
            rcases (show ch % 2 = 0 ∨ ch % 2 = 1 by omega) with w | w
            · exact w
            · exact absurd ⟨ho, w⟩ hc
          have := (sp_2 (a := t / 2) (b := ch / 2) (q := t % 2) (r := ch % 2) (by omega) (by omega) (by rw [← e2, show 2 * (t / 2) + t % 2 = t by omega]; exact ht)).2
          omega
      have := g2 (t / 2) ht2 this
      omega
def nx (o ch : Nat) : Nat := (o + (2 ^ 32 - 1 - ch) + 1) &&& ch
theorem nI_nx {o ch : Nat} (h : o < ch) (hc : ch < 4096) : (nI o - nI ch) &&& nI ch = nI (nx o ch) := by
  apply Int32.toBitVec_inj.mp
  apply BitVec.eq_of_toNat_eq
  have e1 : (nI o).toBitVec.toNat = o := pk_tn (by omega)
  have e2 : (nI ch).toBitVec.toNat = ch := pk_tn (by omega)
  rw [Int32.toBitVec_and, Int32.toBitVec_sub, BitVec.toNat_and, BitVec.toNat_sub, e1, e2]
  have l : nx o ch < 2 ^ 32 := Nat.lt_of_le_of_lt Nat.and_le_right (by omega)
  rw [pk_tn l, Nat.mod_eq_of_lt (by omega)]
  unfold nx
  congr 1
  omega
theorem nx_ok {o ch : Nat} (hc : ch < 4096) (h : sub o ch = true) (ho : o < ch) : o < nx o ch ∧ nx o ch ≤ ch ∧ sub (nx o ch) ch = true ∧ ∀ t, o < t → t < nx o ch → sub t ch = false := by
  obtain ⟨h1, h2⟩ := nx_C 32 o ch (by omega) ((sub_and (by omega)).mp h) (by omega)
  have hl : nx o ch ≤ ch := Nat.and_le_right
  refine ⟨h1, hl, (sub_and (by omega)).mpr ?_, fun t a b => ?_⟩
  · unfold nx
    rw [Nat.and_assoc, Nat.and_self]
  · cases hs : sub t ch
    · rfl
    · have := h2 t ((sub_and (by omega)).mp hs) a
      have hb : t < (o + (2 ^ 32 - 1 - ch) + 1) &&& ch := b
      omega
