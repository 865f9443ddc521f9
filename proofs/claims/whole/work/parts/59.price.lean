/-! the least price of a set, and the first version for it -/
def mst (ok : Nat → Bool) (f : Nat → Nat) (b : Option (Nat × Nat)) (v : Nat) : Option (Nat × Nat) := if ok v = true then (match b with
  | none => some (f v, v)
  | some q => if f v < q.1 then some (f v, v) else some q) else b
def mf (ok : Nat → Bool) (f : Nat → Nat) : Nat → Option (Nat × Nat)
  | 0 => none
  | k + 1 => mst ok f (mf ok f k) k
theorem mf_s (ok : Nat → Bool) (f : Nat → Nat) (k : Nat) : mf ok f (k + 1) = mst ok f (mf ok f k) k := rfl
theorem mst_f {ok : Nat → Bool} {f : Nat → Nat} {b : Option (Nat × Nat)} {v : Nat} (h : ok v = false) : mst ok f b v = b := by unfold mst; exact if_neg (by rw [h]; exact Bool.false_ne_true)
theorem mst_n {ok : Nat → Bool} {f : Nat → Nat} {v : Nat} (h : ok v = true) : mst ok f none v = some (f v, v) := by unfold mst; exact if_pos h
theorem mst_l {ok : Nat → Bool} {f : Nat → Nat} {q : Nat × Nat} {v : Nat} (h : ok v = true) (h2 : f v < q.1) : mst ok f (some q) v = some (f v, v) := by unfold mst; rw [if_pos h]; exact if_pos h2
theorem mst_k {ok : Nat → Bool} {f : Nat → Nat} {q : Nat × Nat} {v : Nat} (h2 : ¬ f v < q.1) : mst ok f (some q) v = some q := by
  unfold mst
  split
  · exact if_neg h2
  · rfl
theorem mf_cong {ok ok2 : Nat → Bool} {f f2 : Nat → Nat} : ∀ {k : Nat}, (∀ v, v < k → ok v = ok2 v) → (∀ v, v < k → ok v = true → f v = f2 v) → mf ok f k = mf ok2 f2 k
  | 0, _, _ => rfl
  | k + 1, h, h2 => by
    have ih := mf_cong (k := k) (fun v hv => h v (by omega)) (fun v hv => h2 v (by omega))
    rw [mf_s, mf_s, ih]
    have e := h k (Nat.lt_succ_self k)
    cases hk : ok k with
    | false => rw [mst_f hk, mst_f (by rw [← e]; exact hk)]
    | true =>
      have e2 := h2 k (Nat.lt_succ_self k) hk
      unfold mst
      rw [← e, hk, e2]
theorem mf_no {ok : Nat → Bool} {f : Nat → Nat} : ∀ {k : Nat}, mf ok f k = none → ∀ v, v < k → ok v = false
  | 0, _, v, hv => absurd hv (Nat.not_lt_zero _)
  | k + 1, h, v, hv => by
    rw [mf_s] at h
    cases hk : ok k with
    | false =>
      rw [mst_f hk] at h
      rcases (show v < k ∨ v = k by omega) with z | z
      · exact mf_no h v z
      · rw [z]; exact hk
    | true =>
      unfold mst at h
      rw [if_pos hk] at h
      split at h
      · cases h
      · split at h <;> cases h
theorem mf_b {ok : Nat → Bool} {f : Nat → Nat} : ∀ {k : Nat} {q : Nat × Nat}, mf ok f k = some q → q.2 < k ∧ ok q.2 = true ∧ q.1 = f q.2 ∧ (∀ v, v < k → ok v = true → q.1 ≤ f v) ∧ (∀ v, v < q.2 → ok v = true → q.1 < f v)
  | 0, q, h => by cases h
  | k + 1, q, h => by
    rw [mf_s] at h
    cases hk : ok k with
    | false =>
      rw [mst_f hk] at h
      obtain ⟨h1, h2, h3, h4, h5⟩ := mf_b h
      refine ⟨by omega, h2, h3, fun v hv hv2 => ?_, h5⟩
      rcases (show v < k ∨ v = k by omega) with z | z
      · exact h4 v z hv2
      · rw [z, hk] at hv2; cases hv2
    | true =>
      rcases hm : mf ok f k with _ | r
      · rw [hm, mst_n hk] at h
        cases h
        have hn := mf_no hm
        refine ⟨Nat.lt_succ_self k, hk, rfl, fun v hv hv2 => ?_, fun v hv hv2 => ?_⟩
        · rcases (show v < k ∨ v = k by omega) with z | z
          · rw [hn v z] at hv2; cases hv2
          · rw [z]; exact Nat.le_refl _
        · rw [hn v hv] at hv2; cases hv2
      · obtain ⟨h1, h2, h3, h4, h5⟩ := mf_b hm
        by_cases hl : f k < r.1
        · rw [hm, mst_l hk hl] at h
          cases h
          refine ⟨Nat.lt_succ_self k, hk, rfl, fun v hv hv2 => ?_, fun v hv hv2 => ?_⟩
          · rcases (show v < k ∨ v = k by omega) with z | z
            · have := h4 v z hv2
              show f k ≤ f v
              omega
            · rw [z]; exact Nat.le_refl _
          · have := h4 v hv hv2
            show f k < f v
            omega
        · rw [hm, mst_k hl] at h
          cases h
          refine ⟨by omega, h2, h3, fun v hv hv2 => ?_, h5⟩
          rcases (show v < k ∨ v = k by omega) with z | z
          · exact h4 v z hv2
          · rw [z]; omega
def pz (o : Option (Nat × Nat)) : Nat := match o with
  | none => 0
  | some q => q.1
def hN (ho : Nat → Int32) (v : Nat) : Nat := (ho v).toNatClampNeg
def pts (ho df : Nat → Int32) (t v : Nat) : Bool := decide (df v = 0) && (decide (¬ t &&& hN ho v = 0) && decide (¬ nd t (hN ho v) = 0))
def gvp (bc : Bool) (co sz : Nat → Int32) (n t v a b : Nat) : Nat := if bc = true then (co v).toNatClampNeg * (szs sz (nI t) n).toNatClampNeg + a + b else 1 + max a b
def prF (bc : Bool) (ho df co sz : Nat → Int32) (n : Nat) : Nat → Nat → Option (Nat × Nat)
  | 0, _ => none
  | f + 1, t => mf (pts ho df t) (fun v => gvp bc co sz n t v (pz (prF bc ho df co sz n f (t &&& hN ho v))) (pz (prF bc ho df co sz n f (nd t (hN ho v))))) n
theorem prF_s (bc : Bool) (ho df co sz : Nat → Int32) (n f t : Nat) : prF bc ho df co sz n (f + 1) t = mf (pts ho df t) (fun v => gvp bc co sz n t v (pz (prF bc ho df co sz n f (t &&& hN ho v))) (pz (prF bc ho df co sz n f (nd t (hN ho v))))) n := rfl
theorem pts_t {ho df : Nat → Int32} {t v : Nat} (h : pts ho df t v = true) : df v = 0 ∧ ¬ t &&& hN ho v = 0 ∧ ¬ nd t (hN ho v) = 0 := by
  unfold pts at h
  rw [Bool.and_eq_true, Bool.and_eq_true] at h
  exact ⟨of_decide_eq_true h.1, of_decide_eq_true h.2.1, of_decide_eq_true h.2.2⟩
theorem pts_lt {ho df : Nat → Int32} {t v : Nat} (ht : t < 4096) (h : pts ho df t v = true) : t &&& hN ho v < t ∧ nd t (hN ho v) < t := by
  obtain ⟨-, h1, h2⟩ := pts_t h
  refine ⟨?_, ?_⟩
  · rcases Nat.lt_or_ge (t &&& hN ho v) t with z | z
    · exact z
    · exact absurd (of_decide_eq_true ((sub_and ht).mpr (Nat.le_antisymm Nat.and_le_left z))) h2
  · rcases Nat.lt_or_ge (nd t (hN ho v)) t with z | z
    · exact z
    · exfalso
      have e : nd t (hN ho v) = t := Nat.le_antisymm (nd_le _ _) z
      refine h1 (Nat.eq_of_testBit_eq (fun i => ?_))
      rw [Nat.testBit_and, Nat.zero_testBit]
      have := nd_tb (hN ho v) i ht
      rw [e] at this
      cases hi : t.testBit i
      · rfl
      · rw [hi] at this
        cases hh : (hN ho v).testBit i
        · rfl
        · rw [hh] at this; cases this
theorem prF_st {bc : Bool} {ho df co sz : Nat → Int32} {n : Nat} : ∀ (f g t : Nat), t < 4096 → t < f → t < g → prF bc ho df co sz n f t = prF bc ho df co sz n g t
  | 0, g, t, _, h, _ => absurd h (Nat.not_lt_zero _)
  | f + 1, 0, t, _, _, h => absurd h (Nat.not_lt_zero _)
  | f + 1, g + 1, t, h4, hf, hg => by
    rw [prF_s, prF_s]
    refine mf_cong (fun v _ => rfl) (fun v hv hp => ?_)
    obtain ⟨l1, l2⟩ := pts_lt h4 hp
    show gvp _ _ _ _ _ _ _ _ = gvp _ _ _ _ _ _ _ _
    rw [prF_st f g (t &&& hN ho v) (by omega) (by omega) (by omega), prF_st f g (nd t (hN ho v)) (by omega) (by omega) (by omega)]
def PR (bc : Bool) (ho df co sz : Nat → Int32) (n t : Nat) : Option (Nat × Nat) := prF bc ho df co sz n (t + 1) t
def gvv (bc : Bool) (ho df co sz : Nat → Int32) (n t v : Nat) : Nat := gvp bc co sz n t v (pz (PR bc ho df co sz n (t &&& hN ho v))) (pz (PR bc ho df co sz n (nd t (hN ho v))))
theorem PR_eq {bc : Bool} {ho df co sz : Nat → Int32} {n t : Nat} (ht : t < 4096) : PR bc ho df co sz n t = mf (pts ho df t) (gvv bc ho df co sz n t) n := by
  unfold PR
  rw [prF_s]
  refine mf_cong (fun v _ => rfl) (fun v hv hp => ?_)
  obtain ⟨l1, l2⟩ := pts_lt ht hp
  unfold gvv PR
  rw [prF_st t ((t &&& hN ho v) + 1) (t &&& hN ho v) (by omega) (by omega) (by omega), prF_st t (nd t (hN ho v) + 1) (nd t (hN ho v)) (by omega) (by omega) (by omega)]
theorem PR_cong {bc : Bool} {ho df co sz ho2 df2 co2 sz2 : Nat → Int32} {n : Nat} (h1 : ∀ v, v < n → ho v = ho2 v) (h2 : ∀ v, v < n → (df v = 0 ↔ df2 v = 0)) (h3 : ∀ v, v < n → co v = co2 v) (h4 : ∀ v, v < n → sz v = sz2 v) : ∀ (f t : Nat), prF bc ho df co sz n f t = prF bc ho2 df2 co2 sz2 n f t
  | 0, t => rfl
  | f + 1, t => by
    rw [prF_s, prF_s]
    refine mf_cong (fun v hv => ?_) (fun v hv _ => ?_)
    · unfold pts hN
      rw [h1 v hv]
      have : decide (df v = 0) = decide (df2 v = 0) := by congr 1; exact propext (h2 v hv)
      rw [this]
    · show gvp _ _ _ _ _ _ _ _ = gvp _ _ _ _ _ _ _ _
      have e1 : hN ho v = hN ho2 v := by unfold hN; rw [h1 v hv]
      rw [e1, PR_cong h1 h2 h3 h4 f, PR_cong h1 h2 h3 h4 f]
      unfold gvp
      rw [h3 v hv, szs_cong h4]
/-! how many changes a set has -/
def pop (t : Nat) : Nat := cn (fun i => t.testBit i) 12
theorem pop_le (t : Nat) : pop t ≤ 12 := cn_le _ 12
theorem cn_sp (f g : Nat → Bool) : ∀ k, cn (fun i => f i && g i) k + cn (fun i => f i && !g i) k = cn f k
  | 0 => rfl
  | k + 1 => by
    have ih := cn_sp f g k
    rw [cn_s, cn_s, cn_s]
    cases f k <;> cases g k <;> simp <;> omega
theorem pop_sp {t : Nat} (h : Nat) (ht : t < 4096) : pop (t &&& h) + pop (nd t h) = pop t := by
  unfold pop
  rw [← cn_sp (fun i => t.testBit i) (fun i => h.testBit i) 12]
  congr 1
  · exact cn_cong (fun i _ => Nat.testBit_and t h i)
  · exact cn_cong (fun i _ => nd_tb h i ht)
theorem cn_pos {f : Nat → Bool} {i : Nat} (h : f i = true) : ∀ {k : Nat}, i < k → 1 ≤ cn f k
  | 0, hi => absurd hi (Nat.not_lt_zero _)
  | k + 1, hi => by
    rw [cn_s]
    rcases (show i < k ∨ i = k by omega) with z | z
    · have := cn_pos h z
      omega
    · rw [← z, h]
      show 1 ≤ _ + 1
      omega
theorem pop_pos {t : Nat} (ht : t < 4096) (h : ¬ t = 0) : 1 ≤ pop t := by
  have : ∃ i, t.testBit i = true := by
    refine Classical.byContradiction fun hx => h (Nat.eq_of_testBit_eq (fun i => ?_))
    rw [Nat.zero_testBit]
    cases hi : t.testBit i
    · rfl
    · exact absurd ⟨i, hi⟩ hx
  obtain ⟨i, hi⟩ := this
  refine cn_pos hi (k := 12) ?_
  rcases Nat.lt_or_ge i 12 with z | z
  · exact z
  · rw [tb_hi ht z] at hi; cases hi
theorem pts_pop {ho df : Nat → Int32} {t v : Nat} (ht : t < 4096) (h : pts ho df t v = true) : 1 ≤ pop (t &&& hN ho v) ∧ 1 ≤ pop (nd t (hN ho v)) ∧ pop (t &&& hN ho v) + pop (nd t (hN ho v)) = pop t := by
  obtain ⟨-, h1, h2⟩ := pts_t h
  exact ⟨pop_pos (Nat.lt_of_le_of_lt Nat.and_le_left ht) h1, pop_pos (Nat.lt_of_le_of_lt (nd_le _ _) ht) h2, pop_sp _ ht⟩
/-! prices are small -/
def R9 (f : Nat → Int32) (n : Nat) : Prop := ∀ v, v < n → ∃ a, 1 ≤ a ∧ a ≤ 9 ∧ f v = nI a
theorem szs_b {sz : Nat → Int32} {s : Int32} : ∀ {n : Nat}, R9 sz n → n ≤ 12 → ∃ m, m ≤ 9 * n ∧ szs sz s n = nI m
  | 0, _, _ => ⟨0, Nat.le_refl 0, rfl⟩
  | n + 1, h, hn => by
    obtain ⟨m, h1, h2⟩ := szs_b (s := s) (n := n) (fun v hv => h v (by omega)) (by omega)
    obtain ⟨a, -, h4, h5⟩ := h n (Nat.lt_succ_self n)
    cases hb : bt s n with
    | false => exact ⟨m, by omega, by rw [szs_f hb, h2]⟩
    | true => exact ⟨m + a, by omega, by rw [szs_t hb, h2, h5, nI_add]⟩
theorem mul_b {a b : Nat} (ha : a ≤ 9) (hb : b ≤ 108) : a * b ≤ 972 := Nat.le_trans (Nat.mul_le_mul ha hb) (by decide)
theorem gvp_b {bc : Bool} {co sz : Nat → Int32} {n t v a b x y : Nat} (hc : R9 co n) (hs : R9 sz n) (hn : n ≤ 12) (hv : v < n) (h1 : 1 ≤ x) (h2 : 1 ≤ y) (ha : a ≤ 972 * (x - 1)) (hb : b ≤ 972 * (y - 1)) : gvp bc co sz n t v a b ≤ 972 * (x + y - 1) := by
  obtain ⟨c, -, hc2, hc3⟩ := hc v hv
  obtain ⟨m, hm1, hm2⟩ := szs_b (s := nI t) hs hn
  have e1 : (co v).toNatClampNeg = c := by rw [hc3, nI_clamp (by omega)]
  have e2 : (szs sz (nI t) n).toNatClampNeg = m := by rw [hm2, nI_clamp (by omega)]
  have l := mul_b hc2 (show m ≤ 108 by omega)
  unfold gvp
  rw [e1, e2]
  generalize c * m = z at *
  split
  · omega
  · omega
theorem PR_b {bc : Bool} {ho df co sz : Nat → Int32} {n : Nat} (hc : R9 co n) (hs : R9 sz n) (hn : n ≤ 12) : ∀ (k t : Nat), t < k → t < 4096 → pz (PR bc ho df co sz n t) ≤ 972 * (pop t - 1)
  | 0, t, h, _ => absurd h (Nat.not_lt_zero _)
  | k + 1, t, h, h4 => by
    rw [PR_eq h4]
    rcases hm : mf (pts ho df t) (gvv bc ho df co sz n t) n with _ | q
    · exact Nat.zero_le _
    · obtain ⟨h1, h2, h3, -, -⟩ := mf_b hm
      obtain ⟨l1, l2⟩ := pts_lt h4 h2
      obtain ⟨p1, p2, p3⟩ := pts_pop h4 h2
      show q.1 ≤ _
      rw [h3, ← p3]
      exact gvp_b hc hs hn h1 p1 p2 (PR_b hc hs hn k _ (by omega) (by omega)) (PR_b hc hs hn k _ (by omega) (by omega))
theorem PR_b2 {bc : Bool} {ho df co sz : Nat → Int32} {n t : Nat} (hc : R9 co n) (hs : R9 sz n) (hn : n ≤ 12) (h4 : t < 4096) : pz (PR bc ho df co sz n t) ≤ 10692 := by
  have h1 := PR_b (bc := bc) (ho := ho) (df := df) hc hs hn (t + 1) t (Nat.lt_succ_self t) h4
  have h2 := pop_le t
  omega
theorem gvv_b {bc : Bool} {ho df co sz : Nat → Int32} {n t v : Nat} (hc : R9 co n) (hs : R9 sz n) (hn : n ≤ 12) (h4 : t < 4096) (hv : v < n) (hp : pts ho df t v = true) : gvv bc ho df co sz n t v ≤ 10692 := by
  obtain ⟨l1, l2⟩ := pts_lt h4 hp
  obtain ⟨p1, p2, p3⟩ := pts_pop h4 hp
  have h := gvp_b (bc := bc) (t := t) hc hs hn hv p1 p2 (PR_b (bc := bc) (ho := ho) (df := df) hc hs hn (t + 1) (t &&& hN ho v) (by omega) (by omega)) (PR_b (bc := bc) (ho := ho) (df := df) hc hs hn (t + 1) (nd t (hN ho v)) (by omega) (by omega))
  have h2 := pop_le t
  unfold gvv
  omega
