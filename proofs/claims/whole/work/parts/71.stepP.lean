def FA (A B : ST) : Prop := (∀ i, i ≠ 1 → B.1 i = A.1 i) ∧ B.2.1 = A.2.1 ∧ (∀ c, c ≠ 15 → c ≠ 16 → B.2.2.1 c = A.2.2.1 c) ∧ B.2.2.2 = A.2.2.2
def FB (A B : ST) : Prop := (∀ i, i ≠ 11 → B.1 i = A.1 i) ∧ B.2.1 = A.2.1 ∧ (∀ c, c ≠ 35 → c ≠ 36 → B.2.2.1 c = A.2.2.1 c) ∧ B.2.2.2 = A.2.2.2
theorem FA.rf (A : ST) : FA A A := ⟨fun _ _ => rfl, rfl, fun _ _ _ => rfl, rfl⟩
theorem FB.rf (A : ST) : FB A A := ⟨fun _ _ => rfl, rfl, fun _ _ _ => rfl, rfl⟩
theorem FA.tr {A B C : ST} (h : FA A B) (g : FA B C) : FA A C := ⟨fun i a => (g.1 i a).trans (h.1 i a), g.2.1.trans h.2.1, fun c a b => (g.2.2.1 c a b).trans (h.2.2.1 c a b), g.2.2.2.trans h.2.2.2⟩
theorem FB.tr {A B C : ST} (h : FB A B) (g : FB B C) : FB A C := ⟨fun i a => (g.1 i a).trans (h.1 i a), g.2.1.trans h.2.1, fun c a b => (g.2.2.1 c a b).trans (h.2.2.1 c a b), g.2.2.2.trans h.2.2.2⟩
theorem FA.pls (A : ST) (m : Nat) (v : Int32) (b : Bool) : FA A (pls A m v b) := ⟨fun i a => by show va_up _ _ _ i = _; rw [va_up_ne _ _ a]; rfl, rfl, fun c a d => by show va_up (va_up _ _ _) _ _ c = _; rw [va_up_ne _ _ d, va_up_ne _ _ a], rfl⟩
theorem FB.pls (A : ST) (m : Nat) (v : Int32) (b : Bool) : FB A (plsM A m v b) := ⟨fun i a => by show va_up _ _ _ i = _; rw [va_up_ne _ _ a]; rfl, rfl, fun c a d => by show va_up (va_up _ _ _) _ _ c = _; rw [va_up_ne _ _ d, va_up_ne _ _ a], rfl⟩
theorem plC_fr {n : Nat} {q : Int32} : ∀ (k m : Nat) (A : ST), FA A (plC n q k m A)
  | 0, m, A => FA.rf A
  | k + 1, m, A => by
    cases h1 : gib (wX A m) (stl n) q with
    | false => rw [plC_1 h1]; exact FA.rf A
    | true =>
      cases h2 : hrs n (A.2.2.1 14) (nvC A m n) with
      | false => rw [plC_2 h2]; exact FA.rf A
      | true => rw [plC_3 h1 h2]; exact (FA.pls A _ _ _).tr (plC_fr k (m + 1) _)
theorem plM_fr {n y : Nat} {q : Int32} : ∀ (k m : Nat) (A : ST), FB A (plM n y q k m A)
  | 0, m, A => FB.rf A
  | k + 1, m, A => by
    cases h1 : isu (wMX A m) (stl n) q with
    | true => rw [plM_1 h1]; exact FB.rf A
    | false => rw [plM_2 h1]; exact (FB.pls A _ _ _).tr (plM_fr k (m + 1) _)
theorem gib_isu {n m : Nat} {A : ST} (hR : RG (A.2.2.1 17) (A.2.2.1 11) n) (h12 : n ≤ 12) (hm : m ≤ 12) (q : Int32) : gib (wX A m) (stl n) q = !isu (wX A m) (stl n) q := by
  have h0 := all_0 h12 (wX_ub hR hm)
  unfold gib isu
  rcases hg : (gxo (wX A m) (stl n)).2 with _ | x
  · rw [decide_eq_true (h0.mpr hg)]; rfl
  · have hne : ¬ lsum (wX A m) (stl n) = 0 := fun z => by rw [h0.mp z] at hg; cases hg
    rw [decide_eq_false hne, Bool.false_or]
    show decide _ = !decide _
    rw [Int64.mul_comm 10, Int64.mul_comm q.toInt64]
    by_cases z : lsum (wX A m) (stl n) * q.toInt64 ≤ (gxo (wX A m) (stl n)).1 * 10
    · rw [decide_eq_true z, decide_eq_false (Int64.not_lt.mpr z)]; rfl
    · rw [decide_eq_false z, decide_eq_true (Int64.not_le.mp z)]; rfl
theorem isu_eq {n m : Nat} {A B : ST} (h : JV n A B) (hT : JT n m A B) (h12 : n ≤ 12) (q : Int32) : isu (wX A m) (stl n) q = isu (wMX B m) (stl n) q := by
  unfold isu
  rw [gxo_eq h hT h12, all_eq h hT h12]
def PJ (n y m : Nat) (A B : ST) : Prop := JV n A B ∧ JT n m A B ∧ A.1 1 = nI m ∧ B.1 11 = nI m ∧ (∀ v, v < n → tvC A (nI v) = tvM B y (nI v)) ∧ ∃ v, v < n ∧ A.2.2.1 14 v = 0
theorem JT_pls {n m j : Nat} {A B : ST} (h : JT n m A B) (hj : j < n) (b : Bool) : JT n (m + 1) (pls A m (nI j) b) (plsM B m (nI j) b) := by
  intro k hk
  rw [pls_15, pls_16, plsM_35, plsM_36]
  by_cases e : k = m
  · rw [e, pk_us, pk_us, pk_us, pk_us]
    exact ⟨⟨j, hj, rfl⟩, rfl, ⟨b, rfl⟩, rfl⟩
  · rw [pk_un e, pk_un e, pk_un e, pk_un e]
    exact h k (by omega)
theorem pl_eq {n y : Nat} {q : Int32} (h12 : n ≤ 12) : ∀ (k m : Nat) (A B : ST), m + k ≤ 12 → PJ n y m A B → ∃ m2, m2 ≤ 12 ∧ PJ n y m2 (plC n q k m A) (plM n y q k m B)
  | 0, m, A, B, hm, h => ⟨m, by omega, h⟩
  | k + 1, m, A, B, hm, h => by
    obtain ⟨hV, hT, e1, e11, ht, v0, hv0, hd0⟩ := h
    have hg := gib_isu (m := m) hV.2.2.2 h12 (by omega) q
    rw [isu_eq hV hT h12] at hg
    cases hs : isu (wMX B m) (stl n) q with
    | true =>
      rw [hs] at hg
      rw [plC_1 hg, plM_1 hs]
      exact ⟨m, by omega, hV, hT, e1, e11, ht, v0, hv0, hd0⟩
    | false =>
      rw [hs] at hg
      have hnv : nvC A m n = nvM B m n := by unfold nvC nvM; rw [nv1_eq hV hT h12]
      obtain ⟨j, hj, hdj, ej⟩ := nfo_some (df := A.2.2.1 14) (co := A.2.2.1 12) (ls := lsH A m n) h12 ⟨v0, hv0, hd0⟩
      have ej2 : nvC A m n = nI j := ej
      have hh : hrs n (A.2.2.1 14) (nvC A m n) = true := by rw [ej2, hrs_j hj h12]; exact decide_eq_true hdj
      rw [plC_3 hg hh, plM_2 hs, ← hnv, ej2, ht j hj]
      exact pl_eq h12 k (m + 1) _ _ (by omega) ⟨hV, JT_pls hT hj _, rfl, rfl, ht, v0, hv0, hd0⟩
theorem hrd_of {df : Nat → Int32} {v : Nat} (h : df v = 0) : ∀ {k : Nat}, v < k → hrd df k = true
  | 0, hv => absurd hv (Nat.not_lt_zero _)
  | k + 1, hv => by
    rw [hrd]
    rcases (show v < k ∨ v = k by omega) with z | z
    · rw [hrd_of h z]; rfl
    · rw [← z, decide_eq_true h, Bool.or_true]
theorem bits_z {n t g y : Nat} {S : ST} (h : IV n t g y S) : bitsOf (fun v => decide (S.2.2.1 14 v = 0)) n = 0 ↔ ¬ hrd (S.2.2.1 34) n = true := by
  have h12 := h.n12
  rw [i_zero]
  constructor
  · intro h1 hh
    obtain ⟨v, hv, hd⟩ := hrd_ex hh
    have := h1 v (by omega)
    rw [bt_bits _ (by omega) (by omega), decide_eq_true hv, decide_eq_true (show S.2.2.1 14 v = 0 by rw [← (h.a v hv).2.2.2.2.2.2.2.2.2]; exact hd)] at this
    cases this
  · intro h1 i hi
    rw [bt_bits _ (by omega) hi]
    by_cases hin : i < n
    · have : ¬ S.2.2.1 14 i = 0 := fun z => h1 (hrd_of (v := i) (by rw [(h.a i hin).2.2.2.2.2.2.2.2.2]; exact z) hin)
      rw [decide_eq_false this, Bool.and_false]
    · rw [decide_eq_false hin, Bool.false_and]
def mid (S S2 : ST) (n : Nat) (q : Int32) : Prop := (plyC S n q = none ∧ FrS S S2) ∨ ∃ T, plyC S n q = some T ∧ FrS T S2
theorem mid_fr {S S2 : ST} {n : Nat} {q : Int32} (h : mid S S2 n q) : (∀ i, i ≠ 1 → i ≠ 6 → i ≠ 7 → S2.1 i = S.1 i) ∧ (∀ c, c ≠ 15 → c ≠ 16 → c ≠ 18 → c ≠ 20 → S2.2.2.1 c = S.2.2.1 c) ∧ ∀ c, c ≠ 19 → S2.2.2.2 c = S.2.2.2 c := by
  rcases h with ⟨-, f⟩ | ⟨T, hT, f⟩
  · exact ⟨fun i _ a b => f.1 i a b, fun c _ _ a b => f.2.2.1 c a b, fun c a => f.2.2.2 c a⟩
  · unfold plyC at hT
    split at hT
    · cases hT
      have g := plC_fr (n := n) (q := q) 12 0 (setI S 1 0)
      refine ⟨fun i a b c => ?_, fun c a b d e => (f.2.2.1 c d e).trans (g.2.2.1 c a b), fun c a => (f.2.2.2 c a).trans (by rw [g.2.2.2]; rfl)⟩
      rw [f.1 i b c, g.1 i a]
      show va_up S.1 1 0 i = _
      rw [va_up_ne _ _ a]
    · cases hT
theorem tv_C {n t g y : Nat} {S A B : ST} (h : IV n t g y S) (hy : 0 < y) (a9 : A.2.2.1 9 = S.2.2.1 9) (a25 : A.2.2.2 25 = S.2.2.2 25) (b30 : B.2.2.1 30 = S.2.2.1 30) (b39 : B.2.2.1 39 = S.2.2.1 39) : ∀ v, v < n → tvC A (nI v) = tvM B y (nI v) := by
  intro v hv
  have h12 := h.n12
  obtain ⟨z, hz, e⟩ := h.a.hs h12 v hv
  unfold tvC tvM
  rw [nI_clamp (by omega), a9, a25, b30, b39, (h.a v hv).2.1, e, nI_clamp (by omega)]
  exact (h.y hy).2 z hz
theorem JV_mv {n : Nat} {S A B : ST} (h : JV n S S) (a : ∀ c, c = 9 ∨ c = 10 ∨ c = 11 ∨ c = 12 ∨ c = 14 ∨ c = 17 → A.2.2.1 c = S.2.2.1 c) (b : ∀ c, c = 30 ∨ c = 31 ∨ c = 32 ∨ c = 34 ∨ c = 37 → B.2.2.1 c = S.2.2.1 c) : JV n A B := by
  unfold JV IVc at *
  rw [a 9 (by decide), a 10 (by decide), a 11 (by decide), a 12 (by decide), a 14 (by decide), a 17 (by decide), b 30 (by decide), b 31 (by decide), b 32 (by decide), b 34 (by decide), b 37 (by decide)]
  exact h
theorem st_play {n t g y : Nat} {S S2 : ST} {q : Int32} (h : IV n t g y S) (hm : mid S S2 n q) : plyR S n q = plyRM S2 n y q ∧ ∀ S3, ((plyM S2 n y q = none ∧ FrN S2 S3) ∨ ∃ T, plyM S2 n y q = some T ∧ FrN T S3) → ∃ t2, IV n t2 g y S3 := by
  have h12 := h.n12
  have hfr := mid_fr hm
  have e34 : S2.2.2.1 34 = S.2.2.1 34 := hfr.2.1 34 (by decide) (by decide) (by decide) (by decide)
  have c1 : ((1 : Int32) ≤ S.1 9) ↔ 0 < y := by
    have := h.y40
    rw [h.y0]
    exact nI_leI (a := 1) (by decide) (by omega)
  have c2 := bits_z h
  by_cases hc : fr q 1 10 = true ∧ 0 < y ∧ hrd (S.2.2.1 34) n = true
  · obtain ⟨d1, d2, d3⟩ := hc
    have k1 : (1 : Int32) ≤ S.1 9 := c1.mpr d2
    have k2 : ¬ bitsOf (fun v => decide (S.2.2.1 14 v = 0)) n = 0 := fun z => c2.mp z d3
    have hC : plyC S n q = some (plC n q 12 0 (setI S 1 0)) := if_pos ⟨d1, k1, k2⟩
    have hM : plyM S2 n y q = some (plM n y q 12 0 (setI S2 11 0)) := if_pos ⟨d1, d2, by rw [e34]; exact d3⟩
    have hF : FrS (plC n q 12 0 (setI S 1 0)) S2 := by
      rcases hm with ⟨z, -⟩ | ⟨T, z, f⟩
      · rw [hC] at z; cases z
      · rw [hC] at z; cases z; exact f
    obtain ⟨v0, hv0, hd0⟩ := hrd_ex d3
    have fr2 : ∀ c, c = 30 ∨ c = 31 ∨ c = 32 ∨ c = 34 ∨ c = 37 → S2.2.2.1 c = S.2.2.1 c := fun c hc => hfr.2.1 c (by omega) (by omega) (by omega) (by omega)
    have hJ : PJ n y 0 (setI S 1 0) (setI S2 11 0) := ⟨JV_mv h.jv (fun c _ => rfl) (fun c hc => fr2 c hc), fun k hk => absurd hk (Nat.not_lt_zero _), rfl, rfl, tv_C h d2 rfl rfl (fr2 30 (by decide)) (hfr.2.1 39 (by decide) (by decide) (by decide) (by decide)), v0, hv0, (by show S.2.2.1 14 v0 = 0; rw [← (h.a v0 hv0).2.2.2.2.2.2.2.2.2]; exact hd0)⟩
    obtain ⟨m2, hm2, hP⟩ := pl_eq (q := q) h12 12 0 _ _ (by decide) hJ
    obtain ⟨-, hT, p1, p11, -, -⟩ := hP
    refine ⟨?_, fun S3 hS3 => ⟨m2, ?_⟩⟩
    · rw [plyR_0 d1 k1 k2, p1]
      unfold plyRM
      rw [if_pos d1, if_pos d2, if_pos (by rw [e34]; exact d3), p11]
    · have hN : FrN (plM n y q 12 0 (setI S2 11 0)) S3 := by
        rcases hS3 with ⟨z, -⟩ | ⟨T, z, f⟩
        · rw [hM] at z; cases z
        · rw [hM] at z; cases z; exact f
      have gC := plC_fr (n := n) (q := q) 12 0 (setI S 1 0)
      have gM := plM_fr (n := n) (y := y) (q := q) 12 0 (setI S2 11 0)
      have fi : ∀ i, i ≠ 1 → i ≠ 6 → i ≠ 7 → i ≠ 11 → i ≠ 14 → S3.1 i = S.1 i := fun i a b c d e => by
        rw [hN.1 i e, gM.1 i d]
        show va_up S2.1 11 0 i = _
        rw [va_up_ne _ _ d]
        exact hfr.1 i a b c
      have fa : ∀ c, c ≠ 15 → c ≠ 16 → c ≠ 18 → c ≠ 20 → c ≠ 35 → c ≠ 36 → c ≠ 40 → c ≠ 41 → c ≠ 42 → c ≠ 49 → S3.2.2.1 c = S.2.2.1 c := fun c a1 a2 a3 a4 a5 a6 a7 a8 a9 a10 => by
        rw [hN.2.2.1 c a7 a8 a9 a10, gM.2.2.1 c a5 a6]
        exact hfr.2.1 c a1 a2 a3 a4
      have l25 : S3.2.2.2 25 = S.2.2.2 25 := by
        rw [hN.2.2.2 25 (by decide), gM.2.2.2]
        exact hfr.2.2 25 (by decide)
      have r15 : S3.2.2.1 15 = (plC n q 12 0 (setI S 1 0)).2.2.1 15 := by
        rw [hN.2.2.1 15 (by decide) (by decide) (by decide) (by decide), gM.2.2.1 15 (by decide) (by decide)]
        exact hF.2.2.1 15 (by decide) (by decide)
      have r16 : S3.2.2.1 16 = (plC n q 12 0 (setI S 1 0)).2.2.1 16 := by
        rw [hN.2.2.1 16 (by decide) (by decide) (by decide) (by decide), gM.2.2.1 16 (by decide) (by decide)]
        exact hF.2.2.1 16 (by decide) (by decide)
      have r35 : S3.2.2.1 35 = (plM n y q 12 0 (setI S2 11 0)).2.2.1 35 := hN.2.2.1 35 (by decide) (by decide) (by decide) (by decide)
      have r36 : S3.2.2.1 36 = (plM n y q 12 0 (setI S2 11 0)).2.2.1 36 := hN.2.2.1 36 (by decide) (by decide) (by decide) (by decide)
      have i1 : S3.1 1 = nI m2 := by
        rw [hN.1 1 (by decide), gM.1 1 (by decide)]
        show S2.1 1 = _
        rw [hF.1 1 (by decide) (by decide)]; exact p1
      have i11 : S3.1 11 = nI m2 := by rw [hN.1 11 (by decide)]; exact p11
      have hIt : IVt n m2 S3 := by
        unfold IVt
        rw [r15, r16, r35, r36]
        exact hT
      unfold IV IVk IVa IVb IVc IVr IVs IVy IVm VR PK LY L4 at h ⊢
      obtain ⟨a0, a1, a2, a3, a4, a5, a6, a7, a8⟩ := h
      rw [l25, i1, i11, fi 0 (by decide) (by decide) (by decide) (by decide) (by decide), fi 10 (by decide) (by decide) (by decide) (by decide) (by decide), fi 8 (by decide) (by decide) (by decide) (by decide) (by decide), fi 12 (by decide) (by decide) (by decide) (by decide) (by decide), fi 9 (by decide) (by decide) (by decide) (by decide) (by decide), fi 13 (by decide) (by decide) (by decide) (by decide) (by decide), fi 3 (by decide) (by decide) (by decide) (by decide) (by decide), fi 5 (by decide) (by decide) (by decide) (by decide) (by decide), fi 15 (by decide) (by decide) (by decide) (by decide) (by decide), fa 9 (by decide) (by decide) (by decide) (by decide) (by decide) (by decide) (by decide) (by decide) (by decide) (by decide), fa 10 (by decide) (by decide) (by decide) (by decide) (by decide) (by decide) (by decide) (by decide) (by decide) (by decide), fa 11 (by decide) (by decide) (by decide) (by decide) (by decide) (by decide) (by decide) (by decide) (by decide) (by decide), fa 12 (by decide) (by decide) (by decide) (by decide) (by decide) (by decide) (by decide) (by decide) (by decide) (by decide), fa 13 (by decide) (by decide) (by decide) (by decide) (by decide) (by decide) (by decide) (by decide) (by decide) (by decide), fa 14 (by decide) (by decide) (by decide) (by decide) (by decide) (by decide) (by decide) (by decide) (by decide) (by decide), fa 17 (by decide) (by decide) (by decide) (by decide) (by decide) (by decide) (by decide) (by decide) (by decide) (by decide), fa 21 (by decide) (by decide) (by decide) (by decide) (by decide) (by decide) (by decide) (by decide) (by decide) (by decide), fa 22 (by decide) (by decide) (by decide) (by decide) (by decide) (by decide) (by decide) (by decide) (by decide) (by decide), fa 23 (by decide) (by decide) (by decide) (by decide) (by decide) (by decide) (by decide) (by decide) (by decide) (by decide), fa 30 (by decide) (by decide) (by decide) (by decide) (by decide) (by decide) (by decide) (by decide) (by decide) (by decide), fa 31 (by decide) (by decide) (by decide) (by decide) (by decide) (by decide) (by decide) (by decide) (by decide) (by decide), fa 32 (by decide) (by decide) (by decide) (by decide) (by decide) (by decide) (by decide) (by decide) (by decide) (by decide), fa 33 (by decide) (by decide) (by decide) (by decide) (by decide) (by decide) (by decide) (by decide) (by decide) (by decide), fa 34 (by decide) (by decide) (by decide) (by decide) (by decide) (by decide) (by decide) (by decide) (by decide) (by decide), fa 37 (by decide) (by decide) (by decide) (by decide) (by decide) (by decide) (by decide) (by decide) (by decide) (by decide), fa 38 (by decide) (by decide) (by decide) (by decide) (by decide) (by decide) (by decide) (by decide) (by decide) (by decide), fa 39 (by decide) (by decide) (by decide) (by decide) (by decide) (by decide) (by decide) (by decide) (by decide) (by decide), fa 44 (by decide) (by decide) (by decide) (by decide) (by decide) (by decide) (by decide) (by decide) (by decide) (by decide), fa 45 (by decide) (by decide) (by decide) (by decide) (by decide) (by decide) (by decide) (by decide) (by decide) (by decide), fa 46 (by decide) (by decide) (by decide) (by decide) (by decide) (by decide) (by decide) (by decide) (by decide) (by decide), fa 47 (by decide) (by decide) (by decide) (by decide) (by decide) (by decide) (by decide) (by decide) (by decide) (by decide)]
      exact ⟨⟨a0.1, a0.2.1, a0.2.2.1, rfl, rfl, hm2, a0.2.2.2.2.2.2⟩, a1, a2, a3, hIt, a5, a6, a7, a8⟩
  · have hCn : plyC S n q = none := if_neg (fun z => hc ⟨z.1, c1.mp z.2.1, by
      rcases Classical.em (hrd (S.2.2.1 34) n = true) with w | w
      · exact w
      · exact absurd (c2.mpr w) z.2.2⟩)
    have hMn : plyM S2 n y q = none := if_neg (fun z => hc ⟨z.1, z.2.1, by rw [← e34]; exact z.2.2⟩)
    have hF : FrS S S2 := by
      rcases hm with ⟨-, f⟩ | ⟨T, z, -⟩
      · exact f
      · rw [hCn] at z; cases z
    refine ⟨?_, fun S3 hS3 => ⟨t, ?_⟩⟩
    · unfold plyRM
      rw [e34]
      by_cases d1 : fr q 1 10 = true
      · rw [if_pos d1]
        by_cases d2 : 0 < y
        · have d3 : ¬ hrd (S.2.2.1 34) n = true := fun z => hc ⟨d1, d2, z⟩
          rw [if_pos d2, if_neg d3, plyR_5 d1 (c1.mpr d2) (c2.mpr d3)]
        · rw [if_neg d2, plyR_3 d1 (fun z => d2 (c1.mp z))]
      · have d1f : fr q 1 10 = false := by cases hx : fr q 1 10 with
          | false => rfl
          | true => exact absurd hx d1
        rw [if_neg d1, plyR_2 d1f]
    · have hN : FrN S2 S3 := by
        rcases hS3 with ⟨-, f⟩ | ⟨T, z, -⟩
        · exact f
        · rw [hMn] at z; cases z
      exact h.z (hF.z.tr hN.z)
