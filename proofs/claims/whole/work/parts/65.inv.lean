/-! what holds of the two objects between calls: n versions, t tests, g signs, a truth of y signs -/
def VR (S : ST) (n v : Nat) : Prop := (∃ z, z < 2 ^ n ∧ S.2.2.1 9 v = nI z) ∧ S.2.2.1 30 v = S.2.2.1 9 v ∧ (∃ a, 1 ≤ a ∧ a ≤ 9 ∧ S.2.2.1 11 v = nI a) ∧ S.2.2.1 31 v = S.2.2.1 11 v ∧ (∃ a, 1 ≤ a ∧ a ≤ 9 ∧ S.2.2.1 12 v = nI a) ∧ S.2.2.1 32 v = S.2.2.1 12 v ∧ (∃ z, z < 4096 ∧ S.2.2.1 13 v = nI z) ∧ S.2.2.1 33 v = S.2.2.1 13 v ∧ (∃ b, S.2.2.1 14 v = b2i b) ∧ S.2.2.1 34 v = S.2.2.1 14 v
def IVa (n : Nat) (S : ST) : Prop := ∀ v, v < n → VR S n v
def IVb (n : Nat) (S : ST) : Prop := ∀ v, n ≤ v → v < 12 → S.2.2.1 13 v = 0 ∧ S.2.2.1 14 v = 0 ∧ S.2.2.1 10 v = 0
def IVc (n : Nat) (S : ST) : Prop := ∀ c, c < n → ∀ v, v < 32 → bt (S.2.2.1 10 c) v = (decide (v < n) && bt (S.2.2.1 9 v) c)
def IVt (n t : Nat) (S : ST) : Prop := ∀ k, k < t → (∃ j, j < n ∧ S.2.2.1 15 k = nI j) ∧ S.2.2.1 35 k = S.2.2.1 15 k ∧ (∃ b, S.2.2.1 16 k = b2i b) ∧ S.2.2.1 36 k = S.2.2.1 16 k
def IVr (S : ST) : Prop := (∀ k, k < 5 → S.2.2.1 37 k = S.2.2.1 17 k) ∧ (∀ k, k < 2 → ∃ a, a ≤ 5 ∧ S.2.2.1 17 k = nI a) ∧ (∀ k, 2 ≤ k → k < 5 → ∃ a, a ≤ 9 ∧ S.2.2.1 17 k = nI a)
def IVs (g : Nat) (S : ST) : Prop := ∀ k, k < g → S.2.2.1 38 k = S.2.2.1 23 k
def IVy (y : Nat) (S : ST) : Prop := 0 < y → WF (S.2.2.1 39) y ∧ ∀ s, s < 4096 → bl (S.2.2.2 25 (s / 64)) (s % 64) = tv (S.2.2.1 39) y s
def IVm (n : Nat) (S : ST) : Prop := (S.1 3 = 0 → PK false S n (S.2.2.1 21)) ∧ (S.1 5 = 0 → PK true S n (S.2.2.1 22)) ∧ (¬ S.1 15 = 0 → LY S n (2 ^ n) S)
def IVk (n t g y : Nat) (S : ST) : Prop := S.1 0 = nI n ∧ S.1 10 = nI n ∧ n ≤ 12 ∧ S.1 1 = nI t ∧ S.1 11 = nI t ∧ t ≤ 12 ∧ S.1 8 = nI g ∧ S.1 12 = nI g ∧ g ≤ 40 ∧ S.1 9 = nI y ∧ S.1 13 = nI y ∧ y ≤ 40
def IV (n t g y : Nat) (S : ST) : Prop := IVk n t g y S ∧ IVa n S ∧ IVb n S ∧ IVc n S ∧ IVt n t S ∧ IVr S ∧ IVs g S ∧ IVy y S ∧ IVm n S
theorem IV.k {n t g y : Nat} {S : ST} (h : IV n t g y S) : IVk n t g y S := h.1
theorem IV.a {n t g y : Nat} {S : ST} (h : IV n t g y S) : IVa n S := h.2.1
theorem IV.b {n t g y : Nat} {S : ST} (h : IV n t g y S) : IVb n S := h.2.2.1
theorem IV.c {n t g y : Nat} {S : ST} (h : IV n t g y S) : IVc n S := h.2.2.2.1
theorem IV.t {n t g y : Nat} {S : ST} (h : IV n t g y S) : IVt n t S := h.2.2.2.2.1
theorem IV.r {n t g y : Nat} {S : ST} (h : IV n t g y S) : IVr S := h.2.2.2.2.2.1
theorem IV.s {n t g y : Nat} {S : ST} (h : IV n t g y S) : IVs g S := h.2.2.2.2.2.2.1
theorem IV.y {n t g y : Nat} {S : ST} (h : IV n t g y S) : IVy y S := h.2.2.2.2.2.2.2.1
theorem IV.m {n t g y : Nat} {S : ST} (h : IV n t g y S) : IVm n S := h.2.2.2.2.2.2.2.2
theorem IV.n0 {n t g y : Nat} {S : ST} (h : IV n t g y S) : S.1 0 = nI n := h.1.1
theorem IV.n1 {n t g y : Nat} {S : ST} (h : IV n t g y S) : S.1 10 = nI n := h.1.2.1
theorem IV.n12 {n t g y : Nat} {S : ST} (h : IV n t g y S) : n ≤ 12 := h.1.2.2.1
theorem IV.t0 {n t g y : Nat} {S : ST} (h : IV n t g y S) : S.1 1 = nI t := h.1.2.2.2.1
theorem IV.t1 {n t g y : Nat} {S : ST} (h : IV n t g y S) : S.1 11 = nI t := h.1.2.2.2.2.1
theorem IV.t12 {n t g y : Nat} {S : ST} (h : IV n t g y S) : t ≤ 12 := h.1.2.2.2.2.2.1
theorem IV.g0 {n t g y : Nat} {S : ST} (h : IV n t g y S) : S.1 8 = nI g := h.1.2.2.2.2.2.2.1
theorem IV.g1 {n t g y : Nat} {S : ST} (h : IV n t g y S) : S.1 12 = nI g := h.1.2.2.2.2.2.2.2.1
theorem IV.g40 {n t g y : Nat} {S : ST} (h : IV n t g y S) : g ≤ 40 := h.1.2.2.2.2.2.2.2.2.1
theorem IV.y0 {n t g y : Nat} {S : ST} (h : IV n t g y S) : S.1 9 = nI y := h.1.2.2.2.2.2.2.2.2.2.1
theorem IV.y1 {n t g y : Nat} {S : ST} (h : IV n t g y S) : S.1 13 = nI y := h.1.2.2.2.2.2.2.2.2.2.2.1
theorem IV.y40 {n t g y : Nat} {S : ST} (h : IV n t g y S) : y ≤ 40 := h.1.2.2.2.2.2.2.2.2.2.2.2
theorem IVa.hs {n : Nat} {S : ST} (h : IVa n S) (h12 : n ≤ 12) : ∀ v, v < n → ∃ z, z < 4096 ∧ S.2.2.1 9 v = nI z := fun v hv => by
  obtain ⟨z, hz, e⟩ := (h v hv).1
  exact ⟨z, Nat.lt_of_lt_of_le hz (p2_le h12), e⟩
theorem IV.HS {n t g y : Nat} {S : ST} (h : IV n t g y S) : HS n S := ⟨h.n0, h.a.hs h.n12⟩
theorem IV.hsm {n t g y : Nat} {S : ST} (h : IV n t g y S) : ∀ v, v < n → ∃ z, z < 4096 ∧ S.2.2.1 30 v = nI z := fun v hv => by
  rw [(h.a v hv).2.1]; exact h.a.hs h.n12 v hv
theorem IV.EV {n t g y : Nat} {S : ST} (h : IV n t g y S) : EV S n := ⟨h.HS, fun v hv => (h.a v hv).2.2.2.2.1, fun v hv => (h.a v hv).2.2.1⟩
theorem IV.EM {n t g y : Nat} {S : ST} (h : IV n t g y S) : EM S n := ⟨h.n1, h.hsm, fun v hv => by rw [(h.a v hv).2.2.2.2.2.1]; exact (h.a v hv).2.2.2.2.1, fun v hv => by rw [(h.a v hv).2.2.2.1]; exact (h.a v hv).2.2.1⟩
theorem IV.NE {n t g y : Nat} {S : ST} (h : IV n t g y S) : NE (S.2.2.1 13) n := fun v hv => (h.a v hv).2.2.2.2.2.2.1
theorem IV.RG {n t g y : Nat} {S : ST} (h : IV n t g y S) : RG (S.2.2.1 17) (S.2.2.1 11) n := ⟨h.r.2.1, h.r.2.2, fun v hv => (h.a v hv).2.2.1⟩
theorem IV.RGm {n t g y : Nat} {S : ST} (h : IV n t g y S) : _root_.Jvm.Pilot.@@N@@.RG (S.2.2.1 37) (S.2.2.1 31) n := ⟨fun k hk => by rw [h.r.1 k (by omega)]; exact h.r.2.1 k hk, fun k h1 h2 => by rw [h.r.1 k h2]; exact h.r.2.2 k h1 h2, fun v hv => by rw [(h.a v hv).2.2.2.1]; exact (h.a v hv).2.2.1⟩
theorem b2i_dec (b : Bool) : b2i b = b2i (decide (b2i b ≠ 0)) := by cases b <;> decide
theorem IV.DT {n t g y : Nat} {S : ST} (h : IV n t g y S) : DT S t := by
  have h12 := h.n12
  refine ⟨h.t0, h.t12, fun k hk => ?_, fun k hk => ?_⟩
  · obtain ⟨j, hj, e⟩ := (h.t k hk).1
    rw [e, nI_clamp (by omega)]
    exact ⟨rfl, by omega⟩
  · obtain ⟨b, e⟩ := (h.t k hk).2.2.1
    rw [e]; exact b2i_dec b
theorem IV.DTm {n t g y : Nat} {S : ST} (h : IV n t g y S) : DTm S t := by
  have h12 := h.n12
  refine ⟨h.t1, h.t12, fun k hk => ?_, fun k hk => ?_⟩
  · obtain ⟨j, hj, e⟩ := (h.t k hk).1
    rw [(h.t k hk).2.1, e, nI_clamp (by omega)]
    exact ⟨rfl, by omega⟩
  · obtain ⟨b, e⟩ := (h.t k hk).2.2.1
    rw [(h.t k hk).2.2.2, e]; exact b2i_dec b
theorem IV.WF {n t g y : Nat} {S : ST} (h : IV n t g y S) : 0 < y → WF (S.2.2.1 39) y := fun hy => (h.y hy).1
/-- only the scratch differs -/
def FrZ (S0 S : ST) : Prop := (∀ k, k ≠ 6 → k ≠ 7 → k ≠ 14 → S.1 k = S0.1 k) ∧ (∀ c, c ≠ 18 → c ≠ 20 → c ≠ 24 → c ≠ 40 → c ≠ 41 → c ≠ 42 → c ≠ 48 → c ≠ 49 → c ≠ 50 → S.2.2.1 c = S0.2.2.1 c) ∧ S.2.2.2 25 = S0.2.2.2 25
theorem FrZ.c {A B : ST} (h : FrZ A B) {c : Nat} (g : c ≠ 18 ∧ c ≠ 20 ∧ c ≠ 24 ∧ c ≠ 40 ∧ c ≠ 41 ∧ c ≠ 42 ∧ c ≠ 48 ∧ c ≠ 49 ∧ c ≠ 50) : B.2.2.1 c = A.2.2.1 c := h.2.1 c g.1 g.2.1 g.2.2.1 g.2.2.2.1 g.2.2.2.2.1 g.2.2.2.2.2.1 g.2.2.2.2.2.2.1 g.2.2.2.2.2.2.2.1 g.2.2.2.2.2.2.2.2
theorem FrZ.rf (S : ST) : FrZ S S := ⟨fun _ _ _ _ => rfl, fun _ _ _ _ _ _ _ _ _ _ => rfl, rfl⟩
theorem FrZ.tr {A B C : ST} (h : FrZ A B) (g : FrZ B C) : FrZ A C := ⟨fun k a b c => (g.1 k a b c).trans (h.1 k a b c), fun k a b c d e f i j l => (g.2.1 k a b c d e f i j l).trans (h.2.1 k a b c d e f i j l), g.2.2.trans h.2.2⟩
theorem FrS.z {A B : ST} (h : FrS A B) : FrZ A B := ⟨fun k a b _ => h.1 k a b, fun c a b _ _ _ _ _ _ _ => h.2.2.1 c a b, h.2.2.2 25 (by decide)⟩
theorem FrM.z {A B : ST} (h : FrM A B) : FrZ A B := ⟨fun k _ _ c => h.1 k c, fun c _ _ _ a b d _ _ _ => h.2.2.1 c a b d, h.2.2.2 25 (by decide)⟩
theorem FrN.z {A B : ST} (h : FrN A B) : FrZ A B := ⟨fun k _ _ c => h.1 k c, fun c _ _ _ a b d _ e _ => h.2.2.1 c a b d e, h.2.2.2 25 (by decide)⟩
theorem FrD.z {A B : ST} (h : FrD A B) : FrZ A B := ⟨fun k _ _ _ => by rw [h.1], fun c _ _ a _ _ _ _ _ _ => h.2.2.1 c a, by rw [h.2.2.2]⟩
theorem FrE.z {A B : ST} (h : FrE A B) : FrZ A B := ⟨fun k _ _ _ => by rw [h.1], fun c _ _ _ _ _ _ a _ _ => h.2.2.1 c a, by rw [h.2.2.2]⟩
theorem FrP.z {A B : ST} (h : FrP A B) : FrZ A B := ⟨fun k _ _ _ => by rw [h.1], fun c _ _ _ _ _ _ _ a _ => h.2.2.1 c a, by rw [h.2.2.2]⟩
theorem FrB.z {A B : ST} (h : FrB A B) : FrZ A B := ⟨fun k _ _ _ => by rw [h.1], fun c _ _ _ _ _ _ _ a b => h.2.2.1 c a b, by rw [h.2.2.2]⟩
theorem FrF.z {A B : ST} (h : FrF A B) : FrZ A B := ⟨fun k _ _ _ => by rw [h.1], fun c _ _ _ _ _ _ _ _ _ => by rw [h.2.2.1], h.2.2.2 25 (by decide) (by decide)⟩
theorem IV.z {n t g y : Nat} {S S2 : ST} (h : IV n t g y S) (f : FrZ S S2) : IV n t g y S2 := by
  unfold _root_.Jvm.Pilot.@@N@@.IV IVk IVa IVb IVc IVt IVr IVs IVy IVm VR PK LY L4 at *
  rw [f.1 0 (by decide) (by decide) (by decide), f.1 10 (by decide) (by decide) (by decide), f.1 1 (by decide) (by decide) (by decide), f.1 11 (by decide) (by decide) (by decide), f.1 8 (by decide) (by decide) (by decide), f.1 12 (by decide) (by decide) (by decide), f.1 9 (by decide) (by decide) (by decide), f.1 13 (by decide) (by decide) (by decide), f.1 3 (by decide) (by decide) (by decide), f.1 5 (by decide) (by decide) (by decide), f.1 15 (by decide) (by decide) (by decide), f.2.2,
    f.c (c := 9) (by decide), f.c (c := 10) (by decide), f.c (c := 11) (by decide), f.c (c := 12) (by decide), f.c (c := 13) (by decide), f.c (c := 14) (by decide), f.c (c := 15) (by decide), f.c (c := 16) (by decide), f.c (c := 17) (by decide), f.c (c := 21) (by decide), f.c (c := 22) (by decide), f.c (c := 23) (by decide), f.c (c := 30) (by decide), f.c (c := 31) (by decide), f.c (c := 32) (by decide), f.c (c := 33) (by decide), f.c (c := 34) (by decide), f.c (c := 35) (by decide), f.c (c := 36) (by decide), f.c (c := 37) (by decide), f.c (c := 38) (by decide), f.c (c := 39) (by decide), f.c (c := 44) (by decide), f.c (c := 45) (by decide), f.c (c := 46) (by decide), f.c (c := 47) (by decide)]
  exact h
