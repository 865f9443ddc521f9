theorem nfo_none {df co : Nat → Int32} {ls : Nat → Int64} : ∀ {i : Nat}, (∀ v, v < i → ¬ df v = 0) → (nfo df co ls i).1 = -6
  | 0, _ => rfl
  | i + 1, h => by
    rw [nfo_s]
    unfold nst
    rw [if_neg (h i (Nat.lt_succ_self i))]
    exact nfo_none (fun v hv => h v (by omega))
theorem nfo_some {df co : Nat → Int32} {ls : Nat → Int64} : ∀ {i : Nat}, i ≤ 12 → (∃ v, v < i ∧ df v = 0) → ∃ j, j < i ∧ df j = 0 ∧ (nfo df co ls i).1 = nI j
  | 0, _, h => by obtain ⟨v, hv, -⟩ := h; exact absurd hv (Nat.not_lt_zero _)
  | i + 1, hi, h => by
    rw [nfo_s]
    unfold nst
    by_cases h0 : df i = 0
    · rw [if_pos h0]
      by_cases h1 : (nfo df co ls i).1 = -6 ∨ ls i < (nfo df co ls i).2 ∨ (ls i = (nfo df co ls i).2 ∧ co i < co (nfo df co ls i).1.toNatClampNeg)
      · rw [if_pos h1]; exact ⟨i, Nat.lt_succ_self i, h0, rfl⟩
      · rw [if_neg h1]
        by_cases h2 : ∃ v, v < i ∧ df v = 0
        · obtain ⟨j, hj, h3, h4⟩ := nfo_some (co := co) (ls := ls) (by omega) h2
          exact ⟨j, by omega, h3, h4⟩
        · exfalso
          refine h1 (Or.inl ?_)
          exact nfo_none (fun v hv z => h2 ⟨v, hv, z⟩)
    · rw [if_neg h0]
      obtain ⟨v, hv, hv2⟩ := h
      obtain ⟨j, hj, h3, h4⟩ := nfo_some (co := co) (ls := ls) (i := i) (by omega) ⟨v, by rcases (show v < i ∨ v = i by omega) with z | z; exact z; exact absurd (z ▸ hv2) h0, hv2⟩
      exact ⟨j, by omega, h3, h4⟩
def FrN (S0 S : ST) : Prop := (∀ k, k ≠ 14 → S.1 k = S0.1 k) ∧ (∀ k, k ≠ 2 → S.2.1 k = S0.2.1 k) ∧ (∀ c, c ≠ 40 → c ≠ 41 → c ≠ 42 → c ≠ 49 → S.2.2.1 c = S0.2.2.1 c) ∧ ∀ c, c ≠ 43 → S.2.2.2 c = S0.2.2.2 c
theorem FrN.rf (S : ST) : FrN S S := ⟨fun _ _ => rfl, fun _ _ => rfl, fun _ _ _ _ _ => rfl, fun _ _ => rfl⟩
theorem FrN.tr {A B C : ST} (h : FrN A B) (g : FrN B C) : FrN A C := ⟨fun k a => (g.1 k a).trans (h.1 k a), fun k a => (g.2.1 k a).trans (h.2.1 k a), fun k a b c e => (g.2.2.1 k a b c e).trans (h.2.2.1 k a b c e), fun k a => (g.2.2.2 k a).trans (h.2.2.2 k a)⟩
theorem FrM.n {A B : ST} (h : FrM A B) : FrN A B := ⟨h.1, h.2.1, fun c a b e _ => h.2.2.1 c a b e, h.2.2.2⟩
theorem FrP.n {A B : ST} (h : FrP A B) : FrN A B := ⟨fun k _ => by rw [h.1], fun k _ => by rw [h.2.1], fun c _ _ _ e => h.2.2.1 c e, fun c _ => by rw [h.2.2.2]⟩
theorem FrN.a {A B : ST} (h : FrN A B) {c : Nat} (i : Nat) (x : Int32) (e : B.2.2.1 c = A.2.2.1 c) : FrN (setA A c i x) (setA B c i x) := by
  refine ⟨h.1, h.2.1, fun k a b c2 f => ?_, h.2.2.2⟩
  show va_up _ _ _ k = va_up _ _ _ k
  unfold va_up
  by_cases g : k = c
  · rw [if_pos g, if_pos g, e]
  · rw [if_neg g, if_neg g]; exact h.2.2.1 k a b c2 f
theorem FrN.i {A B : ST} (h : FrN A B) (j : Nat) (x : Int32) : FrN (setI A j x) (setI B j x) := by
  refine ⟨fun k a => ?_, h.2.1, h.2.2.1, h.2.2.2⟩
  show va_up _ _ _ k = va_up _ _ _ k
  unfold va_up
  by_cases g : k = j
  · rw [if_pos g, if_pos g]
  · rw [if_neg g, if_neg g]; exact h.1 k a
theorem FrN.c {A B : ST} (h : FrN A B) {c : Nat} (g : c ≠ 40 ∧ c ≠ 41 ∧ c ≠ 42 ∧ c ≠ 49) : B.2.2.1 c = A.2.2.1 c := h.2.2.1 c g.1 g.2.1 g.2.2.1 g.2.2.2
theorem FrN.wMX {A B : ST} (h : FrN A B) (m : Nat) : wMX B m = wMX A m := funext (fun x => by
  unfold _root_.Jvm.Pilot.@@N@@.wMX wM tenm
  rw [h.c (c := 37) (by decide), h.c (c := 31) (by decide), h.c (c := 30) (by decide), h.c (c := 35) (by decide), h.c (c := 36) (by decide)])
theorem FrN.lsM {A B : ST} (h : FrN A B) (m n w : Nat) : lsM B m n w = lsM A m n w := funext (fun v => by
  unfold _root_.Jvm.Pilot.@@N@@.lsM hpM sgM
  rw [h.wMX, h.c (c := 37) (by decide), h.c (c := 30) (by decide)])
theorem FrN.DTm {A B : ST} (h : FrN A B) {m : Nat} (g : DTm A m) : DTm B m := by
  unfold _root_.Jvm.Pilot.@@N@@.DTm at *
  rw [h.1 11 (by decide), h.c (c := 35) (by decide), h.c (c := 36) (by decide)]
  exact g
/-- one more test -/
def plsM (T : ST) (m : Nat) (v : Int32) (b : Bool) : ST := setI (setA (setA T 35 m v) 36 m (b2i b)) 11 (nI (m + 1))
theorem plsM_35 (T : ST) (m : Nat) (v : Int32) (b : Bool) : (plsM T m v b).2.2.1 35 = upd (T.2.2.1 35) m v := rfl
theorem plsM_36 (T : ST) (m : Nat) (v : Int32) (b : Bool) : (plsM T m v b).2.2.1 36 = upd (T.2.2.1 36) m (b2i b) := rfl
theorem DTm_pls {T : ST} {m j : Nat} {b : Bool} (h : DTm T m) (hm : m < 12) (hj : j < 12) : DTm (plsM T m (nI j) b) (m + 1) := by
  refine ⟨rfl, hm, fun k hk => ?_, fun k hk => ?_⟩
  · rw [plsM_35]
    unfold upd
    by_cases e : k = m
    · rw [if_pos e, nI_clamp (by omega)]; exact ⟨rfl, hj⟩
    · rw [if_neg e]; exact h.2.2.1 k (by omega)
  · rw [plsM_36]
    unfold upd
    by_cases e : k = m
    · rw [if_pos e]; cases b <;> rfl
    · rw [if_neg e]; exact h.2.2.2 k (by omega)
def nvM (T : ST) (m n : Nat) : Int32 := (nfo (T.2.2.1 34) (T.2.2.1 32) (lsM T m n 1) n).1
def tvM (T : ST) (y : Nat) (v : Int32) : Bool := tv (T.2.2.1 39) y (T.2.2.1 30 v.toNatClampNeg).toNatClampNeg
def plM (n y : Nat) (q : Int32) : Nat → Nat → ST → ST
  | 0, _, T => T
  | k + 1, m, T => if isu (wMX T m) (stl n) q = true then T else plM n y q k (m + 1) (plsM T m (nvM T m n) (!tvM T y (nvM T m n)))
theorem plM_1 {n y k m : Nat} {q : Int32} {T : ST} (h : isu (wMX T m) (stl n) q = true) : plM n y q (k + 1) m T = T := by rw [plM, if_pos h]
theorem plM_2 {n y k m : Nat} {q : Int32} {T : ST} (h : isu (wMX T m) (stl n) q = false) : plM n y q (k + 1) m T = plM n y q k (m + 1) (plsM T m (nvM T m n) (!tvM T y (nvM T m n))) := by rw [plM, h]; rfl
def HM (n y : Nat) (T : ST) : Prop := T.1 10 = nI n ∧ T.1 13 = nI y ∧ WF (T.2.2.1 39) y ∧ (∀ v, v < n → ∃ t, t < 4096 ∧ T.2.2.1 30 v = nI t) ∧ ∃ v, v < n ∧ T.2.2.1 34 v = 0
theorem HM_pls {n y m : Nat} {T : ST} {v : Int32} {b : Bool} (h : HM n y T) : HM n y (plsM T m v b) := h
