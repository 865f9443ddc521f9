theorem st_trust {n t g y : Nat} {S : ST} (h : IV n t g y S) (w x : Int32) : IV n t g y (if trB w x then setA (if trB w x then setA S 17 w.toNatClampNeg x else S) 37 w.toNatClampNeg x else (if trB w x then setA S 17 w.toNatClampNeg x else S)) := by
  by_cases hk : trB w x = true
  · rw [if_pos hk, if_pos hk]
    unfold trB at hk
    rw [Bool.and_eq_true] at hk
    obtain ⟨j, hj, rfl⟩ := fr04 hk.1
    rw [nI_clamp (by omega)]
    have hx := hk.2
    refine ⟨h.k, h.a, h.b, h.c, h.t, ⟨fun k hk => ?_, fun k hk => ?_, fun k h1 h2 => ?_⟩, h.s, h.y, h.m⟩
    · show upd (S.2.2.1 37) j x k = upd (S.2.2.1 17) j x k
      by_cases e : k = j
      · rw [e, pk_us, pk_us]
      · rw [pk_un e, pk_un e]; exact h.r.1 k hk
    · show ∃ a, a ≤ 5 ∧ upd (S.2.2.1 17) j x k = nI a
      by_cases e : k = j
      · rw [if_neg (by rw [show (2 : Int32) = nI 2 from rfl, nI_leI (by decide) (by omega)]; omega)] at hx
        obtain ⟨q, -, hq, rfl⟩ := fr_ex (a := 0) (b := 5) rfl rfl hx (by decide)
        rw [e, pk_us]
        exact ⟨q, hq, rfl⟩
      · rw [pk_un e]; exact h.r.2.1 k hk
    · show ∃ a, a ≤ 9 ∧ upd (S.2.2.1 17) j x k = nI a
      by_cases e : k = j
      · rw [if_pos (by rw [show (2 : Int32) = nI 2 from rfl, nI_leI (by decide) (by omega)]; omega)] at hx
        obtain ⟨q, -, hq, rfl⟩ := fr_ex (a := 0) (b := 9) rfl rfl hx (by decide)
        rw [e, pk_us]
        exact ⟨q, hq, rfl⟩
      · rw [pk_un e]; exact h.r.2.2 k h1 h2
  · rw [if_neg hk, if_neg hk]; exact h
/-! tests -/
def tsC (S : ST) (n t : Nat) (v : Int32) (q : Bool) : ST := if kn n v then (if hrs n (S.2.2.1 14) v then (if t < 12 then setI (setA (setA S 15 t v) 16 t (b2i q)) 1 (nI (t + 1)) else S) else S) else S
def tsM (S : ST) (n t : Nat) (v : Int32) (q : Bool) : ST := if kn n v then (if S.2.2.1 34 v.toNatClampNeg = 0 then (if t = 12 then S else setI (setA (setA S 35 t v) 36 t (b2i q)) 11 (nI (t + 1))) else S) else S
theorem tsC_34 (S : ST) (n t : Nat) (v : Int32) (q : Bool) : (tsC S n t v q).2.2.1 34 = S.2.2.1 34 := by
  unfold tsC
  split
  · split
    · split <;> rfl
    · rfl
  · rfl
theorem hrs_0 {n t g y : Nat} {S : ST} (h : IV n t g y S) {v : Int32} (hk : kn n v = true) : hrs n (S.2.2.1 14) v = true ↔ S.2.2.1 34 v.toNatClampNeg = 0 := by
  have h12 := h.n12
  obtain ⟨j, hj, rfl⟩ := kn_ex hk (by omega)
  rw [hrs_j hj h12, nI_clamp (by omega), (h.a j hj).2.2.2.2.2.2.2.2.2]
  exact decide_eq_true_iff
theorem tes_eq {n t g y : Nat} {S : ST} (h : IV n t g y S) (v : Int32) : (if kn n v then (if hrs n (S.2.2.1 14) v then (if t < 12 then nI t else -4) else -3) else -1) = (if kn n v then (if S.2.2.1 34 v.toNatClampNeg = 0 then (if t = 12 then -4 else nI t) else -3) else -1) := by
  have t12 := h.t12
  by_cases hk : kn n v = true
  · rw [if_pos hk, if_pos hk]
    by_cases hh : hrs n (S.2.2.1 14) v = true
    · rw [if_pos hh, if_pos ((hrs_0 h hk).mp hh)]
      by_cases ht : t = 12
      · rw [if_neg (by omega), if_pos ht]
      · rw [if_pos (by omega), if_neg ht]
    · rw [if_neg hh, if_neg (fun z => hh ((hrs_0 h hk).mpr z))]
  · rw [if_neg hk, if_neg hk]
theorem st_test {n t g y : Nat} {S : ST} (h : IV n t g y S) (v : Int32) (q : Bool) : ∃ t2, IV n t2 g y (tsM (tsC S n t v q) n t v q) := by
  have t12 := h.t12
  have h12 := h.n12
  have e34 := tsC_34 S n t v q
  unfold tsM
  rw [e34]
  unfold tsC
  by_cases hk : kn n v = true
  · rw [if_pos hk, if_pos hk]
    by_cases hh : hrs n (S.2.2.1 14) v = true
    · rw [if_pos hh, if_pos ((hrs_0 h hk).mp hh)]
      by_cases ht : t = 12
      · rw [if_pos ht, if_neg (show ¬ t < 12 by omega)]; exact ⟨t, h⟩
      · rw [if_neg ht, if_pos (show t < 12 by omega)]
        obtain ⟨j, hj, rfl⟩ := kn_ex hk (by omega)
        refine ⟨t + 1, ⟨h.n0, h.n1, h.n12, rfl, rfl, by omega, h.g0, h.g1, h.g40, h.y0, h.y1, h.y40⟩, h.a, h.b, h.c, fun k hk2 => ?_, h.r, h.s, h.y, h.m⟩
        show (∃ i, i < n ∧ upd (S.2.2.1 15) t (nI j) k = nI i) ∧ upd (S.2.2.1 35) t (nI j) k = upd (S.2.2.1 15) t (nI j) k ∧ (∃ b, upd (S.2.2.1 16) t (b2i q) k = b2i b) ∧ upd (S.2.2.1 36) t (b2i q) k = upd (S.2.2.1 16) t (b2i q) k
        by_cases e : k = t
        · rw [e, pk_us, pk_us, pk_us, pk_us]
          exact ⟨⟨j, hj, rfl⟩, rfl, ⟨q, rfl⟩, rfl⟩
        · rw [pk_un e, pk_un e, pk_un e, pk_un e]
          exact h.t k (by omega)
    · rw [if_neg hh, if_neg (fun z => hh ((hrs_0 h hk).mpr z))]; exact ⟨t, h⟩
  · rw [if_neg hk, if_neg hk]; exact ⟨t, h⟩
theorem unt_eq (t : Nat) : (if 1 ≤ t then nI (t - 1) else -5) = (if 0 < t then nI (t - 1) else -5) := rfl
theorem st_untest {n t g y : Nat} {S : ST} (h : IV n t g y S) : ∃ t2, IV n t2 g y (if 0 < t then setI (if 1 ≤ t then setI S 1 (nI (t - 1)) else S) 11 (nI (t - 1)) else (if 1 ≤ t then setI S 1 (nI (t - 1)) else S)) := by
  have t12 := h.t12
  by_cases ht : 0 < t
  · rw [if_pos ht, if_pos (show 1 ≤ t from ht)]
    exact ⟨t - 1, ⟨h.n0, h.n1, h.n12, rfl, rfl, by omega, h.g0, h.g1, h.g40, h.y0, h.y1, h.y40⟩, h.a, h.b, h.c, fun k hk => h.t k (by omega), h.r, h.s, h.y, h.m⟩
  · rw [if_neg ht, if_neg (show ¬ 1 ≤ t from ht)]; exact ⟨t, h⟩
theorem say_eq {g : Nat} (hg : g ≤ 40) (s : Int32) : (if fr s 33 126 then (if g < 40 then nI (g + 1) else -4) else -2) = (if fr s 33 126 then (if g = 40 then -4 else nI (g + 1)) else (-2 : Int32)) := by
  by_cases h1 : fr s 33 126 = true
  · rw [if_pos h1, if_pos h1]
    by_cases h2 : g = 40
    · rw [if_neg (by omega), if_pos h2]
    · rw [if_pos (by omega), if_neg h2]
  · rw [if_neg h1, if_neg h1]
def syC (S : ST) (g : Nat) (s : Int32) : ST := if fr s 33 126 then (if g < 40 then setI (setA S 23 g s) 8 (nI (g + 1)) else S) else S
def syM (S : ST) (g : Nat) (s : Int32) : ST := if fr s 33 126 then (if g = 40 then S else setI (setA S 38 g s) 12 (nI (g + 1))) else S
theorem st_say {n t g y : Nat} {S : ST} (h : IV n t g y S) (s : Int32) : ∃ g2, IV n t g2 y (syM (syC S g s) g s) := by
  have g40 := h.g40
  unfold syM syC
  by_cases h1 : fr s 33 126 = true
  · rw [if_pos h1, if_pos h1]
    by_cases h2 : g = 40
    · rw [if_pos h2, if_neg (by omega)]; exact ⟨g, h⟩
    · rw [if_neg h2, if_pos (by omega)]
      refine ⟨g + 1, ⟨h.n0, h.n1, h.n12, h.t0, h.t1, h.t12, rfl, rfl, by omega, h.y0, h.y1, h.y40⟩, h.a, h.b, h.c, h.t, h.r, fun k hk => ?_, h.y, h.m⟩
      show upd (S.2.2.1 38) g s k = upd (S.2.2.1 23) g s k
      by_cases e : k = g
      · rw [e, pk_us, pk_us]
      · rw [pk_un e, pk_un e]; exact h.s k (by omega)
  · rw [if_neg h1, if_neg h1]; exact ⟨g, h⟩
theorem st_wipe {n t g y : Nat} {S : ST} (h : IV n t g y S) : IV n t 0 y (setI (setI S 8 0) 12 0) := ⟨⟨h.n0, h.n1, h.n12, h.t0, h.t1, h.t12, rfl, rfl, by decide, h.y0, h.y1, h.y40⟩, h.a, h.b, h.c, h.t, h.r, fun k hk => absurd hk (Nat.not_lt_zero _), h.y, h.m⟩
/-! the truth -/
theorem flt_cg {f q : Nat → Int32} {y : Nat} (h : ∀ k, k < y → f k = q k) : ∀ (k : Nat) (A : List Nat), k ≤ y → flt f y k A = flt q y k A
  | 0, A, _ => rfl
  | k + 1, [], _ => rfl
  | k + 1, dp :: R, hk => by
    have e := h (y - (k + 1)) (by omega)
    by_cases hx : txO (f (y - (k + 1))) = -1 ∨ (0 < txO (f (y - (k + 1))) ∧ 9 ≤ dp)
    · rw [flt_x hx, flt_x (by rw [← e]; exact hx)]
    · rw [flt_s hx, flt_s (by rw [← e]; exact hx), e, flt_cg h k _ (by omega)]
theorem tpn_cg {f q : Nat → Int32} {y : Nat} (h : ∀ k, k < y → f k = q k) : ∀ m, m ≤ y → tpn f y m = tpn q y m
  | 0, _ => rfl
  | m + 1, hm => by rw [tpn_s, tpn_s, tpn_cg h m (by omega), h (y - 1 - m) (by omega)]
theorem evB_cg {f q : Nat → Int32} {y s : Nat} (h : ∀ k, k < y → f k = q k) : ∀ m, m ≤ y → evB f y s m = evB q y s m
  | 0, _ => rfl
  | m + 1, hm => by rw [evB_s, evB_s, evB_cg h m (by omega), h (y - 1 - m) (by omega)]
theorem tv_cg {f q : Nat → Int32} {y s : Nat} (h : ∀ k, k < y → f k = q k) : tv f y s = tv q y s := by
  unfold tv
  rw [evB_cg h y (Nat.le_refl y)]
theorem WF_cg {f q : Nat → Int32} {y : Nat} (h : ∀ k, k < y → f k = q k) (hw : WF f y) : WF q y := by
  refine ⟨hw.1, by rw [← tpn_cg h y (Nat.le_refl y)]; exact hw.2.1, fun m hm => ?_⟩
  rw [← h (y - 1 - m) (by omega), ← tpn_cg h m (by omega)]
  exact hw.2.2 m hm
theorem st_truth {n t g y : Nat} {S S2 S3 S4 : ST} (h : IV n t g y S) (h2 : FrD S S2) (hf : flt (S.2.2.1 23) g g [0] = -6) (h3 : TK S2 g 64 S3) (h4 : FrE (setI S3 8 0) S4) : IV n t 0 g (setI (cpT (setI S4 13 (nI g)) g) 12 0) := by
  have hT := h3.1
  have r : ∀ c, c ≠ 24 → c ≠ 48 → S4.2.2.1 c = S.2.2.1 c := fun c a b => by
    rw [h4.2.2.1 c b]
    show S3.2.2.1 c = _
    rw [hT.2.2.1]
    exact h2.2.2.1 c a
  have f : ∀ k, k ≠ 8 → k ≠ 9 → S4.1 k = S.1 k := fun k a b => by
    rw [h4.1]
    show va_up S3.1 8 0 k = _
    rw [va_up_ne _ _ a, hT.1 k b, h2.1]
  have l25 : S4.2.2.2 25 = S3.2.2.2 25 := by rw [h4.2.2.2]; rfl
  have e39 : (setI (cpT (setI S4 13 (nI g)) g) 12 0).2.2.1 39 = fun j => if j < g then S.2.2.1 38 j else S.2.2.1 39 j := by
    show (fun j => if j < g then S4.2.2.1 38 j else S4.2.2.1 39 j) = _
    rw [r 38 (by decide) (by decide), r 39 (by decide) (by decide)]
  have sg : ∀ k, k < g → (fun j => if j < g then S.2.2.1 38 j else S.2.2.1 39 j) k = S.2.2.1 23 k := fun k hk => by
    show (if k < g then _ else _) = _
    rw [if_pos hk]; exact h.s k hk
  refine ⟨⟨?_, ?_, h.n12, ?_, ?_, h.t12, ?_, rfl, by decide, ?_, rfl, h.g40⟩, ?_, ?_, ?_, ?_, ?_, fun k hk => absurd hk (Nat.not_lt_zero _), fun hy => ⟨?_, fun s hs => ?_⟩, ?_⟩
  · show S4.1 0 = _
    rw [f 0 (by decide) (by decide)]; exact h.n0
  · show S4.1 10 = _
    rw [f 10 (by decide) (by decide)]; exact h.n1
  · show S4.1 1 = _
    rw [f 1 (by decide) (by decide)]; exact h.t0
  · show S4.1 11 = _
    rw [f 11 (by decide) (by decide)]; exact h.t1
  · show S4.1 8 = _
    rw [h4.1]; rfl
  · show S4.1 9 = _
    rw [h4.1]
    exact h3.2.1
  · intro v hv
    exact VR_cg (h.a v hv) (congrFun (r 9 (by decide) (by decide)) v) (congrFun (r 30 (by decide) (by decide)) v) (congrFun (r 11 (by decide) (by decide)) v) (congrFun (r 31 (by decide) (by decide)) v) (congrFun (r 12 (by decide) (by decide)) v) (congrFun (r 32 (by decide) (by decide)) v) (congrFun (r 13 (by decide) (by decide)) v) (congrFun (r 33 (by decide) (by decide)) v) (congrFun (r 14 (by decide) (by decide)) v) (congrFun (r 34 (by decide) (by decide)) v)
  · intro v h5 h6
    show S4.2.2.1 13 v = 0 ∧ S4.2.2.1 14 v = 0 ∧ S4.2.2.1 10 v = 0
    rw [r 13 (by decide) (by decide), r 14 (by decide) (by decide), r 10 (by decide) (by decide)]
    exact h.b v h5 h6
  · intro c hc v hv
    show bt (S4.2.2.1 10 c) v = (decide (v < n) && bt (S4.2.2.1 9 v) c)
    rw [r 10 (by decide) (by decide), r 9 (by decide) (by decide)]
    exact h.c c hc v hv
  · intro k hk
    show (∃ j, j < n ∧ S4.2.2.1 15 k = nI j) ∧ S4.2.2.1 35 k = S4.2.2.1 15 k ∧ (∃ b, S4.2.2.1 16 k = b2i b) ∧ S4.2.2.1 36 k = S4.2.2.1 16 k
    rw [r 15 (by decide) (by decide), r 16 (by decide) (by decide), r 35 (by decide) (by decide), r 36 (by decide) (by decide)]
    exact h.t k hk
  · show (∀ k, k < 5 → S4.2.2.1 37 k = S4.2.2.1 17 k) ∧ (∀ k, k < 2 → ∃ a, a ≤ 5 ∧ S4.2.2.1 17 k = nI a) ∧ (∀ k, 2 ≤ k → k < 5 → ∃ a, a ≤ 9 ∧ S4.2.2.1 17 k = nI a)
    rw [r 37 (by decide) (by decide), r 17 (by decide) (by decide)]
    exact h.r
  · rw [e39]
    exact WF_cg (fun k hk => (sg k hk).symm) (flt_WF h.g40 hf)
  · rw [e39, tv_cg sg]
    show bl (S4.2.2.2 25 (s / 64)) (s % 64) = _
    rw [l25, h3.2.2 s (by omega), h2.2.2.1 23 (by decide)]
  · refine ⟨fun z => ?_, fun z => ?_, fun z => ?_⟩
    · have z2 : S4.1 3 = 0 := z
      rw [f 3 (by decide) (by decide)] at z2
      show PK false _ n (S4.2.2.1 21)
      rw [r 21 (by decide) (by decide)]
      exact (h.m.1 z2).base (r 9 (by decide) (by decide)) (r 14 (by decide) (by decide)) (r 12 (by decide) (by decide)) (r 11 (by decide) (by decide))
    · have z2 : S4.1 5 = 0 := z
      rw [f 5 (by decide) (by decide)] at z2
      show PK true _ n (S4.2.2.1 22)
      rw [r 22 (by decide) (by decide)]
      exact (h.m.2.1 z2).base (r 9 (by decide) (by decide)) (r 14 (by decide) (by decide)) (r 12 (by decide) (by decide)) (r 11 (by decide) (by decide))
    · have z2 : ¬ S4.1 15 = 0 := z
      rw [f 15 (by decide) (by decide)] at z2
      have hl := (h.m.2.2 z2).base (B := setI (cpT (setI S4 13 (nI g)) g) 12 0) (r 30 (by decide) (by decide)) (r 34 (by decide) (by decide)) (r 32 (by decide) (by decide)) (r 31 (by decide) (by decide))
      intro s hs
      have := hl s hs
      unfold L4 at this ⊢
      show S4.2.2.1 44 s = _ ∧ S4.2.2.1 45 s = _ ∧ S4.2.2.1 46 s = _ ∧ S4.2.2.1 47 s = _
      rw [r 44 (by decide) (by decide), r 45 (by decide) (by decide), r 46 (by decide) (by decide), r 47 (by decide) (by decide)]
      exact this
/-! worst and mean -/
theorem st_w3 {n t g y : Nat} {S S2 : ST} (h : IV n t g y S) (f : FrR 3 21 S S2) (hk : PK false S2 n (S2.2.2.1 21)) : IV n t g y S2 := by
  obtain ⟨f1, f2, f3, f4⟩ := f
  have g1 : PK true S n (S.2.2.1 22) → PK true S2 n (S2.2.2.1 22) := fun z => by
    rw [f3 22 (by decide)]
    exact z.base (f3 9 (by decide)) (f3 14 (by decide)) (f3 12 (by decide)) (f3 11 (by decide))
  obtain ⟨a0, a1, a2, a3, a4, a5, a6, a7, a8⟩ := h
  unfold IV IVk IVa IVb IVc IVt IVr IVs IVy IVm VR LY L4 at *
  rw [f4, f1 0 (by decide), f1 10 (by decide), f1 1 (by decide), f1 11 (by decide), f1 8 (by decide), f1 12 (by decide), f1 9 (by decide), f1 13 (by decide), f1 5 (by decide), f1 15 (by decide), f3 9 (by decide), f3 10 (by decide), f3 11 (by decide), f3 12 (by decide), f3 13 (by decide), f3 14 (by decide), f3 15 (by decide), f3 16 (by decide), f3 17 (by decide), f3 23 (by decide), f3 30 (by decide), f3 31 (by decide), f3 32 (by decide), f3 33 (by decide), f3 34 (by decide), f3 35 (by decide), f3 36 (by decide), f3 37 (by decide), f3 38 (by decide), f3 39 (by decide), f3 44 (by decide), f3 45 (by decide), f3 46 (by decide), f3 47 (by decide)]
  exact ⟨a0, a1, a2, a3, a4, a5, a6, a7, fun _ => hk, fun z => g1 (a8.2.1 z), a8.2.2⟩
theorem st_w5 {n t g y : Nat} {S S2 : ST} (h : IV n t g y S) (f : FrR 5 22 S S2) (hk : PK true S2 n (S2.2.2.1 22)) : IV n t g y S2 := by
  obtain ⟨f1, f2, f3, f4⟩ := f
  have g1 : PK false S n (S.2.2.1 21) → PK false S2 n (S2.2.2.1 21) := fun z => by
    rw [f3 21 (by decide)]
    exact z.base (f3 9 (by decide)) (f3 14 (by decide)) (f3 12 (by decide)) (f3 11 (by decide))
  obtain ⟨a0, a1, a2, a3, a4, a5, a6, a7, a8⟩ := h
  unfold IV IVk IVa IVb IVc IVt IVr IVs IVy IVm VR LY L4 at *
  rw [f4, f1 0 (by decide), f1 10 (by decide), f1 1 (by decide), f1 11 (by decide), f1 8 (by decide), f1 12 (by decide), f1 9 (by decide), f1 13 (by decide), f1 3 (by decide), f1 15 (by decide), f3 9 (by decide), f3 10 (by decide), f3 11 (by decide), f3 12 (by decide), f3 13 (by decide), f3 14 (by decide), f3 15 (by decide), f3 16 (by decide), f3 17 (by decide), f3 23 (by decide), f3 30 (by decide), f3 31 (by decide), f3 32 (by decide), f3 33 (by decide), f3 34 (by decide), f3 35 (by decide), f3 36 (by decide), f3 37 (by decide), f3 38 (by decide), f3 39 (by decide), f3 44 (by decide), f3 45 (by decide), f3 46 (by decide), f3 47 (by decide)]
  exact ⟨a0, a1, a2, a3, a4, a5, a6, a7, fun z => g1 (a8.1 z), fun _ => hk, a8.2.2⟩
theorem st_ly {n t g y : Nat} {S S2 : ST} (h : IV n t g y S) (f : FrY S S2) (hk : LY S2 n (2 ^ n) S2) : IV n t g y S2 := by
  obtain ⟨f1, f2, f3, f4⟩ := f
  obtain ⟨a0, a1, a2, a3, a4, a5, a6, a7, a8⟩ := h
  unfold IV IVk IVa IVb IVc IVt IVr IVs IVy IVm VR PK at *
  rw [f4, f1 0 (by decide), f1 10 (by decide), f1 1 (by decide), f1 11 (by decide), f1 8 (by decide), f1 12 (by decide), f1 9 (by decide), f1 13 (by decide), f1 3 (by decide), f1 5 (by decide), f3 9 (by decide) (by decide) (by decide) (by decide), f3 10 (by decide) (by decide) (by decide) (by decide), f3 11 (by decide) (by decide) (by decide) (by decide), f3 12 (by decide) (by decide) (by decide) (by decide), f3 13 (by decide) (by decide) (by decide) (by decide), f3 14 (by decide) (by decide) (by decide) (by decide), f3 15 (by decide) (by decide) (by decide) (by decide), f3 16 (by decide) (by decide) (by decide) (by decide), f3 17 (by decide) (by decide) (by decide) (by decide), f3 21 (by decide) (by decide) (by decide) (by decide), f3 22 (by decide) (by decide) (by decide) (by decide), f3 23 (by decide) (by decide) (by decide) (by decide), f3 30 (by decide) (by decide) (by decide) (by decide), f3 31 (by decide) (by decide) (by decide) (by decide), f3 32 (by decide) (by decide) (by decide) (by decide), f3 33 (by decide) (by decide) (by decide) (by decide), f3 34 (by decide) (by decide) (by decide) (by decide), f3 35 (by decide) (by decide) (by decide) (by decide), f3 36 (by decide) (by decide) (by decide) (by decide), f3 37 (by decide) (by decide) (by decide) (by decide), f3 38 (by decide) (by decide) (by decide) (by decide), f3 39 (by decide) (by decide) (by decide) (by decide)]
  exact ⟨a0, a1, a2, a3, a4, a5, a6, a7, a8.1, a8.2.1, fun _ => hk⟩
