/-! weights of both: A holds the class's rows, B the reference's -/
def JV (n : Nat) (A B : ST) : Prop := (∀ v, v < n → B.2.2.1 30 v = A.2.2.1 9 v ∧ B.2.2.1 31 v = A.2.2.1 11 v ∧ B.2.2.1 32 v = A.2.2.1 12 v ∧ B.2.2.1 34 v = A.2.2.1 14 v) ∧ IVc n A ∧ (∀ k, k < 5 → B.2.2.1 37 k = A.2.2.1 17 k) ∧ RG (A.2.2.1 17) (A.2.2.1 11) n
def JT (n m : Nat) (A B : ST) : Prop := ∀ k, k < m → (∃ j, j < n ∧ A.2.2.1 15 k = nI j) ∧ B.2.2.1 35 k = A.2.2.1 15 k ∧ (∃ b, A.2.2.1 16 k = b2i b) ∧ B.2.2.1 36 k = A.2.2.1 16 k
theorem IV.jv {n t g y : Nat} {S : ST} (h : IV n t g y S) : JV n S S := ⟨fun v hv => ⟨(h.a v hv).2.1, (h.a v hv).2.2.2.1, (h.a v hv).2.2.2.2.2.1, (h.a v hv).2.2.2.2.2.2.2.2.2⟩, h.c, h.r.1, h.RG⟩
theorem IV.jt {n t g y : Nat} {S : ST} (h : IV n t g y S) : JT n t S S := h.t
theorem fO_sf {n : Nat} {A B : ST} (h : JV n A B) (h12 : n ≤ 12) {s c e v : Nat} (hs : s < 3) (hc : c < n) (he : s ≠ 0 → e < n) (hv : v < n) : bt (fO (A.2.2.1 10) s c e) v = sfB (B.2.2.1 30) v s c e := by
  have key : ∀ c, c < n → bt (A.2.2.1 10 c) v = bt (B.2.2.1 30 v) c := fun c hc => by
    rw [h.2.1 c hc v (by omega), decide_eq_true hv, Bool.true_and, (h.1 v hv).1]
  unfold fO sfB
  rcases (show s = 0 ∨ s = 1 ∨ s = 2 by omega) with z | z | z
  · subst z
    rw [if_neg (by decide), if_neg (by decide), key c hc]
    simp
  · subst z
    rw [if_pos rfl, b_and, key c hc, key e (he (by decide))]
    cases bt (B.2.2.1 30 v) e <;> simp
  · subst z
    rw [if_neg (by decide), if_pos rfl, b_and, b_xor, b_m1 v (by omega), key c hc, key e (he (by decide))]
    cases bt (B.2.2.1 30 v) e <;> simp
theorem ten_eq {n : Nat} {A B : ST} (h : JV n A B) (f q : Bool) : ten (B.2.2.1 37) f q = ten (A.2.2.1 17) f q := by
  unfold ten
  rw [h.2.2.1 0 (by decide), h.2.2.1 1 (by decide)]
theorem w_eq {n m : Nat} {A B : ST} (h : JV n A B) (hT : JT n m A B) (h12 : n ≤ 12) {s c e : Nat} (hs : s < 3) (hc : c < n) (he : e < n) : wO A m s c e = wM B m s c e := by
  unfold wO wM
  have e1 : w0m (B.2.2.1 37) (B.2.2.1 31) s c e = w0c (A.2.2.1 17) (A.2.2.1 11) s c e := by
    rw [← w0m_nat h.2.2.2 hs hc he]
    unfold w0m
    rw [h.2.2.1 (2 + s) (by omega), (h.1 c hc).2.1, (h.1 e he).2.1]
  rw [e1]
  refine wprod_cong (fun k hk => ?_)
  obtain ⟨⟨j, hj, e15⟩, e35, -, e36⟩ := hT k hk
  unfold tenc tenm
  rw [ten_eq h, e35, e36, e15, nI_clamp (by omega), fO_sf h h12 hs hc (fun _ => he) hj]
theorem w_i (A : ST) (m c e : Nat) : wO A m 0 c e = wO A m 0 c c := by
  unfold wO
  have e1 : w0c (A.2.2.1 17) (A.2.2.1 11) 0 c e = w0c (A.2.2.1 17) (A.2.2.1 11) 0 c c := by unfold w0c; rw [if_pos rfl, if_pos rfl]
  have e2 : fO (A.2.2.1 10) 0 c e = fO (A.2.2.1 10) 0 c c := by unfold fO; rw [if_neg (by decide), if_neg (by decide), if_neg (by decide), if_neg (by decide)]
  rw [e1, e2]
theorem wM_i (B : ST) (m c e : Nat) : wM B m 0 c e = wM B m 0 c c := by
  unfold wM
  have e1 : w0m (B.2.2.1 37) (B.2.2.1 31) 0 c e = w0m (B.2.2.1 37) (B.2.2.1 31) 0 c c := by unfold w0m; rw [if_pos rfl, if_pos rfl]
  rw [e1]
  refine wprod_cong (fun k _ => ?_)
  unfold tenm sfB
  simp
theorem w_eq0 {n m : Nat} {A B : ST} (h : JV n A B) (hT : JT n m A B) (h12 : n ≤ 12) {s c e : Nat} (hs : s < 3) (hc : c < n) (he : s ≠ 0 → e < n) : wO A m s c e = wM B m s c e := by
  by_cases z : s = 0
  · subst z
    rw [w_i, wM_i]
    exact w_eq h hT h12 (by decide) hc hc
  · exact w_eq h hT h12 hs hc (he z)
theorem wX_eq {n m : Nat} {A B : ST} (h : JV n A B) (hT : JT n m A B) (h12 : n ≤ 12) {x : XT} (hx : x ∈ stl n) : wX A m x = wMX B m x := by
  have hk := stl_ok x hx
  exact w_eq h hT h12 hk.1 hk.2.1 hk.2.2
theorem fX_eq {n : Nat} {A B : ST} (h : JV n A B) (h12 : n ≤ 12) {x : XT} {v : Nat} (hx : x ∈ stl n) (hv : v < n) : bt (fX A x) v = sfB (B.2.2.1 30) v x.1 x.2.1 x.2.2 := by
  have hk := stl_ok x hx
  exact fO_sf h h12 hk.1 hk.2.1 (fun _ => hk.2.2) hv
theorem all_eq {n m : Nat} {A B : ST} (h : JV n A B) (hT : JT n m A B) (h12 : n ≤ 12) : lsum (wX A m) (stl n) = lsum (wMX B m) (stl n) := lsum_congr (fun x hx => wX_eq h hT h12 hx)
theorem fold_cg {β : Type} {f g : β → XT → β} : ∀ (L : List XT) (a : β), (∀ a x, x ∈ L → f a x = g a x) → L.foldl f a = L.foldl g a := by
  intro L
  induction L with
  | nil => intro a _; rfl
  | cons y L ih =>
    intro a h
    rw [List.foldl_cons, List.foldl_cons, h a y List.mem_cons_self]
    exact ih _ (fun a x hx => h a x (List.mem_cons_of_mem _ hx))
theorem gxo_eq {n m : Nat} {A B : ST} (h : JV n A B) (hT : JT n m A B) (h12 : n ≤ 12) : gxo (wX A m) (stl n) = gxo (wMX B m) (stl n) := by
  unfold gxo
  refine fold_cg _ _ (fun a x hx => ?_)
  unfold gxs
  rw [wX_eq h hT h12 hx]
theorem hp_eq {n m v : Nat} {A B : ST} (h : JV n A B) (hT : JT n m A B) (h12 : n ≤ 12) (hv : v < n) : hpC A m n v = hpM B m n v := by
  unfold hpC hpM
  congr 1
  · exact mxs_congr (fun x hx => by rw [wX_eq h hT h12 hx, fX_eq h h12 hx hv, ten_eq h])
  · exact mxs_congr (fun x hx => by rw [wX_eq h hT h12 hx, fX_eq h h12 hx hv, ten_eq h])
theorem sg_id (q : XT → Bool) (w : XT → Int64) : ∀ (L : List XT) (a b c : Int64), a = 2 * b - c → L.foldl (fun a x => a + (if q x then w x else -w x)) a = 2 * L.foldl (fun a x => a + (if q x then w x else 0)) b - L.foldl (fun a x => a + w x) c := by
  intro L
  induction L with
  | nil => intro a b c h; exact h
  | cons y L ih =>
    intro a b c h
    rw [List.foldl_cons, List.foldl_cons, List.foldl_cons]
    refine ih _ _ _ ?_
    subst h
    cases q y
    · show 2 * b - c + -w y = 2 * (b + 0) - (c + w y)
      grind
    · show 2 * b - c + w y = 2 * (b + w y) - (c + w y)
      grind
theorem abs_2 (x : Int64) : (if 0 < -x then -x else - -x) = if x < 0 then -x else x := by
  rw [Int64.neg_neg]
  have hr1 := Int64.le_toInt x
  have hr2 := Int64.toInt_lt x
  by_cases hm : x.toInt = -9223372036854775808
  · have : x = -9223372036854775808 := Int64.toInt_inj.mp hm
    subst this
    decide
  · have hn : (-x).toInt = -x.toInt := by
      show (-x.toBitVec).toInt = _
      rw [BitVec.toInt_neg]
      show (-x.toInt).bmod _ = _
      rw [Int.bmod_eq_of_le (by omega) (by omega)]
    have h0 : (0 : Int64).toInt = 0 := rfl
    by_cases h : x < 0
    · have h2 : 0 < -x := by rw [Int64.lt_iff_toInt_lt, hn, h0]; rw [Int64.lt_iff_toInt_lt, h0] at h; omega
      rw [if_pos h, if_pos h2]
    · have h2 : ¬ 0 < -x := by rw [Int64.lt_iff_toInt_lt, hn, h0]; rw [Int64.lt_iff_toInt_lt, h0] at h; omega
      rw [if_neg h, if_neg h2]
theorem ls0_eq {n m v : Nat} {A B : ST} (h : JV n A B) (hT : JT n m A B) (h12 : n ≤ 12) (hv : v < n) : lsG A m n v = lsM B m n 0 v := by
  unfold lsG lsM
  rw [if_neg (by decide)]
  have e1 : lsum (fun x => if bt (fX A x) v then wX A m x else 0) (stl n) = lsum (fun x => if sfB (B.2.2.1 30) v x.1 x.2.1 x.2.2 then wMX B m x else 0) (stl n) := lsum_congr (fun x hx => by rw [wX_eq h hT h12 hx, fX_eq h h12 hx hv])
  have e2 := sg_id (fun x => sfB (B.2.2.1 30) v x.1 x.2.1 x.2.2) (wMX B m) (stl n) 0 0 0 (by decide)
  rw [all_eq h hT h12, e1]
  have e3 : sgM B m n v = 2 * lsum (fun x => if sfB (B.2.2.1 30) v x.1 x.2.1 x.2.2 then wMX B m x else 0) (stl n) - lsum (wMX B m) (stl n) := e2
  unfold gapv
  generalize lsum (wMX B m) (stl n) = a at *
  generalize lsum (fun x => if sfB (B.2.2.1 30) v x.1 x.2.1 x.2.2 then wMX B m x else 0) (stl n) = f at *
  rw [show a - 2 * f = - sgM B m n v by rw [e3]; grind]
  exact abs_2 _
theorem ls1_eq {n m v : Nat} {A B : ST} (h : JV n A B) (hT : JT n m A B) (h12 : n ≤ 12) (hv : v < n) : lsH A m n v = lsM B m n 1 v := by
  unfold lsH lsM
  rw [if_pos rfl, hp_eq h hT h12 hv]
theorem nv1_eq {n m : Nat} {A B : ST} (h : JV n A B) (hT : JT n m A B) (h12 : n ≤ 12) : nfo (A.2.2.1 14) (A.2.2.1 12) (lsH A m n) n = nfo (B.2.2.1 34) (B.2.2.1 32) (lsM B m n 1) n := nfo_cong h12 (fun k hk => (h.1 k hk).2.2.2.symm) (fun k hk => (h.1 k hk).2.2.1.symm) (fun k hk => ls1_eq h hT h12 hk)
theorem nv0_eq {n m : Nat} {A B : ST} (h : JV n A B) (hT : JT n m A B) (h12 : n ≤ 12) : nfo (A.2.2.1 14) (A.2.2.1 12) (lsG A m n) n = nfo (B.2.2.1 34) (B.2.2.1 32) (lsM B m n 0) n := nfo_cong h12 (fun k hk => (h.1 k hk).2.2.2.symm) (fun k hk => (h.1 k hk).2.2.1.symm) (fun k hk => ls0_eq h hT h12 hk)
/-! the answers -/
theorem stO_k {n : Nat} {s c o : Int32} (h : fr s 0 2 = true) (h2 : stO n s c o = true) (h12 : n ≤ 12) : s.toNatClampNeg < 3 ∧ c.toNatClampNeg < n ∧ (s.toNatClampNeg ≠ 0 → o.toNatClampNeg < n) := by
  obtain ⟨j, -, hj, rfl⟩ := fr_ex (a := 0) (b := 2) rfl rfl h (by decide)
  unfold stO at h2
  rw [Bool.and_eq_true, Bool.or_eq_true, Bool.and_eq_true] at h2
  obtain ⟨k, hk, rfl⟩ := kn_ex h2.1 (by omega)
  rw [nI_clamp (by omega), nI_clamp (by omega)]
  refine ⟨by omega, hk, fun hne => ?_⟩
  rcases h2.2 with z | z
  · have := of_decide_eq_true z
    have h0 : nI j = nI 0 := this
    exact absurd ((nI_eq (by omega) (by omega)).mp h0) hne
  · obtain ⟨i, hi, rfl⟩ := kn_ex z.1 (by omega)
    rw [nI_clamp (by omega)]; exact hi
theorem wgt_eq {n m : Nat} {A B : ST} (h : JV n A B) (hT : JT n m A B) (h12 : n ≤ 12) (s c o : Int32) : wgtC A n m s c o = wgtM B n m s c o := by
  unfold wgtC wgtM
  by_cases h1 : fr s 0 2 = true
  · rw [if_pos h1, if_pos h1]
    by_cases h2 : stO n s c o = true
    · obtain ⟨a, b, c2⟩ := stO_k h1 h2 h12
      rw [if_pos h2, if_pos h2, w_eq0 h hT h12 a b c2]
    · rw [if_neg h2, if_neg h2]
  · rw [if_neg h1, if_neg h1]
theorem odd_eq {n m : Nat} {A B : ST} (h : JV n A B) (hT : JT n m A B) (h12 : n ≤ 12) (s c o q : Int32) : oddC A n m s c o q = oddM B n m s c o q := by
  unfold oddC oddM
  by_cases h1 : fr s 0 2 = true
  · rw [if_pos h1, if_pos h1]
    by_cases h2 : stO n s c o = true
    · obtain ⟨a, b, c2⟩ := stO_k h1 h2 h12
      rw [if_pos h2, if_pos h2, w_eq0 h hT h12 a b c2, all_eq h hT h12]
    · rw [if_neg h2, if_neg h2]
  · rw [if_neg h1, if_neg h1]
theorem sor_eq {n m : Nat} {A B : ST} (h : JV n A B) (hT : JT n m A B) (h12 : n ≤ 12) (s q : Int32) : sorC A n m s q = sorM B n m s q := by
  unfold sorC sorM
  rw [all_eq h hT h12, lsum_congr (f := fun x => if x.1 = s.toNatClampNeg then wX A m x else 0) (g := fun x => if x.1 = s.toNatClampNeg then wMX B m x else 0) (fun x hx => by rw [wX_eq h hT h12 hx])]
theorem bla_eq {n m : Nat} {A B : ST} (h : JV n A B) (hT : JT n m A B) (h12 : n ≤ 12) (c q : Int32) : blaC A n m c q = blaM B n m c q := by
  unfold blaC blaM
  rw [all_eq h hT h12, lsum_congr (f := fun x => if x.2.1 = c.toNatClampNeg ∨ (x.1 = 1 ∧ x.2.2 = c.toNatClampNeg) then wX A m x else 0) (g := fun x => if x.2.1 = c.toNatClampNeg ∨ (x.1 = 1 ∧ x.2.2 = c.toNatClampNeg) then wMX B m x else 0) (fun x hx => by rw [wX_eq h hT h12 hx])]
theorem gue_eq {n m : Nat} {A B : ST} (h : JV n A B) (hT : JT n m A B) (h12 : n ≤ 12) (w : Int32) : gueC A n m w = gueM B n m w := by
  unfold gueC gueM
  rw [gxo_eq h hT h12]
theorem hrs_eq {n : Nat} {A B : ST} (h : JV n A B) (h12 : n ≤ 12) (v : Int32) : hrs n (A.2.2.1 14) v = hrs n (B.2.2.1 34) v := by
  unfold hrs
  cases hk : kn n v with
  | false => rfl
  | true =>
    obtain ⟨j, hj, rfl⟩ := kn_ex hk (by omega)
    rw [nI_clamp (by omega), (h.1 j hj).2.2.2]
theorem hop_eq {n m : Nat} {A B : ST} (h : JV n A B) (hT : JT n m A B) (h12 : n ≤ 12) (v q : Int32) : hopC A n m v q = hopM B n m v q := by
  unfold hopC hopM
  rw [← hrs_eq h h12]
  cases hh : hrs n (A.2.2.1 14) v with
  | false => rw [if_neg Bool.false_ne_true, if_neg Bool.false_ne_true]
  | true =>
    rw [if_pos rfl, if_pos rfl]
    have hk : kn n v = true := by unfold hrs at hh; rw [Bool.and_eq_true] at hh; exact hh.1
    obtain ⟨j, hj, rfl⟩ := kn_ex hk (by omega)
    rw [nI_clamp (by omega), hp_eq h hT h12 hj, all_eq h hT h12]
theorem nex_eq {n m : Nat} {A B : ST} (h : JV n A B) (hT : JT n m A B) (h12 : n ≤ 12) (w : Int32) : nexC A n m w = nexM B n m w := by
  unfold nexC nexM
  by_cases hf : fr w 0 1 = true
  · rw [if_pos hf, if_pos hf]
    obtain ⟨j, -, hj, rfl⟩ := fr_ex (a := 0) (b := 1) rfl rfl hf (by decide)
    rw [nI_clamp (by omega)]
    rcases (show j = 0 ∨ j = 1 by omega) with z | z
    · subst z
      rw [if_neg (show ¬ nI 0 = 1 by decide), nv0_eq h hT h12]
    · subst z
      rw [if_pos (show nI 1 = 1 by decide), nv1_eq h hT h12]
  · rw [if_neg hf, if_neg hf]
