/-- the first story of the most weight -/
def gxs (w : XT → Int64) (a : Int64 × Option XT) (x : XT) : Int64 × Option XT := if a.1 < w x then (w x, some x) else a
def gxo (w : XT → Int64) (L : List XT) : Int64 × Option XT := L.foldl (gxs w) (0, none)
def plo (o : Option XT) : Int32 := match o with
  | none => 0
  | some x => nI (plc x)
theorem gxo_app (w : XT → Int64) (L : List XT) (x : XT) : gxo w (L ++ [x]) = gxs w (gxo w L) x := by unfold gxo; rw [List.foldl_append]; rfl
theorem gxo_gfo (w : XT → Int64) (L : List XT) : gfo w L = ((gxo w L).1, plo (gxo w L).2) := by
  have key : ∀ (L : List XT) (a : Int64 × Option XT), L.foldl (gst w) (a.1, plo a.2) = ((L.foldl (gxs w) a).1, plo (L.foldl (gxs w) a).2) := by
    intro L
    induction L with
    | nil => intro a; rfl
    | cons y L ih =>
      intro a
      rw [List.foldl_cons, List.foldl_cons, ← ih]
      congr 1
      unfold gst gxs
      by_cases h : a.1 < w y
      · rw [if_pos h, if_pos h]; rfl
      · rw [if_neg h, if_neg h]
  exact key L (0, none)
theorem gxo_sp (w : XT → Int64) (L : List XT) : ((gxo w L).2 = none ∧ (gxo w L).1 = 0 ∧ ∀ x, x ∈ L → ¬ 0 < w x) ∨ ∃ x, (gxo w L).2 = some x ∧ (gxo w L).1 = w x ∧ x ∈ L ∧ 0 < w x := by
  have key : ∀ (L M : List XT) (a : Int64 × Option XT), ((a.2 = none ∧ a.1 = 0 ∧ ∀ x, x ∈ M → ¬ 0 < w x) ∨ ∃ x, a.2 = some x ∧ a.1 = w x ∧ x ∈ M ∧ 0 < w x) → (((L.foldl (gxs w) a).2 = none ∧ (L.foldl (gxs w) a).1 = 0 ∧ ∀ x, x ∈ M ++ L → ¬ 0 < w x) ∨ ∃ x, (L.foldl (gxs w) a).2 = some x ∧ (L.foldl (gxs w) a).1 = w x ∧ x ∈ M ++ L ∧ 0 < w x) := by
    intro L
    induction L with
    | nil => intro M a h; rw [List.append_nil]; exact h
    | cons y L ih =>
      intro M a h
      rw [List.foldl_cons, show M ++ y :: L = (M ++ [y]) ++ L by rw [List.append_assoc]; rfl]
      apply ih
      unfold gxs
      by_cases hy : a.1 < w y
      · rw [if_pos hy]
        right
        refine ⟨y, rfl, rfl, List.mem_append_right _ List.mem_cons_self, ?_⟩
        rcases h with ⟨-, h2, -⟩ | ⟨x, -, h2, -, h4⟩
        · rw [h2] at hy; exact hy
        · rw [h2] at hy
          rw [Int64.lt_iff_toInt_lt] at *
          omega
      · rw [if_neg hy]
        rcases h with ⟨h1, h2, h3⟩ | ⟨x, h1, h2, h3, h4⟩
        · left
          refine ⟨h1, h2, fun x hx => ?_⟩
          rcases List.mem_append.mp hx with hx | hx
          · exact h3 x hx
          · rw [List.mem_singleton.mp hx, ← h2]; exact hy
        · exact Or.inr ⟨x, h1, h2, List.mem_append_left _ h3, h4⟩
  have := key L [] (0, none) (Or.inl ⟨rfl, rfl, fun x hx => absurd hx List.not_mem_nil⟩)
  simpa [gxo] using this
theorem lsum_each {f : XT → Int64} {b : Nat} (L : List XT) (h : ∀ x, x ∈ L → ub b (f x)) : ∃ r, r ≤ L.length * b ∧ lsum f L = lN r ∧ ∀ x, x ∈ L → ub r (f x) := by
  have key : ∀ (L : List XT) (a : Nat), (∀ x, x ∈ L → ub b (f x)) → ∃ r, a ≤ r ∧ r ≤ a + L.length * b ∧ L.foldl (fun a x => a + f x) (lN a) = lN r ∧ ∀ x, x ∈ L → ub r (f x) := by
    intro L
    induction L with
    | nil => intro a _; exact ⟨a, Nat.le_refl _, by simp, rfl, fun x hx => absurd hx List.not_mem_nil⟩
    | cons y L ih =>
      intro a h
      obtain ⟨q, hq, eq⟩ := h y List.mem_cons_self
      obtain ⟨r, h1, h2, h3, h4⟩ := ih (a + q) (fun x hx => h x (List.mem_cons_of_mem _ hx))
      refine ⟨r, by omega, by rw [List.length_cons, Nat.succ_mul]; omega, ?_, fun x hx => ?_⟩
      · rw [List.foldl_cons, eq, lN_add]; exact h3
      · rcases List.mem_cons.mp hx with rfl | hx
        · exact ⟨q, by omega, eq⟩
        · exact h4 x hx
  obtain ⟨r, -, h2, h3, h4⟩ := key L 0 h
  exact ⟨r, by omega, h3, h4⟩
theorem ub_nn {b : Nat} {x : Int64} (h : ub b x) (hb : b < 2 ^ 63) : ¬ x < 0 := by
  obtain ⟨a, ha, rfl⟩ := h
  rw [← lN_0, pk_lLT (by omega) (by omega)]
  omega
/-- all weights are 0 just if there is no guess -/
theorem all_0 {w : XT → Int64} {n : Nat} (h12 : n ≤ 12) (h : ∀ x, x ∈ stl n → ub 729000000000000 (w x)) : lsum w (stl n) = 0 ↔ (gxo w (stl n)).2 = none := by
  obtain ⟨r, h1, h2, h3⟩ := lsum_each (stl n) h
  have hl := Nat.mul_le_mul_right 729000000000000 (stl_len n (by omega))
  have hr : r < 2 ^ 63 := by omega
  rw [h2, ← lN_0, pk_lEQ hr (by omega)]
  rcases gxo_sp w (stl n) with ⟨g1, g2, g3⟩ | ⟨x, g1, g2, g3, g4⟩
  · refine ⟨fun _ => g1, fun _ => ?_⟩
    have hz : ∀ x, x ∈ stl n → w x = 0 := fun x hx => by
      obtain ⟨a, ha, ea⟩ := h x hx
      have := g3 x hx
      rw [ea, ← lN_0, pk_lLT (by omega) (by omega)] at this
      rw [ea, show a = 0 by omega]; rfl
    have e0 : lsum w (stl n) = 0 := by
      rw [lsum_congr (g := fun _ => 0) hz]
      generalize stl n = L
      unfold lsum
      induction L with
      | nil => rfl
      | cons y L ih => rw [List.foldl_cons, Int64.add_zero]; exact ih
    rw [h2, ← lN_0, pk_lEQ hr (by omega)] at e0
    exact e0
  · refine ⟨fun hr0 => ?_, fun hn => by rw [g1] at hn; cases hn⟩
    obtain ⟨a, ha, ea⟩ := h3 x g3
    rw [ea, show a = 0 by omega] at g4
    exact absurd g4 (by decide)
def guR (w : Int32) (o : Option XT) : Int32 := match o with
  | none => -5
  | some x => if w = 0 then nI x.1 else if w = 1 then nI x.2.1 else tw x
def gueC (S : ST) (n m : Nat) (w : Int32) : Int32 := if fr w 0 2 then guR w (gxo (wX S m) (stl n)).2 else -2
