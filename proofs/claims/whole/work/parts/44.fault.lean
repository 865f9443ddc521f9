/-- the texts that are still awaited, by depth, the next one first: where the first fault of a text lies (k: signs left) -/
def flt (sg : Nat → Int32) (y : Nat) : Nat → List Nat → Int32
  | 0, A => if A.length = 0 then -6 else nI y
  | k + 1, A => match A with
    | [] => nI (y - (k + 1))
    | dp :: R => if txO (sg (y - (k + 1))) = -1 ∨ (0 < txO (sg (y - (k + 1))) ∧ 9 ≤ dp) then nI (y - (k + 1)) else flt sg y k (List.replicate (txO (sg (y - (k + 1)))).toNatClampNeg (dp + 1) ++ R)
theorem flt_0 {sg : Nat → Int32} {y : Nat} : flt sg y 0 [] = -6 := rfl
theorem flt_0n {sg : Nat → Int32} {y : Nat} {A : List Nat} (h : ¬ A.length = 0) : flt sg y 0 A = nI y := by rw [flt, if_neg h]
theorem flt_e {sg : Nat → Int32} {y k : Nat} : flt sg y (k + 1) [] = nI (y - (k + 1)) := rfl
theorem flt_x {sg : Nat → Int32} {y k dp : Nat} {R : List Nat} (h : txO (sg (y - (k + 1))) = -1 ∨ (0 < txO (sg (y - (k + 1))) ∧ 9 ≤ dp)) : flt sg y (k + 1) (dp :: R) = nI (y - (k + 1)) := by rw [flt, if_pos h]
theorem flt_s {sg : Nat → Int32} {y k dp : Nat} {R : List Nat} (h : ¬ (txO (sg (y - (k + 1))) = -1 ∨ (0 < txO (sg (y - (k + 1))) ∧ 9 ≤ dp))) : flt sg y (k + 1) (dp :: R) = flt sg y k (List.replicate (txO (sg (y - (k + 1)))).toNatClampNeg (dp + 1) ++ R) := by rw [flt, if_neg h]
theorem txO_c (s : Int32) : txO s = -1 ∨ txO s = 0 ∨ txO s = 1 ∨ txO s = 2 := by
  unfold txO
  by_cases h1 : fr s 97 108 = true
  · rw [if_pos h1]; exact Or.inr (Or.inl rfl)
  · rw [if_neg h1]
    by_cases h2 : s = 33
    · rw [if_pos h2]; exact Or.inr (Or.inr (Or.inl rfl))
    · rw [if_neg h2]
      by_cases h3 : s = 38 ∨ s = 124
      · rw [if_pos h3]; exact Or.inr (Or.inr (Or.inr rfl))
      · rw [if_neg h3]; exact Or.inl rfl
/-- the class's pile of depths holds the list, its top the list's head -/
def PD (due : Nat → Int32) : List Nat → Prop
  | [] => True
  | dp :: R => due R.length = nI dp ∧ PD due R
theorem PD_upd {due : Nat → Int32} {v : Int32} {j : Nat} : ∀ {R : List Nat}, R.length ≤ j → PD due R → PD (upd due j v) R
  | [], _, _ => trivial
  | dp :: R, hj, h => by
    have hj2 : R.length + 1 ≤ j := hj
    refine ⟨?_, PD_upd (by omega) h.2⟩
    unfold upd
    rw [if_neg (by omega)]
    exact h.1
theorem PD_push {due : Nat → Int32} {R : List Nat} {dp : Nat} (h : PD due R) : PD (upd due R.length (nI dp)) (dp :: R) := by
  refine ⟨?_, PD_upd (Nat.le_refl _) h⟩
  unfold upd
  rw [if_pos rfl]
