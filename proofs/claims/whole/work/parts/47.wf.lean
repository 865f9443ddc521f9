theorem nI_ne6 {i : Nat} (hi : i < 2 ^ 31) (h : nI i = -6) : False := by
  have z := congrArg Int32.toNatClampNeg h
  rw [nI_clamp hi] at z
  have z2 : i = 0 := z
  subst z2
  exact absurd h (by decide)
theorem flt_wf {sg : Nat → Int32} {y : Nat} (hy : y ≤ 40) : ∀ (k : Nat) (A : List Nat), k ≤ y → flt sg y k A = -6 → tpn sg y k = A.length ∧ ∀ m, m < k → (fr (sg (y - 1 - m)) 97 108 = true ∨ (sg (y - 1 - m) = 33 ∧ 1 ≤ tpn sg y m) ∨ ((sg (y - 1 - m) = 38 ∨ sg (y - 1 - m) = 124) ∧ 2 ≤ tpn sg y m))
  | 0, A, _, h => by
    by_cases hA : A.length = 0
    · exact ⟨by rw [hA]; rfl, fun m hm => absurd hm (Nat.not_lt_zero _)⟩
    · rw [flt_0n hA] at h; exact (nI_ne6 (by omega) h).elim
  | k + 1, [], hk, h => by rw [flt_e] at h; exact (nI_ne6 (by omega) h).elim
  | k + 1, dp :: R, hk, h => by
    by_cases hx : txO (sg (y - (k + 1))) = -1 ∨ (0 < txO (sg (y - (k + 1))) ∧ 9 ≤ dp)
    · rw [flt_x hx] at h; exact (nI_ne6 (by omega) h).elim
    · rw [flt_s hx] at h
      obtain ⟨h1, h2⟩ := flt_wf hy k _ (by omega) h
      have ei : y - (k + 1) = y - 1 - k := by omega
      rw [ei] at hx h1
      rw [List.length_append, List.length_replicate] at h1
      have key : tpn sg y (k + 1) = R.length + 1 ∧ (fr (sg (y - 1 - k)) 97 108 = true ∨ (sg (y - 1 - k) = 33 ∧ 1 ≤ tpn sg y k) ∨ ((sg (y - 1 - k) = 38 ∨ sg (y - 1 - k) = 124) ∧ 2 ≤ tpn sg y k)) := by
        rw [tpn_s]
        by_cases a1 : fr (sg (y - 1 - k)) 97 108 = true
        · have t1 : txO (sg (y - 1 - k)) = 0 := by unfold txO; rw [if_pos a1]
          rw [t1] at h1
          have h3 : tpn sg y k = 0 + R.length := h1
          exact ⟨by rw [tps, if_pos a1]; omega, Or.inl a1⟩
        · by_cases a2 : sg (y - 1 - k) = 33
          · have t1 : txO (sg (y - 1 - k)) = 1 := by rw [a2]; rfl
            rw [t1] at h1
            have h3 : tpn sg y k = 1 + R.length := h1
            exact ⟨by rw [a2]; show tpn sg y k = _; omega, Or.inr (Or.inl ⟨a2, by omega⟩)⟩
          · by_cases a3 : sg (y - 1 - k) = 38 ∨ sg (y - 1 - k) = 124
            · have t1 : txO (sg (y - 1 - k)) = 2 := by rcases a3 with a3 | a3 <;> (rw [a3]; rfl)
              rw [t1] at h1
              have h3 : tpn sg y k = 2 + R.length := h1
              exact ⟨by rcases a3 with a3 | a3 <;> (rw [a3]; show tpn sg y k - 1 = _; omega), Or.inr (Or.inr ⟨a3, by omega⟩)⟩
            · exact absurd (Or.inl (by unfold txO; rw [if_neg a1, if_neg a2, if_neg a3])) hx
      refine ⟨key.1, fun m hm => ?_⟩
      rcases (show m < k ∨ m = k by omega) with z | z
      · exact h2 m z
      · rw [z]; exact key.2
theorem flt_WF {sg : Nat → Int32} {y : Nat} (hy : y ≤ 40) (h : flt sg y y [0] = -6) : WF sg y := ⟨hy, flt_wf hy y [0] (Nat.le_refl y) h⟩
