theorem told_d {n t g y : Nat} {S : ST} (h : IV n t g y S) : decide ((1 : Int32) ≤ S.1 9) = decide (0 < y) := by
  congr 1
  apply propext
  have := h.y40
  rw [h.y0]
  exact nI_leI (a := 1) (by decide) (by omega)
theorem snd_e {n t g y : Nat} {S : ST} (h : IV n t g y S) (s : Int32) : snd (S.2.2.1 33) s n = snd (S.2.2.1 13) s n := snd_cong (fun k hk => (h.a k hk).2.2.2.2.2.2.2.1)
theorem fal_eq {n t g y : Nat} {S : ST} (h : IV n t g y S) (v q : Int32) : falR v q (decide ((1 : Int32) ≤ S.1 9)) (bl (sSe (S.2.2.1 13) (v.toNatClampNeg / 64) n) (v.toNatClampNeg % 64)) (bl (S.2.2.2 25 (v.toNatClampNeg / 64)) (v.toNatClampNeg % 64)) = falR v q (decide (0 < y)) (snd (S.2.2.1 33) v n) (tv (S.2.2.1 39) y v.toNatClampNeg) := by
  rw [told_d h]
  by_cases h1 : fr v 0 4095 = true
  · obtain ⟨s, -, hs, rfl⟩ := fr_ex (a := 0) (b := 4095) rfl rfl h1 (by decide)
    rw [nI_clamp (by omega), bl_sSe (by omega) (by omega) h.n12 h.NE, show 64 * (s / 64) + s % 64 = s by omega, snd_e h]
    by_cases hy : 0 < y
    · rw [(h.y hy).2 s (by omega)]
    · unfold falR
      rw [decide_eq_false hy]
      split
      · split
        · rfl
        · rw [if_neg Bool.false_ne_true, if_neg Bool.false_ne_true]
      · rfl
  · have h2 : fr v 0 4095 = false := by cases hf : fr v 0 4095 with
      | false => rfl
      | true => exact absurd hf h1
    rw [falR_2 (Or.inl h2), falR_2 (Or.inl h2)]
theorem hv_e {n t g y : Nat} {S : ST} (h : IV n t g y S) {v : Int32} (hk : kn n v = true) : ∃ z, z < 2 ^ n ∧ hv (S.2.2.1 9) v = z ∧ hv (S.2.2.1 30) v = z := by
  have h12 := h.n12
  obtain ⟨j, hj, rfl⟩ := kn_ex hk (by omega)
  obtain ⟨z, hz, e⟩ := (h.a j hj).1
  have h2 := p2_le h12
  exact ⟨z, hz, hv_j (by omega) (by omega) e, hv_j (by omega) (by omega) (by rw [(h.a j hj).2.1]; exact e)⟩
theorem lss_e {n t g y : Nat} {S : ST} (h : IV n t g y S) (a b : Nat) : lss (S.2.2.1 31) n a b = lss (S.2.2.1 11) n a b := by
  unfold lss
  rw [szs_cong (f := S.2.2.1 31) (g := S.2.2.1 11) (fun k hk => (h.a k hk).2.2.2.1), szs_cong (f := S.2.2.1 31) (g := S.2.2.1 11) (fun k hk => (h.a k hk).2.2.2.1)]
theorem b_e {n t g y : Nat} {S : ST} (h : IV n t g y S) (hy : 0 < y) {z : Nat} (hz : z < 2 ^ n) : bC S n z = bM S n y z (2 ^ n) := by
  have h2 := p2_le h.n12
  unfold bC bM
  rw [bo_to (a := z + 1) (b := 2 ^ n) hz (fun s h1 h3 => by
    cases hs : sub s z with
    | false => rfl
    | true => have := sub_le (by omega) hs; omega)]
  refine bo_cong (fun s hs => ?_) (fun a b => (lss_e h a b).symm) _
  have hl : nd z s < 4096 := Nat.lt_of_le_of_lt (nd_le z s) (by omega)
  show okS S n (nd z s) = okM S n y z s
  unfold okS okM
  rw [snd_e h, (h.y hy).2 _ hl]
theorem out_eq {n t g y : Nat} {S : ST} (h : IV n t g y S) (v w : Int32) : outC S n v w = outM S n y v w := by
  unfold outC outM
  rw [told_d h]
  by_cases hk : kn n v = true
  · by_cases hf : fr w 0 1 = true
    · by_cases hy : 0 < y
      · rw [outR_a hk hf (decide_eq_true hy), outR_a hk hf (decide_eq_true hy)]
        obtain ⟨z, hz, e1, e2⟩ := hv_e h hk
        rw [e1, e2, b_e h hy hz]
        unfold outA
        split
        · rfl
        · split
          · rfl
          · exact (szs_cong (fun k hk => (h.a k hk).2.2.2.1)).symm
      · rw [outR_3 hk hf (decide_eq_false hy), outR_3 hk hf (decide_eq_false hy)]
    · have hf2 : fr w 0 1 = false := by cases hx : fr w 0 1 with
        | false => rfl
        | true => exact absurd hx hf
      rw [outR_2 hk hf2, outR_2 hk hf2]
  · have hk2 : kn n v = false := by cases hx : kn n v with
      | false => rfl
      | true => exact absurd hx hk
    rw [outR_1 hk2, outR_1 hk2]
theorem Hk_cg {o1 o2 : Nat → Bool} (h : ∀ s, s < 4096 → o1 s = o2 s) : ∀ (k t : Nat), t < 4096 → Hk o1 k t = Hk o2 k t
  | 0, t, ht => h t ht
  | k + 1, t, ht => by rw [Hk_s, Hk_s, Hk_cg h k t ht, Hk_cg h k (clr t k) (Nat.lt_of_le_of_lt (clr_le t k) ht)]
theorem pt_cg {o1 o2 : Nat → Bool} (h : ∀ s, s < 4096 → o1 s = o2 s) {t : Nat} (ht : t < 4096) : ∀ c, pt o1 t c = pt o2 t c
  | 0 => rfl
  | c + 1 => by rw [pt_s, pt_s, pt_cg h ht c, Hk_cg h 12 (clr t c) (Nat.lt_of_le_of_lt (clr_le t c) ht)]
theorem cor_cg {o1 o2 : Nat → Bool} (h : ∀ s, s < 4096 → o1 s = o2 s) {t : Nat} (ht : t < 4096) : cor o1 t = cor o2 t := by
  unfold cor
  rw [h t ht, pt_cg h ht]
theorem cn_to {F G : Nat → Bool} {a : Nat} (h1 : ∀ t, t < a → F t = G t) : ∀ {b : Nat}, a ≤ b → (∀ t, a ≤ t → t < b → F t = false) → cn F b = cn G a
  | 0, hab, _ => by rw [show a = 0 by omega]; rfl
  | b + 1, hab, h2 => by
    rcases (show a = b + 1 ∨ a ≤ b by omega) with z | z
    · rw [z]; rw [z] at h1; exact cn_cong h1
    · rw [cn_f (h2 b z (Nat.lt_succ_self b))]
      exact cn_to h1 z (fun t a1 a2 => h2 t a1 (by omega))
theorem fdI_cg {F G : Nat → Bool} {i : Int32} : ∀ {a : Nat}, (∀ t, t < a → F t = G t) → fdI F i a = fdI G i a
  | 0, _ => rfl
  | a + 1, h => by
    rw [fdI, fdI, fdI_cg (a := a) (fun t ht => h t (by omega)), h a (Nat.lt_succ_self a), cn_cong (f := F) (g := G) (fun t ht => h t (by omega))]
theorem fdI_to {F G : Nat → Bool} {i : Int32} {a : Nat} (h1 : ∀ t, t < a → F t = G t) : ∀ {b : Nat}, a ≤ b → (∀ t, a ≤ t → t < b → F t = false) → fdI F i b = fdI G i a
  | 0, hab, _ => by rw [show a = 0 by omega]; rfl
  | b + 1, hab, h2 => by
    rcases (show a = b + 1 ∨ a ≤ b by omega) with z | z
    · rw [z]; rw [z] at h1; exact fdI_cg h1
    · rw [fdI_f (h2 b z (Nat.lt_succ_self b))]
      exact fdI_to h1 z (fun t a1 a2 => h2 t a1 (by omega))
theorem ow_e {n t g y : Nat} {S : ST} (h : IV n t g y S) (hy : 0 < y) (z s : Nat) (hs : s < 4096) : owC S n z s = owM S n y z s := by
  unfold owC owM
  rw [snd_e h, (h.y hy).2 s hs]
  cases snd (S.2.2.1 13) (nI s) n <;> cases tv (S.2.2.1 39) y s <;> cases sub s z <;> rfl
theorem cor_eq {n t g y : Nat} {S : ST} (h : IV n t g y S) (v i : Int32) : corC S n v i = corM S n y v i := by
  unfold corC corM
  rw [told_d h]
  by_cases hk : kn n v = true
  · by_cases hy : 0 < y
    · obtain ⟨z, hz, e1, e2⟩ := hv_e h hk
      have h2 := p2_le h.n12
      have c1 : ∀ s, s < 2 ^ n → cor (owC S n z) s = cor (owM S n y z) s := fun s hs => cor_cg (fun s hs => ow_e h hy z s hs) (by omega)
      have c2 : ∀ s, 2 ^ n ≤ s → s < 4096 → cor (owC S n z) s = false := fun s h1 h3 => by
        have : sub s z = false := by
          cases hx : sub s z with
          | false => rfl
          | true => have := sub_le h3 hx; omega
        unfold cor owC
        rw [this]; simp
      rw [e1, e2]
      by_cases hi : i = -1
      · rw [corR_n hk (decide_eq_true hy) hi, corR_n hk (decide_eq_true hy) hi, cn_to c1 h2 c2]
      · rw [corR_a hk (decide_eq_true hy) hi, corR_a hk (decide_eq_true hy) hi, fdI_to c1 h2 c2]
    · rw [corR_3 hk (decide_eq_false hy), corR_3 hk (decide_eq_false hy)]
  · have hk2 : kn n v = false := by cases hx : kn n v with
      | false => rfl
      | true => exact absurd hx hk
    rw [corR_1 hk2, corR_1 hk2]
theorem PR_e {n t g y : Nat} {S : ST} (h : IV n t g y S) (bc : Bool) : PR bc (S.2.2.1 9) (S.2.2.1 14) (S.2.2.1 12) (S.2.2.1 11) n = PR bc (S.2.2.1 30) (S.2.2.1 34) (S.2.2.1 32) (S.2.2.1 31) n := by
  funext s
  unfold PR
  exact PR_cong (fun v hv => (h.a v hv).2.1.symm) (fun v hv => by rw [(h.a v hv).2.2.2.2.2.2.2.2.2]) (fun v hv => (h.a v hv).2.2.2.2.2.1.symm) (fun v hv => (h.a v hv).2.2.2.1.symm) _ _
/-! the first family -/
theorem ver_eq {n : Nat} (h12 : n ≤ 12) (a b sz : Int32) : verR n a b sz = verRm n a b sz := by
  unfold verR verRm
  rw [msm_mso]
  split
  · split
    · by_cases z : n = 12
      · rw [if_neg (by omega), if_pos z]
      · rw [if_pos (by omega), if_neg z]
    · rfl
  · rfl
theorem has_eq {n t g y : Nat} {S : ST} (h : IV n t g y S) (v : Int32) : (if kn n v then S.2.2.1 9 v.toNatClampNeg else -1) = (if kn n v then S.2.2.1 30 v.toNatClampNeg else -1) := by
  have h12 := h.n12
  by_cases hk : kn n v = true
  · rw [if_pos hk, if_pos hk]
    obtain ⟨j, hj, rfl⟩ := kn_ex hk (by omega)
    rw [nI_clamp (by omega), (h.a j hj).2.1]
  · rw [if_neg hk, if_neg hk]
theorem any_cg {f q : Nat → Int32} {v : Int32} : ∀ {t : Nat}, (∀ k, k < t → f k = q k) → anyEq f v t = anyEq q v t
  | 0, _ => rfl
  | t + 1, h => by rw [anyEq, anyEq, any_cg (t := t) (fun k hk => h k (by omega)), h t (Nat.lt_succ_self t)]
theorem z01_b (b : Bool) : z01 (b2i b) = b2i b := by cases b <;> rfl
theorem mb_w4 {v w x : Int32} (h : mb v w x = true) : w = 0 ∨ w = 1 ∨ w = 2 ∨ w = 3 := by
  unfold mb at h
  by_cases h0 : w = 0 ∨ w = 1
  · rcases h0 with z | z
    · exact Or.inl z
    · exact Or.inr (Or.inl z)
  · rw [if_neg h0] at h
    by_cases h2 : w = 2
    · exact Or.inr (Or.inr (Or.inl h2))
    · rw [if_neg h2] at h
      by_cases h3 : w = 3
      · exact Or.inr (Or.inr (Or.inr h3))
      · rw [if_neg h3] at h; cases h
theorem set_eq {n t g y : Nat} {S : ST} (h : IV n t g y S) (v w x : Int32) : setR S n t v w x = setRm S n t v w x := by
  have h12 := h.n12
  unfold setR setRm
  rw [any_cg (f := S.2.2.1 35) (q := S.2.2.1 15) (fun k hk => (h.t k hk).2.1)]
  by_cases hk : kn n v = true
  · rw [if_pos hk, if_pos hk]
    by_cases hm : mb v w x = true
    · rw [if_pos hm, if_pos hm]
      by_cases hs : w = 3 ∧ x = 1 ∧ anyEq (S.2.2.1 15) v t = true
      · rw [if_pos hs, if_pos hs]
      · rw [if_neg hs, if_neg hs]
        obtain ⟨j, hj, rfl⟩ := kn_ex hk (by omega)
        rw [nI_clamp (by omega)]
        unfold cw oldm
        have ha := h.a j hj
        rcases mb_w4 hm with z | z | z | z <;> subst z
        · rw [if_pos rfl, if_pos rfl, ha.2.2.2.1]
        · rw [if_neg (by decide), if_pos rfl, if_neg (by decide), if_pos rfl, ha.2.2.2.2.2.1]
        · rw [if_neg (by decide), if_neg (by decide), if_pos rfl, if_neg (by decide), if_neg (by decide), if_pos rfl, ha.2.2.2.2.2.2.2.1]
        · rw [if_neg (by decide), if_neg (by decide), if_neg (by decide), if_neg (by decide), if_neg (by decide), if_neg (by decide), ha.2.2.2.2.2.2.2.2.2]
          obtain ⟨b, e⟩ := ha.2.2.2.2.2.2.2.2.1
          rw [e, z01_b]
    · rw [if_neg hm, if_neg hm]
  · rw [if_neg hk, if_neg hk]
theorem tru_eq {n t g y : Nat} {S : ST} (h : IV n t g y S) (w x : Int32) : (if trB w x then S.2.2.1 17 w.toNatClampNeg else -2) = (if trB w x then S.2.2.1 37 w.toNatClampNeg else -2) := by
  by_cases hk : trB w x = true
  · rw [if_pos hk, if_pos hk]
    unfold trB at hk
    rw [Bool.and_eq_true] at hk
    obtain ⟨j, hj, rfl⟩ := fr04 hk.1
    rw [nI_clamp (by omega), h.r.1 j hj]
  · rw [if_neg hk, if_neg hk]
theorem ted_eq {n t g y : Nat} {S : ST} (h : IV n t g y S) (x w : Int32) : (if kn t x then (if fr w 0 1 then (if w = 0 then S.2.2.1 15 x.toNatClampNeg else z01 (S.2.2.1 16 x.toNatClampNeg)) else -2) else -1) = (if kn t x then (if w = 0 then S.2.2.1 35 x.toNatClampNeg else if w = 1 then z01 (S.2.2.1 36 x.toNatClampNeg) else -2) else -1) := by
  have h12 := h.t12
  by_cases hk : kn t x = true
  · rw [if_pos hk, if_pos hk]
    obtain ⟨j, hj, rfl⟩ := kn_ex hk (by omega)
    rw [nI_clamp (by omega), (h.t j hj).2.1, (h.t j hj).2.2.2]
    by_cases hf : fr w 0 1 = true
    · rw [if_pos hf]
      obtain ⟨i, -, hi, rfl⟩ := fr_ex (a := 0) (b := 1) rfl rfl hf (by decide)
      rcases (show i = 0 ∨ i = 1 by omega) with z | z <;> subst z
      · rw [if_pos (show nI 0 = 0 from rfl), if_pos (show nI 0 = 0 from rfl)]
      · rw [if_neg (show ¬ nI 1 = 0 by decide), if_neg (show ¬ nI 1 = 0 by decide), if_pos (show nI 1 = 1 from rfl)]
    · rw [if_neg hf]
      have h0 : ¬ w = 0 := fun z => hf (by rw [z]; decide)
      have h1 : ¬ w = 1 := fun z => hf (by rw [z]; decide)
      rw [if_neg h0, if_neg h1]
  · rw [if_neg hk, if_neg hk]
