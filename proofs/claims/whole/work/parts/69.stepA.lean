/-! what each changing call leaves -/
theorem nI_or (a b : Nat) : nI a ||| nI b = nI (a ||| b) := by
  apply b_ext
  intro i hi
  rw [b_or, bt_eq hi, bt_eq hi, bt_eq hi, Nat.testBit_or]
theorem hbo_e {n t g y : Nat} {S : ST} (h : IV n t g y S) (a : Int32) : hbo n (S.2.2.1 30) a = hbo n (S.2.2.1 9) a ∧ ∃ z, z < 2 ^ n ∧ hbo n (S.2.2.1 9) a = nI z := by
  have h12 := h.n12
  unfold hbo
  by_cases hk : kn n a = true
  · rw [if_pos hk, if_pos hk]
    obtain ⟨j, hj, rfl⟩ := kn_ex hk (by omega)
    rw [nI_clamp (by omega)]
    exact ⟨(h.a j hj).2.1, (h.a j hj).1⟩
  · rw [if_neg hk, if_neg hk]
    exact ⟨rfl, 0, Nat.two_pow_pos n, rfl⟩
theorem nh_e {n t g y : Nat} {S : ST} (h : IV n t g y S) (hn : n < 12) (a b : Int32) : nhm n (S.2.2.1 30) a b = nh n (S.2.2.1 9) a b ∧ ∃ z, z < 2 ^ (n + 1) ∧ nh n (S.2.2.1 9) a b = nI z ∧ z.testBit n = true := by
  obtain ⟨ea, za, ha, ea2⟩ := hbo_e h a
  obtain ⟨eb, zb, hb, eb2⟩ := hbo_e h b
  unfold nhm nh
  rw [ea, eb, ea2, eb2, sh1n n (by omega), nI_or, nI_or, nI_or, nI_or]
  refine ⟨?_, za ||| zb ||| 2 ^ n, ?_, rfl, ?_⟩
  · congr 1
    apply Nat.eq_of_testBit_eq
    intro i
    simp only [Nat.testBit_or]
    cases (2 ^ n).testBit i <;> cases za.testBit i <;> cases zb.testBit i <;> rfl
  · have l : 2 ^ n < 2 ^ (n + 1) := Nat.pow_lt_pow_right (by decide) (Nat.lt_succ_self n)
    exact Nat.or_lt_two_pow (Nat.or_lt_two_pow (by omega) (by omega)) l
  · rw [Nat.testBit_or, Nat.testBit_two_pow]; simp
theorem st_ver {n t g y : Nat} {S : ST} (h : IV n t g y S) (hn : n < 12) {a b sz : Int32} (hs : fr sz 1 9 = true) : IV (n + 1) t g y (addM (addS (setI (setI S 3 1) 5 1) n a b sz) n a b sz) := by
  obtain ⟨e30, z, hz, e9, hzn⟩ := nh_e h hn a b
  obtain ⟨q, hq1, hq2, rfl⟩ := fr_ex (a := 1) (b := 9) rfl rfl hs (by decide)
  have hb := h.b
  have rw9 : (addM (addS (setI (setI S 3 1) 5 1) n a b (nI q)) n a b (nI q)).2.2.1 9 = upd (S.2.2.1 9) n (nh n (S.2.2.1 9) a b) := rfl
  have rw10 : (addM (addS (setI (setI S 3 1) 5 1) n a b (nI q)) n a b (nI q)).2.2.1 10 = carf (nh n (S.2.2.1 9) a b) n (S.2.2.1 10) (n + 1) := rfl
  have rw11 : (addM (addS (setI (setI S 3 1) 5 1) n a b (nI q)) n a b (nI q)).2.2.1 11 = upd (S.2.2.1 11) n (nI q) := rfl
  have rw12 : (addM (addS (setI (setI S 3 1) 5 1) n a b (nI q)) n a b (nI q)).2.2.1 12 = upd (S.2.2.1 12) n 1 := rfl
  have rw13 : (addM (addS (setI (setI S 3 1) 5 1) n a b (nI q)) n a b (nI q)).2.2.1 13 = S.2.2.1 13 := rfl
  have rw14 : (addM (addS (setI (setI S 3 1) 5 1) n a b (nI q)) n a b (nI q)).2.2.1 14 = S.2.2.1 14 := rfl
  have rw30 : (addM (addS (setI (setI S 3 1) 5 1) n a b (nI q)) n a b (nI q)).2.2.1 30 = upd (S.2.2.1 30) n (nhm n (S.2.2.1 30) a b) := rfl
  have rw31 : (addM (addS (setI (setI S 3 1) 5 1) n a b (nI q)) n a b (nI q)).2.2.1 31 = upd (S.2.2.1 31) n (nI q) := rfl
  have rw32 : (addM (addS (setI (setI S 3 1) 5 1) n a b (nI q)) n a b (nI q)).2.2.1 32 = upd (S.2.2.1 32) n 1 := rfl
  have rw33 : (addM (addS (setI (setI S 3 1) 5 1) n a b (nI q)) n a b (nI q)).2.2.1 33 = upd (S.2.2.1 33) n 0 := rfl
  have rw34 : (addM (addS (setI (setI S 3 1) 5 1) n a b (nI q)) n a b (nI q)).2.2.1 34 = upd (S.2.2.1 34) n 0 := rfl
  refine ⟨⟨rfl, rfl, by omega, h.t0, h.t1, h.t12, h.g0, h.g1, h.g40, h.y0, h.y1, h.y40⟩, ?_, ?_, ?_, ?_, h.r, h.s, h.y, ⟨fun z => absurd z (by show ¬ (1 : Int32) = 0; decide), fun z => absurd z (by show ¬ (1 : Int32) = 0; decide), fun z => absurd rfl z⟩⟩
  · intro v hv
    unfold VR
    rw [rw9, rw11, rw12, rw13, rw14, rw30, rw31, rw32, rw33, rw34]
    by_cases hvn : v = n
    · subst hvn
      rw [pk_us, pk_us, pk_us, pk_us, pk_us, pk_us, pk_us, pk_us, (hb v (Nat.le_refl _) hn).1, (hb v (Nat.le_refl _) hn).2.1, e30]
      exact ⟨⟨z, hz, e9⟩, rfl, ⟨q, hq1, hq2, rfl⟩, rfl, ⟨1, by decide, by decide, rfl⟩, rfl, ⟨0, by decide, rfl⟩, rfl, ⟨false, rfl⟩, rfl⟩
    · rw [pk_un hvn, pk_un hvn, pk_un hvn, pk_un hvn, pk_un hvn, pk_un hvn, pk_un hvn, pk_un hvn]
      obtain ⟨⟨z2, hz2, e⟩, r⟩ := h.a v (by omega)
      have l : 2 ^ n < 2 ^ (n + 1) := Nat.pow_lt_pow_right (by decide) (Nat.lt_succ_self n)
      exact ⟨⟨z2, by omega, e⟩, r⟩
  · intro v hv h2
    rw [rw10, rw13, rw14]
    refine ⟨(hb v (by omega) h2).1, (hb v (by omega) h2).2.1, ?_⟩
    unfold carf
    rw [if_neg (by omega)]
    exact (hb v (by omega) h2).2.2
  · intro c hc v hv
    rw [rw9, rw10]
    unfold carf
    have key : bt (if c < n + 1 ∧ bt (nh n (S.2.2.1 9) a b) c = true then S.2.2.1 10 c ||| 1 <<< (nI n &&& 31) else S.2.2.1 10 c) v = (bt (S.2.2.1 10 c) v || (bt (nh n (S.2.2.1 9) a b) c && decide (v = n))) := by
      cases hbx : bt (nh n (S.2.2.1 9) a b) c with
      | true => rw [if_pos ⟨hc, rfl⟩, b_or, b_sh1 (by omega) hv, Bool.true_and]
      | false => rw [if_neg (fun z => absurd z.2 Bool.false_ne_true), Bool.false_and, Bool.or_false]
    rw [key]
    rcases (show v < n ∨ v = n ∨ n < v by omega) with w | w | w
    · rw [decide_eq_true (show v < n + 1 by omega), pk_un (show v ≠ n by omega), decide_eq_false (show ¬ v = n by omega), Bool.and_false, Bool.or_false, Bool.true_and]
      by_cases hcn : c < n
      · rw [h.c c hcn v hv, decide_eq_true w, Bool.true_and]
      · have e : c = n := by omega
        subst e
        rw [(hb c (Nat.le_refl _) hn).2.2, b_0]
        obtain ⟨z2, hz2, e⟩ := (h.a v w).1
        rw [e, bt_eq (by omega), Nat.testBit_lt_two_pow hz2]
    · subst w
      rw [decide_eq_true (show v < v + 1 by omega), pk_us, decide_eq_true (rfl : v = v), Bool.and_true, Bool.true_and]
      by_cases hcn : c < v
      · rw [h.c c hcn v hv, decide_eq_false (Nat.lt_irrefl v), Bool.false_and, Bool.false_or]
      · have e : c = v := by omega
        subst e
        rw [(hb c (Nat.le_refl _) hn).2.2, b_0, Bool.false_or]
    · rw [decide_eq_false (show ¬ v < n + 1 by omega), decide_eq_false (show ¬ v = n by omega), Bool.and_false, Bool.or_false, Bool.false_and]
      by_cases hcn : c < n
      · rw [h.c c hcn v hv, decide_eq_false (show ¬ v < n by omega), Bool.false_and]
      · have e : c = n := by omega
        subst e
        rw [(hb c (Nat.le_refl _) hn).2.2, b_0]
  · intro k hk
    obtain ⟨⟨j, hj, e⟩, r⟩ := h.t k hk
    exact ⟨⟨j, by omega, e⟩, r⟩
theorem st_version {n t g y : Nat} {S : ST} (h : IV n t g y S) (a b sz : Int32) : ∃ n2, IV n2 t g y (verSm (verS S n a b sz) n a b sz) := by
  unfold verSm verS
  rw [msm_mso]
  by_cases h1 : mso n a b = true
  · rw [if_pos h1, if_pos h1]
    by_cases h2 : fr sz 1 9 = true
    · rw [if_pos h2, if_pos h2]
      by_cases h3 : n = 12
      · rw [if_pos h3, if_neg (by omega)]; exact ⟨n, h⟩
      · have := h.n12
        rw [if_neg h3, if_pos (show n < 12 by omega)]
        exact ⟨n + 1, st_ver h (by omega) h2⟩
    · rw [if_neg h2, if_neg h2]; exact ⟨n, h⟩
  · rw [if_neg h1, if_neg h1]; exact ⟨n, h⟩
/-- set: one row of each is changed at j -/
theorem VR_cg {n v : Nat} {S S2 : ST} (h : VR S n v) (e9 : S2.2.2.1 9 v = S.2.2.1 9 v) (e10 : S2.2.2.1 30 v = S.2.2.1 30 v) (e11 : S2.2.2.1 11 v = S.2.2.1 11 v) (e31 : S2.2.2.1 31 v = S.2.2.1 31 v) (e12 : S2.2.2.1 12 v = S.2.2.1 12 v) (e32 : S2.2.2.1 32 v = S.2.2.1 32 v) (e13 : S2.2.2.1 13 v = S.2.2.1 13 v) (e33 : S2.2.2.1 33 v = S.2.2.1 33 v) (e14 : S2.2.2.1 14 v = S.2.2.1 14 v) (e34 : S2.2.2.1 34 v = S.2.2.1 34 v) : VR S2 n v := by
  unfold VR at *
  rw [e9, e10, e11, e31, e12, e32, e13, e33, e14, e34]
  exact h
theorem st_set0 {n t g y j : Nat} {S : ST} (h : IV n t g y S) (hj : j < n) {x : Int32} (hx : fr x 1 9 = true) : IV n t g y (setI (setA (setA (setI (setI S 3 1) 5 1) 11 j x) 31 j x) 15 0) := by
  obtain ⟨q, hq1, hq2, rfl⟩ := fr_ex (a := 1) (b := 9) rfl rfl hx (by decide)
  refine ⟨h.k, fun v hv => ?_, h.b, h.c, h.t, h.r, h.s, h.y, ⟨fun z => absurd z (by show ¬ (1 : Int32) = 0; decide), fun z => absurd z (by show ¬ (1 : Int32) = 0; decide), fun z => absurd rfl z⟩⟩
  by_cases e : v = j
  · obtain ⟨a1, a2, a3, a4, r⟩ := h.a v hv
    refine ⟨a1, a2, ⟨q, hq1, hq2, ?_⟩, ?_, r⟩
    · show upd (S.2.2.1 11) j (nI q) v = _
      rw [e, pk_us]
    · show upd (S.2.2.1 31) j (nI q) v = upd (S.2.2.1 11) j (nI q) v
      rw [e, pk_us, pk_us]
  · exact VR_cg (h.a v hv) rfl rfl (pk_un e) (pk_un e) rfl rfl rfl rfl rfl rfl
theorem st_set1 {n t g y j : Nat} {S : ST} (h : IV n t g y S) (hj : j < n) {x : Int32} (hx : fr x 1 9 = true) : IV n t g y (setI (setA (setA (setI (setI S 3 1) 5 1) 12 j x) 32 j x) 15 0) := by
  obtain ⟨q, hq1, hq2, rfl⟩ := fr_ex (a := 1) (b := 9) rfl rfl hx (by decide)
  refine ⟨h.k, fun v hv => ?_, h.b, h.c, h.t, h.r, h.s, h.y, ⟨fun z => absurd z (by show ¬ (1 : Int32) = 0; decide), fun z => absurd z (by show ¬ (1 : Int32) = 0; decide), fun z => absurd rfl z⟩⟩
  by_cases e : v = j
  · obtain ⟨a1, a2, a3, a4, a5, a6, r⟩ := h.a v hv
    refine ⟨a1, a2, a3, a4, ⟨q, hq1, hq2, ?_⟩, ?_, r⟩
    · show upd (S.2.2.1 12) j (nI q) v = _
      rw [e, pk_us]
    · show upd (S.2.2.1 32) j (nI q) v = upd (S.2.2.1 12) j (nI q) v
      rw [e, pk_us, pk_us]
  · exact VR_cg (h.a v hv) rfl rfl rfl rfl (pk_un e) (pk_un e) rfl rfl rfl rfl
theorem st_set2 {n t g y j q : Nat} {S : ST} (h : IV n t g y S) (hj : j < n) (hq : q < 4096) : IV n t g y (setI (setA (setA (setI (setI S 3 1) 5 1) 13 j (nI q)) 33 j (nI q)) 15 0) := by
  refine ⟨h.k, fun v hv => ?_, fun v h1 h2 => ?_, h.c, h.t, h.r, h.s, h.y, ⟨fun z => absurd z (by show ¬ (1 : Int32) = 0; decide), fun z => absurd z (by show ¬ (1 : Int32) = 0; decide), fun z => absurd rfl z⟩⟩
  · by_cases e : v = j
    · obtain ⟨a1, a2, a3, a4, a5, a6, a7, a8, r⟩ := h.a v hv
      refine ⟨a1, a2, a3, a4, a5, a6, ⟨q, hq, ?_⟩, ?_, r⟩
      · show upd (S.2.2.1 13) j (nI q) v = _
        rw [e, pk_us]
      · show upd (S.2.2.1 33) j (nI q) v = upd (S.2.2.1 13) j (nI q) v
        rw [e, pk_us, pk_us]
    · exact VR_cg (h.a v hv) rfl rfl rfl rfl rfl rfl (pk_un e) (pk_un e) rfl rfl
  · refine ⟨?_, (h.b v h1 h2).2⟩
    show upd (S.2.2.1 13) j (nI q) v = 0
    rw [pk_un (by omega)]
    exact (h.b v h1 h2).1
theorem st_set3 {n t g y j : Nat} {S : ST} (h : IV n t g y S) (hj : j < n) (b : Bool) : IV n t g y (setI (setA (setA (setI (setI S 3 1) 5 1) 14 j (b2i b)) 34 j (b2i b)) 15 0) := by
  refine ⟨h.k, fun v hv => ?_, fun v h1 h2 => ?_, h.c, h.t, h.r, h.s, h.y, ⟨fun z => absurd z (by show ¬ (1 : Int32) = 0; decide), fun z => absurd z (by show ¬ (1 : Int32) = 0; decide), fun z => absurd rfl z⟩⟩
  · by_cases e : v = j
    · obtain ⟨a1, a2, a3, a4, a5, a6, a7, a8, a9, a10⟩ := h.a v hv
      refine ⟨a1, a2, a3, a4, a5, a6, a7, a8, ⟨b, ?_⟩, ?_⟩
      · show upd (S.2.2.1 14) j (b2i b) v = _
        rw [e, pk_us]
      · show upd (S.2.2.1 34) j (b2i b) v = upd (S.2.2.1 14) j (b2i b) v
        rw [e, pk_us, pk_us]
    · exact VR_cg (h.a v hv) rfl rfl rfl rfl rfl rfl rfl rfl (pk_un e) (pk_un e)
  · refine ⟨(h.b v h1 h2).1, ?_, (h.b v h1 h2).2.2⟩
    show upd (S.2.2.1 14) j (b2i b) v = 0
    rw [pk_un (by omega)]
    exact (h.b v h1 h2).2.1
theorem setS_15 (S : ST) (n t : Nat) (v w x : Int32) : (setS S n t v w x).2.2.1 35 = S.2.2.1 35 := by
  unfold setS
  split
  · split
    · split
      · rfl
      · unfold cw
        split
        · rfl
        · split
          · rfl
          · split
            · rfl
            · rfl
    · rfl
  · rfl
theorem st_set {n t g y : Nat} {S : ST} (h : IV n t g y S) (v w x : Int32) : IV n t g y (setSm (setS S n t v w x) n t v w x) := by
  have h12 := h.n12
  have e35 := setS_15 S n t v w x
  unfold setSm
  rw [e35, any_cg (f := S.2.2.1 35) (q := S.2.2.1 15) (fun k hk => (h.t k hk).2.1)]
  unfold setS
  by_cases hk : kn n v = true
  · rw [if_pos hk, if_pos hk]
    by_cases hm : mb v w x = true
    · rw [if_pos hm, if_pos hm]
      by_cases hs : w = 3 ∧ x = 1 ∧ anyEq (S.2.2.1 15) v t = true
      · rw [if_pos hs, if_pos hs]; exact h
      · rw [if_neg hs, if_neg hs]
        obtain ⟨j, hj, rfl⟩ := kn_ex hk (by omega)
        rw [nI_clamp (by omega)]
        have hm2 := hm
        unfold mb at hm2
        unfold cw newm
        rcases mb_w hm with z | z | z | z <;> subst z
        · rw [if_pos (Or.inl rfl)] at hm2
          rw [if_pos rfl, if_pos rfl]
          exact st_set0 h hj hm2
        · rw [if_pos (Or.inr rfl)] at hm2
          rw [if_neg (by decide), if_pos rfl, if_neg (by decide), if_pos rfl]
          exact st_set1 h hj hm2
        · rw [if_neg (by decide), if_pos rfl] at hm2
          rw [if_neg (by decide), if_neg (by decide), if_pos rfl, if_neg (by decide), if_neg (by decide), if_pos rfl]
          obtain ⟨q, hq, rfl⟩ := set_ex (n := j) (by omega) hm2
          exact st_set2 h hj (Nat.lt_of_lt_of_le hq (p2_le (by omega)))
        · rw [if_neg (by decide), if_neg (by decide), if_pos rfl] at hm2
          rw [if_neg (by decide), if_neg (by decide), if_neg (by decide), if_neg (by decide), if_neg (by decide), if_neg (by decide)]
          obtain ⟨q, -, hq, rfl⟩ := fr_ex (a := 0) (b := 1) rfl rfl hm2 (by decide)
          rcases (show q = 0 ∨ q = 1 by omega) with e | e <;> subst e
          · exact st_set3 h hj false
          · exact st_set3 h hj true
    · rw [if_neg hm, if_neg hm]; exact h
  · rw [if_neg hk, if_neg hk]; exact h
