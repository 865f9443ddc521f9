/-- the first story of the most weight -/
def gxs (w : XT → Int64) (a : Int64 × Option XT) (x : XT) : Int64 × Option XT := if a.1 < w x then (w x, some x) else a
def gxo (w : XT → Int64) (L : List XT) : Int64 × Option XT := L.foldl (gxs w) (0, none)
def plo (o : Option XT) : Int32 := match o with
  | none => 0
  | some x => nI (plc x)
theorem gxo_app (w : XT → Int64) (L : List XT) (x : XT) : gxo w (L ++ [x]) = gxs w (gxo w L) x := by unfold gxo; rw [List.foldl_append]; rfl
theorem gxo_gfo (w : XT → Int64) (L : List XT) : gfo w L = ((gxo w L).1, plo (gxo w L).2) := by
  have key : ∀ (L : List XT) (a : Int64 × Option XT), L.foldl (gst w) (a.1, plo a.2) = ((L.foldl (gxs w) a).1, plo (L.foldl (gxs w) a).2) := by
    intro L
    induction L with
    | nil => intro a; rfl
    | cons y L ih =>
      intro a
      rw [List.foldl_cons, List.foldl_cons, ← ih]
      congr 1
      unfold gst gxs
      by_cases h : a.1 < w y
      · rw [if_pos h, if_pos h]; rfl
      · rw [if_neg h, if_neg h]
  exact key L (0, none)
theorem gxo_sp (w : XT → Int64) (L : List XT) : ((gxo w L).2 = none ∧ (gxo w L).1 = 0 ∧ ∀ x, x ∈ L → ¬ 0 < w x) ∨ ∃ x, (gxo w L).2 = some x ∧ (gxo w L).1 = w x ∧ x ∈ L ∧ 0 < w x := by
  have key : ∀ (L M : List XT) (a : Int64 × Option XT), ((a.2 = none ∧ a.1 = 0 ∧ ∀ x, x ∈ M → ¬ 0 < w x) ∨ ∃ x, a.2 = some x ∧ a.1 = w x ∧ x ∈ M ∧ 0 < w x) → (((L.foldl (gxs w) a).2 = none ∧ (L.foldl (gxs w) a).1 = 0 ∧ ∀ x, x ∈ M ++ L → ¬ 0 < w x) ∨ ∃ x, (L.foldl (gxs w) a).2 = some x ∧ (L.foldl (gxs w) a).1 = w x ∧ x ∈ M ++ L ∧ 0 < w x) := by
    intro L
    induction L with
    | nil => intro M a h; rw [List.append_nil]; exact h
    | cons y L ih =>
      intro M a h
      rw [List.foldl_cons, show M ++ y :: L = (M ++ [y]) ++ L by rw [List.append_assoc]; rfl]
      apply ih
      unfold gxs
      by_cases hy : a.1 < w y
      · rw [if_pos hy]
        right
        refine ⟨y, rfl, rfl, List.mem_append_right _ List.mem_cons_self, ?_⟩
        rcases h with ⟨-, h2, -⟩ | ⟨x, -, h2, -, h4⟩
        · rw [h2] at hy; exact hy
        · rw [h2] at hy
          rw [Int64.lt_iff_toInt_lt] at *
          omega
      · rw [if_neg hy]
        rcases h with ⟨h1, h2, h3⟩ | ⟨x, h1, h2, h3, h4⟩
        · left
          refine ⟨h1, h2, fun x hx => ?_⟩
          rcases List.mem_append.mp hx with hx | hx
          · exact h3 x hx
          · rw [List.mem_singleton.mp hx, ← h2]; exact hy
        · exact Or.inr ⟨x, h1, h2, List.mem_append_left _ h3, h4⟩
  have := key L [] (0, none) (Or.inl ⟨rfl, rfl, fun x hx => absurd hx List.not_mem_nil⟩)
  simpa [gxo] using this
theorem lsum_each {f : XT → Int64} {b : Nat} (L : List XT) (h : ∀ x, x ∈ L → ub b (f x)) : ∃ r, r ≤ L.length * b ∧ lsum f L = lN r ∧ ∀ x, x ∈ L → ub r (f x) := by
  have key : ∀ (L : List XT) (a : Nat), (∀ x, x ∈ L → ub b (f x)) → ∃ r, a ≤ r ∧ r ≤ a + L.length * b ∧ L.foldl (fun a x => a + f x) (lN a) = lN r ∧ ∀ x, x ∈ L → ub r (f x) := by
    intro L
    induction L with
    | nil => intro a _; exact ⟨a, Nat.le_refl _, by simp, rfl, fun x hx => absurd hx List.not_mem_nil⟩
    | cons y L ih =>
      intro a h
      obtain ⟨q, hq, eq⟩ := h y List.mem_cons_self
      obtain ⟨r, h1, h2, h3, h4⟩ := ih (a + q) (fun x hx => h x (List.mem_cons_of_mem _ hx))
      refine ⟨r, by omega, by rw [List.length_cons, Nat.succ_mul]; omega, ?_, fun x hx => ?_⟩
      · rw [List.foldl_cons, eq, lN_add]; exact h3
      · rcases List.mem_cons.mp hx with rfl | hx
        · exact ⟨q, by omega, eq⟩
        · exact h4 x hx
  obtain ⟨r, -, h2, h3, h4⟩ := key L 0 h
  exact ⟨r, by omega, h3, h4⟩
theorem ub_nn {b : Nat} {x : Int64} (h : ub b x) (hb : b < 2 ^ 63) : ¬ x < 0 := by
  obtain ⟨a, ha, rfl⟩ := h
  rw [← lN_0, pk_lLT (by omega) (by omega)]
  omega
/-- all weights are 0 just if there is no guess -/
theorem all_0 {w : XT → Int64} {n : Nat} (h12 : n ≤ 12) (h : ∀ x, x ∈ stl n → ub 729000000000000 (w x)) : lsum w (stl n) = 0 ↔ (gxo w (stl n)).2 = none := by
  obtain ⟨r, h1, h2, h3⟩ := lsum_each (stl n) h
  have hl := Nat.mul_le_mul_right 729000000000000 (stl_len n (by omega))
  have hr : r < 2 ^ 63 := by omega
  rw [h2, ← lN_0, pk_lEQ hr (by omega)]
  rcases gxo_sp w (stl n) with ⟨g1, g2, g3⟩ | ⟨x, g1, g2, g3, g4⟩
  · refine ⟨fun _ => g1, fun _ => ?_⟩
    have hz : ∀ x, x ∈ stl n → w x = 0 := fun x hx => by
      obtain ⟨a, ha, ea⟩ := h x hx
      have := g3 x hx
      rw [ea, ← lN_0, pk_lLT (by omega) (by omega)] at this
      rw [ea, show a = 0 by omega]; rfl
    have e0 : lsum w (stl n) = 0 := by
      rw [lsum_congr (g := fun _ => 0) hz]
      generalize stl n = L
      unfold lsum
      induction L with
      | nil => rfl
      | cons y L ih => rw [List.foldl_cons, Int64.add_zero]; exact ih
    rw [h2, ← lN_0, pk_lEQ hr (by omega)] at e0
    exact e0
  · refine ⟨fun hr0 => ?_, fun hn => by rw [g1] at hn; cases hn⟩
    obtain ⟨a, ha, ea⟩ := h3 x g3
    rw [ea, show a = 0 by omega] at g4
    exact absurd g4 (by decide)
def guR (w : Int32) (o : Option XT) : Int32 := match o with
  | none => -5
  | some x => if w = 0 then nI x.1 else if w = 1 then nI x.2.1 else tw x
def gueC (S : ST) (n m : Nat) (w : Int32) : Int32 := if fr w 0 2 then guR w (gxo (wX S m) (stl n)).2 else -2
theorem c_X7_guess {G : GX} {d : Nat} {S : ST} {w : Int32} {n m : Nat} {Q : Int32 → ST → Prop} (hn : S.1 0 = nI n) (h12 : n ≤ 12) (hD : DT S m) (hR : RG (S.2.2.1 17) (S.2.2.1 11) n) (hq : ∀ S2, FrS S S2 → Q (gueC S n m w) S2) : Cn G (d + 5) mX7_guess [.ref (G.2.1 0), .int w] S (qi Q) := by
  refine Cn.intro (lv := [(0, .ref (G.2.1 0)), (1, .int w)]) (by decide) (Nat.le_of_ble_eq_true rfl) rfl ?_
  refine V_iload_n dX7_guess_0 rfl 1 rfl ?_
  refine V_iconst (v := 0) dX7_guess_1 ki_0 ?_
  refine V_iconst (v := 2) dX7_guess_2 ki_2 ?_
  refine V_cSi (P := pM G (d + 5) mX7_guess _) (d := d + 4) (r := []) (As := [.int w, .int 0, .int 2]) (K := mX7_isFrom) ok_X7_isFrom tw_240 rfl (rmOk (Nat.le_of_ble_eq_true rfl)) (Nat.le_of_ble_eq_true rfl) dX7_guess_3 rfl (c_X7_isFrom ?_)
  refine V_ifb_ne 12 dX7_guess_6 (by decide) (fun h1 => ?_) (fun h1 => ?_)
  · refine V_aload_n dX7_guess_12 rfl 0 rfl ?_
    refine g_0_2 tw_205 dX7_guess_13 ?_
    refine V_cVv (P := pM G (d + 5) mX7_guess _) (d := d + 4) 3 (r := []) (As := []) (K := mX4_weigh) ok_X4_weigh tw_333 (ob_3 _) rfl (rmOk (Nat.le_of_ble_eq_true rfl)) (Nat.le_of_ble_eq_true rfl) dX7_guess_16 rfl (c_X4_weigh hn hD h12 (fun S2 hC2 => ?_))
    refine V_aload_n dX7_guess_19 rfl 0 rfl ?_
    refine g_0_2 tw_205 dX7_guess_20 ?_
    refine g_3_7 tw_100 dX7_guess_23 ?_
    refine V_topl (v := lsum (wX S m) (stl n)) (id hC2.2.2.2.1) ?_
    refine V_lconst (v := 0) dX7_guess_26 rfl ?_
    refine V_lcmp dX7_guess_27 ?_
    refine V_if_ne 34 dX7_guess_28 (by decide) (fun h2 => ?_) (fun h2 => ?_)
    · obtain ⟨x, g1, g2, g3, g4⟩ := (gxo_sp (wX S m) (stl n)).resolve_left (fun z => h2 (lg0.mpr ((all_0 h12 (wX_ub hR hD.2.1)).mpr z.1)))
      obtain ⟨y1, y2, y3⟩ := stl_ok x g3
      refine V_aload_n dX7_guess_34 rfl 0 rfl ?_
      refine g_0_2 tw_205 dX7_guess_35 ?_
      refine g_3_8 tw_102 dX7_guess_38 ?_
      refine V_topi (v := nI (plc x)) ((by rw [hC2.2.2.2.2.2, gxo_gfo, g1]; rfl)) ?_
      refine V_istore_n [(2, .int (nI (plc x))), (0, .ref (G.2.1 0)), (1, .int w)] dX7_guess_41 rfl (Nat.le_of_ble_eq_true rfl) rfl ?_
      refine V_iload_n dX7_guess_42 rfl 0 rfl ?_
      refine V_cSi (P := pM G (d + 5) mX7_guess _) (d := d + 4) (r := []) (As := [.int (nI (plc x))]) (K := mX7_sortAt) ok_X7_sortAt tw_388 rfl (rmOk (Nat.le_of_ble_eq_true rfl)) (Nat.le_of_ble_eq_true rfl) dX7_guess_43 rfl (c_X7_sortAt (plc_b y1 (by omega) (by omega)) ?_)
      refine V_topi (v := nI (x.1)) (by rw [plc_s (by omega) (by omega)]) ?_
      refine V_istore_n [(3, .int (nI (x.1))), (2, .int (nI (plc x))), (0, .ref (G.2.1 0)), (1, .int w)] dX7_guess_46 rfl (Nat.le_of_ble_eq_true rfl) rfl ?_
      refine V_iload_n dX7_guess_47 rfl 3 rfl ?_
      by_cases h3 : w = 0
      · refine V_lsw 76 (off := 28) dX7_guess_48 (by decide +kernel) (by rw [h3]; decide +kernel) (by decide) ?_
        refine V_iload_n dX7_guess_76 rfl 0 rfl ?_
        refine V_iret rfl dX7_guess_77 ⟨_, rfl, ?_⟩
        exact qcast (hq S2 hC2.1) (by rw [gueC, if_pos h1, g1, guR]; simp [h3])
      by_cases h4 : w = 1
      · refine V_lsw 78 (off := 30) dX7_guess_48 (by decide +kernel) (by rw [h4]; decide +kernel) (by decide) ?_
        refine V_iload_n dX7_guess_78 rfl 1 rfl ?_
        refine V_cSi (P := pM G (d + 5) mX7_guess _) (d := d + 4) (r := []) (As := [.int (nI (plc x))]) (K := mX7_firstAt) ok_X7_firstAt tw_389 rfl (rmOk (Nat.le_of_ble_eq_true rfl)) (Nat.le_of_ble_eq_true rfl) dX7_guess_79 rfl (c_X7_firstAt (plc_b y1 (by omega) (by omega)) ?_)
        refine V_topi (v := nI (x.2.1)) (by rw [plc_c (by omega) (by omega)]) ?_
        refine V_iret rfl dX7_guess_82 ⟨_, rfl, ?_⟩
        exact qcast (hq S2 hC2.1) (by rw [gueC, if_pos h1, g1, guR]; simp [h3, h4])
      refine V_lsw 83 (off := 35) dX7_guess_48 (by decide) (by show Op.lookupswitch.offset [(0, 28), (1, 30)] _ _ = _; rw [lv_osw (k := 0) (a := 0) h3 rfl, lv_osw (k := 1) (a := 1) h4 rfl]; rfl) (by decide) ?_
      refine V_iload_n dX7_guess_83 rfl 0 rfl ?_
      refine V_if_nen 92 (a := (x.1)) dX7_guess_84 (by decide) (by omega) (fun h5 => ?_) (fun h5 => ?_)
      · refine V_iload_n dX7_guess_92 rfl 1 rfl ?_
        refine V_cSi (P := pM G (d + 5) mX7_guess _) (d := d + 4) (r := []) (As := [.int (nI (plc x))]) (K := mX7_secondAt) ok_X7_secondAt tw_390 rfl (rmOk (Nat.le_of_ble_eq_true rfl)) (Nat.le_of_ble_eq_true rfl) dX7_guess_93 rfl (c_X7_secondAt (plc_b y1 (by omega) (by omega)) ?_)
        refine V_topi (v := nI (x.2.2)) (by rw [plc_e (by omega)]) ?_
        refine V_iret rfl dX7_guess_96 ⟨_, rfl, ?_⟩
        exact qcast (hq S2 hC2.1) (by rw [gueC, if_pos h1, g1, guR]; simp [tw, h3, h4, h5, Nat.ne_of_gt h5])
      · refine V_bipush (v := -6) dX7_guess_87 kb_m6 ?_
        refine V_goto 96 dX7_guess_89 (by decide) ?_
        refine V_iret rfl dX7_guess_96 ⟨_, rfl, ?_⟩
        exact qcast (hq S2 hC2.1) (by rw [gueC, if_pos h1, g1, guR]; simp [tw, h3, h4, h5])
    · refine V_bipush (v := -5) dX7_guess_31 kb_m5 ?_
      refine V_iret rfl dX7_guess_33 ⟨_, rfl, ?_⟩
      exact qcast (hq S2 hC2.1) (by rw [gueC, if_pos h1, (all_0 h12 (wX_ub hR hD.2.1)).mp (lg0.mp (by simpa using h2))]; rfl)
  · refine V_bipush (v := -2) dX7_guess_9 kb_m2 ?_
    refine V_iret rfl dX7_guess_11 ⟨_, rfl, ?_⟩
    exact qcast (hq S (FrS.rf S)) (by simp [gueC, h1])
def gib (w : XT → Int64) (L : List XT) (q : Int32) : Bool := decide (lsum w L = 0) || decide (10 * (gxo w L).1 < q.toInt64 * lsum w L)
theorem c_X4_guessIsBelow {G : GX} {d : Nat} {S : ST} {q : Int32} {S0 : ST} {n m : Nat} {Q : Int32 → ST → Prop} (hC2 : CS S0 m (stl n) S) (hq : Q (b2i (gib (wX S0 m) (stl n) q)) S) : Cn G d mX4_guessIsBelow [.ref (G.2.1 3), .int q] S (qi Q) := by
  refine Cn.intro (lv := [(0, .ref (G.2.1 3)), (1, .int q)]) (by decide) (Nat.le_of_ble_eq_true rfl) rfl ?_
  refine V_aload_n dX4_guessIsBelow_0 rfl 0 rfl ?_
  refine g_3_7 tw_99 dX4_guessIsBelow_1 ?_
  refine V_topl (v := lsum (wX S0 m) (stl n)) (id hC2.2.2.2.1) ?_
  refine V_lconst (v := 0) dX4_guessIsBelow_4 rfl ?_
  refine V_lcmp dX4_guessIsBelow_5 ?_
  refine V_if_eq 28 dX4_guessIsBelow_6 (by decide) (fun h1 => ?_) (fun h1 => ?_)
  · refine V_iconst (v := 1) dX4_guessIsBelow_28 ki_1 ?_
    refine V_goto 33 dX4_guessIsBelow_29 (by decide) ?_
    refine V_zret rfl dX4_guessIsBelow_33 rfl ⟨_, rfl, ?_⟩
    exact qcast hq (by rw [gib, decide_eq_true (lg0.mp h1), Bool.true_or]; rfl)
  · refine V_ldc2 dX4_guessIsBelow_9 tw_564 ?_
    refine V_aload_n dX4_guessIsBelow_12 rfl 0 rfl ?_
    refine g_3_9 tw_103 dX4_guessIsBelow_13 ?_
    refine V_topl (v := (gxo (wX S0 m) (stl n)).1) ((by rw [hC2.2.2.2.2.1, gxo_gfo])) ?_
    refine V_lmul dX4_guessIsBelow_16 ?_
    refine V_iload_n dX4_guessIsBelow_17 rfl 1 rfl ?_
    refine V_i2l dX4_guessIsBelow_18 ?_
    refine V_aload_n dX4_guessIsBelow_19 rfl 0 rfl ?_
    refine g_3_7 tw_99 dX4_guessIsBelow_20 ?_
    refine V_topl (v := lsum (wX S0 m) (stl n)) (id hC2.2.2.2.1) ?_
    refine V_lmul dX4_guessIsBelow_23 ?_
    refine V_lcmp dX4_guessIsBelow_24 ?_
    refine V_if_ge 32 dX4_guessIsBelow_25 (by decide) (fun h2 => ?_) (fun h2 => ?_)
    · refine V_iconst (v := 0) dX4_guessIsBelow_32 ki_0 ?_
      refine V_zret rfl dX4_guessIsBelow_33 rfl ⟨_, rfl, ?_⟩
      exact qcast hq (by rw [gib, decide_eq_false (fun z => h1 (lg0.mpr z)), Bool.false_or, decide_eq_false (Int64.not_lt.mpr (lg_ge.mp h2))]; rfl)
    · refine V_iconst (v := 1) dX4_guessIsBelow_28 ki_1 ?_
      refine V_goto 33 dX4_guessIsBelow_29 (by decide) ?_
      refine V_zret rfl dX4_guessIsBelow_33 rfl ⟨_, rfl, ?_⟩
      exact qcast hq (by rw [gib, decide_eq_false (fun z => h1 (lg0.mpr z)), Bool.false_or, decide_eq_true (Int64.not_le.mp (fun z => h2 (lg_ge.mpr z)))]; rfl)
