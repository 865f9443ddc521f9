theorem sh1n : ∀ n, n ≤ 12 → (1 : Int32) <<< (nI n &&& 31) = nI (2 ^ n) := by
  intro n hn
  have : ∀ n, n < 13 → (1 : Int32) <<< (nI n &&& 31) = nI (2 ^ n) := by decide +kernel
  exact this n (by omega)
theorem p2_le {n : Nat} (h : n ≤ 12) : 2 ^ n ≤ 4096 := Nat.pow_le_pow_right (n := 2) (j := 12) (by decide) h
def outA (sz : Nat → Int32) (n : Nat) (w : Int32) (b : Option Nat) : Int32 := match b with
  | none => -5
  | some x => if w = 0 then nI x else szs sz (nI x) n
def outR (sz : Nat → Int32) (n : Nat) (v w : Int32) (told : Bool) (b : Option Nat) : Int32 := if kn n v = true then (if fr w 0 1 = true then (if told = true then outA sz n w b else -3) else -2) else -1
def hv (h : Nat → Int32) (v : Int32) : Nat := (h v.toNatClampNeg).toNatClampNeg
theorem hv_j {h : Nat → Int32} {j ch : Nat} (hj : j < 12) (hc : ch < 4096) (e : h j = nI ch) : hv h (nI j) = ch := by
  unfold hv
  rw [nI_clamp (show j < 2 ^ 31 by omega), e, nI_clamp (show ch < 2 ^ 31 by omega)]
def bC (S : ST) (n ch : Nat) : Option Nat := bo (fun o => okS S n (nd ch o)) (lss (S.2.2.1 11) n) ch (ch + 1)
def okM (S : ST) (n y ch t : Nat) : Bool := snd (S.2.2.1 33) (nI (nd ch t)) n && !tv (S.2.2.1 39) y (nd ch t)
def bM (S : ST) (n y ch t : Nat) : Option Nat := bo (okM S n y ch) (lss (S.2.2.1 31) n) ch t
def outC (S : ST) (n : Nat) (v w : Int32) : Int32 := outR (S.2.2.1 11) n v w (decide ((1 : Int32) ≤ S.1 9)) (bC S n (hv (S.2.2.1 9) v))
def outM (S : ST) (n y : Nat) (v w : Int32) : Int32 := outR (S.2.2.1 31) n v w (decide (0 < y)) (bM S n y (hv (S.2.2.1 30) v) (2 ^ n))
theorem outR_1 {sz : Nat → Int32} {n : Nat} {v w : Int32} {t : Bool} {b : Option Nat} (h : kn n v = false) : outR sz n v w t b = -1 := by unfold outR; rw [h]; rfl
theorem outR_2 {sz : Nat → Int32} {n : Nat} {v w : Int32} {t : Bool} {b : Option Nat} (h : kn n v = true) (h2 : fr w 0 1 = false) : outR sz n v w t b = -2 := by unfold outR; rw [h, h2]; rfl
theorem outR_3 {sz : Nat → Int32} {n : Nat} {v w : Int32} {t : Bool} {b : Option Nat} (h : kn n v = true) (h2 : fr w 0 1 = true) (h3 : t = false) : outR sz n v w t b = -3 := by unfold outR; rw [h, h2, h3]; rfl
theorem outR_a {sz : Nat → Int32} {n : Nat} {v w : Int32} {t : Bool} {b : Option Nat} (h : kn n v = true) (h2 : fr w 0 1 = true) (h3 : t = true) : outR sz n v w t b = outA sz n w b := by unfold outR; rw [h, h2, h3]; rfl
theorem c_X7_out {G : GX} {d : Nat} {S : ST} {v w : Int32} {n : Nat} {Q : Int32 → ST → Prop} (hn : S.1 0 = nI n) (h12 : n ≤ 12) (hN : NE (S.2.2.1 13) n) (hH : HS n S) (hq : ∀ S2, FrF S S2 → Q (outC S n v w) S2) : Cn G (d + 5) mX7_out [.ref (G.2.1 0), .int v, .int w] S (qi Q) := by
  refine Cn.intro (lv := [(0, .ref (G.2.1 0)), (1, .int v), (2, .int w)]) (by decide) (Nat.le_of_ble_eq_true rfl) rfl ?_
  refine V_aload_n dX7_out_0 rfl 0 rfl ?_
  refine g_0_0 tw_203 dX7_out_1 ?_
  refine V_iload_n dX7_out_4 rfl 1 rfl ?_
  refine V_cVi (P := pM G (d + 5) mX7_out _) (d := d + 4) 1 (r := []) (As := [.int v]) (K := mX1_knows) ok_X1_knows tw_258 (ob_1 _) rfl (rmOk (Nat.le_of_ble_eq_true rfl)) (Nat.le_of_ble_eq_true rfl) dX7_out_5 rfl (c_X1_knows hn ?_)
  refine V_ifb_ne 13 dX7_out_8 (by decide) (fun h1 => ?_) (fun h1 => ?_)
  · refine V_iload_n dX7_out_13 rfl 2 rfl ?_
    refine V_iconst (v := 0) dX7_out_14 ki_0 ?_
    refine V_iconst (v := 1) dX7_out_15 ki_1 ?_
    refine V_cSi (P := pM G (d + 5) mX7_out _) (d := d + 4) (r := []) (As := [.int w, .int 0, .int 1]) (K := mX7_isFrom) ok_X7_isFrom tw_240 rfl (rmOk (Nat.le_of_ble_eq_true rfl)) (Nat.le_of_ble_eq_true rfl) dX7_out_16 rfl (c_X7_isFrom ?_)
    refine V_ifb_ne 25 dX7_out_19 (by decide) (fun h2 => ?_) (fun h2 => ?_)
    · refine V_aload_n dX7_out_25 rfl 0 rfl ?_
      refine g_0_6 tw_209 dX7_out_26 ?_
      refine g_7_0 tw_172 dX7_out_29 ?_
      refine V_iconst (v := 1) dX7_out_32 ki_1 ?_
      refine V_icmp_ge 39 dX7_out_33 (by decide) (fun h3 => ?_) (fun h3 => ?_)
      · obtain ⟨j, hj, rfl⟩ := kn_ex h1 (by omega)
        obtain ⟨ch, hch, ech⟩ := hH.2 j hj
        refine V_aload_n dX7_out_39 rfl 0 rfl ?_
        refine g_0_7 tw_210 dX7_out_40 ?_
        refine V_aload_n dX7_out_43 rfl 0 rfl ?_
        refine g_0_0 tw_203 dX7_out_44 ?_
        refine g_1_1 tw_34 dX7_out_47 ?_
        refine V_iload_n dX7_out_50 rfl 1 rfl ?_
        refine l_9n (by omega) dX7_out_51 ?_
        refine V_topi (v := nI ch) (id ech) ?_
        refine V_cVi (P := pM G (d + 5) mX7_out _) (d := d + 4) 8 (r := []) (As := [.int (nI ch)]) (K := mX0_leastOut) ok_X0_leastOut tw_569 (ob_8 _) rfl (rmOk (Nat.le_of_ble_eq_true rfl)) (Nat.le_of_ble_eq_true rfl) dX7_out_52 rfl (c_X0_leastOut hn h12 hN hch (fun S2 hF => ?_))
        refine V_topi (v := e5 (bC S n ch)) rfl ?_
        have hn2 : S2.1 0 = nI n := by rw [hF.1]; exact hn
        refine V_istore_n [(3, .int (e5 (bC S n ch))), (0, .ref (G.2.1 0)), (1, .int (nI j)), (2, .int w)] dX7_out_55 rfl (Nat.le_of_ble_eq_true rfl) rfl ?_
        rcases hbo : bC S n ch with _ | x
        · refine V_lveq [(3, .int (-5)), (0, .ref (G.2.1 0)), (1, .int (nI j)), (2, .int w)] rfl ?_
          refine V_iload_n dX7_out_56 rfl 0 rfl ?_
          refine V_bipush (v := -5) dX7_out_57 kb_m5 ?_
          refine V_icmp_eq 66 dX7_out_59 (by decide) (fun _ => ?_) (fun hz => absurd hz (by decide))
          refine V_iload_n dX7_out_66 rfl 0 rfl ?_
          refine V_goto 78 dX7_out_67 (by decide) ?_
          exact V_iret rfl dX7_out_78 ⟨_, rfl, qcast (hq S2 hF) (by unfold outC; rw [outR_a h1 h2 (decide_eq_true h3), hv_j (by omega) hch ech, hbo]; rfl)⟩
        · have hx : x < ch + 1 := bo_b hbo
          refine V_lveq [(3, .int (nI x)), (0, .ref (G.2.1 0)), (1, .int (nI j)), (2, .int w)] rfl ?_
          refine V_iload_n dX7_out_56 rfl 0 rfl ?_
          refine V_bipush (v := -5) dX7_out_57 kb_m5 ?_
          refine V_icmp_eq 66 dX7_out_59 (by decide) (fun h4 => ?_) (fun h4 => ?_)
          · exact (nI_ne5 (by omega) h4).elim
          · refine V_iload_n dX7_out_62 rfl 3 rfl ?_
            refine V_if_ne 70 dX7_out_63 (by decide) (fun h5 => ?_) (fun h5 => ?_)
            · refine V_aload_n dX7_out_70 rfl 1 rfl ?_
              refine g_0_0 tw_203 dX7_out_71 ?_
              refine V_iload_n dX7_out_74 rfl 0 rfl ?_
              refine V_cVi (P := pM G (d + 5) mX7_out _) (d := d + 4) 1 (r := []) (As := [.int (nI x)]) (K := mX1_sizes) ok_X1_sizes tw_585 (ob_1 _) rfl (rmOk (Nat.le_of_ble_eq_true rfl)) (Nat.le_of_ble_eq_true rfl) dX7_out_75 rfl (c_X1_sizes hn2 h12 ?_)
              refine V_topi (v := szs (S.2.2.1 11) (nI x) n) (by rw [hF.2.2.1]) ?_
              exact V_iret rfl dX7_out_78 ⟨_, rfl, qcast (hq S2 hF) (by unfold outC; rw [outR_a h1 h2 (decide_eq_true h3), hv_j (by omega) hch ech, hbo]; exact (if_neg h5).symm)⟩
            · refine V_iload_n dX7_out_66 rfl 0 rfl ?_
              refine V_goto 78 dX7_out_67 (by decide) ?_
              exact V_iret rfl dX7_out_78 ⟨_, rfl, qcast (hq S2 hF) (by unfold outC; rw [outR_a h1 h2 (decide_eq_true h3), hv_j (by omega) hch ech, hbo]; exact (if_pos h5).symm)⟩
      · refine V_bipush (v := -3) dX7_out_36 kb_m3 ?_
        exact V_iret rfl dX7_out_38 ⟨_, rfl, qcast (hq S (FrF.rf S)) (by unfold outC; rw [outR_3 h1 h2 (decide_eq_false h3)])⟩
    · refine V_bipush (v := -2) dX7_out_22 kb_m2 ?_
      exact V_iret rfl dX7_out_24 ⟨_, rfl, qcast (hq S (FrF.rf S)) (by unfold outC; rw [outR_2 h1 h2])⟩
  · refine V_iconst (v := -1) dX7_out_11 ki_m1 ?_
    exact V_iret rfl dX7_out_12 ⟨_, rfl, qcast (hq S (FrF.rf S)) (by unfold outC; rw [outR_1 h1])⟩
theorem FrP.tr {A B C : ST} (h : FrP A B) (g : FrP B C) : FrP A C := ⟨g.1.trans h.1, g.2.1.trans h.2.1, fun c hc => (g.2.2.1 c hc).trans (h.2.2.1 c hc), g.2.2.2.trans h.2.2.2⟩
def e6 (b : Option Nat) : Int32 := match b with
  | none => -6
  | some x => nI x
theorem lsm_1 {sz : Nat → Int32} {n a b : Nat} (h : cnt (nI a) 12 < cnt (nI b) 12) : lss sz n a b = true := by unfold lss; rw [decide_eq_true h]; rfl
theorem lsm_2 {sz : Nat → Int32} {n a b : Nat} (h : ¬ cnt (nI a) 12 < cnt (nI b) 12) (h2 : ¬ cnt (nI a) 12 = cnt (nI b) 12) : lss sz n a b = false := by unfold lss; rw [decide_eq_false h, decide_eq_false h2]; rfl
theorem lsm_3 {sz : Nat → Int32} {n a b : Nat} (h : ¬ cnt (nI a) 12 < cnt (nI b) 12) (h3 : szs sz (nI b) n ≤ szs sz (nI a) n) : lss sz n a b = false := by unfold lss; rw [decide_eq_false h, decide_eq_false (Int32.not_lt.mpr h3), Bool.and_false]; rfl
theorem lsm_4 {sz : Nat → Int32} {n a b : Nat} (h2 : cnt (nI a) 12 = cnt (nI b) 12) (h3 : ¬ szs sz (nI b) n ≤ szs sz (nI a) n) : lss sz n a b = true := by unfold lss; rw [decide_eq_true h2, decide_eq_true (Int32.not_le.mp h3)]; simp
theorem sub_t {a b : Nat} (h : nd a b = 0) : sub a b = true := decide_eq_true h
theorem sub_f {a b : Nat} (h : 0 < nd a b) : sub a b = false := decide_eq_false (by omega)
theorem lp_mout {G : GX} {d n y j ch : Nat} {w : Int32} {S : ST} {Q : Int32 → ST → Prop} (hn : S.1 10 = nI n) (h12 : n ≤ 12) (hg : S.1 13 = nI y) (hW : WF (S.2.2.1 39) y) (hj : j < n) (hch : ch < 4096) (ech : S.2.2.1 30 j = nI ch) (hq : ∀ S2, FrP S S2 → Q (outA (S.2.2.1 31) n w (bM S n y ch (2 ^ n))) S2) : ∀ (k t : Nat) (S1 : ST), t ≤ 2 ^ n → 2 ^ n - t < k → FrP S S1 → V (pM G (d + 2) mX8_out (qi Q)) 36 [(4, .int (nI t)), (3, .int (e6 (bM S n y ch t))), (0, .ref (G.2.1 29)), (1, .int (nI j)), (2, .int w)] [] S1 := by
  intro k
  induction k with
  | zero => intro t S1 ht hk; exact absurd hk (Nat.not_lt_zero _)
  | succ k ih =>
    intro t S1 ht hk hF
    have h2n := p2_le h12
    have hn1 : S1.1 10 = nI n := by rw [hF.1]; exact hn
    have e30 : S1.2.2.1 30 j = nI ch := by rw [hF.2.2.1 30 (by decide)]; exact ech
    have hnd1 := nd_le t ch
    have hnd2 : nd ch t < 4096 := Nat.lt_of_le_of_lt (nd_le ch t) hch
    refine V_iload dX8_out_36 0 rfl ?_
    refine V_iconst (v := 1) dX8_out_38 ki_1 ?_
    refine V_aload_n dX8_out_39 rfl 2 rfl ?_
    refine g_29_0 tw_628 dX8_out_40 ?_
    refine V_topi (v := nI n) (id hn1) ?_
    refine V_ishl dX8_out_43 ?_
    refine V_topi (v := nI (2 ^ n)) (sh1n n h12) ?_
    refine V_icmp_gen 159 (a := t) (b := (2 ^ n)) dX8_out_44 (by decide) (by omega) (by omega) (fun h1 => ?_) (fun h1 => ?_)
    · rcases hbo : bM S n y ch t with _ | x
      · refine V_lveq [(4, .int (nI t)), (3, .int (-6)), (0, .ref (G.2.1 29)), (1, .int (nI j)), (2, .int w)] rfl ?_
        refine V_iload_n dX8_out_159 rfl 1 rfl ?_
        refine V_if_ge 168 dX8_out_160 (by decide) (fun hz => absurd hz (by decide)) (fun _ => ?_)
        refine V_bipush (v := -5) dX8_out_163 kb_m5 ?_
        refine V_goto 181 dX8_out_165 (by decide) ?_
        have ht : t = 2 ^ n := by omega
        subst ht
        exact V_iret rfl dX8_out_181 ⟨_, rfl, qcast (hq S1 hF) (by rw [hbo]; rfl)⟩
      · have hx : x < t := bo_b hbo
        refine V_lveq [(4, .int (nI t)), (3, .int (nI x)), (0, .ref (G.2.1 29)), (1, .int (nI j)), (2, .int w)] rfl ?_
        refine V_iload_n dX8_out_159 rfl 1 rfl ?_
        refine V_if_gen 168 (a := x) dX8_out_160 (by decide) (by omega) (fun _ => ?_) (fun hz => hz.elim)
        refine V_iload_n dX8_out_168 rfl 4 rfl ?_
        refine V_if_ne 176 dX8_out_169 (by decide) (fun h2 => ?_) (fun h2 => ?_)
        · refine V_aload_n dX8_out_176 rfl 2 rfl ?_
          refine V_iload_n dX8_out_177 rfl 1 rfl ?_
          refine V_cVi (P := pM G (d + 2) mX8_out _) (d := d + 1) 29 (r := []) (As := [.int (nI x)]) (K := mX8_sizes) ok_X8_sizes tw_907 (ob_29 _) rfl (rmOk (Nat.le_of_ble_eq_true rfl)) (Nat.le_of_ble_eq_true rfl) dX8_out_178 rfl (c_X8_sizes hn1 h12 ?_)
          refine V_topi (v := szs (S.2.2.1 31) (nI x) n) (by rw [hF.2.2.1 31 (by decide)]) ?_
          have ht : t = 2 ^ n := by omega
          subst ht
          exact V_iret rfl dX8_out_181 ⟨_, rfl, qcast (hq S1 hF) (by rw [hbo]; exact (if_neg h2).symm)⟩
        · refine V_iload_n dX8_out_172 rfl 1 rfl ?_
          refine V_goto 181 dX8_out_173 (by decide) ?_
          have ht : t = 2 ^ n := by omega
          subst ht
          exact V_iret rfl dX8_out_181 ⟨_, rfl, qcast (hq S1 hF) (by rw [hbo]; exact (if_pos h2).symm)⟩
    · refine V_iload dX8_out_47 0 rfl ?_
      refine V_aload_n dX8_out_49 rfl 2 rfl ?_
      refine g_29_1 tw_629 dX8_out_50 ?_
      refine V_iload_n dX8_out_53 rfl 3 rfl ?_
      refine l_30n (by omega) dX8_out_54 ?_
      refine V_topi (v := nI ch) (id e30) ?_
      refine V_iconst (v := -1) dX8_out_55 ki_m1 ?_
      refine V_ixor dX8_out_56 ?_
      refine V_iand dX8_out_57 ?_
      refine V_topi (v := nI (nd t ch)) (nI_nd ch (by omega)) ?_
      refine V_if_nen 153 (a := (nd t ch)) dX8_out_58 (by decide) (by omega) (fun h3 => ?_) (fun h3 => ?_)
      · have hb1 : bM S n y ch (t + 1) = bM S n y ch t := by show bo _ _ _ _ = bo _ _ _ _; rw [bo_n (sub_f h3)]
        refine V_lveq [(4, .int (nI t)), (3, .int (e6 (bM S n y ch (t + 1)))), (0, .ref (G.2.1 29)), (1, .int (nI j)), (2, .int w)] (by rw [hb1]) ?_
        refine V_iinc [(4, .int (nI (t + 1))), (3, .int (e6 (bM S n y ch (t + 1)))), (0, .ref (G.2.1 29)), (1, .int (nI j)), (2, .int w)] dX8_out_153 0 rfl (nI_1 _) (Nat.le_of_ble_eq_true rfl) rfl ?_
        refine V_goto 36 dX8_out_156 (by decide) ?_
        refine V_lv [(4, .int (nI (t + 1))), (3, .int (e6 (bM S n y ch (t + 1)))), (0, .ref (G.2.1 29)), (1, .int (nI j)), (2, .int w)] [0, 1, 2, 3, 4] rfl ?_
        exact ih (t + 1) _ (by omega) (by omega) hF
      · rcases hbo : bM S n y ch t with _ | x
        · refine V_lveq [(4, .int (nI t)), (3, .int (-6)), (0, .ref (G.2.1 29)), (1, .int (nI j)), (2, .int w)] rfl ?_
          refine V_iload_n dX8_out_61 rfl 1 rfl ?_
          refine V_if_lt 103 dX8_out_62 (by decide) (fun _ => ?_) (fun hz => absurd hz (by decide))
          refine V_iconst (v := 1) dX8_out_103 ki_1 ?_
          refine V_goto 108 dX8_out_104 (by decide) ?_
          refine V_istore [(5, .int 1), (4, .int (nI t)), (3, .int (-6)), (0, .ref (G.2.1 29)), (1, .int (nI j)), (2, .int w)] dX8_out_108 (Nat.le_of_ble_eq_true rfl) rfl ?_
          refine V_aload_n dX8_out_110 rfl 3 rfl ?_
          refine g_29_1 tw_629 dX8_out_111 ?_
          refine V_iload_n dX8_out_114 rfl 4 rfl ?_
          refine l_30n (by omega) dX8_out_115 ?_
          refine V_topi (v := nI ch) (id e30) ?_
          refine V_iload dX8_out_116 1 rfl ?_
          refine V_iconst (v := -1) dX8_out_118 ki_m1 ?_
          refine V_ixor dX8_out_119 ?_
          refine V_iand dX8_out_120 ?_
          refine V_topi (v := nI (nd ch t)) (nI_nd t hch) ?_
          refine V_istore [(6, .int (nI (nd ch t))), (5, .int 1), (4, .int (nI t)), (3, .int (-6)), (0, .ref (G.2.1 29)), (1, .int (nI j)), (2, .int w)] dX8_out_121 (Nat.le_of_ble_eq_true rfl) rfl ?_
          refine V_iload dX8_out_123 1 rfl ?_
          refine V_if_eq 151 dX8_out_125 (by decide) (fun hz => absurd hz (by decide)) (fun _ => ?_)
          refine V_aload_n dX8_out_128 rfl 4 rfl ?_
          refine V_iload dX8_out_129 0 rfl ?_
          refine V_cVi (P := pM G (d + 2) mX8_out _) (d := d + 1) 29 (r := []) (As := [.int (nI (nd ch t))]) (K := mX8_isSound) ok_X8_isSound tw_884 (ob_29 _) rfl (rmOk (Nat.le_of_ble_eq_true rfl)) (Nat.le_of_ble_eq_true rfl) dX8_out_131 rfl (c_X8_isSound hn1 h12 ?_)
          refine V_topi (v := b2i (snd (S.2.2.1 33) (nI (nd ch t)) n)) (by rw [hF.2.2.1 33 (by decide)]) ?_
          refine V_ifb_eq 151 dX8_out_134 (by decide) (fun h4 => ?_) (fun h4 => ?_)
          · refine V_iload_n dX8_out_151 rfl 3 rfl ?_
            refine V_istore_n [(3, .int (-6)), (6, .int (nI (nd ch t))), (5, .int 1), (4, .int (nI t)), (0, .ref (G.2.1 29)), (1, .int (nI j)), (2, .int w)] dX8_out_152 rfl (Nat.le_of_ble_eq_true rfl) rfl ?_
            have hb1 : bM S n y ch (t + 1) = none := by unfold bM at hbo ⊢; rw [bo_s (sub_t h3), bst_f (P := okM S n y ch) (t := t) (by unfold okM; rw [h4]; rfl), hbo]
            refine V_lveq [(3, .int (e6 (bM S n y ch (t + 1)))), (6, .int (nI (nd ch t))), (5, .int 1), (4, .int (nI t)), (0, .ref (G.2.1 29)), (1, .int (nI j)), (2, .int w)] (by rw [hb1]; rfl) ?_
            refine V_iinc [(4, .int (nI (t + 1))), (3, .int (e6 (bM S n y ch (t + 1)))), (6, .int (nI (nd ch t))), (5, .int 1), (0, .ref (G.2.1 29)), (1, .int (nI j)), (2, .int w)] dX8_out_153 3 rfl (nI_1 _) (Nat.le_of_ble_eq_true rfl) rfl ?_
            refine V_goto 36 dX8_out_156 (by decide) ?_
            refine V_lv [(4, .int (nI (t + 1))), (3, .int (e6 (bM S n y ch (t + 1)))), (0, .ref (G.2.1 29)), (1, .int (nI j)), (2, .int w)] [0, 1, 4, 5, 6] rfl ?_
            exact ih (t + 1) _ (by omega) (by omega) hF
          · refine V_aload_n dX8_out_137 rfl 4 rfl ?_
            refine V_iload dX8_out_138 0 rfl ?_
            refine V_cVi (P := pM G (d + 2) mX8_out _) (d := d + 1) 29 (r := []) (As := [.int (nI (nd ch t))]) (K := mX8_failsOf) ok_X8_failsOf tw_888 (ob_29 _) rfl (rmOk (Nat.le_of_ble_eq_true rfl)) (Nat.le_of_ble_eq_true rfl) dX8_out_140 rfl (c_X8_failsOf (y := y) (by rw [hF.1]; exact hg) (by rw [hF.2.2.1 39 (by decide)]; exact hW) hnd2 (fun S2 hF2 => ?_))
            refine V_topi (v := b2i (tv (S.2.2.1 39) y (nd ch t))) (by rw [hF.2.2.1 39 (by decide)]) ?_
            refine V_ifb_ne 151 dX8_out_143 (by decide) (fun h5 => ?_) (fun h5 => ?_)
            · refine V_iload_n dX8_out_151 rfl 3 rfl ?_
              refine V_istore_n [(3, .int (-6)), (6, .int (nI (nd ch t))), (5, .int 1), (4, .int (nI t)), (0, .ref (G.2.1 29)), (1, .int (nI j)), (2, .int w)] dX8_out_152 rfl (Nat.le_of_ble_eq_true rfl) rfl ?_
              have hb1 : bM S n y ch (t + 1) = none := by unfold bM at hbo ⊢; rw [bo_s (sub_t h3), bst_f (P := okM S n y ch) (t := t) (by unfold okM; rw [h4, h5]; rfl), hbo]
              refine V_lveq [(3, .int (e6 (bM S n y ch (t + 1)))), (6, .int (nI (nd ch t))), (5, .int 1), (4, .int (nI t)), (0, .ref (G.2.1 29)), (1, .int (nI j)), (2, .int w)] (by rw [hb1]; rfl) ?_
              refine V_iinc [(4, .int (nI (t + 1))), (3, .int (e6 (bM S n y ch (t + 1)))), (6, .int (nI (nd ch t))), (5, .int 1), (0, .ref (G.2.1 29)), (1, .int (nI j)), (2, .int w)] dX8_out_153 3 rfl (nI_1 _) (Nat.le_of_ble_eq_true rfl) rfl ?_
              refine V_goto 36 dX8_out_156 (by decide) ?_
              refine V_lv [(4, .int (nI (t + 1))), (3, .int (e6 (bM S n y ch (t + 1)))), (0, .ref (G.2.1 29)), (1, .int (nI j)), (2, .int w)] [0, 1, 4, 5, 6] rfl ?_
              exact ih (t + 1) _ (by omega) (by omega) (hF.tr hF2)
            · refine V_iload dX8_out_146 2 rfl ?_
              refine V_goto 152 dX8_out_148 (by decide) ?_
              refine V_istore_n [(3, .int (nI t)), (6, .int (nI (nd ch t))), (5, .int 1), (4, .int (nI t)), (0, .ref (G.2.1 29)), (1, .int (nI j)), (2, .int w)] dX8_out_152 rfl (Nat.le_of_ble_eq_true rfl) rfl ?_
              have hb1 : bM S n y ch (t + 1) = some t := by unfold bM at hbo ⊢; rw [bo_s (sub_t h3), hbo, bst_n (P := okM S n y ch) (t := t) (by unfold okM; rw [h4, h5]; rfl)]
              refine V_lveq [(3, .int (e6 (bM S n y ch (t + 1)))), (6, .int (nI (nd ch t))), (5, .int 1), (4, .int (nI t)), (0, .ref (G.2.1 29)), (1, .int (nI j)), (2, .int w)] (by rw [hb1]; rfl) ?_
              refine V_iinc [(4, .int (nI (t + 1))), (3, .int (e6 (bM S n y ch (t + 1)))), (6, .int (nI (nd ch t))), (5, .int 1), (0, .ref (G.2.1 29)), (1, .int (nI j)), (2, .int w)] dX8_out_153 3 rfl (nI_1 _) (Nat.le_of_ble_eq_true rfl) rfl ?_
              refine V_goto 36 dX8_out_156 (by decide) ?_
              refine V_lv [(4, .int (nI (t + 1))), (3, .int (e6 (bM S n y ch (t + 1)))), (0, .ref (G.2.1 29)), (1, .int (nI j)), (2, .int w)] [0, 1, 4, 5, 6] rfl ?_
              exact ih (t + 1) _ (by omega) (by omega) (hF.tr hF2)
        · have hx : x < t := bo_b hbo
          refine V_lveq [(4, .int (nI t)), (3, .int (nI x)), (0, .ref (G.2.1 29)), (1, .int (nI j)), (2, .int w)] rfl ?_
          refine V_iload_n dX8_out_61 rfl 1 rfl ?_
          refine V_if_ltn 103 (a := x) dX8_out_62 (by decide) (by omega) (fun hz => hz.elim) (fun _ => ?_)
          refine V_iload dX8_out_65 0 rfl ?_
          refine V_cSi (P := pM G (d + 2) mX8_out _) (d := d + 1) (r := []) (As := [.int (nI t)]) (K := mX8_bits) ok_X8_bits tw_904 rfl (rmOk (Nat.le_of_ble_eq_true rfl)) (Nat.le_of_ble_eq_true rfl) dX8_out_67 rfl (c_X8_bits ?_)
          refine V_iload_n dX8_out_70 rfl 1 rfl ?_
          refine V_cSi (P := pM G (d + 2) mX8_out _) (d := d + 1) (r := [.int (cnt (nI t) 12)]) (As := [.int (nI x)]) (K := mX8_bits) ok_X8_bits tw_904 rfl (rmOk (Nat.le_of_ble_eq_true rfl)) (Nat.le_of_ble_eq_true rfl) dX8_out_71 rfl (c_X8_bits ?_)
          refine V_icmp_lt 103 dX8_out_74 (by decide) (fun h6 => ?_) (fun h6 => ?_)
          · refine V_iconst (v := 1) dX8_out_103 ki_1 ?_
            refine V_goto 108 dX8_out_104 (by decide) ?_
            have hL : lss (S.2.2.1 31) n t x = true := lsm_1 h6
            refine V_istore [(5, .int 1), (4, .int (nI t)), (3, .int (nI x)), (0, .ref (G.2.1 29)), (1, .int (nI j)), (2, .int w)] dX8_out_108 (Nat.le_of_ble_eq_true rfl) rfl ?_
            refine V_aload_n dX8_out_110 rfl 3 rfl ?_
            refine g_29_1 tw_629 dX8_out_111 ?_
            refine V_iload_n dX8_out_114 rfl 4 rfl ?_
            refine l_30n (by omega) dX8_out_115 ?_
            refine V_topi (v := nI ch) (id e30) ?_
            refine V_iload dX8_out_116 1 rfl ?_
            refine V_iconst (v := -1) dX8_out_118 ki_m1 ?_
            refine V_ixor dX8_out_119 ?_
            refine V_iand dX8_out_120 ?_
            refine V_topi (v := nI (nd ch t)) (nI_nd t hch) ?_
            refine V_istore [(6, .int (nI (nd ch t))), (5, .int 1), (4, .int (nI t)), (3, .int (nI x)), (0, .ref (G.2.1 29)), (1, .int (nI j)), (2, .int w)] dX8_out_121 (Nat.le_of_ble_eq_true rfl) rfl ?_
            refine V_iload dX8_out_123 1 rfl ?_
            refine V_if_eq 151 dX8_out_125 (by decide) (fun hz => absurd hz (by decide)) (fun _ => ?_)
            refine V_aload_n dX8_out_128 rfl 4 rfl ?_
            refine V_iload dX8_out_129 0 rfl ?_
            refine V_cVi (P := pM G (d + 2) mX8_out _) (d := d + 1) 29 (r := []) (As := [.int (nI (nd ch t))]) (K := mX8_isSound) ok_X8_isSound tw_884 (ob_29 _) rfl (rmOk (Nat.le_of_ble_eq_true rfl)) (Nat.le_of_ble_eq_true rfl) dX8_out_131 rfl (c_X8_isSound hn1 h12 ?_)
            refine V_topi (v := b2i (snd (S.2.2.1 33) (nI (nd ch t)) n)) (by rw [hF.2.2.1 33 (by decide)]) ?_
            refine V_ifb_eq 151 dX8_out_134 (by decide) (fun h7 => ?_) (fun h7 => ?_)
            · refine V_iload_n dX8_out_151 rfl 3 rfl ?_
              refine V_istore_n [(3, .int (nI x)), (6, .int (nI (nd ch t))), (5, .int 1), (4, .int (nI t)), (0, .ref (G.2.1 29)), (1, .int (nI j)), (2, .int w)] dX8_out_152 rfl (Nat.le_of_ble_eq_true rfl) rfl ?_
              have hb1 : bM S n y ch (t + 1) = some x := by unfold bM at hbo ⊢; rw [bo_s (sub_t h3), bst_f (P := okM S n y ch) (t := t) (by unfold okM; rw [h7]; rfl), hbo]
              refine V_lveq [(3, .int (e6 (bM S n y ch (t + 1)))), (6, .int (nI (nd ch t))), (5, .int 1), (4, .int (nI t)), (0, .ref (G.2.1 29)), (1, .int (nI j)), (2, .int w)] (by rw [hb1]; rfl) ?_
              refine V_iinc [(4, .int (nI (t + 1))), (3, .int (e6 (bM S n y ch (t + 1)))), (6, .int (nI (nd ch t))), (5, .int 1), (0, .ref (G.2.1 29)), (1, .int (nI j)), (2, .int w)] dX8_out_153 3 rfl (nI_1 _) (Nat.le_of_ble_eq_true rfl) rfl ?_
              refine V_goto 36 dX8_out_156 (by decide) ?_
              refine V_lv [(4, .int (nI (t + 1))), (3, .int (e6 (bM S n y ch (t + 1)))), (0, .ref (G.2.1 29)), (1, .int (nI j)), (2, .int w)] [0, 1, 4, 5, 6] rfl ?_
              exact ih (t + 1) _ (by omega) (by omega) hF
            · refine V_aload_n dX8_out_137 rfl 4 rfl ?_
              refine V_iload dX8_out_138 0 rfl ?_
              refine V_cVi (P := pM G (d + 2) mX8_out _) (d := d + 1) 29 (r := []) (As := [.int (nI (nd ch t))]) (K := mX8_failsOf) ok_X8_failsOf tw_888 (ob_29 _) rfl (rmOk (Nat.le_of_ble_eq_true rfl)) (Nat.le_of_ble_eq_true rfl) dX8_out_140 rfl (c_X8_failsOf (y := y) (by rw [hF.1]; exact hg) (by rw [hF.2.2.1 39 (by decide)]; exact hW) hnd2 (fun S2 hF2 => ?_))
              refine V_topi (v := b2i (tv (S.2.2.1 39) y (nd ch t))) (by rw [hF.2.2.1 39 (by decide)]) ?_
              refine V_ifb_ne 151 dX8_out_143 (by decide) (fun h8 => ?_) (fun h8 => ?_)
              · refine V_iload_n dX8_out_151 rfl 3 rfl ?_
                refine V_istore_n [(3, .int (nI x)), (6, .int (nI (nd ch t))), (5, .int 1), (4, .int (nI t)), (0, .ref (G.2.1 29)), (1, .int (nI j)), (2, .int w)] dX8_out_152 rfl (Nat.le_of_ble_eq_true rfl) rfl ?_
                have hb1 : bM S n y ch (t + 1) = some x := by unfold bM at hbo ⊢; rw [bo_s (sub_t h3), bst_f (P := okM S n y ch) (t := t) (by unfold okM; rw [h7, h8]; rfl), hbo]
                refine V_lveq [(3, .int (e6 (bM S n y ch (t + 1)))), (6, .int (nI (nd ch t))), (5, .int 1), (4, .int (nI t)), (0, .ref (G.2.1 29)), (1, .int (nI j)), (2, .int w)] (by rw [hb1]; rfl) ?_
                refine V_iinc [(4, .int (nI (t + 1))), (3, .int (e6 (bM S n y ch (t + 1)))), (6, .int (nI (nd ch t))), (5, .int 1), (0, .ref (G.2.1 29)), (1, .int (nI j)), (2, .int w)] dX8_out_153 3 rfl (nI_1 _) (Nat.le_of_ble_eq_true rfl) rfl ?_
                refine V_goto 36 dX8_out_156 (by decide) ?_
                refine V_lv [(4, .int (nI (t + 1))), (3, .int (e6 (bM S n y ch (t + 1)))), (0, .ref (G.2.1 29)), (1, .int (nI j)), (2, .int w)] [0, 1, 4, 5, 6] rfl ?_
                exact ih (t + 1) _ (by omega) (by omega) (hF.tr hF2)
              · refine V_iload dX8_out_146 2 rfl ?_
                refine V_goto 152 dX8_out_148 (by decide) ?_
                refine V_istore_n [(3, .int (nI t)), (6, .int (nI (nd ch t))), (5, .int 1), (4, .int (nI t)), (0, .ref (G.2.1 29)), (1, .int (nI j)), (2, .int w)] dX8_out_152 rfl (Nat.le_of_ble_eq_true rfl) rfl ?_
                have hb1 : bM S n y ch (t + 1) = some t := by unfold bM at hbo ⊢; rw [bo_s (sub_t h3), hbo, bst_t (P := okM S n y ch) (t := t) (by unfold okM; rw [h7, h8]; rfl) hL]
                refine V_lveq [(3, .int (e6 (bM S n y ch (t + 1)))), (6, .int (nI (nd ch t))), (5, .int 1), (4, .int (nI t)), (0, .ref (G.2.1 29)), (1, .int (nI j)), (2, .int w)] (by rw [hb1]; rfl) ?_
                refine V_iinc [(4, .int (nI (t + 1))), (3, .int (e6 (bM S n y ch (t + 1)))), (6, .int (nI (nd ch t))), (5, .int 1), (0, .ref (G.2.1 29)), (1, .int (nI j)), (2, .int w)] dX8_out_153 3 rfl (nI_1 _) (Nat.le_of_ble_eq_true rfl) rfl ?_
                refine V_goto 36 dX8_out_156 (by decide) ?_
                refine V_lv [(4, .int (nI (t + 1))), (3, .int (e6 (bM S n y ch (t + 1)))), (0, .ref (G.2.1 29)), (1, .int (nI j)), (2, .int w)] [0, 1, 4, 5, 6] rfl ?_
                exact ih (t + 1) _ (by omega) (by omega) (hF.tr hF2)
          · refine V_iload dX8_out_77 0 rfl ?_
            refine V_cSi (P := pM G (d + 2) mX8_out _) (d := d + 1) (r := []) (As := [.int (nI t)]) (K := mX8_bits) ok_X8_bits tw_904 rfl (rmOk (Nat.le_of_ble_eq_true rfl)) (Nat.le_of_ble_eq_true rfl) dX8_out_79 rfl (c_X8_bits ?_)
            refine V_iload_n dX8_out_82 rfl 1 rfl ?_
            refine V_cSi (P := pM G (d + 2) mX8_out _) (d := d + 1) (r := [.int (cnt (nI t) 12)]) (As := [.int (nI x)]) (K := mX8_bits) ok_X8_bits tw_904 rfl (rmOk (Nat.le_of_ble_eq_true rfl)) (Nat.le_of_ble_eq_true rfl) dX8_out_83 rfl (c_X8_bits ?_)
            refine V_icmp_ne 107 dX8_out_86 (by decide) (fun h9 => ?_) (fun h9 => ?_)
            · refine V_iconst (v := 0) dX8_out_107 ki_0 ?_
              have hL : lss (S.2.2.1 31) n t x = false := lsm_2 h6 h9
              refine V_istore [(5, .int 0), (4, .int (nI t)), (3, .int (nI x)), (0, .ref (G.2.1 29)), (1, .int (nI j)), (2, .int w)] dX8_out_108 (Nat.le_of_ble_eq_true rfl) rfl ?_
              refine V_aload_n dX8_out_110 rfl 3 rfl ?_
              refine g_29_1 tw_629 dX8_out_111 ?_
              refine V_iload_n dX8_out_114 rfl 4 rfl ?_
              refine l_30n (by omega) dX8_out_115 ?_
              refine V_topi (v := nI ch) (id e30) ?_
              refine V_iload dX8_out_116 1 rfl ?_
              refine V_iconst (v := -1) dX8_out_118 ki_m1 ?_
              refine V_ixor dX8_out_119 ?_
              refine V_iand dX8_out_120 ?_
              refine V_topi (v := nI (nd ch t)) (nI_nd t hch) ?_
              refine V_istore [(6, .int (nI (nd ch t))), (5, .int 0), (4, .int (nI t)), (3, .int (nI x)), (0, .ref (G.2.1 29)), (1, .int (nI j)), (2, .int w)] dX8_out_121 (Nat.le_of_ble_eq_true rfl) rfl ?_
              refine V_iload dX8_out_123 1 rfl ?_
              refine V_if_eq 151 dX8_out_125 (by decide) (fun _ => ?_) (fun hz => absurd hz (by decide))
              refine V_iload_n dX8_out_151 rfl 3 rfl ?_
              refine V_istore_n [(3, .int (nI x)), (6, .int (nI (nd ch t))), (5, .int 0), (4, .int (nI t)), (0, .ref (G.2.1 29)), (1, .int (nI j)), (2, .int w)] dX8_out_152 rfl (Nat.le_of_ble_eq_true rfl) rfl ?_
              have hb1 : bM S n y ch (t + 1) = some x := by unfold bM at hbo ⊢; rw [bo_s (sub_t h3), hbo, bst_k (P := okM S n y ch) (t := t) hL]
              refine V_lveq [(3, .int (e6 (bM S n y ch (t + 1)))), (6, .int (nI (nd ch t))), (5, .int 0), (4, .int (nI t)), (0, .ref (G.2.1 29)), (1, .int (nI j)), (2, .int w)] (by rw [hb1]; rfl) ?_
              refine V_iinc [(4, .int (nI (t + 1))), (3, .int (e6 (bM S n y ch (t + 1)))), (6, .int (nI (nd ch t))), (5, .int 0), (0, .ref (G.2.1 29)), (1, .int (nI j)), (2, .int w)] dX8_out_153 3 rfl (nI_1 _) (Nat.le_of_ble_eq_true rfl) rfl ?_
              refine V_goto 36 dX8_out_156 (by decide) ?_
              refine V_lv [(4, .int (nI (t + 1))), (3, .int (e6 (bM S n y ch (t + 1)))), (0, .ref (G.2.1 29)), (1, .int (nI j)), (2, .int w)] [0, 1, 4, 5, 6] rfl ?_
              exact ih (t + 1) _ (by omega) (by omega) hF
            · refine V_aload_n dX8_out_89 rfl 2 rfl ?_
              refine V_iload dX8_out_90 0 rfl ?_
              refine V_cVi (P := pM G (d + 2) mX8_out _) (d := d + 1) 29 (r := []) (As := [.int (nI t)]) (K := mX8_sizes) ok_X8_sizes tw_907 (ob_29 _) rfl (rmOk (Nat.le_of_ble_eq_true rfl)) (Nat.le_of_ble_eq_true rfl) dX8_out_92 rfl (c_X8_sizes hn1 h12 ?_)
              refine V_topi (v := szs (S.2.2.1 31) (nI t) n) (by rw [hF.2.2.1 31 (by decide)]) ?_
              refine V_aload_n dX8_out_95 rfl 2 rfl ?_
              refine V_iload_n dX8_out_96 rfl 1 rfl ?_
              refine V_cVi (P := pM G (d + 2) mX8_out _) (d := d + 1) 29 (r := [.int (szs (S.2.2.1 31) (nI t) n)]) (As := [.int (nI x)]) (K := mX8_sizes) ok_X8_sizes tw_907 (ob_29 _) rfl (rmOk (Nat.le_of_ble_eq_true rfl)) (Nat.le_of_ble_eq_true rfl) dX8_out_97 rfl (c_X8_sizes hn1 h12 ?_)
              refine V_topi (v := szs (S.2.2.1 31) (nI x) n) (by rw [hF.2.2.1 31 (by decide)]) ?_
              refine V_icmp_ge 107 dX8_out_100 (by decide) (fun h10 => ?_) (fun h10 => ?_)
              · refine V_iconst (v := 0) dX8_out_107 ki_0 ?_
                have hL : lss (S.2.2.1 31) n t x = false := lsm_3 h6 h10
                refine V_istore [(5, .int 0), (4, .int (nI t)), (3, .int (nI x)), (0, .ref (G.2.1 29)), (1, .int (nI j)), (2, .int w)] dX8_out_108 (Nat.le_of_ble_eq_true rfl) rfl ?_
                refine V_aload_n dX8_out_110 rfl 3 rfl ?_
                refine g_29_1 tw_629 dX8_out_111 ?_
                refine V_iload_n dX8_out_114 rfl 4 rfl ?_
                refine l_30n (by omega) dX8_out_115 ?_
                refine V_topi (v := nI ch) (id e30) ?_
                refine V_iload dX8_out_116 1 rfl ?_
                refine V_iconst (v := -1) dX8_out_118 ki_m1 ?_
                refine V_ixor dX8_out_119 ?_
                refine V_iand dX8_out_120 ?_
                refine V_topi (v := nI (nd ch t)) (nI_nd t hch) ?_
                refine V_istore [(6, .int (nI (nd ch t))), (5, .int 0), (4, .int (nI t)), (3, .int (nI x)), (0, .ref (G.2.1 29)), (1, .int (nI j)), (2, .int w)] dX8_out_121 (Nat.le_of_ble_eq_true rfl) rfl ?_
                refine V_iload dX8_out_123 1 rfl ?_
                refine V_if_eq 151 dX8_out_125 (by decide) (fun _ => ?_) (fun hz => absurd hz (by decide))
                refine V_iload_n dX8_out_151 rfl 3 rfl ?_
                refine V_istore_n [(3, .int (nI x)), (6, .int (nI (nd ch t))), (5, .int 0), (4, .int (nI t)), (0, .ref (G.2.1 29)), (1, .int (nI j)), (2, .int w)] dX8_out_152 rfl (Nat.le_of_ble_eq_true rfl) rfl ?_
                have hb1 : bM S n y ch (t + 1) = some x := by unfold bM at hbo ⊢; rw [bo_s (sub_t h3), hbo, bst_k (P := okM S n y ch) (t := t) hL]
                refine V_lveq [(3, .int (e6 (bM S n y ch (t + 1)))), (6, .int (nI (nd ch t))), (5, .int 0), (4, .int (nI t)), (0, .ref (G.2.1 29)), (1, .int (nI j)), (2, .int w)] (by rw [hb1]; rfl) ?_
                refine V_iinc [(4, .int (nI (t + 1))), (3, .int (e6 (bM S n y ch (t + 1)))), (6, .int (nI (nd ch t))), (5, .int 0), (0, .ref (G.2.1 29)), (1, .int (nI j)), (2, .int w)] dX8_out_153 3 rfl (nI_1 _) (Nat.le_of_ble_eq_true rfl) rfl ?_
                refine V_goto 36 dX8_out_156 (by decide) ?_
                refine V_lv [(4, .int (nI (t + 1))), (3, .int (e6 (bM S n y ch (t + 1)))), (0, .ref (G.2.1 29)), (1, .int (nI j)), (2, .int w)] [0, 1, 4, 5, 6] rfl ?_
                exact ih (t + 1) _ (by omega) (by omega) hF
              · refine V_iconst (v := 1) dX8_out_103 ki_1 ?_
                refine V_goto 108 dX8_out_104 (by decide) ?_
                have hL : lss (S.2.2.1 31) n t x = true := lsm_4 h9 h10
                refine V_istore [(5, .int 1), (4, .int (nI t)), (3, .int (nI x)), (0, .ref (G.2.1 29)), (1, .int (nI j)), (2, .int w)] dX8_out_108 (Nat.le_of_ble_eq_true rfl) rfl ?_
                refine V_aload_n dX8_out_110 rfl 3 rfl ?_
                refine g_29_1 tw_629 dX8_out_111 ?_
                refine V_iload_n dX8_out_114 rfl 4 rfl ?_
                refine l_30n (by omega) dX8_out_115 ?_
                refine V_topi (v := nI ch) (id e30) ?_
                refine V_iload dX8_out_116 1 rfl ?_
                refine V_iconst (v := -1) dX8_out_118 ki_m1 ?_
                refine V_ixor dX8_out_119 ?_
                refine V_iand dX8_out_120 ?_
                refine V_topi (v := nI (nd ch t)) (nI_nd t hch) ?_
                refine V_istore [(6, .int (nI (nd ch t))), (5, .int 1), (4, .int (nI t)), (3, .int (nI x)), (0, .ref (G.2.1 29)), (1, .int (nI j)), (2, .int w)] dX8_out_121 (Nat.le_of_ble_eq_true rfl) rfl ?_
                refine V_iload dX8_out_123 1 rfl ?_
                refine V_if_eq 151 dX8_out_125 (by decide) (fun hz => absurd hz (by decide)) (fun _ => ?_)
                refine V_aload_n dX8_out_128 rfl 4 rfl ?_
                refine V_iload dX8_out_129 0 rfl ?_
                refine V_cVi (P := pM G (d + 2) mX8_out _) (d := d + 1) 29 (r := []) (As := [.int (nI (nd ch t))]) (K := mX8_isSound) ok_X8_isSound tw_884 (ob_29 _) rfl (rmOk (Nat.le_of_ble_eq_true rfl)) (Nat.le_of_ble_eq_true rfl) dX8_out_131 rfl (c_X8_isSound hn1 h12 ?_)
                refine V_topi (v := b2i (snd (S.2.2.1 33) (nI (nd ch t)) n)) (by rw [hF.2.2.1 33 (by decide)]) ?_
                refine V_ifb_eq 151 dX8_out_134 (by decide) (fun h11 => ?_) (fun h11 => ?_)
                · refine V_iload_n dX8_out_151 rfl 3 rfl ?_
                  refine V_istore_n [(3, .int (nI x)), (6, .int (nI (nd ch t))), (5, .int 1), (4, .int (nI t)), (0, .ref (G.2.1 29)), (1, .int (nI j)), (2, .int w)] dX8_out_152 rfl (Nat.le_of_ble_eq_true rfl) rfl ?_
                  have hb1 : bM S n y ch (t + 1) = some x := by unfold bM at hbo ⊢; rw [bo_s (sub_t h3), bst_f (P := okM S n y ch) (t := t) (by unfold okM; rw [h11]; rfl), hbo]
                  refine V_lveq [(3, .int (e6 (bM S n y ch (t + 1)))), (6, .int (nI (nd ch t))), (5, .int 1), (4, .int (nI t)), (0, .ref (G.2.1 29)), (1, .int (nI j)), (2, .int w)] (by rw [hb1]; rfl) ?_
                  refine V_iinc [(4, .int (nI (t + 1))), (3, .int (e6 (bM S n y ch (t + 1)))), (6, .int (nI (nd ch t))), (5, .int 1), (0, .ref (G.2.1 29)), (1, .int (nI j)), (2, .int w)] dX8_out_153 3 rfl (nI_1 _) (Nat.le_of_ble_eq_true rfl) rfl ?_
                  refine V_goto 36 dX8_out_156 (by decide) ?_
                  refine V_lv [(4, .int (nI (t + 1))), (3, .int (e6 (bM S n y ch (t + 1)))), (0, .ref (G.2.1 29)), (1, .int (nI j)), (2, .int w)] [0, 1, 4, 5, 6] rfl ?_
                  exact ih (t + 1) _ (by omega) (by omega) hF
                · refine V_aload_n dX8_out_137 rfl 4 rfl ?_
                  refine V_iload dX8_out_138 0 rfl ?_
                  refine V_cVi (P := pM G (d + 2) mX8_out _) (d := d + 1) 29 (r := []) (As := [.int (nI (nd ch t))]) (K := mX8_failsOf) ok_X8_failsOf tw_888 (ob_29 _) rfl (rmOk (Nat.le_of_ble_eq_true rfl)) (Nat.le_of_ble_eq_true rfl) dX8_out_140 rfl (c_X8_failsOf (y := y) (by rw [hF.1]; exact hg) (by rw [hF.2.2.1 39 (by decide)]; exact hW) hnd2 (fun S2 hF2 => ?_))
                  refine V_topi (v := b2i (tv (S.2.2.1 39) y (nd ch t))) (by rw [hF.2.2.1 39 (by decide)]) ?_
                  refine V_ifb_ne 151 dX8_out_143 (by decide) (fun h13 => ?_) (fun h13 => ?_)
                  · refine V_iload_n dX8_out_151 rfl 3 rfl ?_
                    refine V_istore_n [(3, .int (nI x)), (6, .int (nI (nd ch t))), (5, .int 1), (4, .int (nI t)), (0, .ref (G.2.1 29)), (1, .int (nI j)), (2, .int w)] dX8_out_152 rfl (Nat.le_of_ble_eq_true rfl) rfl ?_
                    have hb1 : bM S n y ch (t + 1) = some x := by unfold bM at hbo ⊢; rw [bo_s (sub_t h3), bst_f (P := okM S n y ch) (t := t) (by unfold okM; rw [h11, h13]; rfl), hbo]
                    refine V_lveq [(3, .int (e6 (bM S n y ch (t + 1)))), (6, .int (nI (nd ch t))), (5, .int 1), (4, .int (nI t)), (0, .ref (G.2.1 29)), (1, .int (nI j)), (2, .int w)] (by rw [hb1]; rfl) ?_
                    refine V_iinc [(4, .int (nI (t + 1))), (3, .int (e6 (bM S n y ch (t + 1)))), (6, .int (nI (nd ch t))), (5, .int 1), (0, .ref (G.2.1 29)), (1, .int (nI j)), (2, .int w)] dX8_out_153 3 rfl (nI_1 _) (Nat.le_of_ble_eq_true rfl) rfl ?_
                    refine V_goto 36 dX8_out_156 (by decide) ?_
                    refine V_lv [(4, .int (nI (t + 1))), (3, .int (e6 (bM S n y ch (t + 1)))), (0, .ref (G.2.1 29)), (1, .int (nI j)), (2, .int w)] [0, 1, 4, 5, 6] rfl ?_
                    exact ih (t + 1) _ (by omega) (by omega) (hF.tr hF2)
                  · refine V_iload dX8_out_146 2 rfl ?_
                    refine V_goto 152 dX8_out_148 (by decide) ?_
                    refine V_istore_n [(3, .int (nI t)), (6, .int (nI (nd ch t))), (5, .int 1), (4, .int (nI t)), (0, .ref (G.2.1 29)), (1, .int (nI j)), (2, .int w)] dX8_out_152 rfl (Nat.le_of_ble_eq_true rfl) rfl ?_
                    have hb1 : bM S n y ch (t + 1) = some t := by unfold bM at hbo ⊢; rw [bo_s (sub_t h3), hbo, bst_t (P := okM S n y ch) (t := t) (by unfold okM; rw [h11, h13]; rfl) hL]
                    refine V_lveq [(3, .int (e6 (bM S n y ch (t + 1)))), (6, .int (nI (nd ch t))), (5, .int 1), (4, .int (nI t)), (0, .ref (G.2.1 29)), (1, .int (nI j)), (2, .int w)] (by rw [hb1]; rfl) ?_
                    refine V_iinc [(4, .int (nI (t + 1))), (3, .int (e6 (bM S n y ch (t + 1)))), (6, .int (nI (nd ch t))), (5, .int 1), (0, .ref (G.2.1 29)), (1, .int (nI j)), (2, .int w)] dX8_out_153 3 rfl (nI_1 _) (Nat.le_of_ble_eq_true rfl) rfl ?_
                    refine V_goto 36 dX8_out_156 (by decide) ?_
                    refine V_lv [(4, .int (nI (t + 1))), (3, .int (e6 (bM S n y ch (t + 1)))), (0, .ref (G.2.1 29)), (1, .int (nI j)), (2, .int w)] [0, 1, 4, 5, 6] rfl ?_
                    exact ih (t + 1) _ (by omega) (by omega) (hF.tr hF2)
theorem c_X8_out {G : GX} {d : Nat} {S : ST} {v w : Int32} {n y : Nat} {Q : Int32 → ST → Prop} (hn : S.1 10 = nI n) (h12 : n ≤ 12) (hg : S.1 13 = nI y) (hy : y ≤ 40) (hW : 0 < y → WF (S.2.2.1 39) y) (hS : ∀ v, v < n → ∃ t, t < 4096 ∧ S.2.2.1 30 v = nI t) (hq : ∀ S2, FrP S S2 → Q (outM S n y v w) S2) : Cn G (d + 2) mX8_out [.ref (G.2.1 29), .int v, .int w] S (qi Q) := by
  refine Cn.intro (lv := [(0, .ref (G.2.1 29)), (1, .int v), (2, .int w)]) (by decide) (Nat.le_of_ble_eq_true rfl) rfl ?_
  refine V_aload_n dX8_out_0 rfl 0 rfl ?_
  refine V_iload_n dX8_out_1 rfl 1 rfl ?_
  refine V_cVi (P := pM G (d + 2) mX8_out _) (d := d + 1) 29 (r := []) (As := [.int v]) (K := mX8_isVersion) ok_X8_isVersion tw_717 (ob_29 _) rfl (rmOk (Nat.le_of_ble_eq_true rfl)) (Nat.le_of_ble_eq_true rfl) dX8_out_2 rfl (c_X8_isVersion hn h12 ?_)
  refine V_ifb_ne 10 dX8_out_5 (by decide) (fun h1 => ?_) (fun h1 => ?_)
  · refine V_iload_n dX8_out_10 rfl 2 rfl ?_
    refine V_cSi (P := pM G (d + 2) mX8_out _) (d := d + 1) (r := []) (As := [.int w]) (K := mX8_isPart) ok_X8_isPart tw_732 rfl (rmOk (Nat.le_of_ble_eq_true rfl)) (Nat.le_of_ble_eq_true rfl) dX8_out_11 rfl (c_X8_isPart ?_)
    refine V_ifb_ne 20 dX8_out_14 (by decide) (fun h2 => ?_) (fun h2 => ?_)
    · refine V_aload_n dX8_out_20 rfl 0 rfl ?_
      refine g_29_12 tw_640 dX8_out_21 ?_
      refine V_topi (v := nI y) (id hg) ?_
      refine V_if_nen 30 (a := y) dX8_out_24 (by decide) (by omega) (fun h3 => ?_) (fun h3 => ?_)
      · obtain ⟨j, hj, rfl⟩ := kn_ex h1 (by omega)
        obtain ⟨ch, hch, ech⟩ := hS j hj
        refine V_bipush (v := -6) dX8_out_30 kb_m6 ?_
        refine V_istore_n [(3, .int (-6)), (0, .ref (G.2.1 29)), (1, .int (nI j)), (2, .int w)] dX8_out_32 rfl (Nat.le_of_ble_eq_true rfl) rfl ?_
        refine V_iconst (v := 0) dX8_out_33 ki_0 ?_
        refine V_istore [(4, .int 0), (3, .int (-6)), (0, .ref (G.2.1 29)), (1, .int (nI j)), (2, .int w)] dX8_out_34 (Nat.le_of_ble_eq_true rfl) rfl ?_
        refine V_lv [(4, .int 0), (3, .int (-6)), (0, .ref (G.2.1 29)), (1, .int (nI j)), (2, .int w)] [0, 1, 2, 3, 4] rfl ?_
        refine V_lveq [(4, .int (nI 0)), (3, .int (e6 (bM S n y ch 0))), (0, .ref (G.2.1 29)), (1, .int (nI j)), (2, .int w)] (by rfl) ?_
        exact lp_mout hn h12 hg (hW h3) hj hch ech (fun S2 hF => qcast (hq S2 hF) (by unfold outM; rw [outR_a h1 h2 (decide_eq_true h3), hv_j (by omega) hch ech])) (2 ^ n + 1) 0 S (Nat.zero_le _) (Nat.lt_succ_of_le (Nat.sub_le _ _)) (FrP.refl S)
      · refine V_bipush (v := -3) dX8_out_27 kb_m3 ?_
        exact V_iret rfl dX8_out_29 ⟨_, rfl, qcast (hq S (FrP.refl S)) (by unfold outM; rw [outR_3 h1 h2 (decide_eq_false (by omega))])⟩
    · refine V_bipush (v := -2) dX8_out_17 kb_m2 ?_
      exact V_iret rfl dX8_out_19 ⟨_, rfl, qcast (hq S (FrP.refl S)) (by unfold outM; rw [outR_2 h1 h2])⟩
  · refine V_iconst (v := -1) dX8_out_8 ki_m1 ?_
    exact V_iret rfl dX8_out_9 ⟨_, rfl, qcast (hq S (FrP.refl S)) (by unfold outM; rw [outR_1 h1])⟩
