/-- the best set within ch among the first t: fewest, then lightest, then least -/
def bst (P : Nat → Bool) (L : Nat → Nat → Bool) (b : Option Nat) (t : Nat) : Option Nat := if P t = true then (match b with
  | none => some t
  | some x => if L t x = true then some t else some x) else b
def bo (P : Nat → Bool) (L : Nat → Nat → Bool) (ch : Nat) : Nat → Option Nat
  | 0 => none
  | t + 1 => if sub t ch = true then bst P L (bo P L ch t) t else bo P L ch t
theorem bo_s {P : Nat → Bool} {L : Nat → Nat → Bool} {ch t : Nat} (h : sub t ch = true) : bo P L ch (t + 1) = bst P L (bo P L ch t) t := by rw [bo, if_pos h]
theorem bo_n {P : Nat → Bool} {L : Nat → Nat → Bool} {ch t : Nat} (h : sub t ch = false) : bo P L ch (t + 1) = bo P L ch t := by rw [bo, if_neg (by rw [h]; exact Bool.false_ne_true)]
theorem bo_skip {P : Nat → Bool} {L : Nat → Nat → Bool} {ch a : Nat} : ∀ {m : Nat}, (∀ t, a ≤ t → t < a + m → sub t ch = false) → bo P L ch (a + m) = bo P L ch a
  | 0, _ => rfl
  | m + 1, h => by rw [show a + (m + 1) = (a + m) + 1 by omega, bo_n (h (a + m) (by omega) (by omega)), bo_skip (fun t h1 h2 => h t h1 (by omega))]
theorem bo_to {P : Nat → Bool} {L : Nat → Nat → Bool} {ch a b : Nat} (hab : a ≤ b) (h : ∀ t, a ≤ t → t < b → sub t ch = false) : bo P L ch b = bo P L ch a := by
  have z := bo_skip (P := P) (L := L) (ch := ch) (a := a) (m := b - a) (fun t h1 h2 => h t h1 (by omega))
  rw [show a + (b - a) = b by omega] at z
  exact z
theorem bo_b {P : Nat → Bool} {L : Nat → Nat → Bool} {ch : Nat} : ∀ {t x : Nat}, bo P L ch t = some x → x < t
  | 0, x, h => by cases h
  | t + 1, x, h => by
    cases hs : sub t ch
    · rw [bo_n hs] at h
      have := bo_b h
      omega
    · rw [bo_s hs] at h
      unfold bst at h
      split at h
      · split at h
        · cases h; omega
        · rename_i y hy
          split at h
          · cases h; omega
          · cases h
            have := bo_b hy
            omega
      · have := bo_b h
        omega
theorem bo_cong {P P2 : Nat → Bool} {L L2 : Nat → Nat → Bool} {ch : Nat} (h : ∀ t, sub t ch = true → P t = P2 t) (h2 : ∀ a b, L a b = L2 a b) : ∀ t, bo P L ch t = bo P2 L2 ch t
  | 0 => rfl
  | t + 1 => by
    cases hs : sub t ch
    · rw [bo_n hs, bo_n hs, bo_cong h h2 t]
    · rw [bo_s hs, bo_s hs, bo_cong h h2 t]
      unfold bst
      rw [h t hs]
      simp only [h2]
theorem bst_f {P : Nat → Bool} {L : Nat → Nat → Bool} {b : Option Nat} {t : Nat} (h : P t = false) : bst P L b t = b := by unfold bst; exact if_neg (by rw [h]; exact Bool.false_ne_true)
theorem bst_n {P : Nat → Bool} {L : Nat → Nat → Bool} {t : Nat} (h : P t = true) : bst P L none t = some t := by unfold bst; exact if_pos h
theorem bst_t {P : Nat → Bool} {L : Nat → Nat → Bool} {t x : Nat} (h : P t = true) (h2 : L t x = true) : bst P L (some x) t = some t := by unfold bst; rw [if_pos h]; exact if_pos h2
theorem bst_k {P : Nat → Bool} {L : Nat → Nat → Bool} {t x : Nat} (h : L t x = false) : bst P L (some x) t = some x := by
  unfold bst
  split
  · exact if_neg (by rw [h]; exact Bool.false_ne_true)
  · rfl
def e5 (b : Option Nat) : Int32 := match b with
  | none => -5
  | some x => nI x
def lss (sz : Nat → Int32) (n a b : Nat) : Bool := decide (cnt (nI a) 12 < cnt (nI b) 12) || (decide (cnt (nI a) 12 = cnt (nI b) 12) && decide (szs sz (nI a) n < szs sz (nI b) n))
theorem cnt_b (s : Int32) : ∀ k, ∃ m, m ≤ k ∧ cnt s k = nI m
  | 0 => ⟨0, Nat.le_refl 0, rfl⟩
  | k + 1 => by
    obtain ⟨m, h1, h2⟩ := cnt_b s k
    have h3 : cnt s (k + 1) = cnt s k + b2i (bt s k) := rfl
    rw [h3, h2]
    cases bt s k
    · exact ⟨m, by omega, by show nI m + 0 = nI m; exact Int32.add_zero _⟩
    · exact ⟨m + 1, by omega, nI_1 m⟩
theorem cnt_d (s t : Int32) : ((cnt s 12 - cnt t 12 < 0) ↔ cnt s 12 < cnt t 12) ∧ ((cnt s 12 - cnt t 12 = 0) ↔ cnt s 12 = cnt t 12) := by
  obtain ⟨a, ha, ea⟩ := cnt_b s 12
  obtain ⟨b, hb, eb⟩ := cnt_b t 12
  rw [ea, eb]
  have h1 : (nI a - nI b).toInt = (a : Int) - b := pk_sub_toInt (by omega) (by omega)
  have h2 : (0 : Int32).toInt = 0 := rfl
  refine ⟨?_, ?_⟩
  · rw [nI_ltI (by omega) (by omega), Int32.lt_iff_toInt_lt, h1, h2]; omega
  · rw [nI_eq (by omega) (by omega), ← Int32.toInt_inj, h1, h2]; omega
theorem lss_1 {sz : Nat → Int32} {n a b : Nat} (h : cnt (nI a) 12 - cnt (nI b) 12 < 0) : lss sz n a b = true := by
  unfold lss
  rw [decide_eq_true ((cnt_d _ _).1.mp h)]; rfl
theorem lss_2 {sz : Nat → Int32} {n a b : Nat} (h : ¬ cnt (nI a) 12 - cnt (nI b) 12 < 0) (h2 : ¬ cnt (nI a) 12 - cnt (nI b) 12 = 0) : lss sz n a b = false := by
  unfold lss
  rw [decide_eq_false (fun z => h ((cnt_d _ _).1.mpr z)), decide_eq_false (fun z => h2 ((cnt_d _ _).2.mpr z))]; rfl
theorem lss_3 {sz : Nat → Int32} {n a b : Nat} (h : ¬ cnt (nI a) 12 - cnt (nI b) 12 < 0) (h3 : szs sz (nI b) n ≤ szs sz (nI a) n) : lss sz n a b = false := by
  unfold lss
  rw [decide_eq_false (fun z => h ((cnt_d _ _).1.mpr z)), decide_eq_false (Int32.not_lt.mpr h3), Bool.and_false]; rfl
theorem lss_4 {sz : Nat → Int32} {n a b : Nat} (h2 : cnt (nI a) 12 - cnt (nI b) 12 = 0) (h3 : ¬ szs sz (nI b) n ≤ szs sz (nI a) n) : lss sz n a b = true := by
  unfold lss
  rw [decide_eq_true ((cnt_d _ _).2.mp h2), decide_eq_true (Int32.not_le.mp h3)]; simp
theorem c_X0_isLess {G : GX} {d : Nat} {S : ST} {n a b : Nat} {Q : Int32 → ST → Prop} (hn : S.1 0 = nI n) (h12 : n ≤ 12) (ha : a < 4096) (hb : b < 4096) (hq : Q (b2i (lss (S.2.2.1 11) n a b)) S) : Cn G (d + 2) mX0_isLess [.ref (G.2.1 8), .int (nI a), .int (nI b)] S (qi Q) := by
  refine Cn.intro (lv := [(0, .ref (G.2.1 8)), (1, .int (nI a)), (2, .int (nI b))]) (by decide) (Nat.le_of_ble_eq_true rfl) rfl ?_
  refine V_iload_n dX0_isLess_0 rfl 1 rfl ?_
  refine V_cSi (P := pM G (d + 2) mX0_isLess _) (d := d + 1) (r := []) (As := [.int (nI a)]) (K := mJ6_bitCount_0f7a4) ok_J6_bitCount_0f7a4 tw_578 rfl (rmOk (Nat.le_of_ble_eq_true rfl)) (Nat.le_of_ble_eq_true rfl) dX0_isLess_1 rfl (c_bcI ?_)
  refine V_topi (v := cnt (nI a) 12) (bcI_cnt (by omega)) ?_
  refine V_iload_n dX0_isLess_4 rfl 2 rfl ?_
  refine V_cSi (P := pM G (d + 2) mX0_isLess _) (d := d + 1) (r := [.int (cnt (nI a) 12)]) (As := [.int (nI b)]) (K := mJ6_bitCount_0f7a4) ok_J6_bitCount_0f7a4 tw_578 rfl (rmOk (Nat.le_of_ble_eq_true rfl)) (Nat.le_of_ble_eq_true rfl) dX0_isLess_5 rfl (c_bcI ?_)
  refine V_topi (v := cnt (nI b) 12) (bcI_cnt (by omega)) ?_
  refine V_isub dX0_isLess_8 ?_
  refine V_istore_n [(3, .int ((cnt (nI a) 12) - (cnt (nI b) 12))), (0, .ref (G.2.1 8)), (1, .int (nI a)), (2, .int (nI b))] dX0_isLess_9 rfl (Nat.le_of_ble_eq_true rfl) rfl ?_
  refine V_iload_n dX0_isLess_10 rfl 0 rfl ?_
  refine V_if_lt 37 dX0_isLess_11 (by decide) (fun h1 => ?_) (fun h1 => ?_)
  · refine V_iconst (v := 1) dX0_isLess_37 ki_1 ?_
    refine V_goto 42 dX0_isLess_38 (by decide) ?_
    refine V_zret rfl dX0_isLess_42 rfl ⟨_, rfl, ?_⟩
    exact qcast hq (by rw [lss_1 h1]; rfl)
  · refine V_iload_n dX0_isLess_14 rfl 0 rfl ?_
    refine V_if_ne 41 dX0_isLess_15 (by decide) (fun h2 => ?_) (fun h2 => ?_)
    · refine V_iconst (v := 0) dX0_isLess_41 ki_0 ?_
      refine V_zret rfl dX0_isLess_42 rfl ⟨_, rfl, ?_⟩
      exact qcast hq (by rw [lss_2 h1 h2]; rfl)
    · refine V_aload_n dX0_isLess_18 rfl 1 rfl ?_
      refine g_8_0 tw_190 dX0_isLess_19 ?_
      refine V_iload_n dX0_isLess_22 rfl 2 rfl ?_
      refine V_cVi (P := pM G (d + 2) mX0_isLess _) (d := d + 1) 1 (r := []) (As := [.int (nI a)]) (K := mX1_sizes) ok_X1_sizes tw_584 (ob_1 _) rfl (rmOk (Nat.le_of_ble_eq_true rfl)) (Nat.le_of_ble_eq_true rfl) dX0_isLess_23 rfl (c_X1_sizes hn h12 ?_)
      refine V_aload_n dX0_isLess_26 rfl 1 rfl ?_
      refine g_8_0 tw_190 dX0_isLess_27 ?_
      refine V_iload_n dX0_isLess_30 rfl 3 rfl ?_
      refine V_cVi (P := pM G (d + 2) mX0_isLess _) (d := d + 1) 1 (r := [.int (szs (S.2.2.1 11) (nI a) n)]) (As := [.int (nI b)]) (K := mX1_sizes) ok_X1_sizes tw_584 (ob_1 _) rfl (rmOk (Nat.le_of_ble_eq_true rfl)) (Nat.le_of_ble_eq_true rfl) dX0_isLess_31 rfl (c_X1_sizes hn h12 ?_)
      refine V_icmp_ge 41 dX0_isLess_34 (by decide) (fun h3 => ?_) (fun h3 => ?_)
      · refine V_iconst (v := 0) dX0_isLess_41 ki_0 ?_
        refine V_zret rfl dX0_isLess_42 rfl ⟨_, rfl, ?_⟩
        exact qcast hq (by rw [lss_3 h1 h3]; rfl)
      · refine V_iconst (v := 1) dX0_isLess_37 ki_1 ?_
        refine V_goto 42 dX0_isLess_38 (by decide) ?_
        refine V_zret rfl dX0_isLess_42 rfl ⟨_, rfl, ?_⟩
        exact qcast hq (by rw [lss_4 h2 h3]; rfl)
def FrF (S0 S : ST) : Prop := S.1 = S0.1 ∧ S.2.1 = S0.2.1 ∧ S.2.2.1 = S0.2.2.1 ∧ ∀ c, c ≠ 27 → c ≠ 28 → S.2.2.2 c = S0.2.2.2 c
theorem FrF.rf (S : ST) : FrF S S := ⟨rfl, rfl, rfl, fun _ _ _ => rfl⟩
theorem FrF.J {S0 S : ST} (h : FrF S0 S) {c : Nat} (hc : c = 27 ∨ c = 28) (i : Nat) (x : Int64) : FrF S0 (setJ S c i x) := by
  refine ⟨h.1, h.2.1, h.2.2.1, fun k a b => ?_⟩
  show va_up _ _ _ k = _
  rw [va_up_ne _ _ (by rcases hc with z | z <;> omega)]
  exact h.2.2.2 k a b
/-- the first w words of a row hold the sets for which P is so -/
def RW (P : Nat → Bool) (f : Nat → Int64) (w : Nat) : Prop := ∀ t, t < 64 * w → bl (f (t / 64)) (t % 64) = P t
theorem RW_0 (P : Nat → Bool) (f : Nat → Int64) : RW P f 0 := fun t ht => absurd ht (by omega)
theorem RW_s {P : Nat → Bool} {f : Nat → Int64} {w : Nat} {x : Int64} (h : RW P f w) (hx : ∀ j, j < 64 → bl x j = P (64 * w + j)) : RW P (vp_updL f w x) (w + 1) := by
  intro t ht
  by_cases e : t / 64 = w
  · rw [e, pk_uLs, hx _ (by omega)]
    congr 1
    omega
  · rw [pk_uLn e]
    exact h t (by omega)
/-- the class's sets that may stay: sound, and they do not fail -/
def okS (S : ST) (n t : Nat) : Bool := snd (S.2.2.1 13) (nI t) n && !bl (S.2.2.2 25 (t / 64)) (t % 64)
theorem nI_ne5 {i : Nat} (hi : i < 2 ^ 31) (h : nI i = -5) : False := by
  have z := congrArg Int32.toNatClampNeg h
  rw [nI_clamp hi] at z
  have z2 : i = 0 := z
  subst z2
  exact absurd h (by decide)
theorem lp_lo1 {G : GX} {d n ch : Nat} {S0 : ST} {Q : Int32 → ST → Prop} (hn : S0.1 0 = nI n) (h12 : n ≤ 12) (hN : NE (S0.2.2.1 13) n) (K : ∀ S, FrF S0 S → RW (okS S0 n) (S.2.2.2 27) 64 → V (pM G (d + 4) mX0_leastOut (qi Q)) 39 [(0, .ref (G.2.1 8)), (1, .int (nI ch))] [] S) : ∀ (k w : Nat) (S : ST), w ≤ 64 → 64 - w < k → FrF S0 S → RW (okS S0 n) (S.2.2.2 27) w → V (pM G (d + 4) mX0_leastOut (qi Q)) 2 [(2, .int (nI w)), (0, .ref (G.2.1 8)), (1, .int (nI ch))] [] S := by
  intro k
  induction k with
  | zero => intro w S hw hk; exact absurd hk (Nat.not_lt_zero _)
  | succ k ih =>
    intro w S hw hk hF hR
    have hn2 : S.1 0 = nI n := by rw [hF.1]; exact hn
    have e13 : S.2.2.1 13 = S0.2.2.1 13 := by rw [hF.2.2.1]
    have e25 : S.2.2.2 25 = S0.2.2.2 25 := hF.2.2.2 25 (by decide) (by decide)
    refine V_iload_n dX0_leastOut_2 rfl 0 rfl ?_
    refine V_bipush (v := 64) dX0_leastOut_3 kb_64 ?_
    refine V_icmp_gen 39 (a := w) (b := 64) dX0_leastOut_5 (by decide) (by omega) (by omega) (fun h1 => ?_) (fun h1 => ?_)
    · refine V_lv [(0, .ref (G.2.1 8)), (1, .int (nI ch))] [1, 2] rfl ?_
      have hin : w = 64 := by omega
      subst hin
      exact K S hF hR
    · refine V_aload_n dX0_leastOut_8 rfl 1 rfl ?_
      refine g_8_2 tw_192 dX0_leastOut_9 ?_
      refine V_iload_n dX0_leastOut_12 rfl 0 rfl ?_
      refine V_aload_n dX0_leastOut_13 rfl 1 rfl ?_
      refine V_iload_n dX0_leastOut_14 rfl 0 rfl ?_
      refine V_cVl (P := pM G (d + 4) mX0_leastOut _) (d := d + 3) 8 (r := [.int (nI w), .ref (G.2.1 27)]) (As := [.int (nI w)]) (K := mX0_soundSets) ok_X0_soundSets tw_538 (ob_8 _) rfl (rmOk (Nat.le_of_ble_eq_true rfl)) (Nat.le_of_ble_eq_true rfl) dX0_leastOut_15 rfl (c_X0_soundSets hn2 h12 ?_)
      refine V_aload_n dX0_leastOut_18 rfl 1 rfl ?_
      refine g_8_1 tw_191 dX0_leastOut_19 ?_
      refine g_7_1 tw_174 dX0_leastOut_22 ?_
      refine V_iload_n dX0_leastOut_25 rfl 0 rfl ?_
      refine l_25n (by omega) dX0_leastOut_26 ?_
      refine V_ldc2 dX0_leastOut_27 tw_542 ?_
      refine V_lxor dX0_leastOut_30 ?_
      refine V_land dX0_leastOut_31 ?_
      refine s_27n (by omega) dX0_leastOut_32 ?_
      refine V_iinc [(2, .int (nI (w + 1))), (0, .ref (G.2.1 8)), (1, .int (nI ch))] dX0_leastOut_33 0 rfl (nI_1 _) (Nat.le_of_ble_eq_true rfl) rfl ?_
      refine V_goto 2 dX0_leastOut_36 (by decide) ?_
      refine V_lv [(2, .int (nI (w + 1))), (0, .ref (G.2.1 8)), (1, .int (nI ch))] [0, 1, 2] rfl ?_
      exact ih (w + 1) _ (by omega) (by omega) (hF.J (Or.inl rfl) _ _) (RW_s hR (fun j hj => by rw [bl_and, bl_xor, bl_m1 j hj, e13, e25, bl_sSe hj h1 h12 hN, Bool.xor_true]; unfold okS; rw [show (64 * w + j) / 64 = w by omega, show (64 * w + j) % 64 = j by omega]))
theorem lp_lo2 {G : GX} {d n ch : Nat} {S0 S : ST} {Q : Int32 → ST → Prop} (hn : S0.1 0 = nI n) (h12 : n ≤ 12) (hc : ch < 4096) (hF : FrF S0 S) (hR : RW (okS S0 n) (S.2.2.2 27) 64) (hq : Q (e5 (bo (fun o => okS S0 n (nd ch o)) (lss (S0.2.2.1 11) n) ch (ch + 1))) S) : ∀ (k i o : Nat), ch - o < k → i ≤ o → o ≤ ch → sub o ch = true → V (pM G (d + 4) mX0_leastOut (qi Q)) 47 [(4, .int (nI i)), (3, .int (nI o)), (2, .int (e5 (bo (fun o => okS S0 n (nd ch o)) (lss (S0.2.2.1 11) n) ch o))), (0, .ref (G.2.1 8)), (1, .int (nI ch))] [] S := by
  intro k
  induction k with
  | zero => intro i o hk; exact absurd hk (Nat.not_lt_zero _)
  | succ k ih =>
    intro i o hk hi ho hs
    have hn2 : S.1 0 = nI n := by rw [hF.1]; exact hn
    have hnd : nd ch o < 4096 := Nat.lt_of_le_of_lt (nd_le ch o) hc
    refine V_iload dX0_leastOut_47 0 rfl ?_
    refine V_sipush (v := 4096) dX0_leastOut_49 ks_4096 ?_
    refine V_icmp_gen 107 (a := i) (b := 4096) dX0_leastOut_52 (by decide) (by omega) (by omega) (fun h1 => ?_) (fun h1 => ?_)
    · exact absurd h1 (by omega)
    · refine V_aload_n dX0_leastOut_55 rfl 3 rfl ?_
      refine g_8_2 tw_192 dX0_leastOut_56 ?_
      refine V_iload_n dX0_leastOut_59 rfl 4 rfl ?_
      refine V_iload_n dX0_leastOut_60 rfl 1 rfl ?_
      refine V_iconst (v := -1) dX0_leastOut_61 ki_m1 ?_
      refine V_ixor dX0_leastOut_62 ?_
      refine V_iand dX0_leastOut_63 ?_
      refine V_topi (v := nI (nd ch o)) (nI_nd o hc) ?_
      refine V_cNi (P := pM G (d + 4) mX0_leastOut _) (d := d + 3) (r := []) (As := [.ref (G.2.1 27), .int (nI (nd ch o))]) (K := mX7_isAmong) ok_X7_isAmong nl_573 rfl (rmOk (Nat.le_of_ble_eq_true rfl)) (Nat.le_of_ble_eq_true rfl) dX0_leastOut_64 rfl (c_X7_isAmong_27 hnd ?_)
      refine V_topi (v := b2i (okS S0 n (nd ch o))) (by rw [hR _ (by omega)]) ?_
      refine V_ifb_eq 87 dX0_leastOut_67 (by decide) (fun h2 => ?_) (fun h2 => ?_)
      · refine V_lveq [(4, .int (nI i)), (3, .int (nI o)), (2, .int (e5 (bo (fun o => okS S0 n (nd ch o)) (lss (S0.2.2.1 11) n) ch (o + 1)))), (0, .ref (G.2.1 8)), (1, .int (nI ch))] (by rw [bo_s hs, bst_f (P := (fun o => okS S0 n (nd ch o))) (t := o) h2]) ?_
        refine V_iload_n dX0_leastOut_87 rfl 1 rfl ?_
        refine V_iload_n dX0_leastOut_88 rfl 4 rfl ?_
        refine V_icmp_nen 95 (a := o) (b := ch) dX0_leastOut_89 (by decide) (by omega) (by omega) (fun h3 => ?_) (fun h3 => ?_)
        · obtain ⟨nx1, nx2, nx3, nx4⟩ := nx_ok hc hs (by omega)
          refine V_iload_n dX0_leastOut_95 rfl 1 rfl ?_
          refine V_iload_n dX0_leastOut_96 rfl 4 rfl ?_
          refine V_isub dX0_leastOut_97 ?_
          refine V_iload_n dX0_leastOut_98 rfl 4 rfl ?_
          refine V_iand dX0_leastOut_99 ?_
          refine V_topi (v := nI (nx o ch)) (nI_nx (by omega) hc) ?_
          refine V_istore_n [(3, .int (nI (nx o ch))), (4, .int (nI i)), (2, .int (e5 (bo (fun o => okS S0 n (nd ch o)) (lss (S0.2.2.1 11) n) ch (o + 1)))), (0, .ref (G.2.1 8)), (1, .int (nI ch))] dX0_leastOut_100 rfl (Nat.le_of_ble_eq_true rfl) rfl ?_
          refine V_iinc [(4, .int (nI (i + 1))), (3, .int (nI (nx o ch))), (2, .int (e5 (bo (fun o => okS S0 n (nd ch o)) (lss (S0.2.2.1 11) n) ch (o + 1)))), (0, .ref (G.2.1 8)), (1, .int (nI ch))] dX0_leastOut_101 1 rfl (nI_1 _) (Nat.le_of_ble_eq_true rfl) rfl ?_
          refine V_goto 47 dX0_leastOut_104 (by decide) ?_
          refine V_lv [(4, .int (nI (i + 1))), (3, .int (nI (nx o ch))), (2, .int (e5 (bo (fun o => okS S0 n (nd ch o)) (lss (S0.2.2.1 11) n) ch (o + 1)))), (0, .ref (G.2.1 8)), (1, .int (nI ch))] [0, 1, 2, 3, 4] rfl ?_
          refine V_lveq [(4, .int (nI (i + 1))), (3, .int (nI (nx o ch))), (2, .int (e5 (bo (fun o => okS S0 n (nd ch o)) (lss (S0.2.2.1 11) n) ch (nx o ch)))), (0, .ref (G.2.1 8)), (1, .int (nI ch))] (by rw [bo_to (a := o + 1) (b := nx o ch) nx1 (fun t h1 h2 => nx4 t h1 h2)]) ?_
          exact ih (i + 1) (nx o ch) (by omega) (by omega) nx2 nx3
        · refine V_goto 107 dX0_leastOut_92 (by decide) ?_
          refine V_iload_n dX0_leastOut_107 rfl 2 rfl ?_
          exact V_iret rfl dX0_leastOut_108 ⟨_, rfl, qcast hq (by rw [h3])⟩
      · rcases hbo : bo (fun o => okS S0 n (nd ch o)) (lss (S0.2.2.1 11) n) ch o with _ | x
        · refine V_lveq [(4, .int (nI i)), (3, .int (nI o)), (2, .int (-5)), (0, .ref (G.2.1 8)), (1, .int (nI ch))] rfl ?_
          refine V_iload_n dX0_leastOut_70 rfl 2 rfl ?_
          refine V_bipush (v := -5) dX0_leastOut_71 kb_m5 ?_
          refine V_icmp_eq 85 dX0_leastOut_73 (by decide) (fun _ => ?_) (fun hz => absurd hz (by decide))
          refine V_iload_n dX0_leastOut_85 rfl 1 rfl ?_
          refine V_istore_n [(2, .int (nI o)), (4, .int (nI i)), (3, .int (nI o)), (0, .ref (G.2.1 8)), (1, .int (nI ch))] dX0_leastOut_86 rfl (Nat.le_of_ble_eq_true rfl) rfl ?_
          refine V_lveq [(2, .int (e5 (bo (fun o => okS S0 n (nd ch o)) (lss (S0.2.2.1 11) n) ch (o + 1)))), (4, .int (nI i)), (3, .int (nI o)), (0, .ref (G.2.1 8)), (1, .int (nI ch))] (by rw [bo_s hs, hbo, bst_n (P := (fun o => okS S0 n (nd ch o))) (t := o) h2]; rfl) ?_
          refine V_iload_n dX0_leastOut_87 rfl 2 rfl ?_
          refine V_iload_n dX0_leastOut_88 rfl 4 rfl ?_
          refine V_icmp_nen 95 (a := o) (b := ch) dX0_leastOut_89 (by decide) (by omega) (by omega) (fun h4 => ?_) (fun h4 => ?_)
          · obtain ⟨nx1, nx2, nx3, nx4⟩ := nx_ok hc hs (by omega)
            refine V_iload_n dX0_leastOut_95 rfl 2 rfl ?_
            refine V_iload_n dX0_leastOut_96 rfl 4 rfl ?_
            refine V_isub dX0_leastOut_97 ?_
            refine V_iload_n dX0_leastOut_98 rfl 4 rfl ?_
            refine V_iand dX0_leastOut_99 ?_
            refine V_topi (v := nI (nx o ch)) (nI_nx (by omega) hc) ?_
            refine V_istore_n [(3, .int (nI (nx o ch))), (2, .int (e5 (bo (fun o => okS S0 n (nd ch o)) (lss (S0.2.2.1 11) n) ch (o + 1)))), (4, .int (nI i)), (0, .ref (G.2.1 8)), (1, .int (nI ch))] dX0_leastOut_100 rfl (Nat.le_of_ble_eq_true rfl) rfl ?_
            refine V_iinc [(4, .int (nI (i + 1))), (3, .int (nI (nx o ch))), (2, .int (e5 (bo (fun o => okS S0 n (nd ch o)) (lss (S0.2.2.1 11) n) ch (o + 1)))), (0, .ref (G.2.1 8)), (1, .int (nI ch))] dX0_leastOut_101 2 rfl (nI_1 _) (Nat.le_of_ble_eq_true rfl) rfl ?_
            refine V_goto 47 dX0_leastOut_104 (by decide) ?_
            refine V_lv [(4, .int (nI (i + 1))), (3, .int (nI (nx o ch))), (2, .int (e5 (bo (fun o => okS S0 n (nd ch o)) (lss (S0.2.2.1 11) n) ch (o + 1)))), (0, .ref (G.2.1 8)), (1, .int (nI ch))] [0, 1, 2, 3, 4] rfl ?_
            refine V_lveq [(4, .int (nI (i + 1))), (3, .int (nI (nx o ch))), (2, .int (e5 (bo (fun o => okS S0 n (nd ch o)) (lss (S0.2.2.1 11) n) ch (nx o ch)))), (0, .ref (G.2.1 8)), (1, .int (nI ch))] (by rw [bo_to (a := o + 1) (b := nx o ch) nx1 (fun t h1 h2 => nx4 t h1 h2)]) ?_
            exact ih (i + 1) (nx o ch) (by omega) (by omega) nx2 nx3
          · refine V_goto 107 dX0_leastOut_92 (by decide) ?_
            refine V_iload_n dX0_leastOut_107 rfl 0 rfl ?_
            exact V_iret rfl dX0_leastOut_108 ⟨_, rfl, qcast hq (by rw [h4])⟩
        · have hx := bo_b hbo
          refine V_lveq [(4, .int (nI i)), (3, .int (nI o)), (2, .int (nI x)), (0, .ref (G.2.1 8)), (1, .int (nI ch))] rfl ?_
          refine V_iload_n dX0_leastOut_70 rfl 2 rfl ?_
          refine V_bipush (v := -5) dX0_leastOut_71 kb_m5 ?_
          refine V_icmp_eq 85 dX0_leastOut_73 (by decide) (fun h5 => ?_) (fun h5 => ?_)
          · exact (nI_ne5 (by omega) h5).elim
          · refine V_aload_n dX0_leastOut_76 rfl 3 rfl ?_
            refine V_iload_n dX0_leastOut_77 rfl 1 rfl ?_
            refine V_iload_n dX0_leastOut_78 rfl 2 rfl ?_
            refine V_cVi (P := pM G (d + 4) mX0_leastOut _) (d := d + 3) 8 (r := []) (As := [.int (nI o), .int (nI x)]) (K := mX0_isLess) ok_X0_isLess tw_574 (ob_8 _) rfl (rmOk (Nat.le_of_ble_eq_true rfl)) (Nat.le_of_ble_eq_true rfl) dX0_leastOut_79 rfl (c_X0_isLess hn2 h12 (by omega) (by omega) ?_)
            refine V_topi (v := b2i (lss (S0.2.2.1 11) n o x)) (by rw [hF.2.2.1]) ?_
            refine V_ifb_eq 87 dX0_leastOut_82 (by decide) (fun h6 => ?_) (fun h6 => ?_)
            · refine V_lveq [(4, .int (nI i)), (3, .int (nI o)), (2, .int (e5 (bo (fun o => okS S0 n (nd ch o)) (lss (S0.2.2.1 11) n) ch (o + 1)))), (0, .ref (G.2.1 8)), (1, .int (nI ch))] (by rw [bo_s hs, hbo, bst_k (P := (fun o => okS S0 n (nd ch o))) (t := o) h6]; rfl) ?_
              refine V_iload_n dX0_leastOut_87 rfl 1 rfl ?_
              refine V_iload_n dX0_leastOut_88 rfl 4 rfl ?_
              refine V_icmp_nen 95 (a := o) (b := ch) dX0_leastOut_89 (by decide) (by omega) (by omega) (fun h7 => ?_) (fun h7 => ?_)
              · obtain ⟨nx1, nx2, nx3, nx4⟩ := nx_ok hc hs (by omega)
                refine V_iload_n dX0_leastOut_95 rfl 1 rfl ?_
                refine V_iload_n dX0_leastOut_96 rfl 4 rfl ?_
                refine V_isub dX0_leastOut_97 ?_
                refine V_iload_n dX0_leastOut_98 rfl 4 rfl ?_
                refine V_iand dX0_leastOut_99 ?_
                refine V_topi (v := nI (nx o ch)) (nI_nx (by omega) hc) ?_
                refine V_istore_n [(3, .int (nI (nx o ch))), (4, .int (nI i)), (2, .int (e5 (bo (fun o => okS S0 n (nd ch o)) (lss (S0.2.2.1 11) n) ch (o + 1)))), (0, .ref (G.2.1 8)), (1, .int (nI ch))] dX0_leastOut_100 rfl (Nat.le_of_ble_eq_true rfl) rfl ?_
                refine V_iinc [(4, .int (nI (i + 1))), (3, .int (nI (nx o ch))), (2, .int (e5 (bo (fun o => okS S0 n (nd ch o)) (lss (S0.2.2.1 11) n) ch (o + 1)))), (0, .ref (G.2.1 8)), (1, .int (nI ch))] dX0_leastOut_101 1 rfl (nI_1 _) (Nat.le_of_ble_eq_true rfl) rfl ?_
                refine V_goto 47 dX0_leastOut_104 (by decide) ?_
                refine V_lv [(4, .int (nI (i + 1))), (3, .int (nI (nx o ch))), (2, .int (e5 (bo (fun o => okS S0 n (nd ch o)) (lss (S0.2.2.1 11) n) ch (o + 1)))), (0, .ref (G.2.1 8)), (1, .int (nI ch))] [0, 1, 2, 3, 4] rfl ?_
                refine V_lveq [(4, .int (nI (i + 1))), (3, .int (nI (nx o ch))), (2, .int (e5 (bo (fun o => okS S0 n (nd ch o)) (lss (S0.2.2.1 11) n) ch (nx o ch)))), (0, .ref (G.2.1 8)), (1, .int (nI ch))] (by rw [bo_to (a := o + 1) (b := nx o ch) nx1 (fun t h1 h2 => nx4 t h1 h2)]) ?_
                exact ih (i + 1) (nx o ch) (by omega) (by omega) nx2 nx3
              · refine V_goto 107 dX0_leastOut_92 (by decide) ?_
                refine V_iload_n dX0_leastOut_107 rfl 2 rfl ?_
                exact V_iret rfl dX0_leastOut_108 ⟨_, rfl, qcast hq (by rw [h7])⟩
            · refine V_iload_n dX0_leastOut_85 rfl 1 rfl ?_
              refine V_istore_n [(2, .int (nI o)), (4, .int (nI i)), (3, .int (nI o)), (0, .ref (G.2.1 8)), (1, .int (nI ch))] dX0_leastOut_86 rfl (Nat.le_of_ble_eq_true rfl) rfl ?_
              refine V_lveq [(2, .int (e5 (bo (fun o => okS S0 n (nd ch o)) (lss (S0.2.2.1 11) n) ch (o + 1)))), (4, .int (nI i)), (3, .int (nI o)), (0, .ref (G.2.1 8)), (1, .int (nI ch))] (by rw [bo_s hs, hbo, bst_t (P := (fun o => okS S0 n (nd ch o))) (t := o) h2 h6]; rfl) ?_
              refine V_iload_n dX0_leastOut_87 rfl 2 rfl ?_
              refine V_iload_n dX0_leastOut_88 rfl 4 rfl ?_
              refine V_icmp_nen 95 (a := o) (b := ch) dX0_leastOut_89 (by decide) (by omega) (by omega) (fun h8 => ?_) (fun h8 => ?_)
              · obtain ⟨nx1, nx2, nx3, nx4⟩ := nx_ok hc hs (by omega)
                refine V_iload_n dX0_leastOut_95 rfl 2 rfl ?_
                refine V_iload_n dX0_leastOut_96 rfl 4 rfl ?_
                refine V_isub dX0_leastOut_97 ?_
                refine V_iload_n dX0_leastOut_98 rfl 4 rfl ?_
                refine V_iand dX0_leastOut_99 ?_
                refine V_topi (v := nI (nx o ch)) (nI_nx (by omega) hc) ?_
                refine V_istore_n [(3, .int (nI (nx o ch))), (2, .int (e5 (bo (fun o => okS S0 n (nd ch o)) (lss (S0.2.2.1 11) n) ch (o + 1)))), (4, .int (nI i)), (0, .ref (G.2.1 8)), (1, .int (nI ch))] dX0_leastOut_100 rfl (Nat.le_of_ble_eq_true rfl) rfl ?_
                refine V_iinc [(4, .int (nI (i + 1))), (3, .int (nI (nx o ch))), (2, .int (e5 (bo (fun o => okS S0 n (nd ch o)) (lss (S0.2.2.1 11) n) ch (o + 1)))), (0, .ref (G.2.1 8)), (1, .int (nI ch))] dX0_leastOut_101 2 rfl (nI_1 _) (Nat.le_of_ble_eq_true rfl) rfl ?_
                refine V_goto 47 dX0_leastOut_104 (by decide) ?_
                refine V_lv [(4, .int (nI (i + 1))), (3, .int (nI (nx o ch))), (2, .int (e5 (bo (fun o => okS S0 n (nd ch o)) (lss (S0.2.2.1 11) n) ch (o + 1)))), (0, .ref (G.2.1 8)), (1, .int (nI ch))] [0, 1, 2, 3, 4] rfl ?_
                refine V_lveq [(4, .int (nI (i + 1))), (3, .int (nI (nx o ch))), (2, .int (e5 (bo (fun o => okS S0 n (nd ch o)) (lss (S0.2.2.1 11) n) ch (nx o ch)))), (0, .ref (G.2.1 8)), (1, .int (nI ch))] (by rw [bo_to (a := o + 1) (b := nx o ch) nx1 (fun t h1 h2 => nx4 t h1 h2)]) ?_
                exact ih (i + 1) (nx o ch) (by omega) (by omega) nx2 nx3
              · refine V_goto 107 dX0_leastOut_92 (by decide) ?_
                refine V_iload_n dX0_leastOut_107 rfl 0 rfl ?_
                exact V_iret rfl dX0_leastOut_108 ⟨_, rfl, qcast hq (by rw [h8])⟩
theorem c_X0_leastOut {G : GX} {d : Nat} {S : ST} {n ch : Nat} {Q : Int32 → ST → Prop} (hn : S.1 0 = nI n) (h12 : n ≤ 12) (hN : NE (S.2.2.1 13) n) (hc : ch < 4096) (hq : ∀ S2, FrF S S2 → Q (e5 (bo (fun o => okS S n (nd ch o)) (lss (S.2.2.1 11) n) ch (ch + 1))) S2) : Cn G (d + 4) mX0_leastOut [.ref (G.2.1 8), .int (nI ch)] S (qi Q) := by
  refine Cn.intro (lv := [(0, .ref (G.2.1 8)), (1, .int (nI ch))]) (by decide) (Nat.le_of_ble_eq_true rfl) rfl ?_
  refine V_iconst (v := 0) dX0_leastOut_0 ki_0 ?_
  refine V_istore_n [(2, .int 0), (0, .ref (G.2.1 8)), (1, .int (nI ch))] dX0_leastOut_1 rfl (Nat.le_of_ble_eq_true rfl) rfl ?_
  refine V_lv [(2, .int 0), (0, .ref (G.2.1 8)), (1, .int (nI ch))] [0, 1, 2] rfl ?_
  refine V_lveq [(2, .int (nI 0)), (0, .ref (G.2.1 8)), (1, .int (nI ch))] (by rfl) ?_
  refine lp_lo1 (S0 := S) hn h12 hN (fun S2 hF hR => ?_) 65 0 S (by omega) (by omega) (FrF.rf S) (RW_0 _ _)
  refine V_bipush (v := -5) dX0_leastOut_39 kb_m5 ?_
  refine V_istore_n [(2, .int (-5)), (0, .ref (G.2.1 8)), (1, .int (nI ch))] dX0_leastOut_41 rfl (Nat.le_of_ble_eq_true rfl) rfl ?_
  refine V_iconst (v := 0) dX0_leastOut_42 ki_0 ?_
  refine V_istore_n [(3, .int 0), (2, .int (-5)), (0, .ref (G.2.1 8)), (1, .int (nI ch))] dX0_leastOut_43 rfl (Nat.le_of_ble_eq_true rfl) rfl ?_
  refine V_iconst (v := 0) dX0_leastOut_44 ki_0 ?_
  refine V_istore [(4, .int 0), (3, .int 0), (2, .int (-5)), (0, .ref (G.2.1 8)), (1, .int (nI ch))] dX0_leastOut_45 (Nat.le_of_ble_eq_true rfl) rfl ?_
  refine V_lv [(4, .int 0), (3, .int 0), (2, .int (-5)), (0, .ref (G.2.1 8)), (1, .int (nI ch))] [0, 1, 2, 3, 4] rfl ?_
  refine V_lveq [(4, .int (nI 0)), (3, .int (nI 0)), (2, .int (e5 (bo (fun o => okS S n (nd ch o)) (lss (S.2.2.1 11) n) ch 0))), (0, .ref (G.2.1 8)), (1, .int (nI ch))] (by rfl) ?_
  exact lp_lo2 hn h12 hc hF hR (hq S2 hF) (ch + 1) 0 0 (by omega) (by omega) (by omega) ((sub_iff (by decide)).mpr (fun i hi => by rw [Nat.zero_testBit] at hi; cases hi))
