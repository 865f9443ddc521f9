/-- the same text over one set: t has bit c or not -/
def evB (sg : Nat → Int32) (y t : Nat) (m : Nat) : (Nat → Bool) × Nat := evl (fun c => t.testBit c) (fun b => !b) (fun a b => a && b) (fun a b => a || b) (fun _ => false) sg y m
theorem evB_s {sg : Nat → Int32} {y t m : Nat} : evB sg y t (m + 1) = stp (fun c => t.testBit c) (fun b => !b) (fun a b => a && b) (fun a b => a || b) (sg (y - 1 - m)) (evB sg y t m) := rfl
theorem evB_t {sg : Nat → Int32} {y t m : Nat} : (evB sg y t m).2 = tpn sg y m := evl_t m
def tv (sg : Nat → Int32) (y t : Nat) : Bool := (evB sg y t y).1 0
theorem evC_bits {S : ST} {w y j : Nat} {f0 : Nat → Int64} (hW : WF (S.2.2.1 23) y) (hj : j < 64) : ∀ m, m ≤ y → ∀ i, i < tpn (S.2.2.1 23) y m → bl ((evC S w y f0 m).1 i) j = (evB (S.2.2.1 23) y (64 * w + j) m).1 i
  | 0, _, i, hi => absurd hi (Nat.not_lt_zero _)
  | m + 1, hm, i, hi => by
    have ih := evC_bits (w := w) (f0 := f0) hW hj m (by omega)
    have hs := hW.2.2 m (by omega)
    rw [evC_s, evB_s]
    rw [tpn_s] at hi
    generalize S.2.2.1 23 (y - 1 - m) = s at hs hi ⊢
    rcases hs with hs | ⟨hs, ht⟩ | ⟨hs, ht⟩
    · rw [stp_l hs, stp_l hs, evC_t, evB_t]
      rw [tps, if_pos hs] at hi
      show bl (va_up _ _ _ i) j = va_up _ _ _ i
      unfold va_up
      by_cases h : i = tpn (S.2.2.1 23) y m
      · rw [if_pos h, if_pos h, bl_sW (let_c hs).2 hj]
      · rw [if_neg h, if_neg h]; exact ih i (by omega)
    · rw [stp_n hs, stp_n hs, evC_t, evB_t]
      have hi2 : i < tpn (S.2.2.1 23) y m := by rw [hs] at hi; exact hi
      show bl (va_up _ _ _ i) j = va_up _ _ _ i
      unfold va_up
      by_cases h : i = tpn (S.2.2.1 23) y m - 1
      · rw [if_pos h, if_pos h, bl_xor, bl_m1 j hj, ih _ (by omega), Bool.xor_true]
      · rw [if_neg h, if_neg h]; exact ih i hi2
    · rw [stp_2 hs, stp_2 hs, evC_t, evB_t]
      have hi2 : i < tpn (S.2.2.1 23) y m - 1 := by rcases hs with hs | hs <;> (rw [hs] at hi; exact hi)
      show bl (va_up _ _ _ i) j = va_up _ _ _ i
      unfold va_up
      by_cases h : i = tpn (S.2.2.1 23) y m - 2
      · rw [if_pos h, if_pos h]
        by_cases h38 : s = 38
        · rw [if_pos h38, if_pos h38, bl_and, ih _ (by omega), ih _ (by omega)]
        · rw [if_neg h38, if_neg h38, bl_or, ih _ (by omega), ih _ (by omega)]
      · rw [if_neg h, if_neg h]; exact ih i (by omega)
def FrV (S0 S : ST) : Prop := S.1 = S0.1 ∧ S.2.1 = S0.2.1 ∧ S.2.2.1 = S0.2.2.1 ∧ ∀ c, c ≠ 26 → S.2.2.2 c = S0.2.2.2 c
theorem FrV.set (S : ST) (f : Nat → Int64) : FrV S (setJr S 26 f) := ⟨rfl, rfl, rfl, fun c h => by simp [setJr, va_up, h]⟩
theorem c_X6_valueOf {G : GX} {d : Nat} {S : ST} {w y : Nat} {Q : Int64 → ST → Prop} (hg : S.1 8 = nI y) (hW : WF (S.2.2.1 23) y) (hw : w < 64) (hq : ∀ x S2, FrV S S2 → (∀ j, j < 64 → bl x j = tv (S.2.2.1 23) y (64 * w + j)) → Q x S2) : Cn G (d + 2) mX6_valueOf [.ref (G.2.1 7), .ref (G.2.1 6), .int (nI w)] S (ql Q) := by
  refine Cn.intro (lv := [(0, .ref (G.2.1 7)), (1, .ref (G.2.1 6)), (2, .int (nI w))]) (by decide) (Nat.le_of_ble_eq_true rfl) rfl ?_
  refine V_iconst (v := 0) dX6_valueOf_0 ki_0 ?_
  refine V_istore_n [(3, .int 0), (0, .ref (G.2.1 7)), (1, .ref (G.2.1 6)), (2, .int (nI w))] dX6_valueOf_1 rfl (Nat.le_of_ble_eq_true rfl) rfl ?_
  refine V_aload_n dX6_valueOf_2 rfl 2 rfl ?_
  refine g_6_0 tw_153 dX6_valueOf_3 ?_
  refine V_topi (v := nI y) (hg) ?_
  refine V_iconst (v := 1) dX6_valueOf_6 ki_1 ?_
  refine V_isub dX6_valueOf_7 ?_
  refine V_istore [(4, .int ((nI y) - 1)), (3, .int 0), (0, .ref (G.2.1 7)), (1, .ref (G.2.1 6)), (2, .int (nI w))] dX6_valueOf_8 (Nat.le_of_ble_eq_true rfl) rfl ?_
  refine V_lv [(4, .int ((nI y) - 1)), (3, .int 0), (0, .ref (G.2.1 7)), (1, .ref (G.2.1 6)), (2, .int (nI w))] [0, 1, 2, 3, 4] rfl ?_
  refine V_lveq [(4, .int ((nI y) - 1)), (3, .int (nI (tpn (S.2.2.1 23) y 0))), (0, .ref (G.2.1 7)), (1, .ref (G.2.1 6)), (2, .int (nI w))] (by rfl) ?_
  refine V_S (S2 := setJr S 26 (evC S w y (S.2.2.2 26) 0).1) ((setJr_id S 26).symm) ?_
  exact lp_val (f0 := S.2.2.2 26) hg hW hw (hq _ _ (FrV.set S _) (fun j hj => evC_bits hW hj y (Nat.le_refl y) 0 (by rw [hW.2.1]; omega))) y 0 (by omega)
def FrT (S0 S : ST) : Prop := (∀ k, k ≠ 9 → S.1 k = S0.1 k) ∧ S.2.1 = S0.2.1 ∧ S.2.2.1 = S0.2.2.1 ∧ ∀ c, c ≠ 25 → c ≠ 26 → S.2.2.2 c = S0.2.2.2 c
def TK (S0 : ST) (y : Nat) (w : Nat) (S : ST) : Prop := FrT S0 S ∧ S.1 9 = nI y ∧ ∀ t, t < 64 * w → bl (S.2.2.2 25 (t / 64)) (t % 64) = tv (S0.2.2.1 23) y t
theorem TK_step {S0 S S2 : ST} {y w : Nat} {x : Int64} (h : TK S0 y w S) (hF : FrV S S2) (hx : ∀ j, j < 64 → bl x j = tv (S0.2.2.1 23) y (64 * w + j)) : TK S0 y (w + 1) (setJ S2 25 w x) := by
  obtain ⟨h1, h2, h3⟩ := h
  refine ⟨⟨fun k a => ?_, ?_, ?_, fun c a b => ?_⟩, ?_, fun t ht => ?_⟩
  · show S2.1 k = _
    rw [hF.1]; exact h1.1 k a
  · show S2.2.1 = _
    rw [hF.2.1]; exact h1.2.1
  · show S2.2.2.1 = _
    rw [hF.2.2.1]; exact h1.2.2.1
  · show va_up _ _ _ c = _
    rw [va_up_ne _ _ a, hF.2.2.2 c b]
    exact h1.2.2.2 c a b
  · show S2.1 9 = _
    rw [hF.1]; exact h2
  · show bl (va_up S2.2.2.2 25 (vp_updL (S2.2.2.2 25) w x) 25 (t / 64)) (t % 64) = _
    rw [va_up_self, hF.2.2.2 25 (by decide)]
    by_cases e : t / 64 = w
    · rw [e, pk_uLs, hx _ (by omega)]
      congr 1
      omega
    · rw [pk_uLn e]
      exact h3 t (by omega)
theorem lp_take {G : GX} {d y : Nat} {S0 : ST} {Q : ST → Prop} (hg : S0.1 8 = nI y) (hW : WF (S0.2.2.1 23) y) (hq : ∀ S2, TK S0 y 64 S2 → Q S2) : ∀ (k w : Nat) (S : ST), w ≤ 64 → 64 - w < k → TK S0 y w S → V (pM G (d + 3) mX6_take (qv Q)) 10 [(2, .int (nI w)), (0, .ref (G.2.1 7)), (1, .ref (G.2.1 6))] [] S := by
  intro k
  induction k with
  | zero => intro w S hw hk; exact absurd hk (Nat.not_lt_zero _)
  | succ k ih =>
    intro w S hw hk hT
    have e23 : S.2.2.1 23 = S0.2.2.1 23 := by rw [hT.1.2.2.1]
    refine V_iload_n dX6_take_10 rfl 0 rfl ?_
    refine V_bipush (v := 64) dX6_take_11 kb_64 ?_
    refine V_icmp_gen 34 (a := w) (b := 64) dX6_take_13 (by decide) (by omega) (by omega) (fun h1 => ?_) (fun h1 => ?_)
    · have hin : w = 64 := by omega
      subst hin
      exact V_vret rfl dX6_take_34 ⟨rfl, hq S hT⟩
    · refine V_aload_n dX6_take_16 rfl 1 rfl ?_
      refine g_7_1 tw_173 dX6_take_17 ?_
      refine V_iload_n dX6_take_20 rfl 0 rfl ?_
      refine V_aload_n dX6_take_21 rfl 1 rfl ?_
      refine V_aload_n dX6_take_22 rfl 2 rfl ?_
      refine V_iload_n dX6_take_23 rfl 0 rfl ?_
      refine V_cVl (P := pM G (d + 3) mX6_take _) (d := d + 2) 7 (r := [.int (nI w), .ref (G.2.1 25)]) (As := [.ref (G.2.1 6), .int (nI w)]) (K := mX6_valueOf) ok_X6_valueOf tw_517 (ob_7 _) rfl (rmOk (Nat.le_of_ble_eq_true rfl)) (Nat.le_of_ble_eq_true rfl) dX6_take_24 rfl (c_X6_valueOf (y := y) ((hT.1.1 8 (by decide)).trans hg) (by rw [e23]; exact hW) h1 (fun x S2 hF hx => ?_))
      refine s_25n (by omega) dX6_take_27 ?_
      refine V_iinc [(2, .int (nI (w + 1))), (0, .ref (G.2.1 7)), (1, .ref (G.2.1 6))] dX6_take_28 0 rfl (nI_1 _) (Nat.le_of_ble_eq_true rfl) rfl ?_
      refine V_goto 10 dX6_take_31 (by decide) ?_
      refine V_lv [(2, .int (nI (w + 1))), (0, .ref (G.2.1 7)), (1, .ref (G.2.1 6))] [0, 1, 2] rfl ?_
      exact ih (w + 1) _ (by omega) (by omega) (TK_step hT hF (by rw [e23] at hx; exact hx))
theorem c_X6_take {G : GX} {d : Nat} {S : ST} {y : Nat} {Q : ST → Prop} (hg : S.1 8 = nI y) (hW : WF (S.2.2.1 23) y) (hq : ∀ S2, TK S y 64 S2 → Q S2) : Cn G (d + 3) mX6_take [.ref (G.2.1 7), .ref (G.2.1 6)] S (qv Q) := by
  refine Cn.intro (lv := [(0, .ref (G.2.1 7)), (1, .ref (G.2.1 6))]) (by decide) (Nat.le_of_ble_eq_true rfl) rfl ?_
  refine V_aload_n dX6_take_0 rfl 0 rfl ?_
  refine V_aload_n dX6_take_1 rfl 1 rfl ?_
  refine g_6_0 tw_153 dX6_take_2 ?_
  refine V_topi (v := nI y) (hg) ?_
  refine p_7_0 tw_171 dX6_take_5 ?_
  refine V_iconst (v := 0) dX6_take_8 ki_0 ?_
  refine V_istore_n [(2, .int 0), (0, .ref (G.2.1 7)), (1, .ref (G.2.1 6))] dX6_take_9 rfl (Nat.le_of_ble_eq_true rfl) rfl ?_
  refine V_lv [(2, .int 0), (0, .ref (G.2.1 7)), (1, .ref (G.2.1 6))] [0, 1, 2] rfl ?_
  exact lp_take (S0 := S) hg hW hq 65 0 _ (by omega) (by omega) ⟨⟨fun k a => by simp [setI, va_up, a], rfl, rfl, fun c a b => rfl⟩, rfl, fun t ht => absurd ht (by omega)⟩
