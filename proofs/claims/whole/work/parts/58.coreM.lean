def owM (S : ST) (n y ch t : Nat) : Bool := sub t ch && (snd (S.2.2.1 33) (nI t) n && tv (S.2.2.1 39) y t)
def FrB (S0 S : ST) : Prop := S.1 = S0.1 ∧ S.2.1 = S0.2.1 ∧ (∀ c, c ≠ 49 → c ≠ 50 → S.2.2.1 c = S0.2.2.1 c) ∧ S.2.2.2 = S0.2.2.2
theorem FrB.rf (S : ST) : FrB S S := ⟨rfl, rfl, fun _ _ _ => rfl, rfl⟩
theorem FrB.p {A B C : ST} (h : FrB A B) (g : FrP B C) : FrB A C := ⟨g.1.trans h.1, g.2.1.trans h.2.1, fun c a b => (g.2.2.1 c a).trans (h.2.2.1 c a b), g.2.2.2.trans h.2.2.2⟩
theorem FrB.a {A B : ST} (h : FrB A B) (i : Nat) (x : Int32) : FrB A (setA B 50 i x) := by
  refine ⟨h.1, h.2.1, fun c a b => ?_, h.2.2.2⟩
  show va_up _ _ _ c = _
  rw [va_up_ne _ _ b]
  exact h.2.2.1 c a b
def BD (own : Nat → Bool) (ch : Nat) (S : ST) (t : Nat) : Prop := ∀ s, s < t → sub s ch = true → S.2.2.1 50 s = b2i (Hk own 12 s)
theorem BD.p {own : Nat → Bool} {ch t : Nat} {A B : ST} (h : BD own ch A t) (g : FrP A B) : BD own ch B t := fun s hs h2 => by rw [g.2.2.1 50 (by decide)]; exact h s hs h2
theorem BD.s {own : Nat → Bool} {ch t : Nat} {A : ST} {x : Int32} (h : BD own ch A t) (hx : x = b2i (Hk own 12 t)) : BD own ch (setA A 50 t x) (t + 1) := fun s hs h2 => by
  show upd (A.2.2.1 50) t x s = _
  by_cases e : s = t
  · rw [e, pk_us, hx]
  · rw [pk_un e]; exact h s (by omega) h2
theorem BD.n {own : Nat → Bool} {ch t : Nat} {A : ST} (h : BD own ch A t) (hx : sub t ch = false) : BD own ch A (t + 1) := fun s hs h2 => by
  rcases (show s < t ∨ s = t by omega) with z | z
  · exact h s z h2
  · rw [z, hx] at h2; cases h2
theorem sub_clr {t c ch : Nat} (ht : t < 4096) (h : sub t ch = true) : sub (clr t c) ch = true := by
  rw [sub_iff (Nat.lt_of_le_of_lt (clr_le t c) ht)]
  intro i hi
  rw [clr_tb c i ht, Bool.and_eq_true] at hi
  exact (sub_iff ht).mp h i hi.1
theorem lp_pt {G : GX} {d n t ch j : Nat} {x3 x4 i : Int32} {own : Nat → Bool} {S1 : ST} {Q : Int32 → ST → Prop} (hn1 : S1.1 10 = nI n) (h12 : n ≤ 12) (ht4 : t < 4096) (hB : BD own ch S1 t) (hsub : sub t ch = true) (K : V (pM G (d + 2) mX8_core (qi Q)) 114 [(6, .int (b2i (pt own t n))), (5, .int (nI t)), (4, .int x4), (3, .int x3), (0, .ref (G.2.1 29)), (1, .int (nI j)), (2, .int i)] [] S1) : ∀ (k c : Nat), c ≤ n → n - c < k → V (pM G (d + 2) mX8_core (qi Q)) 60 [(7, .int (nI c)), (6, .int (b2i (pt own t c))), (5, .int (nI t)), (4, .int x4), (3, .int x3), (0, .ref (G.2.1 29)), (1, .int (nI j)), (2, .int i)] [] S1 := by
  intro k
  induction k with
  | zero => intro c hc hk; exact absurd hk (Nat.not_lt_zero _)
  | succ k ih =>
    intro c hc hk
    have hcl := clr_le t c
    refine V_iload dX8_core_60 0 rfl ?_
    refine V_aload_n dX8_core_62 rfl 5 rfl ?_
    refine g_29_0 tw_628 dX8_core_63 ?_
    refine V_topi (v := nI n) (id hn1) ?_
    refine V_icmp_gen 114 (a := c) (b := n) dX8_core_66 (by decide) (by omega) (by omega) (fun h1 => ?_) (fun h1 => ?_)
    · refine V_lv [(6, .int (b2i (pt own t c))), (5, .int (nI t)), (4, .int x4), (3, .int x3), (0, .ref (G.2.1 29)), (1, .int (nI j)), (2, .int i)] [1, 2, 3, 4, 5, 6, 7] rfl ?_
      have hin : c = n := by omega
      subst hin
      exact K
    · refine V_iload dX8_core_69 1 rfl ?_
      refine V_ifb_ne 101 dX8_core_71 (by decide) (fun h2 => ?_) (fun h2 => ?_)
      · refine V_iconst (v := 1) dX8_core_101 ki_1 ?_
        refine V_goto 106 dX8_core_102 (by decide) ?_
        refine V_topi (v := b2i (pt own t (c + 1))) (by rw [pt_s, h2]; rfl) ?_
        refine V_istore [(6, .int (b2i (pt own t (c + 1)))), (7, .int (nI c)), (5, .int (nI t)), (4, .int x4), (3, .int x3), (0, .ref (G.2.1 29)), (1, .int (nI j)), (2, .int i)] dX8_core_106 (Nat.le_of_ble_eq_true rfl) rfl ?_
        refine V_iinc [(7, .int (nI (c + 1))), (6, .int (b2i (pt own t (c + 1)))), (5, .int (nI t)), (4, .int x4), (3, .int x3), (0, .ref (G.2.1 29)), (1, .int (nI j)), (2, .int i)] dX8_core_108 1 rfl (nI_1 _) (Nat.le_of_ble_eq_true rfl) rfl ?_
        refine V_goto 60 dX8_core_111 (by decide) ?_
        refine V_lv [(7, .int (nI (c + 1))), (6, .int (b2i (pt own t (c + 1)))), (5, .int (nI t)), (4, .int x4), (3, .int x3), (0, .ref (G.2.1 29)), (1, .int (nI j)), (2, .int i)] [0, 1, 2, 3, 4, 5, 6, 7] rfl ?_
        exact ih (c + 1) (by omega) (by omega)
      · refine V_iload dX8_core_74 2 rfl ?_
        refine V_iload dX8_core_76 0 rfl ?_
        refine V_cSi (P := pM G (d + 2) mX8_core _) (d := d + 1) (r := []) (As := [.int (nI t), .int (nI c)]) (K := mX8_hasBit) ok_X8_hasBit tw_772 rfl (rmOk (Nat.le_of_ble_eq_true rfl)) (Nat.le_of_ble_eq_true rfl) dX8_core_78 rfl (c_X8_hasBit (by omega) ?_)
        refine V_topi (v := b2i (t.testBit c)) (by rw [bt_eq (by omega)]) ?_
        refine V_ifb_eq 105 dX8_core_81 (by decide) (fun h3 => ?_) (fun h3 => ?_)
        · refine V_iconst (v := 0) dX8_core_105 ki_0 ?_
          refine V_topi (v := b2i (pt own t (c + 1))) (by rw [pt_s, h2, h3]; rfl) ?_
          refine V_istore [(6, .int (b2i (pt own t (c + 1)))), (7, .int (nI c)), (5, .int (nI t)), (4, .int x4), (3, .int x3), (0, .ref (G.2.1 29)), (1, .int (nI j)), (2, .int i)] dX8_core_106 (Nat.le_of_ble_eq_true rfl) rfl ?_
          refine V_iinc [(7, .int (nI (c + 1))), (6, .int (b2i (pt own t (c + 1)))), (5, .int (nI t)), (4, .int x4), (3, .int x3), (0, .ref (G.2.1 29)), (1, .int (nI j)), (2, .int i)] dX8_core_108 1 rfl (nI_1 _) (Nat.le_of_ble_eq_true rfl) rfl ?_
          refine V_goto 60 dX8_core_111 (by decide) ?_
          refine V_lv [(7, .int (nI (c + 1))), (6, .int (b2i (pt own t (c + 1)))), (5, .int (nI t)), (4, .int x4), (3, .int x3), (0, .ref (G.2.1 29)), (1, .int (nI j)), (2, .int i)] [0, 1, 2, 3, 4, 5, 6, 7] rfl ?_
          exact ih (c + 1) (by omega) (by omega)
        · refine V_aload_n dX8_core_84 rfl 5 rfl ?_
          refine g_29_27 tw_655 dX8_core_85 ?_
          refine V_iload dX8_core_88 2 rfl ?_
          refine V_iconst (v := 1) dX8_core_90 ki_1 ?_
          refine V_iload dX8_core_91 0 rfl ?_
          refine V_ishl dX8_core_93 ?_
          refine V_topi (v := nI (2 ^ c)) (sh1n c (by omega)) ?_
          refine V_iconst (v := -1) dX8_core_94 ki_m1 ?_
          refine V_ixor dX8_core_95 ?_
          refine V_iand dX8_core_96 ?_
          refine V_topi (v := nI (clr t c)) (nI_nd _ ht4) ?_
          refine l_50n (by omega) dX8_core_97 ?_
          refine V_topi (v := b2i (Hk own 12 (clr t c))) ((hB _ (clr_lt ht4 h3) (sub_clr ht4 hsub))) ?_
          refine V_ifb_eq 105 dX8_core_98 (by decide) (fun h4 => ?_) (fun h4 => ?_)
          · refine V_iconst (v := 0) dX8_core_105 ki_0 ?_
            refine V_topi (v := b2i (pt own t (c + 1))) (by rw [pt_s, h2, h3, h4]; rfl) ?_
            refine V_istore [(6, .int (b2i (pt own t (c + 1)))), (7, .int (nI c)), (5, .int (nI t)), (4, .int x4), (3, .int x3), (0, .ref (G.2.1 29)), (1, .int (nI j)), (2, .int i)] dX8_core_106 (Nat.le_of_ble_eq_true rfl) rfl ?_
            refine V_iinc [(7, .int (nI (c + 1))), (6, .int (b2i (pt own t (c + 1)))), (5, .int (nI t)), (4, .int x4), (3, .int x3), (0, .ref (G.2.1 29)), (1, .int (nI j)), (2, .int i)] dX8_core_108 1 rfl (nI_1 _) (Nat.le_of_ble_eq_true rfl) rfl ?_
            refine V_goto 60 dX8_core_111 (by decide) ?_
            refine V_lv [(7, .int (nI (c + 1))), (6, .int (b2i (pt own t (c + 1)))), (5, .int (nI t)), (4, .int x4), (3, .int x3), (0, .ref (G.2.1 29)), (1, .int (nI j)), (2, .int i)] [0, 1, 2, 3, 4, 5, 6, 7] rfl ?_
            exact ih (c + 1) (by omega) (by omega)
          · refine V_iconst (v := 1) dX8_core_101 ki_1 ?_
            refine V_goto 106 dX8_core_102 (by decide) ?_
            refine V_topi (v := b2i (pt own t (c + 1))) (by rw [pt_s, h2, h3, h4]; rfl) ?_
            refine V_istore [(6, .int (b2i (pt own t (c + 1)))), (7, .int (nI c)), (5, .int (nI t)), (4, .int x4), (3, .int x3), (0, .ref (G.2.1 29)), (1, .int (nI j)), (2, .int i)] dX8_core_106 (Nat.le_of_ble_eq_true rfl) rfl ?_
            refine V_iinc [(7, .int (nI (c + 1))), (6, .int (b2i (pt own t (c + 1)))), (5, .int (nI t)), (4, .int x4), (3, .int x3), (0, .ref (G.2.1 29)), (1, .int (nI j)), (2, .int i)] dX8_core_108 1 rfl (nI_1 _) (Nat.le_of_ble_eq_true rfl) rfl ?_
            refine V_goto 60 dX8_core_111 (by decide) ?_
            refine V_lv [(7, .int (nI (c + 1))), (6, .int (b2i (pt own t (c + 1)))), (5, .int (nI t)), (4, .int x4), (3, .int x3), (0, .ref (G.2.1 29)), (1, .int (nI j)), (2, .int i)] [0, 1, 2, 3, 4, 5, 6, 7] rfl ?_
            exact ih (c + 1) (by omega) (by omega)
theorem lp_mcore {G : GX} {d n y j ch : Nat} {i : Int32} {S : ST} {Q : Int32 → ST → Prop} (hn : S.1 10 = nI n) (h12 : n ≤ 12) (hg : S.1 13 = nI y) (hW : WF (S.2.2.1 39) y) (hj : j < n) (hch : ch < 4096) (ech : S.2.2.1 30 j = nI ch) (hq : ∀ S2, FrB S S2 → Q (if i = -1 then nI (cn (cor (owM S n y ch)) (2 ^ n)) else fdI (cor (owM S n y ch)) i (2 ^ n)) S2) : ∀ (k t : Nat) (S1 : ST), t ≤ 2 ^ n → 2 ^ n - t < k → FrB S S1 → BD (owM S n y ch) ch S1 t → V (pM G (d + 2) mX8_core (qi Q)) 29 [(5, .int (nI t)), (4, .int (fdI (cor (owM S n y ch)) i t)), (3, .int (nI (cn (cor (owM S n y ch)) t))), (0, .ref (G.2.1 29)), (1, .int (nI j)), (2, .int i)] [] S1 := by
  intro k
  induction k with
  | zero => intro t S1 ht hk; exact absurd hk (Nat.not_lt_zero _)
  | succ k ih =>
    intro t S1 ht hk hF hB
    have h2n := p2_le h12
    have hn1 : S1.1 10 = nI n := by rw [hF.1]; exact hn
    have e30 : S1.2.2.1 30 j = nI ch := by rw [hF.2.2.1 30 (by decide) (by decide)]; exact ech
    have hnd1 := nd_le t ch
    refine V_iload dX8_core_29 0 rfl ?_
    refine V_iconst (v := 1) dX8_core_31 ki_1 ?_
    refine V_aload_n dX8_core_32 rfl 3 rfl ?_
    refine g_29_0 tw_628 dX8_core_33 ?_
    refine V_topi (v := nI n) (id hn1) ?_
    refine V_ishl dX8_core_36 ?_
    refine V_topi (v := nI (2 ^ n)) (sh1n n h12) ?_
    refine V_icmp_gen 194 (a := t) (b := (2 ^ n)) dX8_core_37 (by decide) (by omega) (by omega) (fun h1 => ?_) (fun h1 => ?_)
    · refine V_iload_n dX8_core_194 rfl 5 rfl ?_
      refine V_iconst (v := -1) dX8_core_195 ki_m1 ?_
      refine V_icmp_ne 203 dX8_core_196 (by decide) (fun h2 => ?_) (fun h2 => ?_)
      · refine V_iload dX8_core_203 1 rfl ?_
        have ht2 : t = 2 ^ n := by omega
        subst ht2
        exact V_iret rfl dX8_core_205 ⟨_, rfl, qcast (hq S1 hF) (if_neg h2).symm⟩
      · refine V_iload_n dX8_core_199 rfl 2 rfl ?_
        refine V_goto 205 dX8_core_200 (by decide) ?_
        have ht2 : t = 2 ^ n := by omega
        subst ht2
        exact V_iret rfl dX8_core_205 ⟨_, rfl, qcast (hq S1 hF) (if_pos h2).symm⟩
    · refine V_iload dX8_core_40 0 rfl ?_
      refine V_aload_n dX8_core_42 rfl 3 rfl ?_
      refine g_29_1 tw_629 dX8_core_43 ?_
      refine V_iload_n dX8_core_46 rfl 4 rfl ?_
      refine l_30n (by omega) dX8_core_47 ?_
      refine V_topi (v := nI ch) (id e30) ?_
      refine V_iconst (v := -1) dX8_core_48 ki_m1 ?_
      refine V_ixor dX8_core_49 ?_
      refine V_iand dX8_core_50 ?_
      refine V_topi (v := nI (nd t ch)) (nI_nd ch (by omega)) ?_
      refine V_if_nen 188 (a := (nd t ch)) dX8_core_51 (by decide) (by omega) (fun h3 => ?_) (fun h3 => ?_)
      · have hsub := sub_f h3
        have hFt : cor (owM S n y ch) t = false := by unfold cor owM; rw [hsub]; rfl
        refine V_lveq [(5, .int (nI t)), (4, .int (fdI (cor (owM S n y ch)) i (t + 1))), (3, .int (nI (cn (cor (owM S n y ch)) (t + 1)))), (0, .ref (G.2.1 29)), (1, .int (nI j)), (2, .int i)] (by rw [cn_f hFt, fdI_f hFt]) ?_
        refine V_iinc [(5, .int (nI (t + 1))), (4, .int (fdI (cor (owM S n y ch)) i (t + 1))), (3, .int (nI (cn (cor (owM S n y ch)) (t + 1)))), (0, .ref (G.2.1 29)), (1, .int (nI j)), (2, .int i)] dX8_core_188 0 rfl (nI_1 _) (Nat.le_of_ble_eq_true rfl) rfl ?_
        refine V_goto 29 dX8_core_191 (by decide) ?_
        refine V_lv [(5, .int (nI (t + 1))), (4, .int (fdI (cor (owM S n y ch)) i (t + 1))), (3, .int (nI (cn (cor (owM S n y ch)) (t + 1)))), (0, .ref (G.2.1 29)), (1, .int (nI j)), (2, .int i)] [0, 1, 2, 3, 4, 5] rfl ?_
        exact ih (t + 1) S1 (by omega) (by omega) hF (hB.n hsub)
      · refine V_iconst (v := 0) dX8_core_54 ki_0 ?_
        refine V_istore [(6, .int 0), (5, .int (nI t)), (4, .int (fdI (cor (owM S n y ch)) i t)), (3, .int (nI (cn (cor (owM S n y ch)) t))), (0, .ref (G.2.1 29)), (1, .int (nI j)), (2, .int i)] dX8_core_55 (Nat.le_of_ble_eq_true rfl) rfl ?_
        refine V_iconst (v := 0) dX8_core_57 ki_0 ?_
        refine V_istore [(7, .int 0), (6, .int 0), (5, .int (nI t)), (4, .int (fdI (cor (owM S n y ch)) i t)), (3, .int (nI (cn (cor (owM S n y ch)) t))), (0, .ref (G.2.1 29)), (1, .int (nI j)), (2, .int i)] dX8_core_58 (Nat.le_of_ble_eq_true rfl) rfl ?_
        refine V_lv [(7, .int 0), (6, .int 0), (5, .int (nI t)), (4, .int (fdI (cor (owM S n y ch)) i t)), (3, .int (nI (cn (cor (owM S n y ch)) t))), (0, .ref (G.2.1 29)), (1, .int (nI j)), (2, .int i)] [0, 1, 2, 3, 4, 5, 6, 7] rfl ?_
        refine V_lveq [(7, .int (nI 0)), (6, .int (b2i (pt (owM S n y ch) t 0))), (5, .int (nI t)), (4, .int (fdI (cor (owM S n y ch)) i t)), (3, .int (nI (cn (cor (owM S n y ch)) t))), (0, .ref (G.2.1 29)), (1, .int (nI j)), (2, .int i)] (by rfl) ?_
        have hsub := sub_t h3
        refine lp_pt hn1 h12 (by omega) hB hsub ?_ (n + 1) 0 (by omega) (by omega)
        rcases hp : pt (owM S n y ch) t n with _ | _
        · refine V_lveq [(6, .int 0), (5, .int (nI t)), (4, .int (fdI (cor (owM S n y ch)) i t)), (3, .int (nI (cn (cor (owM S n y ch)) t))), (0, .ref (G.2.1 29)), (1, .int (nI j)), (2, .int i)] rfl ?_
          refine V_aload_n dX8_core_114 rfl 4 rfl ?_
          refine V_iload dX8_core_115 1 rfl ?_
          refine V_cVi (P := pM G (d + 2) mX8_core _) (d := d + 1) 29 (r := []) (As := [.int (nI t)]) (K := mX8_isSound) ok_X8_isSound tw_884 (ob_29 _) rfl (rmOk (Nat.le_of_ble_eq_true rfl)) (Nat.le_of_ble_eq_true rfl) dX8_core_117 rfl (c_X8_isSound hn1 h12 ?_)
          refine V_topi (v := b2i (snd (S.2.2.1 33) (nI t) n)) (by rw [hF.2.2.1 33 (by decide) (by decide)]) ?_
          refine V_ifb_eq 136 dX8_core_120 (by decide) (fun h4 => ?_) (fun h4 => ?_)
          · refine V_iconst (v := 0) dX8_core_136 ki_0 ?_
            have ho : owM S n y ch t = false := by unfold owM; rw [hsub, h4]; rfl
            have hp12 : pt (owM S n y ch) t 12 = false := by rw [pt_n (n := n) (by omega) h12]; exact hp
            have hH : Hk (owM S n y ch) 12 t = false := by rw [Hk_rec (by omega), ho, hp12]; rfl
            have hFt : cor (owM S n y ch) t = false := by unfold cor; rw [ho, hp12]; rfl
            refine V_istore [(7, .int 0), (6, .int 0), (5, .int (nI t)), (4, .int (fdI (cor (owM S n y ch)) i t)), (3, .int (nI (cn (cor (owM S n y ch)) t))), (0, .ref (G.2.1 29)), (1, .int (nI j)), (2, .int i)] dX8_core_137 (Nat.le_of_ble_eq_true rfl) rfl ?_
            refine V_aload_n dX8_core_139 rfl 5 rfl ?_
            refine g_29_27 tw_655 dX8_core_140 ?_
            refine V_iload dX8_core_143 2 rfl ?_
            refine V_iload dX8_core_145 1 rfl ?_
            refine V_if_ne 155 dX8_core_147 (by decide) (fun hz => absurd hz (by decide)) (fun _ => ?_)
            refine V_iload dX8_core_150 0 rfl ?_
            refine V_if_eq 159 dX8_core_152 (by decide) (fun _ => ?_) (fun hz => absurd hz (by decide))
            refine V_iconst (v := 0) dX8_core_159 ki_0 ?_
            refine s_50n (by omega) dX8_core_160 ?_
            refine V_iload dX8_core_161 0 rfl ?_
            refine V_if_eq 188 dX8_core_163 (by decide) (fun _ => ?_) (fun hz => absurd hz (by decide))
            refine V_lveq [(7, .int 0), (6, .int 0), (5, .int (nI t)), (4, .int (fdI (cor (owM S n y ch)) i (t + 1))), (3, .int (nI (cn (cor (owM S n y ch)) (t + 1)))), (0, .ref (G.2.1 29)), (1, .int (nI j)), (2, .int i)] (by rw [cn_f hFt, fdI_f hFt]) ?_
            refine V_iinc [(5, .int (nI (t + 1))), (7, .int 0), (6, .int 0), (4, .int (fdI (cor (owM S n y ch)) i (t + 1))), (3, .int (nI (cn (cor (owM S n y ch)) (t + 1)))), (0, .ref (G.2.1 29)), (1, .int (nI j)), (2, .int i)] dX8_core_188 2 rfl (nI_1 _) (Nat.le_of_ble_eq_true rfl) rfl ?_
            refine V_goto 29 dX8_core_191 (by decide) ?_
            refine V_lv [(5, .int (nI (t + 1))), (4, .int (fdI (cor (owM S n y ch)) i (t + 1))), (3, .int (nI (cn (cor (owM S n y ch)) (t + 1)))), (0, .ref (G.2.1 29)), (1, .int (nI j)), (2, .int i)] [0, 3, 4, 5, 6, 7] rfl ?_
            exact ih (t + 1) _ (by omega) (by omega) (hF.a _ _) (hB.s (by rw [hH]; rfl))
          · refine V_aload_n dX8_core_123 rfl 4 rfl ?_
            refine V_iload dX8_core_124 1 rfl ?_
            refine V_cVi (P := pM G (d + 2) mX8_core _) (d := d + 1) 29 (r := []) (As := [.int (nI t)]) (K := mX8_failsOf) ok_X8_failsOf tw_888 (ob_29 _) rfl (rmOk (Nat.le_of_ble_eq_true rfl)) (Nat.le_of_ble_eq_true rfl) dX8_core_126 rfl (c_X8_failsOf (y := y) (by rw [hF.1]; exact hg) (by rw [hF.2.2.1 39 (by decide) (by decide)]; exact hW) (by omega) (fun S2 hF2 => ?_))
            refine V_topi (v := b2i (tv (S.2.2.1 39) y t)) (by rw [hF.2.2.1 39 (by decide) (by decide)]) ?_
            refine V_ifb_eq 136 dX8_core_129 (by decide) (fun h5 => ?_) (fun h5 => ?_)
            · refine V_iconst (v := 0) dX8_core_136 ki_0 ?_
              have ho : owM S n y ch t = false := by unfold owM; rw [hsub, h4, h5]; rfl
              have hp12 : pt (owM S n y ch) t 12 = false := by rw [pt_n (n := n) (by omega) h12]; exact hp
              have hH : Hk (owM S n y ch) 12 t = false := by rw [Hk_rec (by omega), ho, hp12]; rfl
              have hFt : cor (owM S n y ch) t = false := by unfold cor; rw [ho, hp12]; rfl
              refine V_istore [(7, .int 0), (6, .int 0), (5, .int (nI t)), (4, .int (fdI (cor (owM S n y ch)) i t)), (3, .int (nI (cn (cor (owM S n y ch)) t))), (0, .ref (G.2.1 29)), (1, .int (nI j)), (2, .int i)] dX8_core_137 (Nat.le_of_ble_eq_true rfl) rfl ?_
              refine V_aload_n dX8_core_139 rfl 5 rfl ?_
              refine g_29_27 tw_655 dX8_core_140 ?_
              refine V_iload dX8_core_143 2 rfl ?_
              refine V_iload dX8_core_145 1 rfl ?_
              refine V_if_ne 155 dX8_core_147 (by decide) (fun hz => absurd hz (by decide)) (fun _ => ?_)
              refine V_iload dX8_core_150 0 rfl ?_
              refine V_if_eq 159 dX8_core_152 (by decide) (fun _ => ?_) (fun hz => absurd hz (by decide))
              refine V_iconst (v := 0) dX8_core_159 ki_0 ?_
              refine s_50n (by omega) dX8_core_160 ?_
              refine V_iload dX8_core_161 0 rfl ?_
              refine V_if_eq 188 dX8_core_163 (by decide) (fun _ => ?_) (fun hz => absurd hz (by decide))
              refine V_lveq [(7, .int 0), (6, .int 0), (5, .int (nI t)), (4, .int (fdI (cor (owM S n y ch)) i (t + 1))), (3, .int (nI (cn (cor (owM S n y ch)) (t + 1)))), (0, .ref (G.2.1 29)), (1, .int (nI j)), (2, .int i)] (by rw [cn_f hFt, fdI_f hFt]) ?_
              refine V_iinc [(5, .int (nI (t + 1))), (7, .int 0), (6, .int 0), (4, .int (fdI (cor (owM S n y ch)) i (t + 1))), (3, .int (nI (cn (cor (owM S n y ch)) (t + 1)))), (0, .ref (G.2.1 29)), (1, .int (nI j)), (2, .int i)] dX8_core_188 2 rfl (nI_1 _) (Nat.le_of_ble_eq_true rfl) rfl ?_
              refine V_goto 29 dX8_core_191 (by decide) ?_
              refine V_lv [(5, .int (nI (t + 1))), (4, .int (fdI (cor (owM S n y ch)) i (t + 1))), (3, .int (nI (cn (cor (owM S n y ch)) (t + 1)))), (0, .ref (G.2.1 29)), (1, .int (nI j)), (2, .int i)] [0, 3, 4, 5, 6, 7] rfl ?_
              exact ih (t + 1) _ (by omega) (by omega) ((hF.p hF2).a _ _) ((hB.p hF2).s (by rw [hH]; rfl))
            · refine V_iconst (v := 1) dX8_core_132 ki_1 ?_
              refine V_goto 137 dX8_core_133 (by decide) ?_
              have ho : owM S n y ch t = true := by unfold owM; rw [hsub, h4, h5]; rfl
              have hp12 : pt (owM S n y ch) t 12 = false := by rw [pt_n (n := n) (by omega) h12]; exact hp
              have hH : Hk (owM S n y ch) 12 t = true := by rw [Hk_rec (by omega), ho, hp12]; rfl
              have hFt : cor (owM S n y ch) t = true := by unfold cor; rw [ho, hp12]; rfl
              refine V_istore [(7, .int 1), (6, .int 0), (5, .int (nI t)), (4, .int (fdI (cor (owM S n y ch)) i t)), (3, .int (nI (cn (cor (owM S n y ch)) t))), (0, .ref (G.2.1 29)), (1, .int (nI j)), (2, .int i)] dX8_core_137 (Nat.le_of_ble_eq_true rfl) rfl ?_
              refine V_aload_n dX8_core_139 rfl 5 rfl ?_
              refine g_29_27 tw_655 dX8_core_140 ?_
              refine V_iload dX8_core_143 2 rfl ?_
              refine V_iload dX8_core_145 1 rfl ?_
              refine V_if_ne 155 dX8_core_147 (by decide) (fun hz => absurd hz (by decide)) (fun _ => ?_)
              refine V_iload dX8_core_150 0 rfl ?_
              refine V_if_eq 159 dX8_core_152 (by decide) (fun hz => absurd hz (by decide)) (fun _ => ?_)
              refine V_iconst (v := 1) dX8_core_155 ki_1 ?_
              refine V_goto 160 dX8_core_156 (by decide) ?_
              refine s_50n (by omega) dX8_core_160 ?_
              refine V_iload dX8_core_161 0 rfl ?_
              refine V_if_eq 188 dX8_core_163 (by decide) (fun hz => absurd hz (by decide)) (fun _ => ?_)
              refine V_iload dX8_core_166 1 rfl ?_
              refine V_if_ne 188 dX8_core_168 (by decide) (fun hz => absurd hz (by decide)) (fun _ => ?_)
              refine V_iload_n dX8_core_171 rfl 4 rfl ?_
              refine V_iload_n dX8_core_172 rfl 7 rfl ?_
              refine V_icmp_ne 181 dX8_core_173 (by decide) (fun h6 => ?_) (fun h6 => ?_)
              · refine V_iload dX8_core_181 3 rfl ?_
                refine V_istore [(4, .int (fdI (cor (owM S n y ch)) i t)), (7, .int 1), (6, .int 0), (5, .int (nI t)), (3, .int (nI (cn (cor (owM S n y ch)) t))), (0, .ref (G.2.1 29)), (1, .int (nI j)), (2, .int i)] dX8_core_183 (Nat.le_of_ble_eq_true rfl) rfl ?_
                refine V_iinc [(3, .int (nI ((cn (cor (owM S n y ch)) t) + 1))), (4, .int (fdI (cor (owM S n y ch)) i t)), (7, .int 1), (6, .int 0), (5, .int (nI t)), (0, .ref (G.2.1 29)), (1, .int (nI j)), (2, .int i)] dX8_core_185 4 rfl (nI_1 _) (Nat.le_of_ble_eq_true rfl) rfl ?_
                refine V_lveq [(3, .int (nI (cn (cor (owM S n y ch)) (t + 1)))), (4, .int (fdI (cor (owM S n y ch)) i (t + 1))), (7, .int 1), (6, .int 0), (5, .int (nI t)), (0, .ref (G.2.1 29)), (1, .int (nI j)), (2, .int i)] (by rw [cn_t hFt, fdI_n h6]) ?_
                refine V_iinc [(5, .int (nI (t + 1))), (3, .int (nI (cn (cor (owM S n y ch)) (t + 1)))), (4, .int (fdI (cor (owM S n y ch)) i (t + 1))), (7, .int 1), (6, .int 0), (0, .ref (G.2.1 29)), (1, .int (nI j)), (2, .int i)] dX8_core_188 4 rfl (nI_1 _) (Nat.le_of_ble_eq_true rfl) rfl ?_
                refine V_goto 29 dX8_core_191 (by decide) ?_
                refine V_lv [(5, .int (nI (t + 1))), (4, .int (fdI (cor (owM S n y ch)) i (t + 1))), (3, .int (nI (cn (cor (owM S n y ch)) (t + 1)))), (0, .ref (G.2.1 29)), (1, .int (nI j)), (2, .int i)] [0, 2, 1, 5, 6, 7] rfl ?_
                exact ih (t + 1) _ (by omega) (by omega) ((hF.p hF2).a _ _) ((hB.p hF2).s (by rw [hH]; rfl))
              · refine V_iload dX8_core_176 2 rfl ?_
                refine V_goto 183 dX8_core_178 (by decide) ?_
                refine V_istore [(4, .int (nI t)), (7, .int 1), (6, .int 0), (5, .int (nI t)), (3, .int (nI (cn (cor (owM S n y ch)) t))), (0, .ref (G.2.1 29)), (1, .int (nI j)), (2, .int i)] dX8_core_183 (Nat.le_of_ble_eq_true rfl) rfl ?_
                refine V_iinc [(3, .int (nI ((cn (cor (owM S n y ch)) t) + 1))), (4, .int (nI t)), (7, .int 1), (6, .int 0), (5, .int (nI t)), (0, .ref (G.2.1 29)), (1, .int (nI j)), (2, .int i)] dX8_core_185 4 rfl (nI_1 _) (Nat.le_of_ble_eq_true rfl) rfl ?_
                refine V_lveq [(3, .int (nI (cn (cor (owM S n y ch)) (t + 1)))), (4, .int (fdI (cor (owM S n y ch)) i (t + 1))), (7, .int 1), (6, .int 0), (5, .int (nI t)), (0, .ref (G.2.1 29)), (1, .int (nI j)), (2, .int i)] (by rw [cn_t hFt, fdI_t hFt h6]) ?_
                refine V_iinc [(5, .int (nI (t + 1))), (3, .int (nI (cn (cor (owM S n y ch)) (t + 1)))), (4, .int (fdI (cor (owM S n y ch)) i (t + 1))), (7, .int 1), (6, .int 0), (0, .ref (G.2.1 29)), (1, .int (nI j)), (2, .int i)] dX8_core_188 4 rfl (nI_1 _) (Nat.le_of_ble_eq_true rfl) rfl ?_
                refine V_goto 29 dX8_core_191 (by decide) ?_
                refine V_lv [(5, .int (nI (t + 1))), (4, .int (fdI (cor (owM S n y ch)) i (t + 1))), (3, .int (nI (cn (cor (owM S n y ch)) (t + 1)))), (0, .ref (G.2.1 29)), (1, .int (nI j)), (2, .int i)] [0, 2, 1, 5, 6, 7] rfl ?_
                exact ih (t + 1) _ (by omega) (by omega) ((hF.p hF2).a _ _) ((hB.p hF2).s (by rw [hH]; rfl))
        · refine V_lveq [(6, .int 1), (5, .int (nI t)), (4, .int (fdI (cor (owM S n y ch)) i t)), (3, .int (nI (cn (cor (owM S n y ch)) t))), (0, .ref (G.2.1 29)), (1, .int (nI j)), (2, .int i)] rfl ?_
          refine V_aload_n dX8_core_114 rfl 4 rfl ?_
          refine V_iload dX8_core_115 1 rfl ?_
          refine V_cVi (P := pM G (d + 2) mX8_core _) (d := d + 1) 29 (r := []) (As := [.int (nI t)]) (K := mX8_isSound) ok_X8_isSound tw_884 (ob_29 _) rfl (rmOk (Nat.le_of_ble_eq_true rfl)) (Nat.le_of_ble_eq_true rfl) dX8_core_117 rfl (c_X8_isSound hn1 h12 ?_)
          refine V_topi (v := b2i (snd (S.2.2.1 33) (nI t) n)) (by rw [hF.2.2.1 33 (by decide) (by decide)]) ?_
          refine V_ifb_eq 136 dX8_core_120 (by decide) (fun h7 => ?_) (fun h7 => ?_)
          · refine V_iconst (v := 0) dX8_core_136 ki_0 ?_
            have ho : owM S n y ch t = false := by unfold owM; rw [hsub, h7]; rfl
            have hp12 : pt (owM S n y ch) t 12 = true := by rw [pt_n (n := n) (by omega) h12]; exact hp
            have hH : Hk (owM S n y ch) 12 t = true := by rw [Hk_rec (by omega), ho, hp12]; rfl
            have hFt : cor (owM S n y ch) t = false := by unfold cor; rw [ho, hp12]; rfl
            refine V_istore [(7, .int 0), (6, .int 1), (5, .int (nI t)), (4, .int (fdI (cor (owM S n y ch)) i t)), (3, .int (nI (cn (cor (owM S n y ch)) t))), (0, .ref (G.2.1 29)), (1, .int (nI j)), (2, .int i)] dX8_core_137 (Nat.le_of_ble_eq_true rfl) rfl ?_
            refine V_aload_n dX8_core_139 rfl 5 rfl ?_
            refine g_29_27 tw_655 dX8_core_140 ?_
            refine V_iload dX8_core_143 2 rfl ?_
            refine V_iload dX8_core_145 1 rfl ?_
            refine V_if_ne 155 dX8_core_147 (by decide) (fun _ => ?_) (fun hz => absurd hz (by decide))
            refine V_iconst (v := 1) dX8_core_155 ki_1 ?_
            refine V_goto 160 dX8_core_156 (by decide) ?_
            refine s_50n (by omega) dX8_core_160 ?_
            refine V_iload dX8_core_161 0 rfl ?_
            refine V_if_eq 188 dX8_core_163 (by decide) (fun _ => ?_) (fun hz => absurd hz (by decide))
            refine V_lveq [(7, .int 0), (6, .int 1), (5, .int (nI t)), (4, .int (fdI (cor (owM S n y ch)) i (t + 1))), (3, .int (nI (cn (cor (owM S n y ch)) (t + 1)))), (0, .ref (G.2.1 29)), (1, .int (nI j)), (2, .int i)] (by rw [cn_f hFt, fdI_f hFt]) ?_
            refine V_iinc [(5, .int (nI (t + 1))), (7, .int 0), (6, .int 1), (4, .int (fdI (cor (owM S n y ch)) i (t + 1))), (3, .int (nI (cn (cor (owM S n y ch)) (t + 1)))), (0, .ref (G.2.1 29)), (1, .int (nI j)), (2, .int i)] dX8_core_188 2 rfl (nI_1 _) (Nat.le_of_ble_eq_true rfl) rfl ?_
            refine V_goto 29 dX8_core_191 (by decide) ?_
            refine V_lv [(5, .int (nI (t + 1))), (4, .int (fdI (cor (owM S n y ch)) i (t + 1))), (3, .int (nI (cn (cor (owM S n y ch)) (t + 1)))), (0, .ref (G.2.1 29)), (1, .int (nI j)), (2, .int i)] [0, 3, 4, 5, 6, 7] rfl ?_
            exact ih (t + 1) _ (by omega) (by omega) (hF.a _ _) (hB.s (by rw [hH]; rfl))
          · refine V_aload_n dX8_core_123 rfl 4 rfl ?_
            refine V_iload dX8_core_124 1 rfl ?_
            refine V_cVi (P := pM G (d + 2) mX8_core _) (d := d + 1) 29 (r := []) (As := [.int (nI t)]) (K := mX8_failsOf) ok_X8_failsOf tw_888 (ob_29 _) rfl (rmOk (Nat.le_of_ble_eq_true rfl)) (Nat.le_of_ble_eq_true rfl) dX8_core_126 rfl (c_X8_failsOf (y := y) (by rw [hF.1]; exact hg) (by rw [hF.2.2.1 39 (by decide) (by decide)]; exact hW) (by omega) (fun S2 hF2 => ?_))
            refine V_topi (v := b2i (tv (S.2.2.1 39) y t)) (by rw [hF.2.2.1 39 (by decide) (by decide)]) ?_
            refine V_ifb_eq 136 dX8_core_129 (by decide) (fun h8 => ?_) (fun h8 => ?_)
            · refine V_iconst (v := 0) dX8_core_136 ki_0 ?_
              have ho : owM S n y ch t = false := by unfold owM; rw [hsub, h7, h8]; rfl
              have hp12 : pt (owM S n y ch) t 12 = true := by rw [pt_n (n := n) (by omega) h12]; exact hp
              have hH : Hk (owM S n y ch) 12 t = true := by rw [Hk_rec (by omega), ho, hp12]; rfl
              have hFt : cor (owM S n y ch) t = false := by unfold cor; rw [ho, hp12]; rfl
              refine V_istore [(7, .int 0), (6, .int 1), (5, .int (nI t)), (4, .int (fdI (cor (owM S n y ch)) i t)), (3, .int (nI (cn (cor (owM S n y ch)) t))), (0, .ref (G.2.1 29)), (1, .int (nI j)), (2, .int i)] dX8_core_137 (Nat.le_of_ble_eq_true rfl) rfl ?_
              refine V_aload_n dX8_core_139 rfl 5 rfl ?_
              refine g_29_27 tw_655 dX8_core_140 ?_
              refine V_iload dX8_core_143 2 rfl ?_
              refine V_iload dX8_core_145 1 rfl ?_
              refine V_if_ne 155 dX8_core_147 (by decide) (fun _ => ?_) (fun hz => absurd hz (by decide))
              refine V_iconst (v := 1) dX8_core_155 ki_1 ?_
              refine V_goto 160 dX8_core_156 (by decide) ?_
              refine s_50n (by omega) dX8_core_160 ?_
              refine V_iload dX8_core_161 0 rfl ?_
              refine V_if_eq 188 dX8_core_163 (by decide) (fun _ => ?_) (fun hz => absurd hz (by decide))
              refine V_lveq [(7, .int 0), (6, .int 1), (5, .int (nI t)), (4, .int (fdI (cor (owM S n y ch)) i (t + 1))), (3, .int (nI (cn (cor (owM S n y ch)) (t + 1)))), (0, .ref (G.2.1 29)), (1, .int (nI j)), (2, .int i)] (by rw [cn_f hFt, fdI_f hFt]) ?_
              refine V_iinc [(5, .int (nI (t + 1))), (7, .int 0), (6, .int 1), (4, .int (fdI (cor (owM S n y ch)) i (t + 1))), (3, .int (nI (cn (cor (owM S n y ch)) (t + 1)))), (0, .ref (G.2.1 29)), (1, .int (nI j)), (2, .int i)] dX8_core_188 2 rfl (nI_1 _) (Nat.le_of_ble_eq_true rfl) rfl ?_
              refine V_goto 29 dX8_core_191 (by decide) ?_
              refine V_lv [(5, .int (nI (t + 1))), (4, .int (fdI (cor (owM S n y ch)) i (t + 1))), (3, .int (nI (cn (cor (owM S n y ch)) (t + 1)))), (0, .ref (G.2.1 29)), (1, .int (nI j)), (2, .int i)] [0, 3, 4, 5, 6, 7] rfl ?_
              exact ih (t + 1) _ (by omega) (by omega) ((hF.p hF2).a _ _) ((hB.p hF2).s (by rw [hH]; rfl))
            · refine V_iconst (v := 1) dX8_core_132 ki_1 ?_
              refine V_goto 137 dX8_core_133 (by decide) ?_
              have ho : owM S n y ch t = true := by unfold owM; rw [hsub, h7, h8]; rfl
              have hp12 : pt (owM S n y ch) t 12 = true := by rw [pt_n (n := n) (by omega) h12]; exact hp
              have hH : Hk (owM S n y ch) 12 t = true := by rw [Hk_rec (by omega), ho, hp12]; rfl
              have hFt : cor (owM S n y ch) t = false := by unfold cor; rw [ho, hp12]; rfl
              refine V_istore [(7, .int 1), (6, .int 1), (5, .int (nI t)), (4, .int (fdI (cor (owM S n y ch)) i t)), (3, .int (nI (cn (cor (owM S n y ch)) t))), (0, .ref (G.2.1 29)), (1, .int (nI j)), (2, .int i)] dX8_core_137 (Nat.le_of_ble_eq_true rfl) rfl ?_
              refine V_aload_n dX8_core_139 rfl 5 rfl ?_
              refine g_29_27 tw_655 dX8_core_140 ?_
              refine V_iload dX8_core_143 2 rfl ?_
              refine V_iload dX8_core_145 1 rfl ?_
              refine V_if_ne 155 dX8_core_147 (by decide) (fun _ => ?_) (fun hz => absurd hz (by decide))
              refine V_iconst (v := 1) dX8_core_155 ki_1 ?_
              refine V_goto 160 dX8_core_156 (by decide) ?_
              refine s_50n (by omega) dX8_core_160 ?_
              refine V_iload dX8_core_161 0 rfl ?_
              refine V_if_eq 188 dX8_core_163 (by decide) (fun hz => absurd hz (by decide)) (fun _ => ?_)
              refine V_iload dX8_core_166 1 rfl ?_
              refine V_if_ne 188 dX8_core_168 (by decide) (fun _ => ?_) (fun hz => absurd hz (by decide))
              refine V_lveq [(7, .int 1), (6, .int 1), (5, .int (nI t)), (4, .int (fdI (cor (owM S n y ch)) i (t + 1))), (3, .int (nI (cn (cor (owM S n y ch)) (t + 1)))), (0, .ref (G.2.1 29)), (1, .int (nI j)), (2, .int i)] (by rw [cn_f hFt, fdI_f hFt]) ?_
              refine V_iinc [(5, .int (nI (t + 1))), (7, .int 1), (6, .int 1), (4, .int (fdI (cor (owM S n y ch)) i (t + 1))), (3, .int (nI (cn (cor (owM S n y ch)) (t + 1)))), (0, .ref (G.2.1 29)), (1, .int (nI j)), (2, .int i)] dX8_core_188 2 rfl (nI_1 _) (Nat.le_of_ble_eq_true rfl) rfl ?_
              refine V_goto 29 dX8_core_191 (by decide) ?_
              refine V_lv [(5, .int (nI (t + 1))), (4, .int (fdI (cor (owM S n y ch)) i (t + 1))), (3, .int (nI (cn (cor (owM S n y ch)) (t + 1)))), (0, .ref (G.2.1 29)), (1, .int (nI j)), (2, .int i)] [0, 3, 4, 5, 6, 7] rfl ?_
              exact ih (t + 1) _ (by omega) (by omega) ((hF.p hF2).a _ _) ((hB.p hF2).s (by rw [hH]; rfl))
def corM (S : ST) (n y : Nat) (v i : Int32) : Int32 := corR n v i (decide (0 < y)) (cor (owM S n y (hv (S.2.2.1 30) v))) (2 ^ n)
theorem c_X8_core {G : GX} {d : Nat} {S : ST} {v i : Int32} {n y : Nat} {Q : Int32 → ST → Prop} (hn : S.1 10 = nI n) (h12 : n ≤ 12) (hg : S.1 13 = nI y) (hy : y ≤ 40) (hW : 0 < y → WF (S.2.2.1 39) y) (hS : ∀ v, v < n → ∃ t, t < 4096 ∧ S.2.2.1 30 v = nI t) (hq : ∀ S2, FrB S S2 → Q (corM S n y v i) S2) : Cn G (d + 2) mX8_core [.ref (G.2.1 29), .int v, .int i] S (qi Q) := by
  refine Cn.intro (lv := [(0, .ref (G.2.1 29)), (1, .int v), (2, .int i)]) (by decide) (Nat.le_of_ble_eq_true rfl) rfl ?_
  refine V_aload_n dX8_core_0 rfl 0 rfl ?_
  refine V_iload_n dX8_core_1 rfl 1 rfl ?_
  refine V_cVi (P := pM G (d + 2) mX8_core _) (d := d + 1) 29 (r := []) (As := [.int v]) (K := mX8_isVersion) ok_X8_isVersion tw_717 (ob_29 _) rfl (rmOk (Nat.le_of_ble_eq_true rfl)) (Nat.le_of_ble_eq_true rfl) dX8_core_2 rfl (c_X8_isVersion hn h12 ?_)
  refine V_ifb_ne 10 dX8_core_5 (by decide) (fun h1 => ?_) (fun h1 => ?_)
  · refine V_aload_n dX8_core_10 rfl 0 rfl ?_
    refine g_29_12 tw_640 dX8_core_11 ?_
    refine V_topi (v := nI y) (id hg) ?_
    refine V_if_nen 20 (a := y) dX8_core_14 (by decide) (by omega) (fun h2 => ?_) (fun h2 => ?_)
    · obtain ⟨j, hj, rfl⟩ := kn_ex h1 (by omega)
      obtain ⟨ch, hch, ech⟩ := hS j hj
      refine V_iconst (v := 0) dX8_core_20 ki_0 ?_
      refine V_istore_n [(3, .int 0), (0, .ref (G.2.1 29)), (1, .int (nI j)), (2, .int i)] dX8_core_21 rfl (Nat.le_of_ble_eq_true rfl) rfl ?_
      refine V_bipush (v := -6) dX8_core_22 kb_m6 ?_
      refine V_istore [(4, .int (-6)), (3, .int 0), (0, .ref (G.2.1 29)), (1, .int (nI j)), (2, .int i)] dX8_core_24 (Nat.le_of_ble_eq_true rfl) rfl ?_
      refine V_iconst (v := 0) dX8_core_26 ki_0 ?_
      refine V_istore [(5, .int 0), (4, .int (-6)), (3, .int 0), (0, .ref (G.2.1 29)), (1, .int (nI j)), (2, .int i)] dX8_core_27 (Nat.le_of_ble_eq_true rfl) rfl ?_
      refine V_lv [(5, .int 0), (4, .int (-6)), (3, .int 0), (0, .ref (G.2.1 29)), (1, .int (nI j)), (2, .int i)] [0, 1, 2, 3, 4, 5] rfl ?_
      refine V_lveq [(5, .int (nI 0)), (4, .int (fdI (cor (owM S n y ch)) i 0)), (3, .int (nI (cn (cor (owM S n y ch)) 0))), (0, .ref (G.2.1 29)), (1, .int (nI j)), (2, .int i)] (by rfl) ?_
      exact lp_mcore hn h12 hg (hW h2) hj hch ech (fun S2 hF => qcast (hq S2 hF) (by unfold corM corR; rw [hv_j (by omega) hch ech, if_pos h1, if_pos (decide_eq_true h2)])) (2 ^ n + 1) 0 S (Nat.zero_le _) (Nat.lt_succ_of_le (Nat.sub_le _ _)) (FrB.rf S) (fun s hs => absurd hs (Nat.not_lt_zero _))
    · refine V_bipush (v := -3) dX8_core_17 kb_m3 ?_
      exact V_iret rfl dX8_core_19 ⟨_, rfl, qcast (hq S (FrB.rf S)) (by unfold corM; rw [corR_3 h1 (decide_eq_false (by omega))])⟩
  · refine V_iconst (v := -1) dX8_core_8 ki_m1 ?_
    exact V_iret rfl dX8_core_9 ⟨_, rfl, qcast (hq S (FrB.rf S)) (by unfold corM; rw [corR_1 h1])⟩
