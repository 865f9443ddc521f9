theorem lp_mplay {G : GX} {d n y : Nat} {q : Int32} {Q : Int32 → ST → Prop} (h12 : n ≤ 12) : ∀ (k i : Nat) (T S0 S : ST) (x z : Int32), i ≤ 12 → 12 - i < k → FrN T S0 → MS S0 i (stl n) S → DTm T i → HM n y T → (∀ S2, FrN (plM n y q (12 - i) i T) S2 → Q (S2.1 11) S2) → V (pM G (d + 5) mX8_play (qi Q)) 76 [(3, .int x), (2, .int z), (0, .ref (G.2.1 29)), (1, .int q)] [] S := by
  intro k
  induction k with
  | zero => intro i T S0 S x z hi hk; exact absurd hk (Nat.not_lt_zero _)
  | succ k ih =>
    intro i T S0 S x z hi hk hN hM hD hH hq
    have hNS := hN.tr hM.1.n
    have e11 : S.1 11 = nI i := (hNS.1 11 (by decide)).trans hD.1
    have e13 : S.1 13 = nI y := (hNS.1 13 (by decide)).trans hH.2.1
    have e39 : S.2.2.1 39 = T.2.2.1 39 := hNS.c (by decide)
    have w39 : WF (S.2.2.1 39) y := by rw [e39]; exact hH.2.2.1
    obtain ⟨j, hj, -, ej⟩ := nfo_some (co := T.2.2.1 32) (ls := lsM T i n 1) h12 hH.2.2.2.2
    obtain ⟨t, ht, et⟩ := hH.2.2.2.1 j hj
    have e30 : S.2.2.1 30 j = nI t := by rw [hNS.c (c := 30) (by decide)]; exact et
    refine V_aload_n dX8_play_76 rfl 2 rfl ?_
    refine g_29_6 tw_634 dX8_play_77 ?_
    refine V_topi (v := nI i) (id e11) ?_
    refine V_bipush (v := 12) dX8_play_80 kb_12 ?_
    refine V_icmp_gen 153 (a := i) (b := 12) dX8_play_82 (by decide) (by omega) (by omega) (fun h1 => ?_) (fun h1 => ?_)
    · refine V_aload_n dX8_play_153 rfl 2 rfl ?_
      refine g_29_6 tw_634 dX8_play_154 ?_
      refine V_topi (v := nI i) (id e11) ?_
      exact V_iret rfl dX8_play_157 ⟨_, rfl, qcast (hq S (by rw [show 12 - i = 0 by omega]; exact hNS)) e11.symm⟩
    · refine V_aload_n dX8_play_85 rfl 2 rfl ?_
      refine V_iload_n dX8_play_86 rfl 3 rfl ?_
      refine V_cVi (P := pM G (d + 5) mX8_play _) (d := d + 4) 29 (r := []) (As := [.int q]) (K := mX8_isSure) ok_X8_isSure tw_896 (ob_29 _) rfl (rmOk (Nat.le_of_ble_eq_true rfl)) (Nat.le_of_ble_eq_true rfl) dX8_play_87 rfl (c_X8_isSure hM h12 ?_)
      refine V_topi (v := b2i (isu (wMX T i) (stl n) q)) (by rw [hN.wMX]) ?_
      refine V_ifb_ne 153 dX8_play_90 (by decide) (fun h2 => ?_) (fun h2 => ?_)
      · refine V_aload_n dX8_play_153 rfl 2 rfl ?_
        refine g_29_6 tw_634 dX8_play_154 ?_
        refine V_topi (v := nI i) (id e11) ?_
        exact V_iret rfl dX8_play_157 ⟨_, rfl, qcast (hq S (by rw [show 12 - i = (12 - (i + 1)) + 1 by omega, plM_1 h2]; exact hNS)) e11.symm⟩
      · refine V_aload_n dX8_play_93 rfl 2 rfl ?_
        refine V_iconst (v := 1) dX8_play_94 ki_1 ?_
        refine V_cVi (P := pM G (d + 5) mX8_play _) (d := d + 4) 29 (r := []) (As := [.int 1]) (K := mX8_nextOf) ok_X8_nextOf tw_828 (ob_29 _) rfl (rmOk (Nat.le_of_ble_eq_true rfl)) (Nat.le_of_ble_eq_true rfl) dX8_play_95 rfl (c_X8_nextOf1 hM ((hN.1 10 (by decide)).trans hH.1) h12 ?_)
        refine V_topi (v := nI j) (by rw [hN.c (c := 34) (by decide), hN.c (c := 32) (by decide), hN.lsM]; exact ej) ?_
        refine V_istore_n [(3, .int (nI j)), (2, .int z), (0, .ref (G.2.1 29)), (1, .int q)] dX8_play_98 rfl (Nat.le_of_ble_eq_true rfl) rfl ?_
        refine V_aload_n dX8_play_99 rfl 2 rfl ?_
        refine g_29_7 tw_635 dX8_play_100 ?_
        refine V_aload_n dX8_play_103 rfl 2 rfl ?_
        refine g_29_6 tw_634 dX8_play_104 ?_
        refine V_topi (v := nI i) (id e11) ?_
        refine V_iload_n dX8_play_107 rfl 0 rfl ?_
        refine s_35n (by omega) dX8_play_108 ?_
        refine V_aload_n dX8_play_109 rfl 2 rfl ?_
        refine g_29_8 tw_636 dX8_play_110 ?_
        refine V_aload_n dX8_play_113 rfl 2 rfl ?_
        refine g_29_6 tw_634 dX8_play_114 ?_
        refine V_topi (v := S.1 11) rfl ?_
        refine V_topi (v := nI i) (id e11) ?_
        refine V_aload_n dX8_play_117 rfl 2 rfl ?_
        refine V_aload_n dX8_play_118 rfl 2 rfl ?_
        refine g_29_1 tw_629 dX8_play_119 ?_
        refine V_iload_n dX8_play_122 rfl 0 rfl ?_
        refine l_30n (by omega) dX8_play_123 ?_
        refine V_topi (v := S.2.2.1 30 j) rfl ?_
        refine V_topi (v := nI t) (id e30) ?_
        refine V_cVi (P := pM G (d + 5) mX8_play _) (d := d + 4) 29 (r := [.int (nI i), .ref (G.2.1 36)]) (As := [.int (nI t)]) (K := mX8_failsOf) ok_X8_failsOf tw_888 (ob_29 _) rfl (rmOk (Nat.le_of_ble_eq_true rfl)) (Nat.le_of_ble_eq_true rfl) dX8_play_124 rfl (c_X8_failsOf (y := y) e13 w39 ht (fun S2 hF => ?_))
        refine V_topi (v := b2i (tv (T.2.2.1 39) y t)) (by show b2i (tv (S.2.2.1 39) y t) = _; rw [e39]) ?_
        have e11b : S2.1 11 = nI i := by rw [hF.1]; exact e11
        refine V_ifb_ne 134 dX8_play_127 (by decide) (fun h3 => ?_) (fun h3 => ?_)
        · refine V_iconst (v := 0) dX8_play_134 ki_0 ?_
          refine s_36n (by omega) dX8_play_135 ?_
          refine V_aload_n dX8_play_136 rfl 2 rfl ?_
          refine V_dup dX8_play_137 rfl ?_
          refine g_29_6 tw_634 dX8_play_138 ?_
          refine V_topi (v := S2.1 11) rfl ?_
          refine V_topi (v := nI i) (id e11b) ?_
          refine V_iconst (v := 1) dX8_play_141 ki_1 ?_
          refine V_iadd dX8_play_142 ?_
          refine V_topi (v := nI (i + 1)) (nI_1 _) ?_
          refine p_29_6 tw_634 dX8_play_143 ?_
          refine V_aload_n dX8_play_146 rfl 2 rfl ?_
          have hA := (hNS.a (c := 35) i (nI j) (hNS.c (by decide))).tr hF.n
          have hN3 : FrN (plsM T i (nI j) false) (setI (setA S2 36 i (vp_nar .boolean 0)) 11 (nI (i + 1))) := (hA.a (c := 36) i (b2i false) (hA.c (by decide))).i 11 (nI (i + 1))
          refine V_cVv (P := pM G (d + 5) mX8_play _) (d := d + 4) 29 (r := []) (As := []) (K := mX8_layStories) ok_X8_layStories tw_784 (ob_29 _) rfl (rmOk (Nat.le_of_ble_eq_true rfl)) (Nat.le_of_ble_eq_true rfl) dX8_play_147 rfl (c_X8_layStories (m := i + 1) ((hN3.1 10 (by decide)).trans hH.1) (hN3.DTm (DTm_pls hD h1 (by omega))) h12 (fun S3 hM3 => ?_))
          refine V_goto 76 dX8_play_150 (by decide) ?_
          refine V_lv [(3, .int (nI j)), (2, .int z), (0, .ref (G.2.1 29)), (1, .int q)] [0, 1, 2, 3] rfl ?_
          have hb : tvM T y (nI j) = true := by unfold tvM; rw [nI_clamp (show j < 2 ^ 31 by omega), et, nI_clamp (show t < 2 ^ 31 by omega)]; exact h3
          rw [show 12 - i = (12 - (i + 1)) + 1 by omega, plM_2 h2, show nvM T i n = nI j from ej, hb] at hq
          exact ih (i + 1) _ _ S3 _ _ (by omega) (by omega) hN3 hM3 (DTm_pls hD h1 (by omega)) (HM_pls hH) hq
        · refine V_iconst (v := 1) dX8_play_130 ki_1 ?_
          refine V_goto 135 dX8_play_131 (by decide) ?_
          refine s_36n (by omega) dX8_play_135 ?_
          refine V_aload_n dX8_play_136 rfl 2 rfl ?_
          refine V_dup dX8_play_137 rfl ?_
          refine g_29_6 tw_634 dX8_play_138 ?_
          refine V_topi (v := S2.1 11) rfl ?_
          refine V_topi (v := nI i) (id e11b) ?_
          refine V_iconst (v := 1) dX8_play_141 ki_1 ?_
          refine V_iadd dX8_play_142 ?_
          refine V_topi (v := nI (i + 1)) (nI_1 _) ?_
          refine p_29_6 tw_634 dX8_play_143 ?_
          refine V_aload_n dX8_play_146 rfl 2 rfl ?_
          have hA := (hNS.a (c := 35) i (nI j) (hNS.c (by decide))).tr hF.n
          have hN3 : FrN (plsM T i (nI j) true) (setI (setA S2 36 i (vp_nar .boolean 1)) 11 (nI (i + 1))) := (hA.a (c := 36) i (b2i true) (hA.c (by decide))).i 11 (nI (i + 1))
          refine V_cVv (P := pM G (d + 5) mX8_play _) (d := d + 4) 29 (r := []) (As := []) (K := mX8_layStories) ok_X8_layStories tw_784 (ob_29 _) rfl (rmOk (Nat.le_of_ble_eq_true rfl)) (Nat.le_of_ble_eq_true rfl) dX8_play_147 rfl (c_X8_layStories (m := i + 1) ((hN3.1 10 (by decide)).trans hH.1) (hN3.DTm (DTm_pls hD h1 (by omega))) h12 (fun S3 hM3 => ?_))
          refine V_goto 76 dX8_play_150 (by decide) ?_
          refine V_lv [(3, .int (nI j)), (2, .int z), (0, .ref (G.2.1 29)), (1, .int q)] [0, 1, 2, 3] rfl ?_
          have hb : tvM T y (nI j) = false := by unfold tvM; rw [nI_clamp (show j < 2 ^ 31 by omega), et, nI_clamp (show t < 2 ^ 31 by omega)]; exact h3
          rw [show 12 - i = (12 - (i + 1)) + 1 by omega, plM_2 h2, show nvM T i n = nI j from ej, hb] at hq
          exact ih (i + 1) _ _ S3 _ _ (by omega) (by omega) hN3 hM3 (DTm_pls hD h1 (by omega)) (HM_pls hH) hq
def hrd (df : Nat → Int32) : Nat → Bool
  | 0 => false
  | k + 1 => hrd df k || decide (df k = 0)
theorem hrd_ex {df : Nat → Int32} : ∀ {k : Nat}, hrd df k = true → ∃ v, v < k ∧ df v = 0
  | 0, h => by cases h
  | k + 1, h => by
    rw [hrd, Bool.or_eq_true_iff] at h
    rcases h with h | h
    · obtain ⟨v, hv, h2⟩ := hrd_ex h
      exact ⟨v, by omega, h2⟩
    · exact ⟨k, Nat.lt_succ_self k, of_decide_eq_true h⟩
