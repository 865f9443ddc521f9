abbrev XT : Type := Nat × Nat × Nat
def plc (x : XT) : Nat := (x.1 * 12 + x.2.1) * 12 + x.2.2
def wX (S : ST) (m : Nat) (x : XT) : Int64 := wO S m x.1 x.2.1 x.2.2
def fX (S : ST) (x : XT) : Int32 := fO (S.2.2.1 10) x.1 x.2.1 x.2.2
def lsum (f : XT → Int64) (L : List XT) : Int64 := L.foldl (fun a x => a + f x) 0
theorem lsum_app (f : XT → Int64) (L : List XT) (x : XT) : lsum f (L ++ [x]) = lsum f L + f x := by unfold lsum; rw [List.foldl_append]; rfl
def gst (w : XT → Int64) (a : Int64 × Int32) (x : XT) : Int64 × Int32 := if a.1 < w x then (w x, nI (plc x)) else a
def gfo (w : XT → Int64) (L : List XT) : Int64 × Int32 := L.foldl (gst w) (0, 0)
theorem gfo_app (w : XT → Int64) (L : List XT) (x : XT) : gfo w (L ++ [x]) = gst w (gfo w L) x := by unfold gfo; rw [List.foldl_append]; rfl
theorem gst_nn {w : XT → Int64} {a : Int64 × Int32} {x : XT} (h : 0 ≤ a.1) : 0 ≤ (gst w a x).1 := by
  unfold gst
  split
  · rename_i h2
    rw [Int64.le_iff_toInt_le] at *
    rw [Int64.lt_iff_toInt_lt] at h2
    show (0 : Int64).toInt ≤ (w x).toInt
    omega
  · exact h
theorem gfo_nn (w : XT → Int64) (L : List XT) : 0 ≤ (gfo w L).1 := by
  unfold gfo
  have : ∀ (L : List XT) (a : Int64 × Int32), 0 ≤ a.1 → 0 ≤ (L.foldl (gst w) a).1 := by
    intro L
    induction L with
    | nil => intro a h; exact h
    | cons x L ih => intro a h; exact ih _ (gst_nn h)
  exact this L (0, 0) (by decide)
/-- the stories' scratch may differ -/
def FrS (S0 S : ST) : Prop := (∀ k, k ≠ 6 → k ≠ 7 → S.1 k = S0.1 k) ∧ (∀ k, k ≠ 0 → k ≠ 1 → S.2.1 k = S0.2.1 k) ∧ (∀ c, c ≠ 18 → c ≠ 20 → S.2.2.1 c = S0.2.2.1 c) ∧ ∀ c, c ≠ 19 → S.2.2.2 c = S0.2.2.2 c
def nz (S : ST) (m : Nat) (L : List XT) : List XT := L.filter (fun x => decide (wX S m x ≠ 0))
def CS (S0 : ST) (m : Nat) (L : List XT) (S : ST) : Prop := FrS S0 S ∧ S.1 6 = nI (nz S0 m L).length ∧ (∀ k x, (nz S0 m L)[k]? = some x → S.2.2.1 18 k = nI (plc x) ∧ S.2.2.2 19 k = wX S0 m x ∧ S.2.2.1 20 k = fX S0 x) ∧ S.2.1 0 = lsum (wX S0 m) L ∧ S.2.1 1 = (gfo (wX S0 m) L).1 ∧ S.1 7 = (gfo (wX S0 m) L).2
theorem FrS.wO {S0 S : ST} (h : FrS S0 S) (m s c e : Nat) : wO S m s c e = wO S0 m s c e := by
  unfold _root_.Jvm.Pilot.@@N@@.wO tenc
  rw [h.2.2.1 17 (by decide) (by decide), h.2.2.1 11 (by decide) (by decide), h.2.2.1 10 (by decide) (by decide), h.2.2.1 15 (by decide) (by decide), h.2.2.1 16 (by decide) (by decide)]
theorem FrS.DT {S0 S : ST} (h : FrS S0 S) {m : Nat} (hD : DT S0 m) : DT S m := by
  unfold _root_.Jvm.Pilot.@@N@@.DT at *
  rw [h.1 1 (by decide) (by decide), h.2.2.1 15 (by decide) (by decide), h.2.2.1 16 (by decide) (by decide)]
  exact hD
theorem nz_skip {S : ST} {m : Nat} {L : List XT} {x : XT} (h : wX S m x = 0) : nz S m (L ++ [x]) = nz S m L := by unfold nz; rw [List.filter_append]; simp [h]
theorem nz_push {S : ST} {m : Nat} {L : List XT} {x : XT} (h : wX S m x ≠ 0) : nz S m (L ++ [x]) = nz S m L ++ [x] := by unfold nz; rw [List.filter_append]; simp [h]
theorem nz_len (S : ST) (m : Nat) (L : List XT) : (nz S m L).length ≤ L.length := List.length_filter_le _ _
theorem CS_skip {S0 S : ST} {m : Nat} {L : List XT} {x : XT} (h : CS S0 m L S) (hw : wX S0 m x = 0) : CS S0 m (L ++ [x]) S := by
  obtain ⟨h1, h2, h3, h4, h5, h6⟩ := h
  have hg : gfo (wX S0 m) (L ++ [x]) = gfo (wX S0 m) L := by
    rw [gfo_app, gst, if_neg]
    rw [hw]
    exact Int64.not_lt.mpr (gfo_nn _ _)
  refine ⟨h1, by rw [nz_skip hw]; exact h2, by rw [nz_skip hw]; exact h3, by rw [lsum_app, hw, Int64.add_zero]; exact h4, by rw [hg]; exact h5, by rw [hg]; exact h6⟩
theorem CS_push {S0 S S2 : ST} {m : Nat} {L : List XT} {x : XT} (h : CS S0 m L S) (hw : wX S0 m x ≠ 0) (hF : FrS S S2) (g1 : S2.1 6 = nI ((nz S0 m L).length + 1)) (g2 : S2.2.2.1 18 = upd (S.2.2.1 18) (nz S0 m L).length (nI (plc x))) (g3 : S2.2.2.2 19 = vp_updL (S.2.2.2 19) (nz S0 m L).length (wX S0 m x)) (g4 : S2.2.2.1 20 = upd (S.2.2.1 20) (nz S0 m L).length (fX S0 x)) (g5 : S2.2.1 0 = S.2.1 0 + wX S0 m x) (g6 : (S2.2.1 1, S2.1 7) = gst (wX S0 m) (S.2.1 1, S.1 7) x) : CS S0 m (L ++ [x]) S2 := by
  obtain ⟨h1, h2, h3, h4, h5, h6⟩ := h
  have hg : gfo (wX S0 m) (L ++ [x]) = (S2.2.1 1, S2.1 7) := by rw [gfo_app, g6, h5, h6]
  refine ⟨⟨fun k a b => by rw [hF.1 k a b, h1.1 k a b], fun k a b => by rw [hF.2.1 k a b, h1.2.1 k a b], fun k a b => by rw [hF.2.2.1 k a b, h1.2.2.1 k a b], fun k a => by rw [hF.2.2.2 k a, h1.2.2.2 k a]⟩, by rw [nz_push hw, g1, List.length_append]; rfl, ?_, by rw [g5, lsum_app, h4], by rw [hg], by rw [hg]⟩
  intro k y hk
  rw [nz_push hw] at hk
  by_cases hl : k < (nz S0 m L).length
  · rw [List.getElem?_append_left hl] at hk
    obtain ⟨e1, e2, e3⟩ := h3 k y hk
    rw [g2, g3, g4, pk_un (by omega), pk_uLn (by omega), pk_un (by omega)]
    exact ⟨e1, e2, e3⟩
  · rw [List.getElem?_append_right (by omega)] at hk
    have hz : k - (nz S0 m L).length < 1 := (List.getElem?_eq_some_iff.mp hk).1
    have hk0 : k = (nz S0 m L).length := by omega
    subst hk0
    rw [Nat.sub_self] at hk
    cases hk
    rw [g2, g3, g4, pk_us, pk_uLs, pk_us]
    exact ⟨rfl, rfl, rfl⟩
theorem c_X4_take {G : GX} {d : Nat} {S : ST} {S0 : ST} {s c e m : Nat} {L : List XT} {Q : ST → Prop} (hC : CS S0 m L S) (hD : DT S0 m) (hs : s < 3) (hc : c < 12) (he : e < 12) (hL : L.length < 210) (hq : ∀ S2, CS S0 m (L ++ [(s, c, e)]) S2 → Q S2) : Cn G (d + 2) mX4_take [.ref (G.2.1 3), .int (nI s), .int (nI c), .int (nI e)] S (qv Q) := by
  refine Cn.intro (lv := [(0, .ref (G.2.1 3)), (1, .int (nI s)), (2, .int (nI c)), (3, .int (nI e))]) (by decide) (Nat.le_of_ble_eq_true rfl) rfl ?_
  have hnz := nz_len S0 m L
  refine V_aload_n dX4_take_0 rfl 0 rfl ?_
  refine V_iload_n dX4_take_1 rfl 1 rfl ?_
  refine V_iload_n dX4_take_2 rfl 2 rfl ?_
  refine V_iload_n dX4_take_3 rfl 3 rfl ?_
  refine V_cVl (P := pM G (d + 2) mX4_take _) (d := d + 1) 3 (r := []) (As := [.int (nI s), .int (nI c), .int (nI e)]) (K := mX4_weightOf) ok_X4_weightOf tw_345 (ob_3 _) rfl (rmOk (Nat.le_of_ble_eq_true rfl)) (Nat.le_of_ble_eq_true rfl) dX4_take_4 rfl (c_X4_weightOf (hC.1.DT hD) (by omega) (by omega) (by omega) ?_)
  refine V_topl (v := wX S0 m (s, c, e)) (hC.1.wO m s c e) ?_
  refine V_lstore [(4, .long (wX S0 m (s, c, e))), (0, .ref (G.2.1 3)), (1, .int (nI s)), (2, .int (nI c)), (3, .int (nI e))] dX4_take_7 (Nat.le_of_ble_eq_true rfl) rfl ?_
  refine V_lload dX4_take_9 0 rfl ?_
  refine V_lconst (v := 0) dX4_take_11 rfl ?_
  refine V_lcmp dX4_take_12 ?_
  refine V_if_eq 26 dX4_take_13 (by decide) (fun h1 => ?_) (fun h1 => ?_)
  · exact V_vret rfl dX4_take_26 ⟨rfl, hq S (CS_skip hC (lg0.mp h1))⟩
  · refine V_aload_n dX4_take_16 rfl 1 rfl ?_
    refine g_3_3 tw_95 dX4_take_17 ?_
    refine V_topi (v := nI ((nz S0 m L).length)) (id hC.2.1) ?_
    refine V_sipush (v := 210) dX4_take_20 ks_210 ?_
    refine V_icmp_ltn 27 (a := ((nz S0 m L).length)) (b := 210) dX4_take_23 (by decide) (by omega) (by omega) (fun h2 => ?_) (fun h2 => ?_)
    · refine V_aload_n dX4_take_27 rfl 1 rfl ?_
      refine g_3_4 tw_96 dX4_take_28 ?_
      refine V_aload_n dX4_take_31 rfl 1 rfl ?_
      refine g_3_3 tw_95 dX4_take_32 ?_
      refine V_topi (v := nI ((nz S0 m L).length)) (id hC.2.1) ?_
      refine V_iload_n dX4_take_35 rfl 2 rfl ?_
      refine V_iload_n dX4_take_36 rfl 3 rfl ?_
      refine V_iload_n dX4_take_37 rfl 4 rfl ?_
      refine V_cNi (P := pM G (d + 2) mX4_take _) (d := d + 1) (r := [.int (nI ((nz S0 m L).length)), .ref (G.2.1 18)]) (As := [.int (nI s), .int (nI c), .int (nI e)]) (K := mX7_storyAt) ok_X7_storyAt nl_346 rfl (rmOk (Nat.le_of_ble_eq_true rfl)) (Nat.le_of_ble_eq_true rfl) dX4_take_38 rfl (c_X7_storyAt ?_)
      refine V_topi (v := nI (plc (s, c, e))) rfl ?_
      refine s_18n (by omega) dX4_take_41 ?_
      refine V_aload_n dX4_take_42 rfl 1 rfl ?_
      refine g_3_5 tw_97 dX4_take_43 ?_
      refine V_aload_n dX4_take_46 rfl 1 rfl ?_
      refine g_3_3 tw_95 dX4_take_47 ?_
      refine V_topi (v := S.1 6) rfl ?_
      refine V_topi (v := nI ((nz S0 m L).length)) (id hC.2.1) ?_
      refine V_lload dX4_take_50 0 rfl ?_
      refine s_19n (by omega) dX4_take_52 ?_
      refine V_aload_n dX4_take_53 rfl 1 rfl ?_
      refine g_3_6 tw_98 dX4_take_54 ?_
      refine V_aload_n dX4_take_57 rfl 1 rfl ?_
      refine g_3_3 tw_95 dX4_take_58 ?_
      refine V_topi (v := S.1 6) rfl ?_
      refine V_topi (v := nI ((nz S0 m L).length)) (id hC.2.1) ?_
      refine V_aload_n dX4_take_61 rfl 1 rfl ?_
      refine V_iload_n dX4_take_62 rfl 2 rfl ?_
      refine V_iload_n dX4_take_63 rfl 3 rfl ?_
      refine V_iload_n dX4_take_64 rfl 4 rfl ?_
      refine V_cVi (P := pM G (d + 2) mX4_take _) (d := d + 1) 3 (r := [.int (nI ((nz S0 m L).length)), .ref (G.2.1 20)]) (As := [.int (nI s), .int (nI c), .int (nI e)]) (K := mX4_failingOf) ok_X4_failingOf tw_318 (ob_3 _) rfl (rmOk (Nat.le_of_ble_eq_true rfl)) (Nat.le_of_ble_eq_true rfl) dX4_take_65 rfl (c_X4_failingOf (s := s) (by omega) (by omega) (by omega) ?_)
      refine V_topi (v := fX S0 (s, c, e)) (by show fO (S.2.2.1 10) s c e = _; rw [fX, hC.1.2.2.1 10 (by decide) (by decide)]) ?_
      refine s_20n (by omega) dX4_take_68 ?_
      refine V_aload_n dX4_take_69 rfl 1 rfl ?_
      refine V_dup dX4_take_70 rfl ?_
      refine g_3_7 tw_99 dX4_take_71 ?_
      refine V_topl (v := S.2.1 0) rfl ?_
      refine V_lload dX4_take_74 0 rfl ?_
      refine V_ladd dX4_take_76 ?_
      refine p_3_7 tw_99 dX4_take_77 ?_
      refine V_lload dX4_take_80 0 rfl ?_
      refine V_aload_n dX4_take_82 rfl 1 rfl ?_
      refine g_3_9 tw_103 dX4_take_83 ?_
      refine V_topl (v := S.2.1 1) rfl ?_
      refine V_lcmp dX4_take_86 ?_
      refine V_if_le 109 dX4_take_87 (by decide) (fun h3 => ?_) (fun h3 => ?_)
      · refine V_aload_n dX4_take_109 rfl 1 rfl ?_
        refine V_dup dX4_take_110 rfl ?_
        refine g_3_3 tw_95 dX4_take_111 ?_
        refine V_topi (v := S.1 6) rfl ?_
        refine V_topi (v := nI ((nz S0 m L).length)) (id hC.2.1) ?_
        refine V_iconst (v := 1) dX4_take_114 ki_1 ?_
        refine V_iadd dX4_take_115 ?_
        refine V_topi (v := nI (((nz S0 m L).length) + 1)) (nI_1 _) ?_
        refine p_3_3 tw_95 dX4_take_116 ?_
        refine V_vret rfl dX4_take_119 ⟨rfl, hq _ (CS_push hC (fun z => h1 (lg0.mpr z)) ⟨?_, ?_, ?_, ?_⟩ rfl rfl rfl rfl rfl ?_)⟩
        · intro k a b; show va_up _ _ _ _ = _; simp [setI, setL, setA, setJ, va_up, a, b]
        · intro k a b; simp [setI, setL, setA, setJ, va_up, a, b]
        · intro k a b; simp [setI, setL, setA, setJ, va_up, a, b]
        · intro k a; simp [setI, setL, setA, setJ, va_up, a]
        · rw [gst, if_neg (show ¬ _ < _ from Int64.not_lt.mpr (lg_le.mp h3))]; rfl
      · refine V_aload_n dX4_take_90 rfl 1 rfl ?_
        refine V_lload dX4_take_91 0 rfl ?_
        refine p_3_9 tw_103 dX4_take_93 ?_
        refine V_aload_n dX4_take_96 rfl 1 rfl ?_
        refine V_aload_n dX4_take_97 rfl 1 rfl ?_
        refine g_3_4 tw_96 dX4_take_98 ?_
        refine V_aload_n dX4_take_101 rfl 1 rfl ?_
        refine g_3_3 tw_95 dX4_take_102 ?_
        refine V_topi (v := S.1 6) rfl ?_
        refine V_topi (v := nI ((nz S0 m L).length)) (id hC.2.1) ?_
        refine l_18n (by omega) dX4_take_105 ?_
        refine V_topi (v := (upd (S.2.2.1 18) ((nz S0 m L).length) (nI (plc (s, c, e)))) ((nz S0 m L).length)) rfl ?_
        refine V_topi (v := nI (plc (s, c, e))) ((pk_us)) ?_
        refine p_3_8 tw_101 dX4_take_106 ?_
        refine V_aload_n dX4_take_109 rfl 1 rfl ?_
        refine V_dup dX4_take_110 rfl ?_
        refine g_3_3 tw_95 dX4_take_111 ?_
        refine V_topi (v := S.1 6) rfl ?_
        refine V_topi (v := nI ((nz S0 m L).length)) (id hC.2.1) ?_
        refine V_iconst (v := 1) dX4_take_114 ki_1 ?_
        refine V_iadd dX4_take_115 ?_
        refine V_topi (v := nI (((nz S0 m L).length) + 1)) (nI_1 _) ?_
        refine p_3_3 tw_95 dX4_take_116 ?_
        refine V_vret rfl dX4_take_119 ⟨rfl, hq _ (CS_push hC (fun z => h1 (lg0.mpr z)) ⟨?_, ?_, ?_, ?_⟩ rfl rfl rfl rfl rfl ?_)⟩
        · intro k a b; show va_up _ _ _ _ = _; simp [setI, setL, setA, setJ, va_up, a, b]
        · intro k a b; simp [setI, setL, setA, setJ, va_up, a, b]
        · intro k a b; simp [setI, setL, setA, setJ, va_up, a, b]
        · intro k a; simp [setI, setL, setA, setJ, va_up, a]
        · rw [gst, if_pos (show _ < _ from Int64.not_le.mp (fun z => h3 (lg_le.mpr z)))]; rfl
    · have := nz_len S0 m L
      omega
