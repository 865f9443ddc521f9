theorem RW_u {P P2 : Nat → Bool} {f : Nat → Int64} {w : Nat} {x : Int64} (h : RW P f 64) (hw : w < 64) (hx : ∀ j, j < 64 → bl x j = P2 (64 * w + j)) (ho : ∀ t, t < 4096 → t / 64 ≠ w → P2 t = P t) : RW P2 (vp_updL f w x) 64 := by
  intro t ht
  by_cases e : t / 64 = w
  · rw [e, pk_uLs, hx _ (by omega)]
    congr 1
    omega
  · rw [pk_uLn e, ho t (by omega) e]
    exact h t ht
theorem RW_c {P P2 : Nat → Bool} {f : Nat → Int64} (h : RW P f 64) (hp : ∀ t, t < 4096 → P2 t = P t) : RW P2 f 64 := fun t ht => by rw [hp t (by omega)]; exact h t ht
theorem RW_at {P : Nat → Bool} {f : Nat → Int64} {w j : Nat} (h : RW P f 64) (hw : w < 64) (hj : j < 64) : bl (f w) j = P (64 * w + j) := by
  have := h (64 * w + j) (by omega)
  rw [show (64 * w + j) / 64 = w by omega, show (64 * w + j) % 64 = j by omega] at this
  exact this
def owC (S : ST) (n ch t : Nat) : Bool := snd (S.2.2.1 13) (nI t) n && bl (S.2.2.2 25 (t / 64)) (t % 64) && sub t ch
def PB1 (own : Nat → Bool) (c w t : Nat) : Bool := if t / 64 < w then Hk own (c + 1) t else Hk own c t
def PC1 (own : Nat → Bool) (w c t : Nat) : Bool := if t / 64 < w then cor own t else if t / 64 = w then (own t && !pt own t c) else own t
theorem PC1_next (own : Nat → Bool) (w t : Nat) : PC1 own (w + 1) 0 t = PC1 own w 12 t := by
  unfold PC1
  by_cases a : t / 64 < w
  · rw [if_pos (by omega), if_pos a]
  · by_cases b : t / 64 = w
    · rw [if_pos (by omega), if_neg a, if_pos b]; rfl
    · rw [if_neg (show ¬ t / 64 < w + 1 by omega), if_neg a, if_neg b, show pt own t 0 = false from rfl]
      simp
theorem PB1_clr {own : Nat → Bool} {c w t : Nat} (ht : t < 4096) : PB1 own c w (clr t c) = Hk own c (clr t c) := by
  unfold PB1
  split
  · exact Hk_clr ht
  · rfl
theorem lp_fcA {G : GX} {d n ch : Nat} {S0 : ST} {Q : ST → Prop} (hn : S0.1 0 = nI n) (h12 : n ≤ 12) (hN : NE (S0.2.2.1 13) n) (K : ∀ S, FrF S0 S → RW (owC S0 n ch) (S.2.2.2 27) 64 → RW (owC S0 n ch) (S.2.2.2 28) 64 → V (pM G (d + 4) mX0_findCores (qv Q)) 53 [(0, .ref (G.2.1 8))] [] S) : ∀ (k w : Nat) (S : ST), w ≤ 64 → 64 - w < k → FrF S0 S → RW (owC S0 n ch) (S.2.2.2 27) w → RW (owC S0 n ch) (S.2.2.2 28) w → V (pM G (d + 4) mX0_findCores (qv Q)) 2 [(2, .int (nI w)), (0, .ref (G.2.1 8)), (1, .int (nI ch))] [] S := by
  intro k
  induction k with
  | zero => intro w S hw hk; exact absurd hk (Nat.not_lt_zero _)
  | succ k ih =>
    intro w S hw hk hF hR hR2
    have hn2 : S.1 0 = nI n := by rw [hF.1]; exact hn
    have e13 : S.2.2.1 13 = S0.2.2.1 13 := by rw [hF.2.2.1]
    have e25 : S.2.2.2 25 = S0.2.2.2 25 := hF.2.2.2 25 (by decide) (by decide)
    refine V_iload_n dX0_findCores_2 rfl 0 rfl ?_
    refine V_bipush (v := 64) dX0_findCores_3 kb_64 ?_
    refine V_icmp_gen 53 (a := w) (b := 64) dX0_findCores_5 (by decide) (by omega) (by omega) (fun h1 => ?_) (fun h1 => ?_)
    · refine V_lv [(0, .ref (G.2.1 8))] [1] rfl ?_
      have hin : w = 64 := by omega
      subst hin
      exact K S hF hR hR2
    · refine V_aload_n dX0_findCores_8 rfl 1 rfl ?_
      refine g_8_2 tw_192 dX0_findCores_9 ?_
      refine V_iload_n dX0_findCores_12 rfl 0 rfl ?_
      refine V_aload_n dX0_findCores_13 rfl 1 rfl ?_
      refine V_iload_n dX0_findCores_14 rfl 0 rfl ?_
      refine V_cVl (P := pM G (d + 4) mX0_findCores _) (d := d + 3) 8 (r := [.int (nI w), .ref (G.2.1 27)]) (As := [.int (nI w)]) (K := mX0_soundSets) ok_X0_soundSets tw_538 (ob_8 _) rfl (rmOk (Nat.le_of_ble_eq_true rfl)) (Nat.le_of_ble_eq_true rfl) dX0_findCores_15 rfl (c_X0_soundSets hn2 h12 ?_)
      refine V_aload_n dX0_findCores_18 rfl 1 rfl ?_
      refine g_8_1 tw_191 dX0_findCores_19 ?_
      refine g_7_1 tw_174 dX0_findCores_22 ?_
      refine V_iload_n dX0_findCores_25 rfl 0 rfl ?_
      refine l_25n (by omega) dX0_findCores_26 ?_
      refine V_land dX0_findCores_27 ?_
      refine V_iload_n dX0_findCores_28 rfl 2 rfl ?_
      refine V_iload_n dX0_findCores_29 rfl 0 rfl ?_
      refine V_cNl (P := pM G (d + 4) mX0_findCores _) (d := d + 3) (r := [.long ((sSe (S.2.2.1 13) w n) &&& (S.2.2.2 25 w)), .int (nI w), .ref (G.2.1 27)]) (As := [.int (nI ch), .int (nI w)]) (K := mX7_setsWithin) ok_X7_setsWithin nl_594 rfl (rmOk (Nat.le_of_ble_eq_true rfl)) (Nat.le_of_ble_eq_true rfl) dX0_findCores_30 rfl (c_X7_setsWithin ?_)
      refine V_land dX0_findCores_33 ?_
      refine s_27n (by omega) dX0_findCores_34 ?_
      refine V_aload_n dX0_findCores_35 rfl 1 rfl ?_
      refine g_8_3 tw_193 dX0_findCores_36 ?_
      refine V_iload_n dX0_findCores_39 rfl 0 rfl ?_
      refine V_aload_n dX0_findCores_40 rfl 1 rfl ?_
      refine g_8_2 tw_192 dX0_findCores_41 ?_
      refine V_iload_n dX0_findCores_44 rfl 0 rfl ?_
      refine l_27n (by omega) dX0_findCores_45 ?_
      refine V_topl (v := (vp_updL (S.2.2.2 27) w (((sSe (S.2.2.1 13) w n) &&& (S.2.2.2 25 w)) &&& (swI (nI ch) w 12))) w) rfl ?_
      refine s_28n (by omega) dX0_findCores_46 ?_
      refine V_iinc [(2, .int (nI (w + 1))), (0, .ref (G.2.1 8)), (1, .int (nI ch))] dX0_findCores_47 0 rfl (nI_1 _) (Nat.le_of_ble_eq_true rfl) rfl ?_
      refine V_goto 2 dX0_findCores_50 (by decide) ?_
      refine V_lv [(2, .int (nI (w + 1))), (0, .ref (G.2.1 8)), (1, .int (nI ch))] [0, 1, 2] rfl ?_
      have hx : ∀ j, j < 64 → bl (((sSe (S.2.2.1 13) w n) &&& (S.2.2.2 25 w)) &&& (swI (nI ch) w 12)) j = owC S0 n ch (64 * w + j) := fun j hj => by
        rw [bl_and, bl_and, e13, e25, bl_sSe hj h1 h12 hN, bl_swI12 hj h1]
        unfold owC
        rw [show (64 * w + j) / 64 = w by omega, show (64 * w + j) % 64 = j by omega]
      exact ih (w + 1) _ (by omega) (by omega) ((hF.J (Or.inl rfl) _ _).J (Or.inr rfl) _ _) (RW_s hR hx) (RW_s hR2 (fun j hj => by rw [pk_uLs]; exact hx j hj))
theorem lp_fcB {G : GX} {d c : Nat} {S0 : ST} {own : Nat → Bool} {Q : ST → Prop} (hc : c < 12) (K : ∀ S, FrF S0 S → RW own (S.2.2.2 27) 64 → RW (Hk own (c + 1)) (S.2.2.2 28) 64 → V (pM G (d + 4) mX0_findCores (qv Q)) 93 [(2, .int (nI c)), (0, .ref (G.2.1 8))] [] S) : ∀ (k w : Nat) (S : ST), w ≤ 64 → 64 - w < k → FrF S0 S → RW own (S.2.2.2 27) 64 → RW (PB1 own c w) (S.2.2.2 28) 64 → V (pM G (d + 4) mX0_findCores (qv Q)) 63 [(3, .int (nI w)), (2, .int (nI c)), (0, .ref (G.2.1 8))] [] S := by
  intro k
  induction k with
  | zero => intro w S hw hk; exact absurd hk (Nat.not_lt_zero _)
  | succ k ih =>
    intro w S hw hk hF hR hR2
    refine V_iload_n dX0_findCores_63 rfl 0 rfl ?_
    refine V_bipush (v := 64) dX0_findCores_64 kb_64 ?_
    refine V_icmp_gen 93 (a := w) (b := 64) dX0_findCores_66 (by decide) (by omega) (by omega) (fun h1 => ?_) (fun h1 => ?_)
    · refine V_lv [(2, .int (nI c)), (0, .ref (G.2.1 8))] [1, 2] rfl ?_
      have hin : w = 64 := by omega
      subst hin
      exact K S hF hR (RW_c hR2 (fun t ht => by unfold PB1; rw [if_pos (by omega)]))
    · refine V_aload_n dX0_findCores_69 rfl 2 rfl ?_
      refine g_8_3 tw_193 dX0_findCores_70 ?_
      refine V_iload_n dX0_findCores_73 rfl 0 rfl ?_
      refine V_dup2 dX0_findCores_74 rfl rfl ?_
      refine l_28n (by omega) dX0_findCores_75 ?_
      refine V_iload_n dX0_findCores_76 rfl 1 rfl ?_
      refine V_aload_n dX0_findCores_77 rfl 2 rfl ?_
      refine g_8_3 tw_193 dX0_findCores_78 ?_
      refine V_iload_n dX0_findCores_81 rfl 0 rfl ?_
      refine V_cNl (P := pM G (d + 4) mX0_findCores _) (d := d + 3) (r := [.long (S.2.2.2 28 w), .int (nI w), .ref (G.2.1 28)]) (As := [.int (nI c), .ref (G.2.1 28), .int (nI w)]) (K := mX7_setsGiven) ok_X7_setsGiven nl_597 rfl (rmOk (Nat.le_of_ble_eq_true rfl)) (Nat.le_of_ble_eq_true rfl) dX0_findCores_82 rfl (c_X7_setsGiven (by omega) (by omega) ?_)
      refine V_lor dX0_findCores_85 ?_
      refine s_28n (by omega) dX0_findCores_86 ?_
      refine V_iinc [(3, .int (nI (w + 1))), (2, .int (nI c)), (0, .ref (G.2.1 8))] dX0_findCores_87 0 rfl (nI_1 _) (Nat.le_of_ble_eq_true rfl) rfl ?_
      refine V_goto 63 dX0_findCores_90 (by decide) ?_
      refine V_lv [(3, .int (nI (w + 1))), (2, .int (nI c)), (0, .ref (G.2.1 8))] [0, 1, 2] rfl ?_
      refine ih (w + 1) _ (by omega) (by omega) (hF.J (Or.inr rfl) _ _) hR (RW_u hR2 h1 (fun j hj => ?_) (fun t ht hne => ?_))
      · rw [bl_or, RW_at hR2 h1 hj, bl_sgv hc h1 hj, hR2 _ (by have := clr_le (64 * w + j) c; omega), PB1_clr (by omega)]
        unfold PB1
        rw [if_neg (by omega), if_pos (by omega), Hk_s]
      · unfold PB1
        by_cases z : t / 64 < w
        · rw [if_pos z, if_pos (by omega)]
        · rw [if_neg z, if_neg (by omega)]
theorem lp_fcB2 {G : GX} {d : Nat} {S0 : ST} {own : Nat → Bool} {Q : ST → Prop} (K : ∀ S, FrF S0 S → RW own (S.2.2.2 27) 64 → RW (Hk own 12) (S.2.2.2 28) 64 → V (pM G (d + 4) mX0_findCores (qv Q)) 99 [(0, .ref (G.2.1 8))] [] S) : ∀ (k c : Nat) (S : ST), c ≤ 12 → 12 - c < k → FrF S0 S → RW own (S.2.2.2 27) 64 → RW (Hk own c) (S.2.2.2 28) 64 → V (pM G (d + 4) mX0_findCores (qv Q)) 55 [(2, .int (nI c)), (0, .ref (G.2.1 8))] [] S := by
  intro k
  induction k with
  | zero => intro c S hc hk; exact absurd hk (Nat.not_lt_zero _)
  | succ k ih =>
    intro c S hc hk hF hR hR2
    refine V_iload_n dX0_findCores_55 rfl 0 rfl ?_
    refine V_bipush (v := 12) dX0_findCores_56 kb_12 ?_
    refine V_icmp_gen 99 (a := c) (b := 12) dX0_findCores_58 (by decide) (by omega) (by omega) (fun h1 => ?_) (fun h1 => ?_)
    · refine V_lv [(0, .ref (G.2.1 8))] [1] rfl ?_
      have hin : c = 12 := by omega
      subst hin
      exact K S hF hR hR2
    · refine V_iconst (v := 0) dX0_findCores_61 ki_0 ?_
      refine V_istore_n [(3, .int 0), (2, .int (nI c)), (0, .ref (G.2.1 8))] dX0_findCores_62 rfl (Nat.le_of_ble_eq_true rfl) rfl ?_
      refine V_lv [(3, .int 0), (2, .int (nI c)), (0, .ref (G.2.1 8))] [0, 1, 2] rfl ?_
      refine V_lveq [(3, .int (nI 0)), (2, .int (nI c)), (0, .ref (G.2.1 8))] (by rfl) ?_
      refine lp_fcB (S0 := S0) (own := own) (by omega) (fun S1 hF1 hR1 hR12 => ?_) 65 0 S (by omega) (by omega) hF hR (RW_c hR2 (fun t ht => by unfold PB1; rw [if_neg (by omega)]))
      refine V_iinc [(2, .int (nI (c + 1))), (0, .ref (G.2.1 8))] dX0_findCores_93 0 rfl (nI_1 _) (Nat.le_of_ble_eq_true rfl) rfl ?_
      refine V_goto 55 dX0_findCores_96 (by decide) ?_
      refine V_lv [(2, .int (nI (c + 1))), (0, .ref (G.2.1 8))] [0, 1] rfl ?_
      exact ih (c + 1) S1 (by omega) (by omega) hF1 hR1 hR12
theorem lp_fcC {G : GX} {d w : Nat} {S0 : ST} {own : Nat → Bool} {Q : ST → Prop} (hw : w < 64) (K : ∀ S, FrF S0 S → RW (PC1 own w 12) (S.2.2.2 27) 64 → RW (Hk own 12) (S.2.2.2 28) 64 → V (pM G (d + 4) mX0_findCores (qv Q)) 143 [(2, .int (nI w)), (0, .ref (G.2.1 8))] [] S) : ∀ (k c : Nat) (S : ST), c ≤ 12 → 12 - c < k → FrF S0 S → RW (PC1 own w c) (S.2.2.2 27) 64 → RW (Hk own 12) (S.2.2.2 28) 64 → V (pM G (d + 4) mX0_findCores (qv Q)) 109 [(3, .int (nI c)), (2, .int (nI w)), (0, .ref (G.2.1 8))] [] S := by
  intro k
  induction k with
  | zero => intro c S hc hk; exact absurd hk (Nat.not_lt_zero _)
  | succ k ih =>
    intro c S hc hk hF hR hR2
    refine V_iload_n dX0_findCores_109 rfl 0 rfl ?_
    refine V_bipush (v := 12) dX0_findCores_110 kb_12 ?_
    refine V_icmp_gen 143 (a := c) (b := 12) dX0_findCores_112 (by decide) (by omega) (by omega) (fun h1 => ?_) (fun h1 => ?_)
    · refine V_lv [(2, .int (nI w)), (0, .ref (G.2.1 8))] [1, 2] rfl ?_
      have hin : c = 12 := by omega
      subst hin
      exact K S hF hR hR2
    · refine V_aload_n dX0_findCores_115 rfl 2 rfl ?_
      refine g_8_2 tw_192 dX0_findCores_116 ?_
      refine V_iload_n dX0_findCores_119 rfl 1 rfl ?_
      refine V_dup2 dX0_findCores_120 rfl rfl ?_
      refine l_27n (by omega) dX0_findCores_121 ?_
      refine V_iload_n dX0_findCores_122 rfl 0 rfl ?_
      refine V_aload_n dX0_findCores_123 rfl 2 rfl ?_
      refine g_8_3 tw_193 dX0_findCores_124 ?_
      refine V_iload_n dX0_findCores_127 rfl 1 rfl ?_
      refine V_cNl (P := pM G (d + 4) mX0_findCores _) (d := d + 3) (r := [.long (S.2.2.2 27 w), .int (nI w), .ref (G.2.1 27)]) (As := [.int (nI c), .ref (G.2.1 28), .int (nI w)]) (K := mX7_setsGiven) ok_X7_setsGiven nl_597 rfl (rmOk (Nat.le_of_ble_eq_true rfl)) (Nat.le_of_ble_eq_true rfl) dX0_findCores_128 rfl (c_X7_setsGiven (by omega) (by omega) ?_)
      refine V_ldc2 dX0_findCores_131 tw_542 ?_
      refine V_lxor dX0_findCores_134 ?_
      refine V_land dX0_findCores_135 ?_
      refine s_27n (by omega) dX0_findCores_136 ?_
      refine V_iinc [(3, .int (nI (c + 1))), (2, .int (nI w)), (0, .ref (G.2.1 8))] dX0_findCores_137 0 rfl (nI_1 _) (Nat.le_of_ble_eq_true rfl) rfl ?_
      refine V_goto 109 dX0_findCores_140 (by decide) ?_
      refine V_lv [(3, .int (nI (c + 1))), (2, .int (nI w)), (0, .ref (G.2.1 8))] [0, 1, 2] rfl ?_
      refine ih (c + 1) _ (by omega) (by omega) (hF.J (Or.inl rfl) _ _) (RW_u hR hw (fun j hj => ?_) (fun t ht hne => ?_)) hR2
      · rw [bl_and, bl_xor, bl_m1 j hj, RW_at hR hw hj, bl_sgv h1 hw hj, hR2 _ (by have := clr_le (64 * w + j) c; omega), Bool.xor_true]
        unfold PC1
        rw [if_neg (by omega), if_pos (by omega), if_neg (by omega), if_pos (by omega), pt_s, Bool.not_or, Bool.and_assoc]
      · unfold PC1
        by_cases z : t / 64 < w
        · rw [if_pos z, if_pos z]
        · rw [if_neg z, if_neg z, if_neg hne, if_neg hne]
theorem lp_fcC2 {G : GX} {d : Nat} {S0 : ST} {own : Nat → Bool} {Q : ST → Prop} (hq : ∀ S, FrF S0 S → RW (cor own) (S.2.2.2 27) 64 → Q S) : ∀ (k w : Nat) (S : ST), w ≤ 64 → 64 - w < k → FrF S0 S → RW (PC1 own w 0) (S.2.2.2 27) 64 → RW (Hk own 12) (S.2.2.2 28) 64 → V (pM G (d + 4) mX0_findCores (qv Q)) 101 [(2, .int (nI w)), (0, .ref (G.2.1 8))] [] S := by
  intro k
  induction k with
  | zero => intro w S hw hk; exact absurd hk (Nat.not_lt_zero _)
  | succ k ih =>
    intro w S hw hk hF hR hR2
    refine V_iload_n dX0_findCores_101 rfl 0 rfl ?_
    refine V_bipush (v := 64) dX0_findCores_102 kb_64 ?_
    refine V_icmp_gen 149 (a := w) (b := 64) dX0_findCores_104 (by decide) (by omega) (by omega) (fun h1 => ?_) (fun h1 => ?_)
    · have hin : w = 64 := by omega
      subst hin
      exact V_vret rfl dX0_findCores_149 ⟨rfl, hq S hF (RW_c hR (fun t ht => by unfold PC1; rw [if_pos (by omega)]))⟩
    · refine V_iconst (v := 0) dX0_findCores_107 ki_0 ?_
      refine V_istore_n [(3, .int 0), (2, .int (nI w)), (0, .ref (G.2.1 8))] dX0_findCores_108 rfl (Nat.le_of_ble_eq_true rfl) rfl ?_
      refine V_lv [(3, .int 0), (2, .int (nI w)), (0, .ref (G.2.1 8))] [0, 1, 2] rfl ?_
      refine V_lveq [(3, .int (nI 0)), (2, .int (nI w)), (0, .ref (G.2.1 8))] (by rfl) ?_
      refine lp_fcC (S0 := S0) (own := own) h1 (fun S1 hF1 hR1 hR12 => ?_) 13 0 S (by omega) (by omega) hF hR hR2
      refine V_iinc [(2, .int (nI (w + 1))), (0, .ref (G.2.1 8))] dX0_findCores_143 0 rfl (nI_1 _) (Nat.le_of_ble_eq_true rfl) rfl ?_
      refine V_goto 101 dX0_findCores_146 (by decide) ?_
      refine V_lv [(2, .int (nI (w + 1))), (0, .ref (G.2.1 8))] [0, 1] rfl ?_
      exact ih (w + 1) S1 (by omega) (by omega) hF1 (RW_c hR1 (fun t ht => PC1_next own w t)) hR12
theorem c_X0_findCores {G : GX} {d : Nat} {S : ST} {n ch : Nat} {Q : ST → Prop} (hn : S.1 0 = nI n) (h12 : n ≤ 12) (hN : NE (S.2.2.1 13) n) (hq : ∀ S2, FrF S S2 → RW (cor (owC S n ch)) (S2.2.2.2 27) 64 → Q S2) : Cn G (d + 4) mX0_findCores [.ref (G.2.1 8), .int (nI ch)] S (qv Q) := by
  refine Cn.intro (lv := [(0, .ref (G.2.1 8)), (1, .int (nI ch))]) (by decide) (Nat.le_of_ble_eq_true rfl) rfl ?_
  refine V_iconst (v := 0) dX0_findCores_0 ki_0 ?_
  refine V_istore_n [(2, .int 0), (0, .ref (G.2.1 8)), (1, .int (nI ch))] dX0_findCores_1 rfl (Nat.le_of_ble_eq_true rfl) rfl ?_
  refine V_lv [(2, .int 0), (0, .ref (G.2.1 8)), (1, .int (nI ch))] [0, 1, 2] rfl ?_
  refine V_lveq [(2, .int (nI 0)), (0, .ref (G.2.1 8)), (1, .int (nI ch))] (by rfl) ?_
  refine lp_fcA (S0 := S) (ch := ch) hn h12 hN (fun S2 hF hR hR2 => ?_) 65 0 S (by omega) (by omega) (FrF.rf S) (RW_0 _ _) (RW_0 _ _)
  refine V_iconst (v := 0) dX0_findCores_53 ki_0 ?_
  refine V_istore_n [(2, .int 0), (0, .ref (G.2.1 8))] dX0_findCores_54 rfl (Nat.le_of_ble_eq_true rfl) rfl ?_
  refine V_lv [(2, .int 0), (0, .ref (G.2.1 8))] [0, 1] rfl ?_
  refine V_lveq [(2, .int (nI 0)), (0, .ref (G.2.1 8))] (by rfl) ?_
  refine lp_fcB2 (S0 := S) (own := owC S n ch) (fun S3 hF3 hR3 hR32 => ?_) 13 0 S2 (by omega) (by omega) hF hR hR2
  refine V_iconst (v := 0) dX0_findCores_99 ki_0 ?_
  refine V_istore_n [(2, .int 0), (0, .ref (G.2.1 8))] dX0_findCores_100 rfl (Nat.le_of_ble_eq_true rfl) rfl ?_
  refine V_lv [(2, .int 0), (0, .ref (G.2.1 8))] [0, 1] rfl ?_
  refine V_lveq [(2, .int (nI 0)), (0, .ref (G.2.1 8))] (by rfl) ?_
  exact lp_fcC2 (S0 := S) (own := owC S n ch) hq 65 0 S3 (by omega) (by omega) hF3 (RW_c hR3 (fun t ht => by unfold PC1; rw [if_neg (by omega)]; by_cases y : t / 64 = 0; (rw [if_pos y, show pt (owC S n ch) t 0 = false from rfl]; simp); (rw [if_neg y]))) hR32
