def fO (ca : Nat → Int32) (s c d : Nat) : Int32 := if s = 1 then ca c &&& ca d else if s = 2 then ca c &&& (ca d ^^^ -1) else ca c
def ten (tr : Nat → Int32) (f q : Bool) : Int32 := if f then (if q then tr 0 else 10 - tr 0) else (if q then 10 - tr 1 else tr 1)
def wprod (w : Int64) (f : Nat → Int64) : Nat → Int64
  | 0 => w
  | k + 1 => wprod w f k * f k
theorem wprod_0 {w : Int64} {f : Nat → Int64} {i : Nat} (h : wprod w f i = 0) : ∀ {m : Nat}, i ≤ m → wprod w f m = 0
  | 0, hm => by rw [show i = 0 by omega] at h; exact h
  | m + 1, hm => by
    by_cases e : i = m + 1
    · rw [← e]; exact h
    · unfold wprod; rw [wprod_0 h (show i ≤ m by omega), Int64.zero_mul]
theorem wprod_cong {w : Int64} {f g : Nat → Int64} : ∀ {m : Nat}, (∀ k, k < m → f k = g k) → wprod w f m = wprod w g m
  | 0, _ => rfl
  | m + 1, h => by unfold wprod; rw [wprod_cong (fun k hk => h k (by omega)), h m (by omega)]
def w0c (tr sz : Nat → Int32) (s c d : Nat) : Int64 := if s = 0 then (tr 2 * sz c).toInt64 else (tr (2 + s) * sz c).toInt64 * (sz d).toInt64
def tenc (S : ST) (x : Int32) (k : Nat) : Int64 := (ten (S.2.2.1 17) (bt x (S.2.2.1 15 k).toNatClampNeg) (decide (S.2.2.1 16 k ≠ 0))).toInt64
def wO (S : ST) (m s c d : Nat) : Int64 := wprod (w0c (S.2.2.1 17) (S.2.2.1 11) s c d) (tenc S (fO (S.2.2.1 10) s c d)) m
/-- what the tests are like -/
def DT (S : ST) (m : Nat) : Prop := S.1 1 = nI m ∧ m ≤ 12 ∧ (∀ k, k < m → S.2.2.1 15 k = nI (S.2.2.1 15 k).toNatClampNeg ∧ (S.2.2.1 15 k).toNatClampNeg < 12) ∧ ∀ k, k < m → S.2.2.1 16 k = b2i (decide (S.2.2.1 16 k ≠ 0))
theorem lg0 {x y : Int64} : lg_cmp x y = 0 ↔ x = y := by
  unfold lg_cmp
  by_cases h : x > y
  · simp only [h, if_true]
    refine ⟨fun e => absurd e (by decide), fun e => ?_⟩
    subst e
    exact absurd h (by rw [gt_iff_lt, Int64.lt_iff_toInt_lt]; omega)
  · simp only [h, if_false]
    by_cases h2 : x = y
    · simp [h2]
    · simp only [h2, if_false]
      exact ⟨fun e => absurd e (by decide), fun e => e.elim⟩
theorem c_X4_failingOf {G : GX} {d : Nat} {S : ST} {s c e : Nat} {Q : Int32 → ST → Prop} (hs : s < 3) (hc : c < 12) (he : e < 12) (hq : Q (fO (S.2.2.1 10) s c e) S) : Cn G d mX4_failingOf [.ref (G.2.1 3), .int (nI s), .int (nI c), .int (nI e)] S (qi Q) := by
  refine Cn.intro (lv := [(0, .ref (G.2.1 3)), (1, .int (nI s)), (2, .int (nI c)), (3, .int (nI e))]) (by decide) (Nat.le_of_ble_eq_true rfl) rfl ?_
  rcases (show s = 0 ∨ s = 1 ∨ s = 2 by omega) with rfl | rfl | rfl
  · refine V_lveq [(0, .ref (G.2.1 3)), (1, .int 0), (2, .int (nI c)), (3, .int (nI e))] rfl ?_
    refine V_aload_n dX4_failingOf_0 rfl 0 rfl ?_
    refine g_3_0 tw_91 dX4_failingOf_1 ?_
    refine g_1_2 tw_37 dX4_failingOf_4 ?_
    refine V_iload_n dX4_failingOf_7 rfl 2 rfl ?_
    refine l_10n (by omega) dX4_failingOf_8 ?_
    refine V_istore [(4, .int (S.2.2.1 10 c)), (0, .ref (G.2.1 3)), (1, .int 0), (2, .int (nI c)), (3, .int (nI e))] dX4_failingOf_9 (Nat.le_of_ble_eq_true rfl) rfl ?_
    refine V_iload_n dX4_failingOf_11 rfl 2 rfl ?_
    refine V_lsw 68 (off := 56) dX4_failingOf_12 (by decide +kernel) (by decide +kernel) (by decide) ?_
    refine V_iload dX4_failingOf_68 0 rfl ?_
    refine V_iret rfl dX4_failingOf_70 ⟨_, rfl, ?_⟩
    exact qcast hq (by rfl)
  · refine V_lveq [(0, .ref (G.2.1 3)), (1, .int 1), (2, .int (nI c)), (3, .int (nI e))] rfl ?_
    refine V_aload_n dX4_failingOf_0 rfl 0 rfl ?_
    refine g_3_0 tw_91 dX4_failingOf_1 ?_
    refine g_1_2 tw_37 dX4_failingOf_4 ?_
    refine V_iload_n dX4_failingOf_7 rfl 2 rfl ?_
    refine l_10n (by omega) dX4_failingOf_8 ?_
    refine V_istore [(4, .int (S.2.2.1 10 c)), (0, .ref (G.2.1 3)), (1, .int 1), (2, .int (nI c)), (3, .int (nI e))] dX4_failingOf_9 (Nat.le_of_ble_eq_true rfl) rfl ?_
    refine V_iload_n dX4_failingOf_11 rfl 2 rfl ?_
    refine V_lsw 40 (off := 28) dX4_failingOf_12 (by decide +kernel) (by decide +kernel) (by decide) ?_
    refine V_iload dX4_failingOf_40 0 rfl ?_
    refine V_aload_n dX4_failingOf_42 rfl 1 rfl ?_
    refine g_3_0 tw_91 dX4_failingOf_43 ?_
    refine g_1_2 tw_37 dX4_failingOf_46 ?_
    refine V_iload_n dX4_failingOf_49 rfl 4 rfl ?_
    refine l_10n (by omega) dX4_failingOf_50 ?_
    refine V_iand dX4_failingOf_51 ?_
    refine V_iret rfl dX4_failingOf_52 ⟨_, rfl, ?_⟩
    exact qcast hq (by rfl)
  · refine V_lveq [(0, .ref (G.2.1 3)), (1, .int 2), (2, .int (nI c)), (3, .int (nI e))] rfl ?_
    refine V_aload_n dX4_failingOf_0 rfl 0 rfl ?_
    refine g_3_0 tw_91 dX4_failingOf_1 ?_
    refine g_1_2 tw_37 dX4_failingOf_4 ?_
    refine V_iload_n dX4_failingOf_7 rfl 2 rfl ?_
    refine l_10n (by omega) dX4_failingOf_8 ?_
    refine V_istore [(4, .int (S.2.2.1 10 c)), (0, .ref (G.2.1 3)), (1, .int 2), (2, .int (nI c)), (3, .int (nI e))] dX4_failingOf_9 (Nat.le_of_ble_eq_true rfl) rfl ?_
    refine V_iload_n dX4_failingOf_11 rfl 2 rfl ?_
    refine V_lsw 53 (off := 41) dX4_failingOf_12 (by decide +kernel) (by decide +kernel) (by decide) ?_
    refine V_iload dX4_failingOf_53 0 rfl ?_
    refine V_aload_n dX4_failingOf_55 rfl 1 rfl ?_
    refine g_3_0 tw_91 dX4_failingOf_56 ?_
    refine g_1_2 tw_37 dX4_failingOf_59 ?_
    refine V_iload_n dX4_failingOf_62 rfl 4 rfl ?_
    refine l_10n (by omega) dX4_failingOf_63 ?_
    refine V_iconst (v := -1) dX4_failingOf_64 ki_m1 ?_
    refine V_ixor dX4_failingOf_65 ?_
    refine V_iand dX4_failingOf_66 ?_
    refine V_iret rfl dX4_failingOf_67 ⟨_, rfl, ?_⟩
    exact qcast hq (by rfl)
theorem c_X4_tenths {G : GX} {d : Nat} {S : ST} {f q : Bool} {Q : Int32 → ST → Prop}  (hq : Q (ten (S.2.2.1 17) f q) S) : Cn G d mX4_tenths [.ref (G.2.1 3), .int (b2i f), .int (b2i q)] S (qi Q) := by
  refine Cn.intro (lv := [(0, .ref (G.2.1 3)), (1, .int (b2i f)), (2, .int (b2i q))]) (by decide) (Nat.le_of_ble_eq_true rfl) rfl ?_
  refine V_iload_n dX4_tenths_0 rfl 1 rfl ?_
  refine V_ifb_eq 27 dX4_tenths_1 (by decide) (fun h1 => ?_) (fun h1 => ?_)
  · refine V_iload_n dX4_tenths_27 rfl 2 rfl ?_
    refine V_ifb_eq 43 dX4_tenths_28 (by decide) (fun h2 => ?_) (fun h2 => ?_)
    · refine V_aload_n dX4_tenths_43 rfl 0 rfl ?_
      refine g_3_2 tw_93 dX4_tenths_44 ?_
      refine V_iconst (v := 1) dX4_tenths_47 ki_1 ?_
      refine l_17n (i := 1) (by decide) dX4_tenths_48 ?_
      refine V_iret rfl dX4_tenths_49 ⟨_, rfl, ?_⟩
      exact qcast hq (by simp [ten, h1, h2])
    · refine V_bipush (v := 10) dX4_tenths_31 kb_10 ?_
      refine V_aload_n dX4_tenths_33 rfl 0 rfl ?_
      refine g_3_2 tw_93 dX4_tenths_34 ?_
      refine V_iconst (v := 1) dX4_tenths_37 ki_1 ?_
      refine l_17n (i := 1) (by decide) dX4_tenths_38 ?_
      refine V_isub dX4_tenths_39 ?_
      refine V_goto 49 dX4_tenths_40 (by decide) ?_
      refine V_iret rfl dX4_tenths_49 ⟨_, rfl, ?_⟩
      exact qcast hq (by simp [ten, h1, h2])
  · refine V_iload_n dX4_tenths_4 rfl 2 rfl ?_
    refine V_ifb_eq 17 dX4_tenths_5 (by decide) (fun h3 => ?_) (fun h3 => ?_)
    · refine V_bipush (v := 10) dX4_tenths_17 kb_10 ?_
      refine V_aload_n dX4_tenths_19 rfl 0 rfl ?_
      refine g_3_2 tw_93 dX4_tenths_20 ?_
      refine V_iconst (v := 0) dX4_tenths_23 ki_0 ?_
      refine l_17n (i := 0) (by decide) dX4_tenths_24 ?_
      refine V_isub dX4_tenths_25 ?_
      refine V_iret rfl dX4_tenths_26 ⟨_, rfl, ?_⟩
      exact qcast hq (by simp [ten, h1, h3])
    · refine V_aload_n dX4_tenths_8 rfl 0 rfl ?_
      refine g_3_2 tw_93 dX4_tenths_9 ?_
      refine V_iconst (v := 0) dX4_tenths_12 ki_0 ?_
      refine l_17n (i := 0) (by decide) dX4_tenths_13 ?_
      refine V_goto 26 dX4_tenths_14 (by decide) ?_
      refine V_iret rfl dX4_tenths_26 ⟨_, rfl, ?_⟩
      exact qcast hq (by simp [ten, h1, h3])
theorem lp_weightOf {G : GX} {d m : Nat} {x : Int32} {w : Int64} {S : ST} {Q : Int64 → ST → Prop} (hD : DT S m) (hq : Q (wprod w (tenc S x) m) S) : ∀ (k i : Nat), i ≤ m → m - i < k → V (pM G (d + 1) mX4_weightOf (ql Q)) 52 [(7, .int (nI i)), (6, .int x), (4, .long (wprod w (tenc S x) i)), (0, .ref (G.2.1 3))] [] S := by
  intro k
  induction k with
  | zero => intro i hi hk; exact absurd hk (Nat.not_lt_zero _)
  | succ k ih =>
    intro i hi hk
    obtain ⟨hm, hm12, hv, hp⟩ := id hD
    refine V_iload dX4_weightOf_52 0 rfl ?_
    refine V_aload_n dX4_weightOf_54 rfl 3 rfl ?_
    refine g_3_1 tw_92 dX4_weightOf_55 ?_
    refine g_2_0 tw_69 dX4_weightOf_58 ?_
    refine V_topi (v := nI m) (id (hm)) ?_
    refine V_icmp_gen 112 (a := i) (b := m) dX4_weightOf_61 (by decide) (by omega) (by omega) (fun h1 => ?_) (fun h1 => ?_)
    · refine V_lload dX4_weightOf_112 2 rfl ?_
      have hin : i = m := by omega
      subst hin
      exact V_lret rfl dX4_weightOf_114 ⟨_, rfl, hq⟩
    · refine V_lload dX4_weightOf_64 2 rfl ?_
      refine V_lconst (v := 0) dX4_weightOf_66 rfl ?_
      refine V_lcmp dX4_weightOf_67 ?_
      refine V_if_eq 112 dX4_weightOf_68 (by decide) (fun h2 => ?_) (fun h2 => ?_)
      · refine V_lload dX4_weightOf_112 2 rfl ?_
        exact V_lret rfl dX4_weightOf_114 ⟨_, rfl, qcast hq (by rw [wprod_0 (lg0.mp h2) hi]; exact lg0.mp h2)⟩
      · refine V_lload dX4_weightOf_71 2 rfl ?_
        refine V_aload_n dX4_weightOf_73 rfl 3 rfl ?_
        refine V_iload dX4_weightOf_74 1 rfl ?_
        refine V_aload_n dX4_weightOf_76 rfl 3 rfl ?_
        refine g_3_1 tw_92 dX4_weightOf_77 ?_
        refine g_2_1 tw_72 dX4_weightOf_80 ?_
        refine V_iload dX4_weightOf_83 0 rfl ?_
        refine l_15n (by omega) dX4_weightOf_85 ?_
        refine V_topi (v := nI ((S.2.2.1 15 i).toNatClampNeg)) ((hv i h1).1) ?_
        refine V_cNi (P := pM G (d + 1) mX4_weightOf _) (d := d) (r := [.ref (G.2.1 3), .long (wprod w (tenc S x) i)]) (As := [.int x, .int (nI ((S.2.2.1 15 i).toNatClampNeg))]) (K := mX7_isBit) ok_X7_isBit nl_322 rfl (rmOk (Nat.le_of_ble_eq_true rfl)) (Nat.le_of_ble_eq_true rfl) dX4_weightOf_86 rfl (c_X7_isBit (Nat.lt_trans (hv i h1).2 (by decide)) ?_)
        refine V_aload_n dX4_weightOf_89 rfl 3 rfl ?_
        refine g_3_1 tw_92 dX4_weightOf_90 ?_
        refine g_2_2 tw_75 dX4_weightOf_93 ?_
        refine V_iload dX4_weightOf_96 0 rfl ?_
        refine l_16n (by omega) dX4_weightOf_98 ?_
        refine V_topi (v := b2i (decide (S.2.2.1 16 i ≠ 0))) (hp i h1) ?_
        refine V_cVi (P := pM G (d + 1) mX4_weightOf _) (d := d) 3 (r := [.long (wprod w (tenc S x) i)]) (As := [.int (b2i (bt x ((S.2.2.1 15 i).toNatClampNeg))), .int (b2i (decide (S.2.2.1 16 i ≠ 0)))]) (K := mX4_tenths) ok_X4_tenths tw_323 (ob_3 _) rfl (rmOk (Nat.le_of_ble_eq_true rfl)) (Nat.le_of_ble_eq_true rfl) dX4_weightOf_99 rfl (c_X4_tenths (f := (bt x ((S.2.2.1 15 i).toNatClampNeg))) (q := (decide (S.2.2.1 16 i ≠ 0))) ?_)
        refine V_i2l dX4_weightOf_102 ?_
        refine V_lmul dX4_weightOf_103 ?_
        refine V_lstore [(4, .long ((wprod w (tenc S x) i) * (Int32.toInt64 (ten (S.2.2.1 17) (bt x ((S.2.2.1 15 i).toNatClampNeg)) (decide (S.2.2.1 16 i ≠ 0)))))), (7, .int (nI i)), (6, .int x), (0, .ref (G.2.1 3))] dX4_weightOf_104 (Nat.le_of_ble_eq_true rfl) rfl ?_
        refine V_iinc [(7, .int (nI (i + 1))), (4, .long ((wprod w (tenc S x) i) * (Int32.toInt64 (ten (S.2.2.1 17) (bt x ((S.2.2.1 15 i).toNatClampNeg)) (decide (S.2.2.1 16 i ≠ 0)))))), (6, .int x), (0, .ref (G.2.1 3))] dX4_weightOf_106 1 rfl (nI_1 _) (Nat.le_of_ble_eq_true rfl) rfl ?_
        refine V_goto 52 dX4_weightOf_109 (by decide) ?_
        refine V_lv [(7, .int (nI (i + 1))), (6, .int x), (4, .long ((wprod w (tenc S x) i) * (Int32.toInt64 (ten (S.2.2.1 17) (bt x ((S.2.2.1 15 i).toNatClampNeg)) (decide (S.2.2.1 16 i ≠ 0)))))), (0, .ref (G.2.1 3))] [0, 2, 1, 3] rfl ?_
        refine V_lveq [(7, .int (nI (i + 1))), (6, .int x), (4, .long (wprod w (tenc S x) (i + 1))), (0, .ref (G.2.1 3))] (by rfl) ?_
        exact ih (i + 1) (by omega) (by omega)
theorem c_X4_weightOf {G : GX} {d : Nat} {S : ST} {s c e m : Nat} {Q : Int64 → ST → Prop} (hD : DT S m) (hs : s < 3) (hc : c < 12) (he : e < 12) (hq : Q (wO S m s c e) S) : Cn G (d + 1) mX4_weightOf [.ref (G.2.1 3), .int (nI s), .int (nI c), .int (nI e)] S (ql Q) := by
  refine Cn.intro (lv := [(0, .ref (G.2.1 3)), (1, .int (nI s)), (2, .int (nI c)), (3, .int (nI e))]) (by decide) (Nat.le_of_ble_eq_true rfl) rfl ?_
  rcases (show s = 0 ∨ s = 1 ∨ s = 2 by omega) with rfl | rfl | rfl
  · refine V_lveq [(0, .ref (G.2.1 3)), (1, .int 0), (2, .int (nI c)), (3, .int (nI e))] rfl ?_
    refine V_aload_n dX4_weightOf_0 rfl 0 rfl ?_
    refine g_3_2 tw_93 dX4_weightOf_1 ?_
    refine V_iconst (v := 2) dX4_weightOf_4 ki_2 ?_
    refine V_iload_n dX4_weightOf_5 rfl 1 rfl ?_
    refine V_iadd dX4_weightOf_6 ?_
    refine V_topi (v := 2) (by decide +kernel) ?_
    refine l_17n (i := 2) (by decide) dX4_weightOf_7 ?_
    refine V_aload_n dX4_weightOf_8 rfl 0 rfl ?_
    refine g_3_0 tw_91 dX4_weightOf_9 ?_
    refine g_1_3 tw_39 dX4_weightOf_12 ?_
    refine V_iload_n dX4_weightOf_15 rfl 2 rfl ?_
    refine l_11n (by omega) dX4_weightOf_16 ?_
    refine V_imul dX4_weightOf_17 ?_
    refine V_i2l dX4_weightOf_18 ?_
    refine V_lstore [(4, .long (Int32.toInt64 ((S.2.2.1 17 2) * (S.2.2.1 11 c)))), (0, .ref (G.2.1 3)), (1, .int 0), (2, .int (nI c)), (3, .int (nI e))] dX4_weightOf_19 (Nat.le_of_ble_eq_true rfl) rfl ?_
    refine V_iload_n dX4_weightOf_21 rfl 2 rfl ?_
    refine V_if_eq 40 dX4_weightOf_22 (by decide) (fun _ => ?_) (fun hz => absurd hz (by decide))
    refine V_aload_n dX4_weightOf_40 rfl 1 rfl ?_
    refine V_iload_n dX4_weightOf_41 rfl 2 rfl ?_
    refine V_iload_n dX4_weightOf_42 rfl 3 rfl ?_
    refine V_iload_n dX4_weightOf_43 rfl 4 rfl ?_
    refine V_cVi (P := pM G (d + 1) mX4_weightOf _) (d := d) 3 (r := []) (As := [.int 0, .int (nI c), .int (nI e)]) (K := mX4_failingOf) ok_X4_failingOf tw_318 (ob_3 _) rfl (rmOk (Nat.le_of_ble_eq_true rfl)) (Nat.le_of_ble_eq_true rfl) dX4_weightOf_44 rfl (c_X4_failingOf (s := 0) (by omega) (by omega) (by omega) ?_)
    refine V_istore [(6, .int (fO (S.2.2.1 10) 0 c e)), (4, .long (Int32.toInt64 ((S.2.2.1 17 2) * (S.2.2.1 11 c)))), (0, .ref (G.2.1 3)), (1, .int 0), (2, .int (nI c)), (3, .int (nI e))] dX4_weightOf_47 (Nat.le_of_ble_eq_true rfl) rfl ?_
    refine V_iconst (v := 0) dX4_weightOf_49 ki_0 ?_
    refine V_istore [(7, .int 0), (6, .int (fO (S.2.2.1 10) 0 c e)), (4, .long (Int32.toInt64 ((S.2.2.1 17 2) * (S.2.2.1 11 c)))), (0, .ref (G.2.1 3)), (1, .int 0), (2, .int (nI c)), (3, .int (nI e))] dX4_weightOf_50 (Nat.le_of_ble_eq_true rfl) rfl ?_
    refine V_lv [(7, .int 0), (6, .int (fO (S.2.2.1 10) 0 c e)), (4, .long (Int32.toInt64 ((S.2.2.1 17 2) * (S.2.2.1 11 c)))), (0, .ref (G.2.1 3))] [0, 1, 2, 3] rfl ?_
    refine V_lveq [(7, .int 0), (6, .int (fO (S.2.2.1 10) 0 c e)), (4, .long (wprod (w0c (S.2.2.1 17) (S.2.2.1 11) 0 c e) (tenc S (fO (S.2.2.1 10) 0 c e)) 0)), (0, .ref (G.2.1 3))] (by rfl) ?_
    exact lp_weightOf hD hq (m + 1) 0 (by omega) (by omega)
  · refine V_lveq [(0, .ref (G.2.1 3)), (1, .int 1), (2, .int (nI c)), (3, .int (nI e))] rfl ?_
    refine V_aload_n dX4_weightOf_0 rfl 0 rfl ?_
    refine g_3_2 tw_93 dX4_weightOf_1 ?_
    refine V_iconst (v := 2) dX4_weightOf_4 ki_2 ?_
    refine V_iload_n dX4_weightOf_5 rfl 1 rfl ?_
    refine V_iadd dX4_weightOf_6 ?_
    refine V_topi (v := 3) (by decide +kernel) ?_
    refine l_17n (i := 3) (by decide) dX4_weightOf_7 ?_
    refine V_aload_n dX4_weightOf_8 rfl 0 rfl ?_
    refine g_3_0 tw_91 dX4_weightOf_9 ?_
    refine g_1_3 tw_39 dX4_weightOf_12 ?_
    refine V_iload_n dX4_weightOf_15 rfl 2 rfl ?_
    refine l_11n (by omega) dX4_weightOf_16 ?_
    refine V_imul dX4_weightOf_17 ?_
    refine V_i2l dX4_weightOf_18 ?_
    refine V_lstore [(4, .long (Int32.toInt64 ((S.2.2.1 17 3) * (S.2.2.1 11 c)))), (0, .ref (G.2.1 3)), (1, .int 1), (2, .int (nI c)), (3, .int (nI e))] dX4_weightOf_19 (Nat.le_of_ble_eq_true rfl) rfl ?_
    refine V_iload_n dX4_weightOf_21 rfl 2 rfl ?_
    refine V_if_eq 40 dX4_weightOf_22 (by decide) (fun hz => absurd hz (by decide)) (fun _ => ?_)
    refine V_lload dX4_weightOf_25 0 rfl ?_
    refine V_aload_n dX4_weightOf_27 rfl 1 rfl ?_
    refine g_3_0 tw_91 dX4_weightOf_28 ?_
    refine g_1_3 tw_39 dX4_weightOf_31 ?_
    refine V_iload_n dX4_weightOf_34 rfl 4 rfl ?_
    refine l_11n (by omega) dX4_weightOf_35 ?_
    refine V_i2l dX4_weightOf_36 ?_
    refine V_lmul dX4_weightOf_37 ?_
    refine V_lstore [(4, .long ((Int32.toInt64 ((S.2.2.1 17 3) * (S.2.2.1 11 c))) * (Int32.toInt64 (S.2.2.1 11 e)))), (0, .ref (G.2.1 3)), (1, .int 1), (2, .int (nI c)), (3, .int (nI e))] dX4_weightOf_38 (Nat.le_of_ble_eq_true rfl) rfl ?_
    refine V_aload_n dX4_weightOf_40 rfl 1 rfl ?_
    refine V_iload_n dX4_weightOf_41 rfl 2 rfl ?_
    refine V_iload_n dX4_weightOf_42 rfl 3 rfl ?_
    refine V_iload_n dX4_weightOf_43 rfl 4 rfl ?_
    refine V_cVi (P := pM G (d + 1) mX4_weightOf _) (d := d) 3 (r := []) (As := [.int 1, .int (nI c), .int (nI e)]) (K := mX4_failingOf) ok_X4_failingOf tw_318 (ob_3 _) rfl (rmOk (Nat.le_of_ble_eq_true rfl)) (Nat.le_of_ble_eq_true rfl) dX4_weightOf_44 rfl (c_X4_failingOf (s := 1) (by omega) (by omega) (by omega) ?_)
    refine V_istore [(6, .int (fO (S.2.2.1 10) 1 c e)), (4, .long ((Int32.toInt64 ((S.2.2.1 17 3) * (S.2.2.1 11 c))) * (Int32.toInt64 (S.2.2.1 11 e)))), (0, .ref (G.2.1 3)), (1, .int 1), (2, .int (nI c)), (3, .int (nI e))] dX4_weightOf_47 (Nat.le_of_ble_eq_true rfl) rfl ?_
    refine V_iconst (v := 0) dX4_weightOf_49 ki_0 ?_
    refine V_istore [(7, .int 0), (6, .int (fO (S.2.2.1 10) 1 c e)), (4, .long ((Int32.toInt64 ((S.2.2.1 17 3) * (S.2.2.1 11 c))) * (Int32.toInt64 (S.2.2.1 11 e)))), (0, .ref (G.2.1 3)), (1, .int 1), (2, .int (nI c)), (3, .int (nI e))] dX4_weightOf_50 (Nat.le_of_ble_eq_true rfl) rfl ?_
    refine V_lv [(7, .int 0), (6, .int (fO (S.2.2.1 10) 1 c e)), (4, .long ((Int32.toInt64 ((S.2.2.1 17 3) * (S.2.2.1 11 c))) * (Int32.toInt64 (S.2.2.1 11 e)))), (0, .ref (G.2.1 3))] [0, 1, 2, 3] rfl ?_
    refine V_lveq [(7, .int 0), (6, .int (fO (S.2.2.1 10) 1 c e)), (4, .long (wprod (w0c (S.2.2.1 17) (S.2.2.1 11) 1 c e) (tenc S (fO (S.2.2.1 10) 1 c e)) 0)), (0, .ref (G.2.1 3))] (by rfl) ?_
    exact lp_weightOf hD hq (m + 1) 0 (by omega) (by omega)
  · refine V_lveq [(0, .ref (G.2.1 3)), (1, .int 2), (2, .int (nI c)), (3, .int (nI e))] rfl ?_
    refine V_aload_n dX4_weightOf_0 rfl 0 rfl ?_
    refine g_3_2 tw_93 dX4_weightOf_1 ?_
    refine V_iconst (v := 2) dX4_weightOf_4 ki_2 ?_
    refine V_iload_n dX4_weightOf_5 rfl 1 rfl ?_
    refine V_iadd dX4_weightOf_6 ?_
    refine V_topi (v := 4) (by decide +kernel) ?_
    refine l_17n (i := 4) (by decide) dX4_weightOf_7 ?_
    refine V_aload_n dX4_weightOf_8 rfl 0 rfl ?_
    refine g_3_0 tw_91 dX4_weightOf_9 ?_
    refine g_1_3 tw_39 dX4_weightOf_12 ?_
    refine V_iload_n dX4_weightOf_15 rfl 2 rfl ?_
    refine l_11n (by omega) dX4_weightOf_16 ?_
    refine V_imul dX4_weightOf_17 ?_
    refine V_i2l dX4_weightOf_18 ?_
    refine V_lstore [(4, .long (Int32.toInt64 ((S.2.2.1 17 4) * (S.2.2.1 11 c)))), (0, .ref (G.2.1 3)), (1, .int 2), (2, .int (nI c)), (3, .int (nI e))] dX4_weightOf_19 (Nat.le_of_ble_eq_true rfl) rfl ?_
    refine V_iload_n dX4_weightOf_21 rfl 2 rfl ?_
    refine V_if_eq 40 dX4_weightOf_22 (by decide) (fun hz => absurd hz (by decide)) (fun _ => ?_)
    refine V_lload dX4_weightOf_25 0 rfl ?_
    refine V_aload_n dX4_weightOf_27 rfl 1 rfl ?_
    refine g_3_0 tw_91 dX4_weightOf_28 ?_
    refine g_1_3 tw_39 dX4_weightOf_31 ?_
    refine V_iload_n dX4_weightOf_34 rfl 4 rfl ?_
    refine l_11n (by omega) dX4_weightOf_35 ?_
    refine V_i2l dX4_weightOf_36 ?_
    refine V_lmul dX4_weightOf_37 ?_
    refine V_lstore [(4, .long ((Int32.toInt64 ((S.2.2.1 17 4) * (S.2.2.1 11 c))) * (Int32.toInt64 (S.2.2.1 11 e)))), (0, .ref (G.2.1 3)), (1, .int 2), (2, .int (nI c)), (3, .int (nI e))] dX4_weightOf_38 (Nat.le_of_ble_eq_true rfl) rfl ?_
    refine V_aload_n dX4_weightOf_40 rfl 1 rfl ?_
    refine V_iload_n dX4_weightOf_41 rfl 2 rfl ?_
    refine V_iload_n dX4_weightOf_42 rfl 3 rfl ?_
    refine V_iload_n dX4_weightOf_43 rfl 4 rfl ?_
    refine V_cVi (P := pM G (d + 1) mX4_weightOf _) (d := d) 3 (r := []) (As := [.int 2, .int (nI c), .int (nI e)]) (K := mX4_failingOf) ok_X4_failingOf tw_318 (ob_3 _) rfl (rmOk (Nat.le_of_ble_eq_true rfl)) (Nat.le_of_ble_eq_true rfl) dX4_weightOf_44 rfl (c_X4_failingOf (s := 2) (by omega) (by omega) (by omega) ?_)
    refine V_istore [(6, .int (fO (S.2.2.1 10) 2 c e)), (4, .long ((Int32.toInt64 ((S.2.2.1 17 4) * (S.2.2.1 11 c))) * (Int32.toInt64 (S.2.2.1 11 e)))), (0, .ref (G.2.1 3)), (1, .int 2), (2, .int (nI c)), (3, .int (nI e))] dX4_weightOf_47 (Nat.le_of_ble_eq_true rfl) rfl ?_
    refine V_iconst (v := 0) dX4_weightOf_49 ki_0 ?_
    refine V_istore [(7, .int 0), (6, .int (fO (S.2.2.1 10) 2 c e)), (4, .long ((Int32.toInt64 ((S.2.2.1 17 4) * (S.2.2.1 11 c))) * (Int32.toInt64 (S.2.2.1 11 e)))), (0, .ref (G.2.1 3)), (1, .int 2), (2, .int (nI c)), (3, .int (nI e))] dX4_weightOf_50 (Nat.le_of_ble_eq_true rfl) rfl ?_
    refine V_lv [(7, .int 0), (6, .int (fO (S.2.2.1 10) 2 c e)), (4, .long ((Int32.toInt64 ((S.2.2.1 17 4) * (S.2.2.1 11 c))) * (Int32.toInt64 (S.2.2.1 11 e)))), (0, .ref (G.2.1 3))] [0, 1, 2, 3] rfl ?_
    refine V_lveq [(7, .int 0), (6, .int (fO (S.2.2.1 10) 2 c e)), (4, .long (wprod (w0c (S.2.2.1 17) (S.2.2.1 11) 2 c e) (tenc S (fO (S.2.2.1 10) 2 c e)) 0)), (0, .ref (G.2.1 3))] (by rfl) ?_
    exact lp_weightOf hD hq (m + 1) 0 (by omega) (by omega)
theorem c_X7_storyAt {G : GX} {d : Nat} {S : ST} {s c e : Nat} {Q : Int32 → ST → Prop}  (hq : Q (nI ((s * 12 + c) * 12 + e)) S) : Cn G d mX7_storyAt [.int (nI s), .int (nI c), .int (nI e)] S (qi Q) := by
  refine Cn.intro (lv := [(0, .int (nI s)), (1, .int (nI c)), (2, .int (nI e))]) (by decide) (Nat.le_of_ble_eq_true rfl) rfl ?_
  refine V_iload_n dX7_storyAt_0 rfl 0 rfl ?_
  refine V_bipush (v := 12) dX7_storyAt_1 kb_12 ?_
  refine V_imul dX7_storyAt_3 ?_
  refine V_topi (v := nI (s * 12)) (pk_mul s 12) ?_
  refine V_iload_n dX7_storyAt_4 rfl 1 rfl ?_
  refine V_iadd dX7_storyAt_5 ?_
  refine V_topi (v := nI (s * 12 + c)) (nI_add _ _) ?_
  refine V_bipush (v := 12) dX7_storyAt_6 kb_12 ?_
  refine V_imul dX7_storyAt_8 ?_
  refine V_topi (v := nI ((s * 12 + c) * 12)) (pk_mul _ 12) ?_
  refine V_iload_n dX7_storyAt_9 rfl 2 rfl ?_
  refine V_iadd dX7_storyAt_10 ?_
  refine V_topi (v := nI ((s * 12 + c) * 12 + e)) (nI_add _ _) ?_
  refine V_iret rfl dX7_storyAt_11 ⟨_, rfl, ?_⟩
  exact hq
theorem c_X7_sortAt {G : GX} {d : Nat} {S : ST} {y : Nat} {Q : Int32 → ST → Prop} (hy : y < 432) (hq : Q (nI (y / 144)) S) : Cn G d mX7_sortAt [.int (nI y)] S (qi Q) := by
  refine Cn.intro (lv := [(0, .int (nI y))]) (by decide) (Nat.le_of_ble_eq_true rfl) rfl ?_
  refine V_iload_n dX7_sortAt_0 rfl 0 rfl ?_
  refine V_sipush (v := 144) dX7_sortAt_1 ks_144 ?_
  refine V_idiv dX7_sortAt_4 (by decide) ?_
  refine V_topi (v := nI (y / 144)) (pk_div (d := 144) (by omega) (by omega) (by omega)) ?_
  refine V_iret rfl dX7_sortAt_5 ⟨_, rfl, ?_⟩
  exact hq
theorem c_X7_firstAt {G : GX} {d : Nat} {S : ST} {y : Nat} {Q : Int32 → ST → Prop} (hy : y < 432) (hq : Q (nI (y / 12 % 12)) S) : Cn G d mX7_firstAt [.int (nI y)] S (qi Q) := by
  refine Cn.intro (lv := [(0, .int (nI y))]) (by decide) (Nat.le_of_ble_eq_true rfl) rfl ?_
  refine V_iload_n dX7_firstAt_0 rfl 0 rfl ?_
  refine V_bipush (v := 12) dX7_firstAt_1 kb_12 ?_
  refine V_idiv dX7_firstAt_3 (by decide) ?_
  refine V_topi (v := nI (y / 12)) (pk_div (d := 12) (by omega) (by omega) (by omega)) ?_
  refine V_bipush (v := 12) dX7_firstAt_4 kb_12 ?_
  refine V_irem dX7_firstAt_6 (by decide) ?_
  refine V_topi (v := nI (y / 12 % 12)) (pk_rem (d := 12) (by omega) (by omega) (by omega)) ?_
  refine V_iret rfl dX7_firstAt_7 ⟨_, rfl, ?_⟩
  exact hq
theorem c_X7_secondAt {G : GX} {d : Nat} {S : ST} {y : Nat} {Q : Int32 → ST → Prop} (hy : y < 432) (hq : Q (nI (y % 12)) S) : Cn G d mX7_secondAt [.int (nI y)] S (qi Q) := by
  refine Cn.intro (lv := [(0, .int (nI y))]) (by decide) (Nat.le_of_ble_eq_true rfl) rfl ?_
  refine V_iload_n dX7_secondAt_0 rfl 0 rfl ?_
  refine V_bipush (v := 12) dX7_secondAt_1 kb_12 ?_
  refine V_irem dX7_secondAt_3 (by decide) ?_
  refine V_topi (v := nI (y % 12)) (pk_rem (d := 12) (by omega) (by omega) (by omega)) ?_
  refine V_iret rfl dX7_secondAt_4 ⟨_, rfl, ?_⟩
  exact hq
