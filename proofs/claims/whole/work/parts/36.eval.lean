/-- a text read from its end: a pile and its height; over any values -/
def stp {α : Type} (lt : Nat → α) (ng : α → α) (an og : α → α → α) (s : Int32) (a : (Nat → α) × Nat) : (Nat → α) × Nat := if fr s 97 108 then (va_up a.1 a.2 (lt (s - 97).toNatClampNeg), a.2 + 1) else if s = 33 then (va_up a.1 (a.2 - 1) (ng (a.1 (a.2 - 1))), a.2) else (va_up a.1 (a.2 - 2) (if s = 38 then an (a.1 (a.2 - 1)) (a.1 (a.2 - 2)) else og (a.1 (a.2 - 1)) (a.1 (a.2 - 2))), a.2 - 1)
def evl {α : Type} (lt : Nat → α) (ng : α → α) (an og : α → α → α) (f0 : Nat → α) (sg : Nat → Int32) (y : Nat) : Nat → (Nat → α) × Nat
  | 0 => (f0, 0)
  | m + 1 => stp lt ng an og (sg (y - 1 - m)) (evl lt ng an og f0 sg y m)
def tps (s : Int32) (t : Nat) : Nat := if fr s 97 108 then t + 1 else if s = 33 then t else t - 1
def tpn (sg : Nat → Int32) (y : Nat) : Nat → Nat
  | 0 => 0
  | m + 1 => tps (sg (y - 1 - m)) (tpn sg y m)
theorem tpn_s (sg : Nat → Int32) (y m : Nat) : tpn sg y (m + 1) = tps (sg (y - 1 - m)) (tpn sg y m) := rfl
theorem evl_t {α : Type} {lt : Nat → α} {ng : α → α} {an og : α → α → α} {f0 : Nat → α} {sg : Nat → Int32} {y : Nat} : ∀ m, (evl lt ng an og f0 sg y m).2 = tpn sg y m
  | 0 => rfl
  | m + 1 => by
    unfold evl tpn stp tps
    rw [evl_t m]
    split
    · rfl
    · split
      · rfl
      · rfl
theorem evl_s {α : Type} {lt : Nat → α} {ng : α → α} {an og : α → α → α} {f0 : Nat → α} {sg : Nat → Int32} {y m : Nat} : evl lt ng an og f0 sg y (m + 1) = stp lt ng an og (sg (y - 1 - m)) (evl lt ng an og f0 sg y m) := rfl
/-- the text stands: no sign finds too few texts behind it, one value is left -/
def WF (sg : Nat → Int32) (y : Nat) : Prop := y ≤ 40 ∧ tpn sg y y = 1 ∧ ∀ m, m < y → (fr (sg (y - 1 - m)) 97 108 = true ∨ (sg (y - 1 - m) = 33 ∧ 1 ≤ tpn sg y m) ∨ ((sg (y - 1 - m) = 38 ∨ sg (y - 1 - m) = 124) ∧ 2 ≤ tpn sg y m))
theorem tpn_le {sg : Nat → Int32} {y : Nat} : ∀ m, tpn sg y m ≤ m
  | 0 => Nat.le_refl 0
  | m + 1 => by
    have := tpn_le (sg := sg) (y := y) m
    unfold tpn tps
    split
    · omega
    · split
      · omega
      · omega
def evC (S : ST) (w y : Nat) (f0 : Nat → Int64) (m : Nat) : (Nat → Int64) × Nat := evl (fun c => sW c w) (fun x => x ^^^ -1) (fun a b => a &&& b) (fun a b => a ||| b) f0 (S.2.2.1 23) y m
theorem evC_s {S : ST} {w y m : Nat} {f0 : Nat → Int64} : evC S w y f0 (m + 1) = stp (fun c => sW c w) (fun x => x ^^^ -1) (fun a b => a &&& b) (fun a b => a ||| b) (S.2.2.1 23 (y - 1 - m)) (evC S w y f0 m) := rfl
theorem evC_t {S : ST} {w y m : Nat} {f0 : Nat → Int64} : (evC S w y f0 m).2 = tpn (S.2.2.1 23) y m := evl_t m
theorem va_updL (f : Nat → Int64) (k : Nat) (x : Int64) : vp_updL f k x = va_up f k x := rfl
theorem stp_l {α : Type} {lt : Nat → α} {ng : α → α} {an og : α → α → α} {s : Int32} {a : (Nat → α) × Nat} (h : fr s 97 108 = true) : stp lt ng an og s a = (va_up a.1 a.2 (lt (s - 97).toNatClampNeg), a.2 + 1) := by rw [stp, if_pos h]
theorem stp_n {α : Type} {lt : Nat → α} {ng : α → α} {an og : α → α → α} {s : Int32} {a : (Nat → α) × Nat} (h : s = 33) : stp lt ng an og s a = (va_up a.1 (a.2 - 1) (ng (a.1 (a.2 - 1))), a.2) := by
  subst h
  rw [stp, if_neg (by decide), if_pos rfl]
theorem stp_2 {α : Type} {lt : Nat → α} {ng : α → α} {an og : α → α → α} {s : Int32} {a : (Nat → α) × Nat} (h : s = 38 ∨ s = 124) : stp lt ng an og s a = (va_up a.1 (a.2 - 2) (if s = 38 then an (a.1 (a.2 - 1)) (a.1 (a.2 - 2)) else og (a.1 (a.2 - 1)) (a.1 (a.2 - 2))), a.2 - 1) := by
  rcases h with rfl | rfl
  · rw [stp, if_neg (by decide), if_neg (by decide)]
  · rw [stp, if_neg (by decide), if_neg (by decide)]
theorem txO_l {s : Int32} (h : fr s 97 108 = true) : txO s = 0 := by rw [txO, if_pos h]
theorem txO_n {s : Int32} (h : s = 33) : txO s = 1 := by subst h; decide
theorem txO_2 {s : Int32} (h : s = 38 ∨ s = 124) : txO s = 2 := by rcases h with rfl | rfl <;> decide
theorem let_c {s : Int32} (h : fr s 97 108 = true) : s - 97 = nI (s - 97).toNatClampNeg ∧ (s - 97).toNatClampNeg < 12 := by
  obtain ⟨j, h1, h2, rfl⟩ := fr_ex (a := 97) (b := 108) rfl rfl h (by omega)
  rw [show nI j - 97 = nI (j - 97) from pk_sub (b := 97) h1, nI_clamp (by omega)]
  exact ⟨rfl, by omega⟩
theorem lp_val {G : GX} {d y w : Nat} {S : ST} {f0 : Nat → Int64} {Q : Int64 → ST → Prop} (hg : S.1 8 = nI y) (hW : WF (S.2.2.1 23) y) (hw : w < 64) (hq : Q ((evC S w y f0 y).1 0) (setJr S 26 (evC S w y f0 y).1)) : ∀ (r m : Nat), r + m = y → V (pM G (d + 2) mX6_valueOf (ql Q)) 10 [(4, .int (nI r - 1)), (3, .int (nI (tpn (S.2.2.1 23) y m))), (0, .ref (G.2.1 7)), (1, .ref (G.2.1 6)), (2, .int (nI w))] [] (setJr S 26 (evC S w y f0 m).1) := by
  intro r
  induction r with
  | zero =>
    intro m hm
    have em : m = y := by omega
    subst em
    refine V_lveq [(4, .int (-1)), (3, .int 1), (0, .ref (G.2.1 7)), (1, .ref (G.2.1 6)), (2, .int (nI w))] (by rw [hW.2.1]; rfl) ?_
    refine V_iload dX6_valueOf_10 0 rfl ?_
    refine V_if_lt 155 dX6_valueOf_12 (by decide) (fun _ => ?_) (fun hz => absurd hz (by decide))
    refine V_iload_n dX6_valueOf_155 rfl 1 rfl ?_
    refine V_iconst (v := 1) dX6_valueOf_156 ki_1 ?_
    refine V_icmp_ne 169 dX6_valueOf_157 (by decide) (fun hz => absurd hz (by decide)) (fun _ => ?_)
    refine V_aload_n dX6_valueOf_160 rfl 2 rfl ?_
    refine g_7_2 tw_176 dX6_valueOf_161 ?_
    refine V_iconst (v := 0) dX6_valueOf_164 ki_0 ?_
    refine l_26n (i := 0) (by decide) dX6_valueOf_165 ?_
    refine V_goto 170 dX6_valueOf_166 (by decide) ?_
    exact V_lret rfl dX6_valueOf_170 ⟨_, rfl, hq⟩
  | succ r ih =>
    intro m hm
    have er : y - 1 - m = r := by omega
    have hy40 := hW.1
    have hT := tpn_le (sg := S.2.2.1 23) (y := y) m
    have hs := hW.2.2 m (by omega)
    rw [er] at hs
    refine V_lveq [(4, .int (nI r)), (3, .int (nI (tpn (S.2.2.1 23) y m))), (0, .ref (G.2.1 7)), (1, .ref (G.2.1 6)), (2, .int (nI w))] (by rw [nI_pred]) ?_
    rcases hs with hs | ⟨hs, ht⟩ | ⟨hs, ht⟩
    · refine V_iload dX6_valueOf_10 0 rfl ?_
      refine V_if_ltn 155 (a := r) dX6_valueOf_12 (by decide) (by omega) (fun hz => hz.elim) (fun _ => ?_)
      refine V_aload_n dX6_valueOf_15 rfl 3 rfl ?_
      refine g_6_1 tw_156 dX6_valueOf_16 ?_
      refine V_iload dX6_valueOf_19 0 rfl ?_
      refine l_23n (by omega) dX6_valueOf_21 ?_
      refine V_topi (v := S.2.2.1 23 r) ((rfl)) ?_
      refine V_istore [(5, .int (S.2.2.1 23 r)), (4, .int (nI r)), (3, .int (nI (tpn (S.2.2.1 23) y m))), (0, .ref (G.2.1 7)), (1, .ref (G.2.1 6)), (2, .int (nI w))] dX6_valueOf_22 (Nat.le_of_ble_eq_true rfl) rfl ?_
      refine V_iload dX6_valueOf_24 0 rfl ?_
      refine V_cSi (P := pM G (d + 2) mX6_valueOf _) (d := d + 1) (r := []) (As := [.int (S.2.2.1 23 r)]) (K := mX5_textsOf) ok_X5_textsOf tw_521 rfl (rmOk (Nat.le_of_ble_eq_true rfl)) (Nat.le_of_ble_eq_true rfl) dX6_valueOf_26 rfl (c_X5_textsOf ?_)
      refine V_topi (v := 0) (txO_l hs) ?_
      refine V_istore [(6, .int 0), (5, .int (S.2.2.1 23 r)), (4, .int (nI r)), (3, .int (nI (tpn (S.2.2.1 23) y m))), (0, .ref (G.2.1 7)), (1, .ref (G.2.1 6)), (2, .int (nI w))] dX6_valueOf_29 (Nat.le_of_ble_eq_true rfl) rfl ?_
      refine V_iload dX6_valueOf_31 0 rfl ?_
      refine V_iconst (v := -1) dX6_valueOf_33 ki_m1 ?_
      refine V_icmp_eq 43 dX6_valueOf_34 (by decide) (fun hz => absurd hz (by decide)) (fun _ => ?_)
      refine V_iload dX6_valueOf_37 0 rfl ?_
      refine V_iload_n dX6_valueOf_39 rfl 3 rfl ?_
      refine V_icmp_len 45 (a := 0) (b := (tpn (S.2.2.1 23) y m)) dX6_valueOf_40 (by decide) (by omega) (by omega) (fun h1 => ?_) (fun h1 => ?_)
      · refine V_iload dX6_valueOf_45 0 rfl ?_
        refine V_if_ne 71 dX6_valueOf_47 (by decide) (fun hz => absurd hz (by decide)) (fun _ => ?_)
        refine V_aload_n dX6_valueOf_50 rfl 4 rfl ?_
        refine g_7_2 tw_176 dX6_valueOf_51 ?_
        refine V_iload_n dX6_valueOf_54 rfl 3 rfl ?_
        refine V_iload dX6_valueOf_55 1 rfl ?_
        refine V_bipush (v := 97) dX6_valueOf_57 kb_97 ?_
        refine V_isub dX6_valueOf_59 ?_
        refine V_topi (v := nI ((S.2.2.1 23 r - 97).toNatClampNeg)) ((let_c hs).1) ?_
        refine V_iload_n dX6_valueOf_60 rfl 6 rfl ?_
        refine V_cNl (P := pM G (d + 2) mX6_valueOf _) (d := d + 1) (r := [.int (nI (tpn (S.2.2.1 23) y m)), .ref (G.2.1 26)]) (As := [.int (nI ((S.2.2.1 23 r - 97).toNatClampNeg)), .int (nI w)]) (K := mX7_setsWith) ok_X7_setsWith nl_522 rfl (rmOk (Nat.le_of_ble_eq_true rfl)) (Nat.le_of_ble_eq_true rfl) dX6_valueOf_61 rfl (c_X7_setsWith (c := (S.2.2.1 23 r - 97).toNatClampNeg) (let_c hs).2 ?_)
        refine s_26n (by omega) dX6_valueOf_64 ?_
        refine V_iinc [(3, .int (nI ((tpn (S.2.2.1 23) y m) + 1))), (6, .int 0), (5, .int (S.2.2.1 23 r)), (4, .int (nI r)), (0, .ref (G.2.1 7)), (1, .ref (G.2.1 6)), (2, .int (nI w))] dX6_valueOf_65 3 rfl (nI_1 _) (Nat.le_of_ble_eq_true rfl) rfl ?_
        refine V_goto 149 dX6_valueOf_68 (by decide) ?_
        refine V_iinc [(4, .int (nI r - 1)), (3, .int (nI ((tpn (S.2.2.1 23) y m) + 1))), (6, .int 0), (5, .int (S.2.2.1 23 r)), (0, .ref (G.2.1 7)), (1, .ref (G.2.1 6)), (2, .int (nI w))] dX6_valueOf_149 3 rfl (by rw [ki_m1]; exact (Int32.sub_eq_add_neg _ _).symm) (Nat.le_of_ble_eq_true rfl) rfl ?_
        refine V_goto 10 dX6_valueOf_152 (by decide) ?_
        refine V_lv [(4, .int (nI r - 1)), (3, .int (nI ((tpn (S.2.2.1 23) y m) + 1))), (0, .ref (G.2.1 7)), (1, .ref (G.2.1 6)), (2, .int (nI w))] [0, 1, 4, 5, 6] rfl ?_
        refine V_lveq [(4, .int (nI r - 1)), (3, .int (nI (tpn (S.2.2.1 23) y (m + 1)))), (0, .ref (G.2.1 7)), (1, .ref (G.2.1 6)), (2, .int (nI w))] (by rw [show tpn (S.2.2.1 23) y (m + 1) = (tpn (S.2.2.1 23) y m + 1) from by rw [tpn_s, er]; rw [tps, if_pos hs]]) ?_
        refine V_S (S2 := setJr S 26 (evC S w y f0 (m + 1)).1) (by rw [setJ_Jr, evC_s, er, stp_l hs, evC_t]; rfl) ?_
        exact ih (m + 1) (by omega)
      · exfalso; omega
    · refine V_iload dX6_valueOf_10 0 rfl ?_
      refine V_if_ltn 155 (a := r) dX6_valueOf_12 (by decide) (by omega) (fun hz => hz.elim) (fun _ => ?_)
      refine V_aload_n dX6_valueOf_15 rfl 3 rfl ?_
      refine g_6_1 tw_156 dX6_valueOf_16 ?_
      refine V_iload dX6_valueOf_19 0 rfl ?_
      refine l_23n (by omega) dX6_valueOf_21 ?_
      refine V_topi (v := S.2.2.1 23 r) ((rfl)) ?_
      refine V_istore [(5, .int (S.2.2.1 23 r)), (4, .int (nI r)), (3, .int (nI (tpn (S.2.2.1 23) y m))), (0, .ref (G.2.1 7)), (1, .ref (G.2.1 6)), (2, .int (nI w))] dX6_valueOf_22 (Nat.le_of_ble_eq_true rfl) rfl ?_
      refine V_iload dX6_valueOf_24 0 rfl ?_
      refine V_cSi (P := pM G (d + 2) mX6_valueOf _) (d := d + 1) (r := []) (As := [.int (S.2.2.1 23 r)]) (K := mX5_textsOf) ok_X5_textsOf tw_521 rfl (rmOk (Nat.le_of_ble_eq_true rfl)) (Nat.le_of_ble_eq_true rfl) dX6_valueOf_26 rfl (c_X5_textsOf ?_)
      refine V_topi (v := 1) (txO_n hs) ?_
      refine V_istore [(6, .int 1), (5, .int (S.2.2.1 23 r)), (4, .int (nI r)), (3, .int (nI (tpn (S.2.2.1 23) y m))), (0, .ref (G.2.1 7)), (1, .ref (G.2.1 6)), (2, .int (nI w))] dX6_valueOf_29 (Nat.le_of_ble_eq_true rfl) rfl ?_
      refine V_iload dX6_valueOf_31 0 rfl ?_
      refine V_iconst (v := -1) dX6_valueOf_33 ki_m1 ?_
      refine V_icmp_eq 43 dX6_valueOf_34 (by decide) (fun hz => absurd hz (by decide)) (fun _ => ?_)
      refine V_iload dX6_valueOf_37 0 rfl ?_
      refine V_iload_n dX6_valueOf_39 rfl 3 rfl ?_
      refine V_icmp_len 45 (a := 1) (b := (tpn (S.2.2.1 23) y m)) dX6_valueOf_40 (by decide) (by omega) (by omega) (fun h1 => ?_) (fun h1 => ?_)
      · refine V_iload dX6_valueOf_45 0 rfl ?_
        refine V_if_ne 71 dX6_valueOf_47 (by decide) (fun _ => ?_) (fun hz => absurd hz (by decide))
        refine V_iload dX6_valueOf_71 0 rfl ?_
        refine V_iconst (v := 1) dX6_valueOf_73 ki_1 ?_
        refine V_icmp_ne 100 dX6_valueOf_74 (by decide) (fun hz => absurd hz (by decide)) (fun _ => ?_)
        refine V_aload_n dX6_valueOf_77 rfl 4 rfl ?_
        refine g_7_2 tw_176 dX6_valueOf_78 ?_
        refine V_iload_n dX6_valueOf_81 rfl 3 rfl ?_
        refine V_iconst (v := 1) dX6_valueOf_82 ki_1 ?_
        refine V_isub dX6_valueOf_83 ?_
        refine V_topi (v := nI (tpn (S.2.2.1 23) y m - 1)) (pk_sub (b := 1) (by omega)) ?_
        refine V_aload_n dX6_valueOf_84 rfl 4 rfl ?_
        refine g_7_2 tw_176 dX6_valueOf_85 ?_
        refine V_iload_n dX6_valueOf_88 rfl 3 rfl ?_
        refine V_iconst (v := 1) dX6_valueOf_89 ki_1 ?_
        refine V_isub dX6_valueOf_90 ?_
        refine V_topi (v := nI (tpn (S.2.2.1 23) y m - 1)) (pk_sub (b := 1) (by omega)) ?_
        refine l_26n (by omega) dX6_valueOf_91 ?_
        refine V_ldc2 dX6_valueOf_92 tw_529 ?_
        refine V_lxor dX6_valueOf_95 ?_
        refine s_26n (by omega) dX6_valueOf_96 ?_
        refine V_goto 149 dX6_valueOf_97 (by decide) ?_
        refine V_iinc [(4, .int (nI r - 1)), (6, .int 1), (5, .int (S.2.2.1 23 r)), (3, .int (nI (tpn (S.2.2.1 23) y m))), (0, .ref (G.2.1 7)), (1, .ref (G.2.1 6)), (2, .int (nI w))] dX6_valueOf_149 2 rfl (by rw [ki_m1]; exact (Int32.sub_eq_add_neg _ _).symm) (Nat.le_of_ble_eq_true rfl) rfl ?_
        refine V_goto 10 dX6_valueOf_152 (by decide) ?_
        refine V_lv [(4, .int (nI r - 1)), (3, .int (nI (tpn (S.2.2.1 23) y m))), (0, .ref (G.2.1 7)), (1, .ref (G.2.1 6)), (2, .int (nI w))] [0, 3, 4, 5, 6] rfl ?_
        refine V_lveq [(4, .int (nI r - 1)), (3, .int (nI (tpn (S.2.2.1 23) y (m + 1)))), (0, .ref (G.2.1 7)), (1, .ref (G.2.1 6)), (2, .int (nI w))] (by rw [show tpn (S.2.2.1 23) y (m + 1) = tpn (S.2.2.1 23) y m from by rw [tpn_s, er]; rw [hs]; rfl]) ?_
        refine V_S (S2 := setJr S 26 (evC S w y f0 (m + 1)).1) (by rw [setJ_Jr, evC_s, er, stp_n hs, evC_t]; rfl) ?_
        exact ih (m + 1) (by omega)
      · exfalso; omega
    · refine V_iload dX6_valueOf_10 0 rfl ?_
      refine V_if_ltn 155 (a := r) dX6_valueOf_12 (by decide) (by omega) (fun hz => hz.elim) (fun _ => ?_)
      refine V_aload_n dX6_valueOf_15 rfl 3 rfl ?_
      refine g_6_1 tw_156 dX6_valueOf_16 ?_
      refine V_iload dX6_valueOf_19 0 rfl ?_
      refine l_23n (by omega) dX6_valueOf_21 ?_
      refine V_topi (v := S.2.2.1 23 r) ((rfl)) ?_
      refine V_istore [(5, .int (S.2.2.1 23 r)), (4, .int (nI r)), (3, .int (nI (tpn (S.2.2.1 23) y m))), (0, .ref (G.2.1 7)), (1, .ref (G.2.1 6)), (2, .int (nI w))] dX6_valueOf_22 (Nat.le_of_ble_eq_true rfl) rfl ?_
      refine V_iload dX6_valueOf_24 0 rfl ?_
      refine V_cSi (P := pM G (d + 2) mX6_valueOf _) (d := d + 1) (r := []) (As := [.int (S.2.2.1 23 r)]) (K := mX5_textsOf) ok_X5_textsOf tw_521 rfl (rmOk (Nat.le_of_ble_eq_true rfl)) (Nat.le_of_ble_eq_true rfl) dX6_valueOf_26 rfl (c_X5_textsOf ?_)
      refine V_topi (v := 2) (txO_2 hs) ?_
      refine V_istore [(6, .int 2), (5, .int (S.2.2.1 23 r)), (4, .int (nI r)), (3, .int (nI (tpn (S.2.2.1 23) y m))), (0, .ref (G.2.1 7)), (1, .ref (G.2.1 6)), (2, .int (nI w))] dX6_valueOf_29 (Nat.le_of_ble_eq_true rfl) rfl ?_
      refine V_iload dX6_valueOf_31 0 rfl ?_
      refine V_iconst (v := -1) dX6_valueOf_33 ki_m1 ?_
      refine V_icmp_eq 43 dX6_valueOf_34 (by decide) (fun hz => absurd hz (by decide)) (fun _ => ?_)
      refine V_iload dX6_valueOf_37 0 rfl ?_
      refine V_iload_n dX6_valueOf_39 rfl 3 rfl ?_
      refine V_icmp_len 45 (a := 2) (b := (tpn (S.2.2.1 23) y m)) dX6_valueOf_40 (by decide) (by omega) (by omega) (fun h1 => ?_) (fun h1 => ?_)
      · refine V_iload dX6_valueOf_45 0 rfl ?_
        refine V_if_ne 71 dX6_valueOf_47 (by decide) (fun _ => ?_) (fun hz => absurd hz (by decide))
        refine V_iload dX6_valueOf_71 0 rfl ?_
        refine V_iconst (v := 1) dX6_valueOf_73 ki_1 ?_
        refine V_icmp_ne 100 dX6_valueOf_74 (by decide) (fun _ => ?_) (fun hz => absurd hz (by decide))
        refine V_iinc [(3, .int (nI (tpn (S.2.2.1 23) y m - 1))), (6, .int 2), (5, .int (S.2.2.1 23 r)), (4, .int (nI r)), (0, .ref (G.2.1 7)), (1, .ref (G.2.1 6)), (2, .int (nI w))] dX6_valueOf_100 3 rfl (by rw [ki_m1]; exact sb_m1 (by omega)) (Nat.le_of_ble_eq_true rfl) rfl ?_
        refine V_aload_n dX6_valueOf_103 rfl 4 rfl ?_
        refine g_7_2 tw_176 dX6_valueOf_104 ?_
        refine V_iload_n dX6_valueOf_107 rfl 0 rfl ?_
        refine l_26n (by omega) dX6_valueOf_108 ?_
        refine V_lstore [(7, .long ((setJr S 26 (evC S w y f0 m).1).2.2.2 26 (tpn (S.2.2.1 23) y m - 1))), (3, .int (nI (tpn (S.2.2.1 23) y m - 1))), (6, .int 2), (5, .int (S.2.2.1 23 r)), (4, .int (nI r)), (0, .ref (G.2.1 7)), (1, .ref (G.2.1 6)), (2, .int (nI w))] dX6_valueOf_109 (Nat.le_of_ble_eq_true rfl) rfl ?_
        refine V_aload_n dX6_valueOf_111 rfl 5 rfl ?_
        refine g_7_2 tw_176 dX6_valueOf_112 ?_
        refine V_iload_n dX6_valueOf_115 rfl 1 rfl ?_
        refine V_iconst (v := 1) dX6_valueOf_116 ki_1 ?_
        refine V_isub dX6_valueOf_117 ?_
        refine V_topi (v := nI (tpn (S.2.2.1 23) y m - 1 - 1)) (pk_sub (b := 1) (by omega)) ?_
        refine l_26n (by omega) dX6_valueOf_118 ?_
        refine V_lstore [(9, .long ((setJr S 26 (evC S w y f0 m).1).2.2.2 26 (tpn (S.2.2.1 23) y m - 1 - 1))), (7, .long ((setJr S 26 (evC S w y f0 m).1).2.2.2 26 (tpn (S.2.2.1 23) y m - 1))), (3, .int (nI (tpn (S.2.2.1 23) y m - 1))), (6, .int 2), (5, .int (S.2.2.1 23 r)), (4, .int (nI r)), (0, .ref (G.2.1 7)), (1, .ref (G.2.1 6)), (2, .int (nI w))] dX6_valueOf_119 (Nat.le_of_ble_eq_true rfl) rfl ?_
        refine V_aload_n dX6_valueOf_121 rfl 6 rfl ?_
        refine g_7_2 tw_176 dX6_valueOf_122 ?_
        refine V_iload_n dX6_valueOf_125 rfl 2 rfl ?_
        refine V_iconst (v := 1) dX6_valueOf_126 ki_1 ?_
        refine V_isub dX6_valueOf_127 ?_
        refine V_topi (v := nI (tpn (S.2.2.1 23) y m - 1 - 1)) (pk_sub (b := 1) (by omega)) ?_
        refine V_iload dX6_valueOf_128 4 rfl ?_
        refine V_bipush (v := 38) dX6_valueOf_130 kb_38 ?_
        refine V_icmp_ne 143 dX6_valueOf_132 (by decide) (fun h2 => ?_) (fun h2 => ?_)
        · refine V_lload dX6_valueOf_143 1 rfl ?_
          refine V_lload dX6_valueOf_145 0 rfl ?_
          refine V_lor dX6_valueOf_147 ?_
          refine s_26n (by omega) dX6_valueOf_148 ?_
          refine V_iinc [(4, .int (nI r - 1)), (9, .long ((setJr S 26 (evC S w y f0 m).1).2.2.2 26 (tpn (S.2.2.1 23) y m - 1 - 1))), (7, .long ((setJr S 26 (evC S w y f0 m).1).2.2.2 26 (tpn (S.2.2.1 23) y m - 1))), (3, .int (nI (tpn (S.2.2.1 23) y m - 1))), (6, .int 2), (5, .int (S.2.2.1 23 r)), (0, .ref (G.2.1 7)), (1, .ref (G.2.1 6)), (2, .int (nI w))] dX6_valueOf_149 5 rfl (by rw [ki_m1]; exact (Int32.sub_eq_add_neg _ _).symm) (Nat.le_of_ble_eq_true rfl) rfl ?_
          refine V_goto 10 dX6_valueOf_152 (by decide) ?_
          refine V_lv [(4, .int (nI r - 1)), (3, .int (nI (tpn (S.2.2.1 23) y m - 1))), (0, .ref (G.2.1 7)), (1, .ref (G.2.1 6)), (2, .int (nI w))] [0, 3, 6, 7, 8] rfl ?_
          refine V_lveq [(4, .int (nI r - 1)), (3, .int (nI (tpn (S.2.2.1 23) y (m + 1)))), (0, .ref (G.2.1 7)), (1, .ref (G.2.1 6)), (2, .int (nI w))] (by rw [show tpn (S.2.2.1 23) y (m + 1) = (tpn (S.2.2.1 23) y m - 1) from by rw [tpn_s, er]; rcases hs with hs | hs <;> (rw [hs]; rfl)]) ?_
          refine V_S (S2 := setJr S 26 (evC S w y f0 (m + 1)).1) (by rw [setJ_Jr, evC_s, er, stp_2 hs, evC_t]; rw [if_neg h2]; rfl) ?_
          exact ih (m + 1) (by omega)
        · refine V_lload dX6_valueOf_135 1 rfl ?_
          refine V_lload dX6_valueOf_137 0 rfl ?_
          refine V_land dX6_valueOf_139 ?_
          refine V_goto 148 dX6_valueOf_140 (by decide) ?_
          refine s_26n (by omega) dX6_valueOf_148 ?_
          refine V_iinc [(4, .int (nI r - 1)), (9, .long ((setJr S 26 (evC S w y f0 m).1).2.2.2 26 (tpn (S.2.2.1 23) y m - 1 - 1))), (7, .long ((setJr S 26 (evC S w y f0 m).1).2.2.2 26 (tpn (S.2.2.1 23) y m - 1))), (3, .int (nI (tpn (S.2.2.1 23) y m - 1))), (6, .int 2), (5, .int (S.2.2.1 23 r)), (0, .ref (G.2.1 7)), (1, .ref (G.2.1 6)), (2, .int (nI w))] dX6_valueOf_149 5 rfl (by rw [ki_m1]; exact (Int32.sub_eq_add_neg _ _).symm) (Nat.le_of_ble_eq_true rfl) rfl ?_
          refine V_goto 10 dX6_valueOf_152 (by decide) ?_
          refine V_lv [(4, .int (nI r - 1)), (3, .int (nI (tpn (S.2.2.1 23) y m - 1))), (0, .ref (G.2.1 7)), (1, .ref (G.2.1 6)), (2, .int (nI w))] [0, 3, 6, 7, 8] rfl ?_
          refine V_lveq [(4, .int (nI r - 1)), (3, .int (nI (tpn (S.2.2.1 23) y (m + 1)))), (0, .ref (G.2.1 7)), (1, .ref (G.2.1 6)), (2, .int (nI w))] (by rw [show tpn (S.2.2.1 23) y (m + 1) = (tpn (S.2.2.1 23) y m - 1) from by rw [tpn_s, er]; rcases hs with hs | hs <;> (rw [hs]; rfl)]) ?_
          refine V_S (S2 := setJr S 26 (evC S w y f0 (m + 1)).1) (by rw [setJ_Jr, evC_s, er, stp_2 hs, evC_t]; rw [if_pos h2]; rfl) ?_
          exact ih (m + 1) (by omega)
      · exfalso; omega
