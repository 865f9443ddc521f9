def PB (g : Nat → Int32) (sg : Nat → Int32) (y t m : Nat) : Prop := ∀ i, i < tpn sg y m → g i = b2i ((evB sg y t m).1 i)
theorem PB_l {g sg : Nat → Int32} {y t m r : Nat} {v : Int32} (h : PB g sg y t m) (er : y - 1 - m = r) (hs : fr (sg r) 97 108 = true) (hv : v = b2i (t.testBit (sg r - 97).toNatClampNeg)) : PB (upd g (tpn sg y m) v) sg y t (m + 1) := by
  intro i hi
  rw [evB_s, er, stp_l hs, evB_t]
  rw [tpn_s, er, tps, if_pos hs] at hi
  show upd _ _ _ i = b2i (va_up _ _ _ i)
  unfold upd va_up
  by_cases e : i = tpn sg y m
  · rw [if_pos e, if_pos e, hv]
  · rw [if_neg e, if_neg e]; exact h i (by omega)
theorem PB_n {g sg : Nat → Int32} {y t m r : Nat} {v : Int32} (h : PB g sg y t m) (er : y - 1 - m = r) (hs : sg r = 33) (hv : v = b2i (!(evB sg y t m).1 (tpn sg y m - 1))) : PB (upd g (tpn sg y m - 1) v) sg y t (m + 1) := by
  intro i hi
  rw [evB_s, er, stp_n hs, evB_t]
  rw [tpn_s, er, hs] at hi
  have hi2 : i < tpn sg y m := hi
  show upd _ _ _ i = b2i (va_up _ _ _ i)
  unfold upd va_up
  by_cases e : i = tpn sg y m - 1
  · rw [if_pos e, if_pos e, hv]
  · rw [if_neg e, if_neg e]; exact h i hi2
theorem PB_2 {g sg : Nat → Int32} {y t m r : Nat} {v : Int32} (h : PB g sg y t m) (er : y - 1 - m = r) (hs : sg r = 38 ∨ sg r = 124) (hv : v = b2i (if sg r = 38 then (evB sg y t m).1 (tpn sg y m - 1) && (evB sg y t m).1 (tpn sg y m - 1 - 1) else (evB sg y t m).1 (tpn sg y m - 1) || (evB sg y t m).1 (tpn sg y m - 1 - 1))) : PB (upd g (tpn sg y m - 1 - 1) v) sg y t (m + 1) := by
  intro i hi
  rw [evB_s, er, stp_2 hs, evB_t]
  have hi2 : i < tpn sg y m - 1 := by rw [tpn_s, er] at hi; rcases hs with hs | hs <;> (rw [hs] at hi; exact hi)
  show upd _ _ _ i = b2i (va_up _ _ _ i)
  unfold upd va_up
  have e2 : tpn sg y m - 1 - 1 = tpn sg y m - 2 := by omega
  rw [e2] at hv ⊢
  by_cases e : i = tpn sg y m - 2
  · rw [if_pos e, if_pos e]; exact hv
  · rw [if_neg e, if_neg e]; exact h i (by omega)
def FrP (S0 S : ST) : Prop := S.1 = S0.1 ∧ S.2.1 = S0.2.1 ∧ (∀ c, c ≠ 49 → S.2.2.1 c = S0.2.2.1 c) ∧ S.2.2.2 = S0.2.2.2
theorem FrP.set (S : ST) (f : Nat → Int32) : FrP S (setAr S 49 f) := ⟨rfl, rfl, fun c h => by simp [setAr, va_up, h], rfl⟩
theorem vpz_01 {v : Int32} {b : Bool} (h : v = b2i b) : vp_nar .boolean v = b2i b := by rw [h, vpz]
theorem lp_fails {G : GX} {d y t : Nat} {S : ST} {Q : Int32 → ST → Prop} (hg : S.1 13 = nI y) (hW : WF (S.2.2.1 39) y) (ht : t < 4096) (hq : ∀ S2, FrP S S2 → Q (b2i (tv (S.2.2.1 39) y t)) S2) : ∀ (r m : Nat) (g : Nat → Int32), r + m = y → PB g (S.2.2.1 39) y t m → V (pM G (d + 1) mX8_failsOf (qi Q)) 9 [(3, .int (nI r - 1)), (2, .int (nI (tpn (S.2.2.1 39) y m))), (0, .ref (G.2.1 29)), (1, .int (nI t))] [] (setAr S 49 g) := by
  intro r
  induction r with
  | zero =>
    intro m g hm hB
    have em : m = y := by omega
    subst em
    have e0 : g 0 = b2i (tv (S.2.2.1 39) m t) := hB 0 (by rw [hW.2.1]; omega)
    refine V_lveq [(3, .int (-1)), (2, .int 1), (0, .ref (G.2.1 29)), (1, .int (nI t))] (by rw [hW.2.1]; rfl) ?_
    refine V_iload_n dX8_failsOf_9 rfl 0 rfl ?_
    refine V_if_lt 165 dX8_failsOf_10 (by decide) (fun _ => ?_) (fun hz => absurd hz (by decide))
    refine V_aload_n dX8_failsOf_165 rfl 2 rfl ?_
    refine g_29_26 tw_654 dX8_failsOf_166 ?_
    refine V_iconst (v := 0) dX8_failsOf_169 ki_0 ?_
    refine l_49n (i := 0) (by decide) dX8_failsOf_170 ?_
    refine V_topi (v := b2i (tv (S.2.2.1 39) m t)) ((e0)) ?_
    exact V_zret rfl dX8_failsOf_171 (b2i_nar _) ⟨_, rfl, hq _ (FrP.set S g)⟩
  | succ r ih =>
    intro m g hm hB
    have er : y - 1 - m = r := by omega
    have hy40 := hW.1
    have hT := tpn_le (sg := S.2.2.1 39) (y := y) m
    have hs := hW.2.2 m (by omega)
    rw [er] at hs
    refine V_lveq [(3, .int (nI r)), (2, .int (nI (tpn (S.2.2.1 39) y m))), (0, .ref (G.2.1 29)), (1, .int (nI t))] (by rw [nI_pred]) ?_
    rcases hs with hs | ⟨hs, ht2⟩ | ⟨hs, ht2⟩
    · refine V_iload_n dX8_failsOf_9 rfl 0 rfl ?_
      refine V_if_ltn 165 (a := r) dX8_failsOf_10 (by decide) (by omega) (fun hz => hz.elim) (fun _ => ?_)
      refine V_aload_n dX8_failsOf_13 rfl 2 rfl ?_
      refine g_29_13 tw_641 dX8_failsOf_14 ?_
      refine V_iload_n dX8_failsOf_17 rfl 0 rfl ?_
      refine l_39n (by omega) dX8_failsOf_18 ?_
      refine V_topi (v := S.2.2.1 39 r) ((rfl)) ?_
      refine V_istore [(4, .int (S.2.2.1 39 r)), (3, .int (nI r)), (2, .int (nI (tpn (S.2.2.1 39) y m))), (0, .ref (G.2.1 29)), (1, .int (nI t))] dX8_failsOf_19 (Nat.le_of_ble_eq_true rfl) rfl ?_
      refine V_iload dX8_failsOf_21 0 rfl ?_
      refine V_bipush (v := 97) dX8_failsOf_23 kb_97 ?_
      refine V_bipush (v := 108) dX8_failsOf_25 kb_108 ?_
      refine V_cSi (P := pM G (d + 1) mX8_failsOf _) (d := d) (r := []) (As := [.int (S.2.2.1 39 r), .int 97, .int 108]) (K := mX8_in) ok_X8_in tw_721 rfl (rmOk (Nat.le_of_ble_eq_true rfl)) (Nat.le_of_ble_eq_true rfl) dX8_failsOf_27 rfl (c_X8_in ?_)
      refine V_topi (v := 1) (b2i_t hs) ?_
      refine V_if_eq 54 dX8_failsOf_30 (by decide) (fun hz => absurd hz (by decide)) (fun _ => ?_)
      refine V_aload_n dX8_failsOf_33 rfl 3 rfl ?_
      refine g_29_26 tw_654 dX8_failsOf_34 ?_
      refine V_iload_n dX8_failsOf_37 rfl 2 rfl ?_
      refine V_iload_n dX8_failsOf_38 rfl 4 rfl ?_
      refine V_iload dX8_failsOf_39 0 rfl ?_
      refine V_bipush (v := 97) dX8_failsOf_41 kb_97 ?_
      refine V_isub dX8_failsOf_43 ?_
      refine V_topi (v := nI ((S.2.2.1 39 r - 97).toNatClampNeg)) ((let_c hs).1) ?_
      refine V_cSi (P := pM G (d + 1) mX8_failsOf _) (d := d) (r := [.int (nI (tpn (S.2.2.1 39) y m)), .ref (G.2.1 49)]) (As := [.int (nI t), .int (nI ((S.2.2.1 39 r - 97).toNatClampNeg))]) (K := mX8_hasBit) ok_X8_hasBit tw_772 rfl (rmOk (Nat.le_of_ble_eq_true rfl)) (Nat.le_of_ble_eq_true rfl) dX8_failsOf_44 rfl (c_X8_hasBit (by have := (let_c hs).2; omega) ?_)
      refine s_49n (by omega) dX8_failsOf_47 ?_
      refine V_iinc [(2, .int (nI ((tpn (S.2.2.1 39) y m) + 1))), (4, .int (S.2.2.1 39 r)), (3, .int (nI r)), (0, .ref (G.2.1 29)), (1, .int (nI t))] dX8_failsOf_48 2 rfl (nI_1 _) (Nat.le_of_ble_eq_true rfl) rfl ?_
      refine V_goto 159 dX8_failsOf_51 (by decide) ?_
      refine V_iinc [(3, .int (nI r - 1)), (2, .int (nI ((tpn (S.2.2.1 39) y m) + 1))), (4, .int (S.2.2.1 39 r)), (0, .ref (G.2.1 29)), (1, .int (nI t))] dX8_failsOf_159 2 rfl (by rw [ki_m1]; exact (Int32.sub_eq_add_neg _ _).symm) (Nat.le_of_ble_eq_true rfl) rfl ?_
      refine V_goto 9 dX8_failsOf_162 (by decide) ?_
      refine V_lv [(3, .int (nI r - 1)), (2, .int (nI ((tpn (S.2.2.1 39) y m) + 1))), (0, .ref (G.2.1 29)), (1, .int (nI t))] [0, 1, 3, 4] rfl ?_
      refine V_lveq [(3, .int (nI r - 1)), (2, .int (nI (tpn (S.2.2.1 39) y (m + 1)))), (0, .ref (G.2.1 29)), (1, .int (nI t))] (by rw [show tpn (S.2.2.1 39) y (m + 1) = (tpn (S.2.2.1 39) y m + 1) from by rw [tpn_s, er]; rw [tps, if_pos hs]]) ?_
      refine V_S (S2 := setAr S 49 (upd g (tpn (S.2.2.1 39) y m) (vp_nar .boolean (b2i (bt (nI t) ((S.2.2.1 39 r - 97).toNatClampNeg)))))) (setA_Ar S 49 _ g _) ?_
      exact ih (m + 1) _ (by omega) (PB_l hB er hs (vpz_01 (by rw [bt_nI (by have := (let_c hs).2; omega)])))
    · refine V_iload_n dX8_failsOf_9 rfl 0 rfl ?_
      refine V_if_ltn 165 (a := r) dX8_failsOf_10 (by decide) (by omega) (fun hz => hz.elim) (fun _ => ?_)
      refine V_aload_n dX8_failsOf_13 rfl 2 rfl ?_
      refine g_29_13 tw_641 dX8_failsOf_14 ?_
      refine V_iload_n dX8_failsOf_17 rfl 0 rfl ?_
      refine l_39n (by omega) dX8_failsOf_18 ?_
      refine V_topi (v := S.2.2.1 39 r) ((rfl)) ?_
      refine V_istore [(4, .int (S.2.2.1 39 r)), (3, .int (nI r)), (2, .int (nI (tpn (S.2.2.1 39) y m))), (0, .ref (G.2.1 29)), (1, .int (nI t))] dX8_failsOf_19 (Nat.le_of_ble_eq_true rfl) rfl ?_
      refine V_iload dX8_failsOf_21 0 rfl ?_
      refine V_bipush (v := 97) dX8_failsOf_23 kb_97 ?_
      refine V_bipush (v := 108) dX8_failsOf_25 kb_108 ?_
      refine V_cSi (P := pM G (d + 1) mX8_failsOf _) (d := d) (r := []) (As := [.int (S.2.2.1 39 r), .int 97, .int 108]) (K := mX8_in) ok_X8_in tw_721 rfl (rmOk (Nat.le_of_ble_eq_true rfl)) (Nat.le_of_ble_eq_true rfl) dX8_failsOf_27 rfl (c_X8_in ?_)
      refine V_topi (v := 0) (b2i_f (by rw [hs]; decide)) ?_
      refine V_if_eq 54 dX8_failsOf_30 (by decide) (fun _ => ?_) (fun hz => absurd hz (by decide))
      refine V_iload dX8_failsOf_54 0 rfl ?_
      refine V_bipush (v := 33) dX8_failsOf_56 kb_33 ?_
      refine V_icmp_ne 88 dX8_failsOf_58 (by decide) (fun h1 => ?_) (fun h1 => ?_)
      · exact absurd hs h1
      · refine V_aload_n dX8_failsOf_61 rfl 3 rfl ?_
        refine g_29_26 tw_654 dX8_failsOf_62 ?_
        refine V_iload_n dX8_failsOf_65 rfl 2 rfl ?_
        refine V_iconst (v := 1) dX8_failsOf_66 ki_1 ?_
        refine V_isub dX8_failsOf_67 ?_
        refine V_topi (v := nI (tpn (S.2.2.1 39) y m - 1)) (pk_sub (b := 1) (by omega)) ?_
        refine V_aload_n dX8_failsOf_68 rfl 3 rfl ?_
        refine g_29_26 tw_654 dX8_failsOf_69 ?_
        refine V_iload_n dX8_failsOf_72 rfl 2 rfl ?_
        refine V_iconst (v := 1) dX8_failsOf_73 ki_1 ?_
        refine V_isub dX8_failsOf_74 ?_
        refine V_topi (v := nI (tpn (S.2.2.1 39) y m - 1)) (pk_sub (b := 1) (by omega)) ?_
        refine l_49n (by omega) dX8_failsOf_75 ?_
        refine V_topi (v := b2i ((evB (S.2.2.1 39) y t m).1 (tpn (S.2.2.1 39) y m - 1))) (hB _ (by omega)) ?_
        refine V_ifb_ne 83 dX8_failsOf_76 (by decide) (fun h2 => ?_) (fun h2 => ?_)
        · refine V_iconst (v := 0) dX8_failsOf_83 ki_0 ?_
          refine s_49n (by omega) dX8_failsOf_84 ?_
          refine V_goto 159 dX8_failsOf_85 (by decide) ?_
          refine V_iinc [(3, .int (nI r - 1)), (4, .int (S.2.2.1 39 r)), (2, .int (nI (tpn (S.2.2.1 39) y m))), (0, .ref (G.2.1 29)), (1, .int (nI t))] dX8_failsOf_159 1 rfl (by rw [ki_m1]; exact (Int32.sub_eq_add_neg _ _).symm) (Nat.le_of_ble_eq_true rfl) rfl ?_
          refine V_goto 9 dX8_failsOf_162 (by decide) ?_
          refine V_lv [(3, .int (nI r - 1)), (2, .int (nI (tpn (S.2.2.1 39) y m))), (0, .ref (G.2.1 29)), (1, .int (nI t))] [0, 2, 3, 4] rfl ?_
          refine V_lveq [(3, .int (nI r - 1)), (2, .int (nI (tpn (S.2.2.1 39) y (m + 1)))), (0, .ref (G.2.1 29)), (1, .int (nI t))] (by rw [show tpn (S.2.2.1 39) y (m + 1) = tpn (S.2.2.1 39) y m from by rw [tpn_s, er]; rw [hs]; rfl]) ?_
          refine V_S (S2 := setAr S 49 (upd g (tpn (S.2.2.1 39) y m - 1) (vp_nar .boolean 0))) (setA_Ar S 49 _ g _) ?_
          exact ih (m + 1) _ (by omega) (PB_n hB er hs (vpz_01 (by rw [h2]; rfl)))
        · refine V_iconst (v := 1) dX8_failsOf_79 ki_1 ?_
          refine V_goto 84 dX8_failsOf_80 (by decide) ?_
          refine s_49n (by omega) dX8_failsOf_84 ?_
          refine V_goto 159 dX8_failsOf_85 (by decide) ?_
          refine V_iinc [(3, .int (nI r - 1)), (4, .int (S.2.2.1 39 r)), (2, .int (nI (tpn (S.2.2.1 39) y m))), (0, .ref (G.2.1 29)), (1, .int (nI t))] dX8_failsOf_159 1 rfl (by rw [ki_m1]; exact (Int32.sub_eq_add_neg _ _).symm) (Nat.le_of_ble_eq_true rfl) rfl ?_
          refine V_goto 9 dX8_failsOf_162 (by decide) ?_
          refine V_lv [(3, .int (nI r - 1)), (2, .int (nI (tpn (S.2.2.1 39) y m))), (0, .ref (G.2.1 29)), (1, .int (nI t))] [0, 2, 3, 4] rfl ?_
          refine V_lveq [(3, .int (nI r - 1)), (2, .int (nI (tpn (S.2.2.1 39) y (m + 1)))), (0, .ref (G.2.1 29)), (1, .int (nI t))] (by rw [show tpn (S.2.2.1 39) y (m + 1) = tpn (S.2.2.1 39) y m from by rw [tpn_s, er]; rw [hs]; rfl]) ?_
          refine V_S (S2 := setAr S 49 (upd g (tpn (S.2.2.1 39) y m - 1) (vp_nar .boolean 1))) (setA_Ar S 49 _ g _) ?_
          exact ih (m + 1) _ (by omega) (PB_n hB er hs (vpz_01 (by rw [h2]; rfl)))
    · refine V_iload_n dX8_failsOf_9 rfl 0 rfl ?_
      refine V_if_ltn 165 (a := r) dX8_failsOf_10 (by decide) (by omega) (fun hz => hz.elim) (fun _ => ?_)
      refine V_aload_n dX8_failsOf_13 rfl 2 rfl ?_
      refine g_29_13 tw_641 dX8_failsOf_14 ?_
      refine V_iload_n dX8_failsOf_17 rfl 0 rfl ?_
      refine l_39n (by omega) dX8_failsOf_18 ?_
      refine V_topi (v := S.2.2.1 39 r) ((rfl)) ?_
      refine V_istore [(4, .int (S.2.2.1 39 r)), (3, .int (nI r)), (2, .int (nI (tpn (S.2.2.1 39) y m))), (0, .ref (G.2.1 29)), (1, .int (nI t))] dX8_failsOf_19 (Nat.le_of_ble_eq_true rfl) rfl ?_
      refine V_iload dX8_failsOf_21 0 rfl ?_
      refine V_bipush (v := 97) dX8_failsOf_23 kb_97 ?_
      refine V_bipush (v := 108) dX8_failsOf_25 kb_108 ?_
      refine V_cSi (P := pM G (d + 1) mX8_failsOf _) (d := d) (r := []) (As := [.int (S.2.2.1 39 r), .int 97, .int 108]) (K := mX8_in) ok_X8_in tw_721 rfl (rmOk (Nat.le_of_ble_eq_true rfl)) (Nat.le_of_ble_eq_true rfl) dX8_failsOf_27 rfl (c_X8_in ?_)
      refine V_topi (v := 0) (b2i_f (by rcases hs with hs | hs <;> (rw [hs]; decide))) ?_
      refine V_if_eq 54 dX8_failsOf_30 (by decide) (fun _ => ?_) (fun hz => absurd hz (by decide))
      refine V_iload dX8_failsOf_54 0 rfl ?_
      refine V_bipush (v := 33) dX8_failsOf_56 kb_33 ?_
      refine V_icmp_ne 88 dX8_failsOf_58 (by decide) (fun h1 => ?_) (fun h1 => ?_)
      · refine V_iinc [(2, .int (nI (tpn (S.2.2.1 39) y m - 1))), (4, .int (S.2.2.1 39 r)), (3, .int (nI r)), (0, .ref (G.2.1 29)), (1, .int (nI t))] dX8_failsOf_88 2 rfl (by rw [ki_m1]; exact sb_m1 (by omega)) (Nat.le_of_ble_eq_true rfl) rfl ?_
        refine V_aload_n dX8_failsOf_91 rfl 3 rfl ?_
        refine g_29_26 tw_654 dX8_failsOf_92 ?_
        refine V_iload_n dX8_failsOf_95 rfl 0 rfl ?_
        refine V_iconst (v := 1) dX8_failsOf_96 ki_1 ?_
        refine V_isub dX8_failsOf_97 ?_
        refine V_topi (v := nI (tpn (S.2.2.1 39) y m - 1 - 1)) (pk_sub (b := 1) (by omega)) ?_
        refine V_iload dX8_failsOf_98 1 rfl ?_
        refine V_bipush (v := 38) dX8_failsOf_100 kb_38 ?_
        refine V_icmp_ne 133 dX8_failsOf_102 (by decide) (fun h2 => ?_) (fun h2 => ?_)
        · refine V_aload_n dX8_failsOf_133 rfl 3 rfl ?_
          refine g_29_26 tw_654 dX8_failsOf_134 ?_
          refine V_iload_n dX8_failsOf_137 rfl 0 rfl ?_
          refine l_49n (by omega) dX8_failsOf_138 ?_
          refine V_topi (v := b2i ((evB (S.2.2.1 39) y t m).1 (tpn (S.2.2.1 39) y m - 1))) (hB _ (by omega)) ?_
          refine V_ifb_ne 153 dX8_failsOf_139 (by decide) (fun h3 => ?_) (fun h3 => ?_)
          · refine V_iconst (v := 1) dX8_failsOf_153 ki_1 ?_
            refine V_goto 158 dX8_failsOf_154 (by decide) ?_
            refine s_49n (by omega) dX8_failsOf_158 ?_
            refine V_iinc [(3, .int (nI r - 1)), (2, .int (nI (tpn (S.2.2.1 39) y m - 1))), (4, .int (S.2.2.1 39 r)), (0, .ref (G.2.1 29)), (1, .int (nI t))] dX8_failsOf_159 2 rfl (by rw [ki_m1]; exact (Int32.sub_eq_add_neg _ _).symm) (Nat.le_of_ble_eq_true rfl) rfl ?_
            refine V_goto 9 dX8_failsOf_162 (by decide) ?_
            refine V_lv [(3, .int (nI r - 1)), (2, .int (nI (tpn (S.2.2.1 39) y m - 1))), (0, .ref (G.2.1 29)), (1, .int (nI t))] [0, 1, 3, 4] rfl ?_
            refine V_lveq [(3, .int (nI r - 1)), (2, .int (nI (tpn (S.2.2.1 39) y (m + 1)))), (0, .ref (G.2.1 29)), (1, .int (nI t))] (by rw [show tpn (S.2.2.1 39) y (m + 1) = (tpn (S.2.2.1 39) y m - 1) from by rw [tpn_s, er]; rcases hs with hs | hs <;> (rw [hs]; rfl)]) ?_
            refine V_S (S2 := setAr S 49 (upd g (tpn (S.2.2.1 39) y m - 1 - 1) (vp_nar .boolean 1))) (setA_Ar S 49 _ g _) ?_
            exact ih (m + 1) _ (by omega) (PB_2 hB er hs (vpz_01 (by rw [if_neg h2]; simp [b2i, h3])))
          · refine V_aload_n dX8_failsOf_142 rfl 3 rfl ?_
            refine g_29_26 tw_654 dX8_failsOf_143 ?_
            refine V_iload_n dX8_failsOf_146 rfl 0 rfl ?_
            refine V_iconst (v := 1) dX8_failsOf_147 ki_1 ?_
            refine V_isub dX8_failsOf_148 ?_
            refine V_topi (v := nI (tpn (S.2.2.1 39) y m - 1 - 1)) (pk_sub (b := 1) (by omega)) ?_
            refine l_49n (by omega) dX8_failsOf_149 ?_
            refine V_topi (v := b2i ((evB (S.2.2.1 39) y t m).1 (tpn (S.2.2.1 39) y m - 1 - 1))) (hB _ (by omega)) ?_
            refine V_ifb_eq 157 dX8_failsOf_150 (by decide) (fun h4 => ?_) (fun h4 => ?_)
            · refine V_iconst (v := 0) dX8_failsOf_157 ki_0 ?_
              refine s_49n (by omega) dX8_failsOf_158 ?_
              refine V_iinc [(3, .int (nI r - 1)), (2, .int (nI (tpn (S.2.2.1 39) y m - 1))), (4, .int (S.2.2.1 39 r)), (0, .ref (G.2.1 29)), (1, .int (nI t))] dX8_failsOf_159 2 rfl (by rw [ki_m1]; exact (Int32.sub_eq_add_neg _ _).symm) (Nat.le_of_ble_eq_true rfl) rfl ?_
              refine V_goto 9 dX8_failsOf_162 (by decide) ?_
              refine V_lv [(3, .int (nI r - 1)), (2, .int (nI (tpn (S.2.2.1 39) y m - 1))), (0, .ref (G.2.1 29)), (1, .int (nI t))] [0, 1, 3, 4] rfl ?_
              refine V_lveq [(3, .int (nI r - 1)), (2, .int (nI (tpn (S.2.2.1 39) y (m + 1)))), (0, .ref (G.2.1 29)), (1, .int (nI t))] (by rw [show tpn (S.2.2.1 39) y (m + 1) = (tpn (S.2.2.1 39) y m - 1) from by rw [tpn_s, er]; rcases hs with hs | hs <;> (rw [hs]; rfl)]) ?_
              refine V_S (S2 := setAr S 49 (upd g (tpn (S.2.2.1 39) y m - 1 - 1) (vp_nar .boolean 0))) (setA_Ar S 49 _ g _) ?_
              exact ih (m + 1) _ (by omega) (PB_2 hB er hs (vpz_01 (by rw [if_neg h2]; simp [b2i, h3, h4])))
            · refine V_iconst (v := 1) dX8_failsOf_153 ki_1 ?_
              refine V_goto 158 dX8_failsOf_154 (by decide) ?_
              refine s_49n (by omega) dX8_failsOf_158 ?_
              refine V_iinc [(3, .int (nI r - 1)), (2, .int (nI (tpn (S.2.2.1 39) y m - 1))), (4, .int (S.2.2.1 39 r)), (0, .ref (G.2.1 29)), (1, .int (nI t))] dX8_failsOf_159 2 rfl (by rw [ki_m1]; exact (Int32.sub_eq_add_neg _ _).symm) (Nat.le_of_ble_eq_true rfl) rfl ?_
              refine V_goto 9 dX8_failsOf_162 (by decide) ?_
              refine V_lv [(3, .int (nI r - 1)), (2, .int (nI (tpn (S.2.2.1 39) y m - 1))), (0, .ref (G.2.1 29)), (1, .int (nI t))] [0, 1, 3, 4] rfl ?_
              refine V_lveq [(3, .int (nI r - 1)), (2, .int (nI (tpn (S.2.2.1 39) y (m + 1)))), (0, .ref (G.2.1 29)), (1, .int (nI t))] (by rw [show tpn (S.2.2.1 39) y (m + 1) = (tpn (S.2.2.1 39) y m - 1) from by rw [tpn_s, er]; rcases hs with hs | hs <;> (rw [hs]; rfl)]) ?_
              refine V_S (S2 := setAr S 49 (upd g (tpn (S.2.2.1 39) y m - 1 - 1) (vp_nar .boolean 1))) (setA_Ar S 49 _ g _) ?_
              exact ih (m + 1) _ (by omega) (PB_2 hB er hs (vpz_01 (by rw [if_neg h2]; simp [b2i, h3, h4])))
        · refine V_aload_n dX8_failsOf_105 rfl 3 rfl ?_
          refine g_29_26 tw_654 dX8_failsOf_106 ?_
          refine V_iload_n dX8_failsOf_109 rfl 0 rfl ?_
          refine l_49n (by omega) dX8_failsOf_110 ?_
          refine V_topi (v := b2i ((evB (S.2.2.1 39) y t m).1 (tpn (S.2.2.1 39) y m - 1))) (hB _ (by omega)) ?_
          refine V_ifb_eq 129 dX8_failsOf_111 (by decide) (fun h5 => ?_) (fun h5 => ?_)
          · refine V_iconst (v := 0) dX8_failsOf_129 ki_0 ?_
            refine V_goto 158 dX8_failsOf_130 (by decide) ?_
            refine s_49n (by omega) dX8_failsOf_158 ?_
            refine V_iinc [(3, .int (nI r - 1)), (2, .int (nI (tpn (S.2.2.1 39) y m - 1))), (4, .int (S.2.2.1 39 r)), (0, .ref (G.2.1 29)), (1, .int (nI t))] dX8_failsOf_159 2 rfl (by rw [ki_m1]; exact (Int32.sub_eq_add_neg _ _).symm) (Nat.le_of_ble_eq_true rfl) rfl ?_
            refine V_goto 9 dX8_failsOf_162 (by decide) ?_
            refine V_lv [(3, .int (nI r - 1)), (2, .int (nI (tpn (S.2.2.1 39) y m - 1))), (0, .ref (G.2.1 29)), (1, .int (nI t))] [0, 1, 3, 4] rfl ?_
            refine V_lveq [(3, .int (nI r - 1)), (2, .int (nI (tpn (S.2.2.1 39) y (m + 1)))), (0, .ref (G.2.1 29)), (1, .int (nI t))] (by rw [show tpn (S.2.2.1 39) y (m + 1) = (tpn (S.2.2.1 39) y m - 1) from by rw [tpn_s, er]; rcases hs with hs | hs <;> (rw [hs]; rfl)]) ?_
            refine V_S (S2 := setAr S 49 (upd g (tpn (S.2.2.1 39) y m - 1 - 1) (vp_nar .boolean 0))) (setA_Ar S 49 _ g _) ?_
            exact ih (m + 1) _ (by omega) (PB_2 hB er hs (vpz_01 (by rw [if_pos h2]; simp [b2i, h5])))
          · refine V_aload_n dX8_failsOf_114 rfl 3 rfl ?_
            refine g_29_26 tw_654 dX8_failsOf_115 ?_
            refine V_iload_n dX8_failsOf_118 rfl 0 rfl ?_
            refine V_iconst (v := 1) dX8_failsOf_119 ki_1 ?_
            refine V_isub dX8_failsOf_120 ?_
            refine V_topi (v := nI (tpn (S.2.2.1 39) y m - 1 - 1)) (pk_sub (b := 1) (by omega)) ?_
            refine l_49n (by omega) dX8_failsOf_121 ?_
            refine V_topi (v := b2i ((evB (S.2.2.1 39) y t m).1 (tpn (S.2.2.1 39) y m - 1 - 1))) (hB _ (by omega)) ?_
            refine V_ifb_eq 129 dX8_failsOf_122 (by decide) (fun h6 => ?_) (fun h6 => ?_)
            · refine V_iconst (v := 0) dX8_failsOf_129 ki_0 ?_
              refine V_goto 158 dX8_failsOf_130 (by decide) ?_
              refine s_49n (by omega) dX8_failsOf_158 ?_
              refine V_iinc [(3, .int (nI r - 1)), (2, .int (nI (tpn (S.2.2.1 39) y m - 1))), (4, .int (S.2.2.1 39 r)), (0, .ref (G.2.1 29)), (1, .int (nI t))] dX8_failsOf_159 2 rfl (by rw [ki_m1]; exact (Int32.sub_eq_add_neg _ _).symm) (Nat.le_of_ble_eq_true rfl) rfl ?_
              refine V_goto 9 dX8_failsOf_162 (by decide) ?_
              refine V_lv [(3, .int (nI r - 1)), (2, .int (nI (tpn (S.2.2.1 39) y m - 1))), (0, .ref (G.2.1 29)), (1, .int (nI t))] [0, 1, 3, 4] rfl ?_
              refine V_lveq [(3, .int (nI r - 1)), (2, .int (nI (tpn (S.2.2.1 39) y (m + 1)))), (0, .ref (G.2.1 29)), (1, .int (nI t))] (by rw [show tpn (S.2.2.1 39) y (m + 1) = (tpn (S.2.2.1 39) y m - 1) from by rw [tpn_s, er]; rcases hs with hs | hs <;> (rw [hs]; rfl)]) ?_
              refine V_S (S2 := setAr S 49 (upd g (tpn (S.2.2.1 39) y m - 1 - 1) (vp_nar .boolean 0))) (setA_Ar S 49 _ g _) ?_
              exact ih (m + 1) _ (by omega) (PB_2 hB er hs (vpz_01 (by rw [if_pos h2]; simp [b2i, h5, h6])))
            · refine V_iconst (v := 1) dX8_failsOf_125 ki_1 ?_
              refine V_goto 158 dX8_failsOf_126 (by decide) ?_
              refine s_49n (by omega) dX8_failsOf_158 ?_
              refine V_iinc [(3, .int (nI r - 1)), (2, .int (nI (tpn (S.2.2.1 39) y m - 1))), (4, .int (S.2.2.1 39 r)), (0, .ref (G.2.1 29)), (1, .int (nI t))] dX8_failsOf_159 2 rfl (by rw [ki_m1]; exact (Int32.sub_eq_add_neg _ _).symm) (Nat.le_of_ble_eq_true rfl) rfl ?_
              refine V_goto 9 dX8_failsOf_162 (by decide) ?_
              refine V_lv [(3, .int (nI r - 1)), (2, .int (nI (tpn (S.2.2.1 39) y m - 1))), (0, .ref (G.2.1 29)), (1, .int (nI t))] [0, 1, 3, 4] rfl ?_
              refine V_lveq [(3, .int (nI r - 1)), (2, .int (nI (tpn (S.2.2.1 39) y (m + 1)))), (0, .ref (G.2.1 29)), (1, .int (nI t))] (by rw [show tpn (S.2.2.1 39) y (m + 1) = (tpn (S.2.2.1 39) y m - 1) from by rw [tpn_s, er]; rcases hs with hs | hs <;> (rw [hs]; rfl)]) ?_
              refine V_S (S2 := setAr S 49 (upd g (tpn (S.2.2.1 39) y m - 1 - 1) (vp_nar .boolean 1))) (setA_Ar S 49 _ g _) ?_
              exact ih (m + 1) _ (by omega) (PB_2 hB er hs (vpz_01 (by rw [if_pos h2]; simp [b2i, h5, h6])))
      · rcases hs with hs | hs <;> (rw [hs] at h1; exact absurd h1 (by decide))
theorem c_X8_failsOf {G : GX} {d : Nat} {S : ST} {y t : Nat} {Q : Int32 → ST → Prop} (hg : S.1 13 = nI y) (hW : WF (S.2.2.1 39) y) (ht : t < 4096) (hq : ∀ S2, FrP S S2 → Q (b2i (tv (S.2.2.1 39) y t)) S2) : Cn G (d + 1) mX8_failsOf [.ref (G.2.1 29), .int (nI t)] S (qi Q) := by
  refine Cn.intro (lv := [(0, .ref (G.2.1 29)), (1, .int (nI t))]) (by decide) (Nat.le_of_ble_eq_true rfl) rfl ?_
  refine V_iconst (v := 0) dX8_failsOf_0 ki_0 ?_
  refine V_istore_n [(2, .int 0), (0, .ref (G.2.1 29)), (1, .int (nI t))] dX8_failsOf_1 rfl (Nat.le_of_ble_eq_true rfl) rfl ?_
  refine V_aload_n dX8_failsOf_2 rfl 1 rfl ?_
  refine g_29_12 tw_640 dX8_failsOf_3 ?_
  refine V_topi (v := nI y) (hg) ?_
  refine V_iconst (v := 1) dX8_failsOf_6 ki_1 ?_
  refine V_isub dX8_failsOf_7 ?_
  refine V_istore_n [(3, .int ((nI y) - 1)), (2, .int 0), (0, .ref (G.2.1 29)), (1, .int (nI t))] dX8_failsOf_8 rfl (Nat.le_of_ble_eq_true rfl) rfl ?_
  refine V_lv [(3, .int ((nI y) - 1)), (2, .int 0), (0, .ref (G.2.1 29)), (1, .int (nI t))] [0, 1, 2, 3] rfl ?_
  refine V_lveq [(3, .int ((nI y) - 1)), (2, .int (nI (tpn (S.2.2.1 39) y 0))), (0, .ref (G.2.1 29)), (1, .int (nI t))] (by rfl) ?_
  refine V_S (S2 := setAr S 49 (S.2.2.1 49)) ((setAr_id S 49).symm) ?_
  exact lp_fails hg hW ht hq y 0 (S.2.2.1 49) (by omega) (fun i hi => absurd hi (Nat.not_lt_zero _))
