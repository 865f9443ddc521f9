theorem mx_t {a b : Int64} (h : a < b) : mx a b = b := by rw [mx, if_pos h]
theorem mx_f {a b : Int64} (h : ¬ a < b) : mx a b = a := by rw [mx, if_neg h]
theorem stl_at {n i : Nat} {x : XT} (h : (stl n)[i]? = some x) : okX n x := stl_ok x (List.mem_of_getElem? h)
def hpM (S : ST) (m n v : Nat) : Int64 := mxs (fun x => wMX S m x * (ten (S.2.2.1 37) (sfB (S.2.2.1 30) v x.1 x.2.1 x.2.2) true).toInt64) (stl n) + mxs (fun x => wMX S m x * (ten (S.2.2.1 37) (sfB (S.2.2.1 30) v x.1 x.2.1 x.2.2) false).toInt64) (stl n)
def sgM (S : ST) (m n v : Nat) : Int64 := lsum (fun x => if sfB (S.2.2.1 30) v x.1 x.2.1 x.2.2 then wMX S m x else -wMX S m x) (stl n)
def lsM (S : ST) (m n : Nat) (how : Nat) (v : Nat) : Int64 := if how = 1 then -hpM S m n v else if sgM S m n v < 0 then -sgM S m n v else sgM S m n v
theorem lp_mhope {G : GX} {d n m : Nat} {S0 S : ST} {v : Nat} {Q : Int64 → ST → Prop} (hM : MS S0 m (stl n) S) (h12 : n ≤ 12) (hv : v < 12) (hq : Q (mxs (fun x => wMX S0 m x * (ten (S.2.2.1 37) (sfB (S.2.2.1 30) v x.1 x.2.1 x.2.2) true).toInt64) (stl n) + mxs (fun x => wMX S0 m x * (ten (S.2.2.1 37) (sfB (S.2.2.1 30) v x.1 x.2.1 x.2.2) false).toInt64) (stl n)) S) : ∀ (k i : Nat), i ≤ ((stl n).length) → ((stl n).length) - i < k → V (pM G (d + 2) mX8_hopeOf (ql Q)) 8 [(6, .int (nI i)), (4, .long (mxs (fun x => wMX S0 m x * (ten (S.2.2.1 37) (sfB (S.2.2.1 30) v x.1 x.2.1 x.2.2) false).toInt64) ((stl n).take i))), (2, .long (mxs (fun x => wMX S0 m x * (ten (S.2.2.1 37) (sfB (S.2.2.1 30) v x.1 x.2.1 x.2.2) true).toInt64) ((stl n).take i))), (0, .ref (G.2.1 29)), (1, .int (nI v))] [] S := by
  have hl2 := stl_len n (by omega)
  intro k
  induction k with
  | zero => intro i hi hk; exact absurd hk (Nat.not_lt_zero _)
  | succ k ih =>
    intro i hi hk
    refine V_iload dX8_hopeOf_8 0 rfl ?_
    refine V_aload_n dX8_hopeOf_10 rfl 3 rfl ?_
    refine g_29_14 tw_642 dX8_hopeOf_11 ?_
    refine V_topi (v := nI ((stl n).length)) (id hM.2.1) ?_
    refine V_icmp_gen 118 (a := i) (b := ((stl n).length)) dX8_hopeOf_14 (by decide) (by omega) (by omega) (fun h1 => ?_) (fun h1 => ?_)
    · refine V_lload_n dX8_hopeOf_118 rfl 2 rfl ?_
      refine V_lload dX8_hopeOf_119 1 rfl ?_
      refine V_ladd dX8_hopeOf_121 ?_
      have hin : i = ((stl n).length) := by omega
      refine V_lret rfl dX8_hopeOf_122 ⟨_, rfl, ?_⟩
      exact qcast hq (by rw [hin, List.take_length])
    · obtain ⟨x, hx⟩ : ∃ x, (stl n)[i]? = some x := ⟨_, List.getElem?_eq_getElem h1⟩
      obtain ⟨s, c, e⟩ := x
      obtain ⟨x1, x2, x3, x4⟩ := hM.2.2.1 i _ hx
      obtain ⟨y1, y2, y3⟩ := stl_at hx
      dsimp only at y1 y2 y3 x1 x2 x3 x4
      rcases (show s = 0 ∨ s = 1 ∨ s = 2 by omega) with rfl | rfl | rfl
      · refine V_aload_n dX8_hopeOf_17 rfl 3 rfl ?_
        refine V_iload_n dX8_hopeOf_18 rfl 4 rfl ?_
        refine V_aload_n dX8_hopeOf_19 rfl 3 rfl ?_
        refine g_29_15 tw_643 dX8_hopeOf_20 ?_
        refine V_iload dX8_hopeOf_23 0 rfl ?_
        refine l_40n (by omega) dX8_hopeOf_25 ?_
        refine V_topi (v := 0) (id x1) ?_
        refine V_aload_n dX8_hopeOf_26 rfl 3 rfl ?_
        refine g_29_16 tw_644 dX8_hopeOf_27 ?_
        refine V_iload dX8_hopeOf_30 0 rfl ?_
        refine l_41n (by omega) dX8_hopeOf_32 ?_
        refine V_topi (v := nI c) (id x2) ?_
        refine V_aload_n dX8_hopeOf_33 rfl 3 rfl ?_
        refine g_29_17 tw_645 dX8_hopeOf_34 ?_
        refine V_iload dX8_hopeOf_37 0 rfl ?_
        refine l_42n (by omega) dX8_hopeOf_39 ?_
        refine V_topi (v := -6) (id x3) ?_
        refine V_cVi (P := pM G (d + 2) mX8_hopeOf _) (d := d + 1) 29 (r := []) (As := [.int (nI v), .int 0, .int (nI c), .int (-6)]) (K := mX8_shouldFail) ok_X8_shouldFail tw_768 (ob_29 _) rfl (rmOk (Nat.le_of_ble_eq_true rfl)) (Nat.le_of_ble_eq_true rfl) dX8_hopeOf_40 rfl (c_X8_shouldFail0 e (by omega) (by omega) ?_)
        refine V_istore [(7, .int (b2i (sfB (S.2.2.1 30) v 0 c e))), (6, .int (nI i)), (4, .long (mxs (fun x => wMX S0 m x * (ten (S.2.2.1 37) (sfB (S.2.2.1 30) v x.1 x.2.1 x.2.2) false).toInt64) ((stl n).take i))), (2, .long (mxs (fun x => wMX S0 m x * (ten (S.2.2.1 37) (sfB (S.2.2.1 30) v x.1 x.2.1 x.2.2) true).toInt64) ((stl n).take i))), (0, .ref (G.2.1 29)), (1, .int (nI v))] dX8_hopeOf_43 (Nat.le_of_ble_eq_true rfl) rfl ?_
        refine V_aload_n dX8_hopeOf_45 rfl 4 rfl ?_
        refine g_29_18 tw_646 dX8_hopeOf_46 ?_
        refine V_iload dX8_hopeOf_49 1 rfl ?_
        refine l_43n (by omega) dX8_hopeOf_51 ?_
        refine V_topl (v := wMX S0 m (0, c, e)) (id x4) ?_
        refine V_aload_n dX8_hopeOf_52 rfl 4 rfl ?_
        refine V_iload dX8_hopeOf_53 0 rfl ?_
        refine V_iconst (v := 1) dX8_hopeOf_55 ki_1 ?_
        refine V_cVi (P := pM G (d + 2) mX8_hopeOf _) (d := d + 1) 29 (r := [.long (wMX S0 m (0, c, e))]) (As := [.int (b2i (sfB (S.2.2.1 30) v 0 c e)), .int 1]) (K := mX8_tenths) ok_X8_tenths tw_775 (ob_29 _) rfl (rmOk (Nat.le_of_ble_eq_true rfl)) (Nat.le_of_ble_eq_true rfl) dX8_hopeOf_56 rfl (c_X8_tenths (f := (sfB (S.2.2.1 30) v 0 c e)) (q := true) ?_)
        refine V_i2l dX8_hopeOf_59 ?_
        refine V_lmul dX8_hopeOf_60 ?_
        refine V_lstore [(8, .long ((wMX S0 m (0, c, e)) * (Int32.toInt64 (ten (S.2.2.1 37) (sfB (S.2.2.1 30) v 0 c e) true)))), (7, .int (b2i (sfB (S.2.2.1 30) v 0 c e))), (6, .int (nI i)), (4, .long (mxs (fun x => wMX S0 m x * (ten (S.2.2.1 37) (sfB (S.2.2.1 30) v x.1 x.2.1 x.2.2) false).toInt64) ((stl n).take i))), (2, .long (mxs (fun x => wMX S0 m x * (ten (S.2.2.1 37) (sfB (S.2.2.1 30) v x.1 x.2.1 x.2.2) true).toInt64) ((stl n).take i))), (0, .ref (G.2.1 29)), (1, .int (nI v))] dX8_hopeOf_61 (Nat.le_of_ble_eq_true rfl) rfl ?_
        refine V_aload_n dX8_hopeOf_63 rfl 5 rfl ?_
        refine g_29_18 tw_646 dX8_hopeOf_64 ?_
        refine V_iload dX8_hopeOf_67 2 rfl ?_
        refine l_43n (by omega) dX8_hopeOf_69 ?_
        refine V_topl (v := wMX S0 m (0, c, e)) (id x4) ?_
        refine V_aload_n dX8_hopeOf_70 rfl 5 rfl ?_
        refine V_iload dX8_hopeOf_71 1 rfl ?_
        refine V_iconst (v := 0) dX8_hopeOf_73 ki_0 ?_
        refine V_cVi (P := pM G (d + 2) mX8_hopeOf _) (d := d + 1) 29 (r := [.long (wMX S0 m (0, c, e))]) (As := [.int (b2i (sfB (S.2.2.1 30) v 0 c e)), .int 0]) (K := mX8_tenths) ok_X8_tenths tw_775 (ob_29 _) rfl (rmOk (Nat.le_of_ble_eq_true rfl)) (Nat.le_of_ble_eq_true rfl) dX8_hopeOf_74 rfl (c_X8_tenths (f := (sfB (S.2.2.1 30) v 0 c e)) (q := false) ?_)
        refine V_i2l dX8_hopeOf_77 ?_
        refine V_lmul dX8_hopeOf_78 ?_
        refine V_lstore [(10, .long ((wMX S0 m (0, c, e)) * (Int32.toInt64 (ten (S.2.2.1 37) (sfB (S.2.2.1 30) v 0 c e) false)))), (8, .long ((wMX S0 m (0, c, e)) * (Int32.toInt64 (ten (S.2.2.1 37) (sfB (S.2.2.1 30) v 0 c e) true)))), (7, .int (b2i (sfB (S.2.2.1 30) v 0 c e))), (6, .int (nI i)), (4, .long (mxs (fun x => wMX S0 m x * (ten (S.2.2.1 37) (sfB (S.2.2.1 30) v x.1 x.2.1 x.2.2) false).toInt64) ((stl n).take i))), (2, .long (mxs (fun x => wMX S0 m x * (ten (S.2.2.1 37) (sfB (S.2.2.1 30) v x.1 x.2.1 x.2.2) true).toInt64) ((stl n).take i))), (0, .ref (G.2.1 29)), (1, .int (nI v))] dX8_hopeOf_79 (Nat.le_of_ble_eq_true rfl) rfl ?_
        refine V_lload dX8_hopeOf_81 1 rfl ?_
        refine V_lload_n dX8_hopeOf_83 rfl 5 rfl ?_
        refine V_lcmp dX8_hopeOf_84 ?_
        refine V_if_le 93 dX8_hopeOf_85 (by decide) (fun h2 => ?_) (fun h2 => ?_)
        · refine V_lload_n dX8_hopeOf_93 rfl 5 rfl ?_
          refine V_lstore_n [(2, .long (mxs (fun x => wMX S0 m x * (ten (S.2.2.1 37) (sfB (S.2.2.1 30) v x.1 x.2.1 x.2.2) true).toInt64) ((stl n).take i))), (10, .long ((wMX S0 m (0, c, e)) * (Int32.toInt64 (ten (S.2.2.1 37) (sfB (S.2.2.1 30) v 0 c e) false)))), (8, .long ((wMX S0 m (0, c, e)) * (Int32.toInt64 (ten (S.2.2.1 37) (sfB (S.2.2.1 30) v 0 c e) true)))), (7, .int (b2i (sfB (S.2.2.1 30) v 0 c e))), (6, .int (nI i)), (4, .long (mxs (fun x => wMX S0 m x * (ten (S.2.2.1 37) (sfB (S.2.2.1 30) v x.1 x.2.1 x.2.2) false).toInt64) ((stl n).take i))), (0, .ref (G.2.1 29)), (1, .int (nI v))] dX8_hopeOf_94 rfl (Nat.le_of_ble_eq_true rfl) rfl ?_
          refine V_lload dX8_hopeOf_95 1 rfl ?_
          refine V_lload dX8_hopeOf_97 5 rfl ?_
          refine V_lcmp dX8_hopeOf_99 ?_
          refine V_if_le 108 dX8_hopeOf_100 (by decide) (fun h3 => ?_) (fun h3 => ?_)
          · refine V_lload dX8_hopeOf_108 5 rfl ?_
            refine V_lstore [(4, .long (mxs (fun x => wMX S0 m x * (ten (S.2.2.1 37) (sfB (S.2.2.1 30) v x.1 x.2.1 x.2.2) false).toInt64) ((stl n).take i))), (2, .long (mxs (fun x => wMX S0 m x * (ten (S.2.2.1 37) (sfB (S.2.2.1 30) v x.1 x.2.1 x.2.2) true).toInt64) ((stl n).take i))), (10, .long ((wMX S0 m (0, c, e)) * (Int32.toInt64 (ten (S.2.2.1 37) (sfB (S.2.2.1 30) v 0 c e) false)))), (8, .long ((wMX S0 m (0, c, e)) * (Int32.toInt64 (ten (S.2.2.1 37) (sfB (S.2.2.1 30) v 0 c e) true)))), (7, .int (b2i (sfB (S.2.2.1 30) v 0 c e))), (6, .int (nI i)), (0, .ref (G.2.1 29)), (1, .int (nI v))] dX8_hopeOf_110 (Nat.le_of_ble_eq_true rfl) rfl ?_
            refine V_iinc [(6, .int (nI (i + 1))), (4, .long (mxs (fun x => wMX S0 m x * (ten (S.2.2.1 37) (sfB (S.2.2.1 30) v x.1 x.2.1 x.2.2) false).toInt64) ((stl n).take i))), (2, .long (mxs (fun x => wMX S0 m x * (ten (S.2.2.1 37) (sfB (S.2.2.1 30) v x.1 x.2.1 x.2.2) true).toInt64) ((stl n).take i))), (10, .long ((wMX S0 m (0, c, e)) * (Int32.toInt64 (ten (S.2.2.1 37) (sfB (S.2.2.1 30) v 0 c e) false)))), (8, .long ((wMX S0 m (0, c, e)) * (Int32.toInt64 (ten (S.2.2.1 37) (sfB (S.2.2.1 30) v 0 c e) true)))), (7, .int (b2i (sfB (S.2.2.1 30) v 0 c e))), (0, .ref (G.2.1 29)), (1, .int (nI v))] dX8_hopeOf_112 5 rfl (nI_1 _) (Nat.le_of_ble_eq_true rfl) rfl ?_
            refine V_goto 8 dX8_hopeOf_115 (by decide) ?_
            refine V_lv [(6, .int (nI (i + 1))), (4, .long (mxs (fun x => wMX S0 m x * (ten (S.2.2.1 37) (sfB (S.2.2.1 30) v x.1 x.2.1 x.2.2) false).toInt64) ((stl n).take i))), (2, .long (mxs (fun x => wMX S0 m x * (ten (S.2.2.1 37) (sfB (S.2.2.1 30) v x.1 x.2.1 x.2.2) true).toInt64) ((stl n).take i))), (0, .ref (G.2.1 29)), (1, .int (nI v))] [0, 1, 2, 6, 7] rfl ?_
            refine V_lveq [(6, .int (nI (i + 1))), (4, .long (mxs (fun x => wMX S0 m x * (ten (S.2.2.1 37) (sfB (S.2.2.1 30) v x.1 x.2.1 x.2.2) false).toInt64) ((stl n).take (i + 1)))), (2, .long (mxs (fun x => wMX S0 m x * (ten (S.2.2.1 37) (sfB (S.2.2.1 30) v x.1 x.2.1 x.2.2) true).toInt64) ((stl n).take (i + 1)))), (0, .ref (G.2.1 29)), (1, .int (nI v))] (by rw [mxs_take hx, mxs_take hx, mx_f (Int64.not_lt.mpr (lg_le.mp h3)), mx_f (Int64.not_lt.mpr (lg_le.mp h2))]) ?_
            exact ih (i + 1) (by omega) (by omega)
          · refine V_lload dX8_hopeOf_103 1 rfl ?_
            refine V_goto 110 dX8_hopeOf_105 (by decide) ?_
            refine V_lstore [(4, .long ((wMX S0 m (0, c, e)) * (Int32.toInt64 (ten (S.2.2.1 37) (sfB (S.2.2.1 30) v 0 c e) false)))), (2, .long (mxs (fun x => wMX S0 m x * (ten (S.2.2.1 37) (sfB (S.2.2.1 30) v x.1 x.2.1 x.2.2) true).toInt64) ((stl n).take i))), (10, .long ((wMX S0 m (0, c, e)) * (Int32.toInt64 (ten (S.2.2.1 37) (sfB (S.2.2.1 30) v 0 c e) false)))), (8, .long ((wMX S0 m (0, c, e)) * (Int32.toInt64 (ten (S.2.2.1 37) (sfB (S.2.2.1 30) v 0 c e) true)))), (7, .int (b2i (sfB (S.2.2.1 30) v 0 c e))), (6, .int (nI i)), (0, .ref (G.2.1 29)), (1, .int (nI v))] dX8_hopeOf_110 (Nat.le_of_ble_eq_true rfl) rfl ?_
            refine V_iinc [(6, .int (nI (i + 1))), (4, .long ((wMX S0 m (0, c, e)) * (Int32.toInt64 (ten (S.2.2.1 37) (sfB (S.2.2.1 30) v 0 c e) false)))), (2, .long (mxs (fun x => wMX S0 m x * (ten (S.2.2.1 37) (sfB (S.2.2.1 30) v x.1 x.2.1 x.2.2) true).toInt64) ((stl n).take i))), (10, .long ((wMX S0 m (0, c, e)) * (Int32.toInt64 (ten (S.2.2.1 37) (sfB (S.2.2.1 30) v 0 c e) false)))), (8, .long ((wMX S0 m (0, c, e)) * (Int32.toInt64 (ten (S.2.2.1 37) (sfB (S.2.2.1 30) v 0 c e) true)))), (7, .int (b2i (sfB (S.2.2.1 30) v 0 c e))), (0, .ref (G.2.1 29)), (1, .int (nI v))] dX8_hopeOf_112 5 rfl (nI_1 _) (Nat.le_of_ble_eq_true rfl) rfl ?_
            refine V_goto 8 dX8_hopeOf_115 (by decide) ?_
            refine V_lv [(6, .int (nI (i + 1))), (4, .long ((wMX S0 m (0, c, e)) * (Int32.toInt64 (ten (S.2.2.1 37) (sfB (S.2.2.1 30) v 0 c e) false)))), (2, .long (mxs (fun x => wMX S0 m x * (ten (S.2.2.1 37) (sfB (S.2.2.1 30) v x.1 x.2.1 x.2.2) true).toInt64) ((stl n).take i))), (0, .ref (G.2.1 29)), (1, .int (nI v))] [0, 1, 2, 6, 7] rfl ?_
            refine V_lveq [(6, .int (nI (i + 1))), (4, .long (mxs (fun x => wMX S0 m x * (ten (S.2.2.1 37) (sfB (S.2.2.1 30) v x.1 x.2.1 x.2.2) false).toInt64) ((stl n).take (i + 1)))), (2, .long (mxs (fun x => wMX S0 m x * (ten (S.2.2.1 37) (sfB (S.2.2.1 30) v x.1 x.2.1 x.2.2) true).toInt64) ((stl n).take (i + 1)))), (0, .ref (G.2.1 29)), (1, .int (nI v))] (by rw [mxs_take hx, mxs_take hx, mx_t (Int64.not_le.mp (fun z => h3 (lg_le.mpr z))), mx_f (Int64.not_lt.mpr (lg_le.mp h2))]) ?_
            exact ih (i + 1) (by omega) (by omega)
        · refine V_lload dX8_hopeOf_88 1 rfl ?_
          refine V_goto 94 dX8_hopeOf_90 (by decide) ?_
          refine V_lstore_n [(2, .long ((wMX S0 m (0, c, e)) * (Int32.toInt64 (ten (S.2.2.1 37) (sfB (S.2.2.1 30) v 0 c e) true)))), (10, .long ((wMX S0 m (0, c, e)) * (Int32.toInt64 (ten (S.2.2.1 37) (sfB (S.2.2.1 30) v 0 c e) false)))), (8, .long ((wMX S0 m (0, c, e)) * (Int32.toInt64 (ten (S.2.2.1 37) (sfB (S.2.2.1 30) v 0 c e) true)))), (7, .int (b2i (sfB (S.2.2.1 30) v 0 c e))), (6, .int (nI i)), (4, .long (mxs (fun x => wMX S0 m x * (ten (S.2.2.1 37) (sfB (S.2.2.1 30) v x.1 x.2.1 x.2.2) false).toInt64) ((stl n).take i))), (0, .ref (G.2.1 29)), (1, .int (nI v))] dX8_hopeOf_94 rfl (Nat.le_of_ble_eq_true rfl) rfl ?_
          refine V_lload dX8_hopeOf_95 1 rfl ?_
          refine V_lload dX8_hopeOf_97 5 rfl ?_
          refine V_lcmp dX8_hopeOf_99 ?_
          refine V_if_le 108 dX8_hopeOf_100 (by decide) (fun h4 => ?_) (fun h4 => ?_)
          · refine V_lload dX8_hopeOf_108 5 rfl ?_
            refine V_lstore [(4, .long (mxs (fun x => wMX S0 m x * (ten (S.2.2.1 37) (sfB (S.2.2.1 30) v x.1 x.2.1 x.2.2) false).toInt64) ((stl n).take i))), (2, .long ((wMX S0 m (0, c, e)) * (Int32.toInt64 (ten (S.2.2.1 37) (sfB (S.2.2.1 30) v 0 c e) true)))), (10, .long ((wMX S0 m (0, c, e)) * (Int32.toInt64 (ten (S.2.2.1 37) (sfB (S.2.2.1 30) v 0 c e) false)))), (8, .long ((wMX S0 m (0, c, e)) * (Int32.toInt64 (ten (S.2.2.1 37) (sfB (S.2.2.1 30) v 0 c e) true)))), (7, .int (b2i (sfB (S.2.2.1 30) v 0 c e))), (6, .int (nI i)), (0, .ref (G.2.1 29)), (1, .int (nI v))] dX8_hopeOf_110 (Nat.le_of_ble_eq_true rfl) rfl ?_
            refine V_iinc [(6, .int (nI (i + 1))), (4, .long (mxs (fun x => wMX S0 m x * (ten (S.2.2.1 37) (sfB (S.2.2.1 30) v x.1 x.2.1 x.2.2) false).toInt64) ((stl n).take i))), (2, .long ((wMX S0 m (0, c, e)) * (Int32.toInt64 (ten (S.2.2.1 37) (sfB (S.2.2.1 30) v 0 c e) true)))), (10, .long ((wMX S0 m (0, c, e)) * (Int32.toInt64 (ten (S.2.2.1 37) (sfB (S.2.2.1 30) v 0 c e) false)))), (8, .long ((wMX S0 m (0, c, e)) * (Int32.toInt64 (ten (S.2.2.1 37) (sfB (S.2.2.1 30) v 0 c e) true)))), (7, .int (b2i (sfB (S.2.2.1 30) v 0 c e))), (0, .ref (G.2.1 29)), (1, .int (nI v))] dX8_hopeOf_112 5 rfl (nI_1 _) (Nat.le_of_ble_eq_true rfl) rfl ?_
            refine V_goto 8 dX8_hopeOf_115 (by decide) ?_
            refine V_lv [(6, .int (nI (i + 1))), (4, .long (mxs (fun x => wMX S0 m x * (ten (S.2.2.1 37) (sfB (S.2.2.1 30) v x.1 x.2.1 x.2.2) false).toInt64) ((stl n).take i))), (2, .long ((wMX S0 m (0, c, e)) * (Int32.toInt64 (ten (S.2.2.1 37) (sfB (S.2.2.1 30) v 0 c e) true)))), (0, .ref (G.2.1 29)), (1, .int (nI v))] [0, 1, 2, 6, 7] rfl ?_
            refine V_lveq [(6, .int (nI (i + 1))), (4, .long (mxs (fun x => wMX S0 m x * (ten (S.2.2.1 37) (sfB (S.2.2.1 30) v x.1 x.2.1 x.2.2) false).toInt64) ((stl n).take (i + 1)))), (2, .long (mxs (fun x => wMX S0 m x * (ten (S.2.2.1 37) (sfB (S.2.2.1 30) v x.1 x.2.1 x.2.2) true).toInt64) ((stl n).take (i + 1)))), (0, .ref (G.2.1 29)), (1, .int (nI v))] (by rw [mxs_take hx, mxs_take hx, mx_f (Int64.not_lt.mpr (lg_le.mp h4)), mx_t (Int64.not_le.mp (fun z => h2 (lg_le.mpr z)))]) ?_
            exact ih (i + 1) (by omega) (by omega)
          · refine V_lload dX8_hopeOf_103 1 rfl ?_
            refine V_goto 110 dX8_hopeOf_105 (by decide) ?_
            refine V_lstore [(4, .long ((wMX S0 m (0, c, e)) * (Int32.toInt64 (ten (S.2.2.1 37) (sfB (S.2.2.1 30) v 0 c e) false)))), (2, .long ((wMX S0 m (0, c, e)) * (Int32.toInt64 (ten (S.2.2.1 37) (sfB (S.2.2.1 30) v 0 c e) true)))), (10, .long ((wMX S0 m (0, c, e)) * (Int32.toInt64 (ten (S.2.2.1 37) (sfB (S.2.2.1 30) v 0 c e) false)))), (8, .long ((wMX S0 m (0, c, e)) * (Int32.toInt64 (ten (S.2.2.1 37) (sfB (S.2.2.1 30) v 0 c e) true)))), (7, .int (b2i (sfB (S.2.2.1 30) v 0 c e))), (6, .int (nI i)), (0, .ref (G.2.1 29)), (1, .int (nI v))] dX8_hopeOf_110 (Nat.le_of_ble_eq_true rfl) rfl ?_
            refine V_iinc [(6, .int (nI (i + 1))), (4, .long ((wMX S0 m (0, c, e)) * (Int32.toInt64 (ten (S.2.2.1 37) (sfB (S.2.2.1 30) v 0 c e) false)))), (2, .long ((wMX S0 m (0, c, e)) * (Int32.toInt64 (ten (S.2.2.1 37) (sfB (S.2.2.1 30) v 0 c e) true)))), (10, .long ((wMX S0 m (0, c, e)) * (Int32.toInt64 (ten (S.2.2.1 37) (sfB (S.2.2.1 30) v 0 c e) false)))), (8, .long ((wMX S0 m (0, c, e)) * (Int32.toInt64 (ten (S.2.2.1 37) (sfB (S.2.2.1 30) v 0 c e) true)))), (7, .int (b2i (sfB (S.2.2.1 30) v 0 c e))), (0, .ref (G.2.1 29)), (1, .int (nI v))] dX8_hopeOf_112 5 rfl (nI_1 _) (Nat.le_of_ble_eq_true rfl) rfl ?_
            refine V_goto 8 dX8_hopeOf_115 (by decide) ?_
            refine V_lv [(6, .int (nI (i + 1))), (4, .long ((wMX S0 m (0, c, e)) * (Int32.toInt64 (ten (S.2.2.1 37) (sfB (S.2.2.1 30) v 0 c e) false)))), (2, .long ((wMX S0 m (0, c, e)) * (Int32.toInt64 (ten (S.2.2.1 37) (sfB (S.2.2.1 30) v 0 c e) true)))), (0, .ref (G.2.1 29)), (1, .int (nI v))] [0, 1, 2, 6, 7] rfl ?_
            refine V_lveq [(6, .int (nI (i + 1))), (4, .long (mxs (fun x => wMX S0 m x * (ten (S.2.2.1 37) (sfB (S.2.2.1 30) v x.1 x.2.1 x.2.2) false).toInt64) ((stl n).take (i + 1)))), (2, .long (mxs (fun x => wMX S0 m x * (ten (S.2.2.1 37) (sfB (S.2.2.1 30) v x.1 x.2.1 x.2.2) true).toInt64) ((stl n).take (i + 1)))), (0, .ref (G.2.1 29)), (1, .int (nI v))] (by rw [mxs_take hx, mxs_take hx, mx_t (Int64.not_le.mp (fun z => h4 (lg_le.mpr z))), mx_t (Int64.not_le.mp (fun z => h2 (lg_le.mpr z)))]) ?_
            exact ih (i + 1) (by omega) (by omega)
      · refine V_aload_n dX8_hopeOf_17 rfl 3 rfl ?_
        refine V_iload_n dX8_hopeOf_18 rfl 4 rfl ?_
        refine V_aload_n dX8_hopeOf_19 rfl 3 rfl ?_
        refine g_29_15 tw_643 dX8_hopeOf_20 ?_
        refine V_iload dX8_hopeOf_23 0 rfl ?_
        refine l_40n (by omega) dX8_hopeOf_25 ?_
        refine V_topi (v := 1) (id x1) ?_
        refine V_aload_n dX8_hopeOf_26 rfl 3 rfl ?_
        refine g_29_16 tw_644 dX8_hopeOf_27 ?_
        refine V_iload dX8_hopeOf_30 0 rfl ?_
        refine l_41n (by omega) dX8_hopeOf_32 ?_
        refine V_topi (v := nI c) (id x2) ?_
        refine V_aload_n dX8_hopeOf_33 rfl 3 rfl ?_
        refine g_29_17 tw_645 dX8_hopeOf_34 ?_
        refine V_iload dX8_hopeOf_37 0 rfl ?_
        refine l_42n (by omega) dX8_hopeOf_39 ?_
        refine V_topi (v := nI e) (id x3) ?_
        refine V_cVi (P := pM G (d + 2) mX8_hopeOf _) (d := d + 1) 29 (r := []) (As := [.int (nI v), .int 1, .int (nI c), .int (nI e)]) (K := mX8_shouldFail) ok_X8_shouldFail tw_768 (ob_29 _) rfl (rmOk (Nat.le_of_ble_eq_true rfl)) (Nat.le_of_ble_eq_true rfl) dX8_hopeOf_40 rfl (c_X8_shouldFail1 (by omega) (by omega) (by omega) ?_)
        refine V_istore [(7, .int (b2i (sfB (S.2.2.1 30) v 1 c e))), (6, .int (nI i)), (4, .long (mxs (fun x => wMX S0 m x * (ten (S.2.2.1 37) (sfB (S.2.2.1 30) v x.1 x.2.1 x.2.2) false).toInt64) ((stl n).take i))), (2, .long (mxs (fun x => wMX S0 m x * (ten (S.2.2.1 37) (sfB (S.2.2.1 30) v x.1 x.2.1 x.2.2) true).toInt64) ((stl n).take i))), (0, .ref (G.2.1 29)), (1, .int (nI v))] dX8_hopeOf_43 (Nat.le_of_ble_eq_true rfl) rfl ?_
        refine V_aload_n dX8_hopeOf_45 rfl 4 rfl ?_
        refine g_29_18 tw_646 dX8_hopeOf_46 ?_
        refine V_iload dX8_hopeOf_49 1 rfl ?_
        refine l_43n (by omega) dX8_hopeOf_51 ?_
        refine V_topl (v := wMX S0 m (1, c, e)) (id x4) ?_
        refine V_aload_n dX8_hopeOf_52 rfl 4 rfl ?_
        refine V_iload dX8_hopeOf_53 0 rfl ?_
        refine V_iconst (v := 1) dX8_hopeOf_55 ki_1 ?_
        refine V_cVi (P := pM G (d + 2) mX8_hopeOf _) (d := d + 1) 29 (r := [.long (wMX S0 m (1, c, e))]) (As := [.int (b2i (sfB (S.2.2.1 30) v 1 c e)), .int 1]) (K := mX8_tenths) ok_X8_tenths tw_775 (ob_29 _) rfl (rmOk (Nat.le_of_ble_eq_true rfl)) (Nat.le_of_ble_eq_true rfl) dX8_hopeOf_56 rfl (c_X8_tenths (f := (sfB (S.2.2.1 30) v 1 c e)) (q := true) ?_)
        refine V_i2l dX8_hopeOf_59 ?_
        refine V_lmul dX8_hopeOf_60 ?_
        refine V_lstore [(8, .long ((wMX S0 m (1, c, e)) * (Int32.toInt64 (ten (S.2.2.1 37) (sfB (S.2.2.1 30) v 1 c e) true)))), (7, .int (b2i (sfB (S.2.2.1 30) v 1 c e))), (6, .int (nI i)), (4, .long (mxs (fun x => wMX S0 m x * (ten (S.2.2.1 37) (sfB (S.2.2.1 30) v x.1 x.2.1 x.2.2) false).toInt64) ((stl n).take i))), (2, .long (mxs (fun x => wMX S0 m x * (ten (S.2.2.1 37) (sfB (S.2.2.1 30) v x.1 x.2.1 x.2.2) true).toInt64) ((stl n).take i))), (0, .ref (G.2.1 29)), (1, .int (nI v))] dX8_hopeOf_61 (Nat.le_of_ble_eq_true rfl) rfl ?_
        refine V_aload_n dX8_hopeOf_63 rfl 5 rfl ?_
        refine g_29_18 tw_646 dX8_hopeOf_64 ?_
        refine V_iload dX8_hopeOf_67 2 rfl ?_
        refine l_43n (by omega) dX8_hopeOf_69 ?_
        refine V_topl (v := wMX S0 m (1, c, e)) (id x4) ?_
        refine V_aload_n dX8_hopeOf_70 rfl 5 rfl ?_
        refine V_iload dX8_hopeOf_71 1 rfl ?_
        refine V_iconst (v := 0) dX8_hopeOf_73 ki_0 ?_
        refine V_cVi (P := pM G (d + 2) mX8_hopeOf _) (d := d + 1) 29 (r := [.long (wMX S0 m (1, c, e))]) (As := [.int (b2i (sfB (S.2.2.1 30) v 1 c e)), .int 0]) (K := mX8_tenths) ok_X8_tenths tw_775 (ob_29 _) rfl (rmOk (Nat.le_of_ble_eq_true rfl)) (Nat.le_of_ble_eq_true rfl) dX8_hopeOf_74 rfl (c_X8_tenths (f := (sfB (S.2.2.1 30) v 1 c e)) (q := false) ?_)
        refine V_i2l dX8_hopeOf_77 ?_
        refine V_lmul dX8_hopeOf_78 ?_
        refine V_lstore [(10, .long ((wMX S0 m (1, c, e)) * (Int32.toInt64 (ten (S.2.2.1 37) (sfB (S.2.2.1 30) v 1 c e) false)))), (8, .long ((wMX S0 m (1, c, e)) * (Int32.toInt64 (ten (S.2.2.1 37) (sfB (S.2.2.1 30) v 1 c e) true)))), (7, .int (b2i (sfB (S.2.2.1 30) v 1 c e))), (6, .int (nI i)), (4, .long (mxs (fun x => wMX S0 m x * (ten (S.2.2.1 37) (sfB (S.2.2.1 30) v x.1 x.2.1 x.2.2) false).toInt64) ((stl n).take i))), (2, .long (mxs (fun x => wMX S0 m x * (ten (S.2.2.1 37) (sfB (S.2.2.1 30) v x.1 x.2.1 x.2.2) true).toInt64) ((stl n).take i))), (0, .ref (G.2.1 29)), (1, .int (nI v))] dX8_hopeOf_79 (Nat.le_of_ble_eq_true rfl) rfl ?_
        refine V_lload dX8_hopeOf_81 1 rfl ?_
        refine V_lload_n dX8_hopeOf_83 rfl 5 rfl ?_
        refine V_lcmp dX8_hopeOf_84 ?_
        refine V_if_le 93 dX8_hopeOf_85 (by decide) (fun h5 => ?_) (fun h5 => ?_)
        · refine V_lload_n dX8_hopeOf_93 rfl 5 rfl ?_
          refine V_lstore_n [(2, .long (mxs (fun x => wMX S0 m x * (ten (S.2.2.1 37) (sfB (S.2.2.1 30) v x.1 x.2.1 x.2.2) true).toInt64) ((stl n).take i))), (10, .long ((wMX S0 m (1, c, e)) * (Int32.toInt64 (ten (S.2.2.1 37) (sfB (S.2.2.1 30) v 1 c e) false)))), (8, .long ((wMX S0 m (1, c, e)) * (Int32.toInt64 (ten (S.2.2.1 37) (sfB (S.2.2.1 30) v 1 c e) true)))), (7, .int (b2i (sfB (S.2.2.1 30) v 1 c e))), (6, .int (nI i)), (4, .long (mxs (fun x => wMX S0 m x * (ten (S.2.2.1 37) (sfB (S.2.2.1 30) v x.1 x.2.1 x.2.2) false).toInt64) ((stl n).take i))), (0, .ref (G.2.1 29)), (1, .int (nI v))] dX8_hopeOf_94 rfl (Nat.le_of_ble_eq_true rfl) rfl ?_
          refine V_lload dX8_hopeOf_95 1 rfl ?_
          refine V_lload dX8_hopeOf_97 5 rfl ?_
          refine V_lcmp dX8_hopeOf_99 ?_
          refine V_if_le 108 dX8_hopeOf_100 (by decide) (fun h6 => ?_) (fun h6 => ?_)
          · refine V_lload dX8_hopeOf_108 5 rfl ?_
            refine V_lstore [(4, .long (mxs (fun x => wMX S0 m x * (ten (S.2.2.1 37) (sfB (S.2.2.1 30) v x.1 x.2.1 x.2.2) false).toInt64) ((stl n).take i))), (2, .long (mxs (fun x => wMX S0 m x * (ten (S.2.2.1 37) (sfB (S.2.2.1 30) v x.1 x.2.1 x.2.2) true).toInt64) ((stl n).take i))), (10, .long ((wMX S0 m (1, c, e)) * (Int32.toInt64 (ten (S.2.2.1 37) (sfB (S.2.2.1 30) v 1 c e) false)))), (8, .long ((wMX S0 m (1, c, e)) * (Int32.toInt64 (ten (S.2.2.1 37) (sfB (S.2.2.1 30) v 1 c e) true)))), (7, .int (b2i (sfB (S.2.2.1 30) v 1 c e))), (6, .int (nI i)), (0, .ref (G.2.1 29)), (1, .int (nI v))] dX8_hopeOf_110 (Nat.le_of_ble_eq_true rfl) rfl ?_
            refine V_iinc [(6, .int (nI (i + 1))), (4, .long (mxs (fun x => wMX S0 m x * (ten (S.2.2.1 37) (sfB (S.2.2.1 30) v x.1 x.2.1 x.2.2) false).toInt64) ((stl n).take i))), (2, .long (mxs (fun x => wMX S0 m x * (ten (S.2.2.1 37) (sfB (S.2.2.1 30) v x.1 x.2.1 x.2.2) true).toInt64) ((stl n).take i))), (10, .long ((wMX S0 m (1, c, e)) * (Int32.toInt64 (ten (S.2.2.1 37) (sfB (S.2.2.1 30) v 1 c e) false)))), (8, .long ((wMX S0 m (1, c, e)) * (Int32.toInt64 (ten (S.2.2.1 37) (sfB (S.2.2.1 30) v 1 c e) true)))), (7, .int (b2i (sfB (S.2.2.1 30) v 1 c e))), (0, .ref (G.2.1 29)), (1, .int (nI v))] dX8_hopeOf_112 5 rfl (nI_1 _) (Nat.le_of_ble_eq_true rfl) rfl ?_
            refine V_goto 8 dX8_hopeOf_115 (by decide) ?_
            refine V_lv [(6, .int (nI (i + 1))), (4, .long (mxs (fun x => wMX S0 m x * (ten (S.2.2.1 37) (sfB (S.2.2.1 30) v x.1 x.2.1 x.2.2) false).toInt64) ((stl n).take i))), (2, .long (mxs (fun x => wMX S0 m x * (ten (S.2.2.1 37) (sfB (S.2.2.1 30) v x.1 x.2.1 x.2.2) true).toInt64) ((stl n).take i))), (0, .ref (G.2.1 29)), (1, .int (nI v))] [0, 1, 2, 6, 7] rfl ?_
            refine V_lveq [(6, .int (nI (i + 1))), (4, .long (mxs (fun x => wMX S0 m x * (ten (S.2.2.1 37) (sfB (S.2.2.1 30) v x.1 x.2.1 x.2.2) false).toInt64) ((stl n).take (i + 1)))), (2, .long (mxs (fun x => wMX S0 m x * (ten (S.2.2.1 37) (sfB (S.2.2.1 30) v x.1 x.2.1 x.2.2) true).toInt64) ((stl n).take (i + 1)))), (0, .ref (G.2.1 29)), (1, .int (nI v))] (by rw [mxs_take hx, mxs_take hx, mx_f (Int64.not_lt.mpr (lg_le.mp h6)), mx_f (Int64.not_lt.mpr (lg_le.mp h5))]) ?_
            exact ih (i + 1) (by omega) (by omega)
          · refine V_lload dX8_hopeOf_103 1 rfl ?_
            refine V_goto 110 dX8_hopeOf_105 (by decide) ?_
            refine V_lstore [(4, .long ((wMX S0 m (1, c, e)) * (Int32.toInt64 (ten (S.2.2.1 37) (sfB (S.2.2.1 30) v 1 c e) false)))), (2, .long (mxs (fun x => wMX S0 m x * (ten (S.2.2.1 37) (sfB (S.2.2.1 30) v x.1 x.2.1 x.2.2) true).toInt64) ((stl n).take i))), (10, .long ((wMX S0 m (1, c, e)) * (Int32.toInt64 (ten (S.2.2.1 37) (sfB (S.2.2.1 30) v 1 c e) false)))), (8, .long ((wMX S0 m (1, c, e)) * (Int32.toInt64 (ten (S.2.2.1 37) (sfB (S.2.2.1 30) v 1 c e) true)))), (7, .int (b2i (sfB (S.2.2.1 30) v 1 c e))), (6, .int (nI i)), (0, .ref (G.2.1 29)), (1, .int (nI v))] dX8_hopeOf_110 (Nat.le_of_ble_eq_true rfl) rfl ?_
            refine V_iinc [(6, .int (nI (i + 1))), (4, .long ((wMX S0 m (1, c, e)) * (Int32.toInt64 (ten (S.2.2.1 37) (sfB (S.2.2.1 30) v 1 c e) false)))), (2, .long (mxs (fun x => wMX S0 m x * (ten (S.2.2.1 37) (sfB (S.2.2.1 30) v x.1 x.2.1 x.2.2) true).toInt64) ((stl n).take i))), (10, .long ((wMX S0 m (1, c, e)) * (Int32.toInt64 (ten (S.2.2.1 37) (sfB (S.2.2.1 30) v 1 c e) false)))), (8, .long ((wMX S0 m (1, c, e)) * (Int32.toInt64 (ten (S.2.2.1 37) (sfB (S.2.2.1 30) v 1 c e) true)))), (7, .int (b2i (sfB (S.2.2.1 30) v 1 c e))), (0, .ref (G.2.1 29)), (1, .int (nI v))] dX8_hopeOf_112 5 rfl (nI_1 _) (Nat.le_of_ble_eq_true rfl) rfl ?_
            refine V_goto 8 dX8_hopeOf_115 (by decide) ?_
            refine V_lv [(6, .int (nI (i + 1))), (4, .long ((wMX S0 m (1, c, e)) * (Int32.toInt64 (ten (S.2.2.1 37) (sfB (S.2.2.1 30) v 1 c e) false)))), (2, .long (mxs (fun x => wMX S0 m x * (ten (S.2.2.1 37) (sfB (S.2.2.1 30) v x.1 x.2.1 x.2.2) true).toInt64) ((stl n).take i))), (0, .ref (G.2.1 29)), (1, .int (nI v))] [0, 1, 2, 6, 7] rfl ?_
            refine V_lveq [(6, .int (nI (i + 1))), (4, .long (mxs (fun x => wMX S0 m x * (ten (S.2.2.1 37) (sfB (S.2.2.1 30) v x.1 x.2.1 x.2.2) false).toInt64) ((stl n).take (i + 1)))), (2, .long (mxs (fun x => wMX S0 m x * (ten (S.2.2.1 37) (sfB (S.2.2.1 30) v x.1 x.2.1 x.2.2) true).toInt64) ((stl n).take (i + 1)))), (0, .ref (G.2.1 29)), (1, .int (nI v))] (by rw [mxs_take hx, mxs_take hx, mx_t (Int64.not_le.mp (fun z => h6 (lg_le.mpr z))), mx_f (Int64.not_lt.mpr (lg_le.mp h5))]) ?_
            exact ih (i + 1) (by omega) (by omega)
        · refine V_lload dX8_hopeOf_88 1 rfl ?_
          refine V_goto 94 dX8_hopeOf_90 (by decide) ?_
          refine V_lstore_n [(2, .long ((wMX S0 m (1, c, e)) * (Int32.toInt64 (ten (S.2.2.1 37) (sfB (S.2.2.1 30) v 1 c e) true)))), (10, .long ((wMX S0 m (1, c, e)) * (Int32.toInt64 (ten (S.2.2.1 37) (sfB (S.2.2.1 30) v 1 c e) false)))), (8, .long ((wMX S0 m (1, c, e)) * (Int32.toInt64 (ten (S.2.2.1 37) (sfB (S.2.2.1 30) v 1 c e) true)))), (7, .int (b2i (sfB (S.2.2.1 30) v 1 c e))), (6, .int (nI i)), (4, .long (mxs (fun x => wMX S0 m x * (ten (S.2.2.1 37) (sfB (S.2.2.1 30) v x.1 x.2.1 x.2.2) false).toInt64) ((stl n).take i))), (0, .ref (G.2.1 29)), (1, .int (nI v))] dX8_hopeOf_94 rfl (Nat.le_of_ble_eq_true rfl) rfl ?_
          refine V_lload dX8_hopeOf_95 1 rfl ?_
          refine V_lload dX8_hopeOf_97 5 rfl ?_
          refine V_lcmp dX8_hopeOf_99 ?_
          refine V_if_le 108 dX8_hopeOf_100 (by decide) (fun h7 => ?_) (fun h7 => ?_)
          · refine V_lload dX8_hopeOf_108 5 rfl ?_
            refine V_lstore [(4, .long (mxs (fun x => wMX S0 m x * (ten (S.2.2.1 37) (sfB (S.2.2.1 30) v x.1 x.2.1 x.2.2) false).toInt64) ((stl n).take i))), (2, .long ((wMX S0 m (1, c, e)) * (Int32.toInt64 (ten (S.2.2.1 37) (sfB (S.2.2.1 30) v 1 c e) true)))), (10, .long ((wMX S0 m (1, c, e)) * (Int32.toInt64 (ten (S.2.2.1 37) (sfB (S.2.2.1 30) v 1 c e) false)))), (8, .long ((wMX S0 m (1, c, e)) * (Int32.toInt64 (ten (S.2.2.1 37) (sfB (S.2.2.1 30) v 1 c e) true)))), (7, .int (b2i (sfB (S.2.2.1 30) v 1 c e))), (6, .int (nI i)), (0, .ref (G.2.1 29)), (1, .int (nI v))] dX8_hopeOf_110 (Nat.le_of_ble_eq_true rfl) rfl ?_
            refine V_iinc [(6, .int (nI (i + 1))), (4, .long (mxs (fun x => wMX S0 m x * (ten (S.2.2.1 37) (sfB (S.2.2.1 30) v x.1 x.2.1 x.2.2) false).toInt64) ((stl n).take i))), (2, .long ((wMX S0 m (1, c, e)) * (Int32.toInt64 (ten (S.2.2.1 37) (sfB (S.2.2.1 30) v 1 c e) true)))), (10, .long ((wMX S0 m (1, c, e)) * (Int32.toInt64 (ten (S.2.2.1 37) (sfB (S.2.2.1 30) v 1 c e) false)))), (8, .long ((wMX S0 m (1, c, e)) * (Int32.toInt64 (ten (S.2.2.1 37) (sfB (S.2.2.1 30) v 1 c e) true)))), (7, .int (b2i (sfB (S.2.2.1 30) v 1 c e))), (0, .ref (G.2.1 29)), (1, .int (nI v))] dX8_hopeOf_112 5 rfl (nI_1 _) (Nat.le_of_ble_eq_true rfl) rfl ?_
            refine V_goto 8 dX8_hopeOf_115 (by decide) ?_
            refine V_lv [(6, .int (nI (i + 1))), (4, .long (mxs (fun x => wMX S0 m x * (ten (S.2.2.1 37) (sfB (S.2.2.1 30) v x.1 x.2.1 x.2.2) false).toInt64) ((stl n).take i))), (2, .long ((wMX S0 m (1, c, e)) * (Int32.toInt64 (ten (S.2.2.1 37) (sfB (S.2.2.1 30) v 1 c e) true)))), (0, .ref (G.2.1 29)), (1, .int (nI v))] [0, 1, 2, 6, 7] rfl ?_
            refine V_lveq [(6, .int (nI (i + 1))), (4, .long (mxs (fun x => wMX S0 m x * (ten (S.2.2.1 37) (sfB (S.2.2.1 30) v x.1 x.2.1 x.2.2) false).toInt64) ((stl n).take (i + 1)))), (2, .long (mxs (fun x => wMX S0 m x * (ten (S.2.2.1 37) (sfB (S.2.2.1 30) v x.1 x.2.1 x.2.2) true).toInt64) ((stl n).take (i + 1)))), (0, .ref (G.2.1 29)), (1, .int (nI v))] (by rw [mxs_take hx, mxs_take hx, mx_f (Int64.not_lt.mpr (lg_le.mp h7)), mx_t (Int64.not_le.mp (fun z => h5 (lg_le.mpr z)))]) ?_
            exact ih (i + 1) (by omega) (by omega)
          · refine V_lload dX8_hopeOf_103 1 rfl ?_
            refine V_goto 110 dX8_hopeOf_105 (by decide) ?_
            refine V_lstore [(4, .long ((wMX S0 m (1, c, e)) * (Int32.toInt64 (ten (S.2.2.1 37) (sfB (S.2.2.1 30) v 1 c e) false)))), (2, .long ((wMX S0 m (1, c, e)) * (Int32.toInt64 (ten (S.2.2.1 37) (sfB (S.2.2.1 30) v 1 c e) true)))), (10, .long ((wMX S0 m (1, c, e)) * (Int32.toInt64 (ten (S.2.2.1 37) (sfB (S.2.2.1 30) v 1 c e) false)))), (8, .long ((wMX S0 m (1, c, e)) * (Int32.toInt64 (ten (S.2.2.1 37) (sfB (S.2.2.1 30) v 1 c e) true)))), (7, .int (b2i (sfB (S.2.2.1 30) v 1 c e))), (6, .int (nI i)), (0, .ref (G.2.1 29)), (1, .int (nI v))] dX8_hopeOf_110 (Nat.le_of_ble_eq_true rfl) rfl ?_
            refine V_iinc [(6, .int (nI (i + 1))), (4, .long ((wMX S0 m (1, c, e)) * (Int32.toInt64 (ten (S.2.2.1 37) (sfB (S.2.2.1 30) v 1 c e) false)))), (2, .long ((wMX S0 m (1, c, e)) * (Int32.toInt64 (ten (S.2.2.1 37) (sfB (S.2.2.1 30) v 1 c e) true)))), (10, .long ((wMX S0 m (1, c, e)) * (Int32.toInt64 (ten (S.2.2.1 37) (sfB (S.2.2.1 30) v 1 c e) false)))), (8, .long ((wMX S0 m (1, c, e)) * (Int32.toInt64 (ten (S.2.2.1 37) (sfB (S.2.2.1 30) v 1 c e) true)))), (7, .int (b2i (sfB (S.2.2.1 30) v 1 c e))), (0, .ref (G.2.1 29)), (1, .int (nI v))] dX8_hopeOf_112 5 rfl (nI_1 _) (Nat.le_of_ble_eq_true rfl) rfl ?_
            refine V_goto 8 dX8_hopeOf_115 (by decide) ?_
            refine V_lv [(6, .int (nI (i + 1))), (4, .long ((wMX S0 m (1, c, e)) * (Int32.toInt64 (ten (S.2.2.1 37) (sfB (S.2.2.1 30) v 1 c e) false)))), (2, .long ((wMX S0 m (1, c, e)) * (Int32.toInt64 (ten (S.2.2.1 37) (sfB (S.2.2.1 30) v 1 c e) true)))), (0, .ref (G.2.1 29)), (1, .int (nI v))] [0, 1, 2, 6, 7] rfl ?_
            refine V_lveq [(6, .int (nI (i + 1))), (4, .long (mxs (fun x => wMX S0 m x * (ten (S.2.2.1 37) (sfB (S.2.2.1 30) v x.1 x.2.1 x.2.2) false).toInt64) ((stl n).take (i + 1)))), (2, .long (mxs (fun x => wMX S0 m x * (ten (S.2.2.1 37) (sfB (S.2.2.1 30) v x.1 x.2.1 x.2.2) true).toInt64) ((stl n).take (i + 1)))), (0, .ref (G.2.1 29)), (1, .int (nI v))] (by rw [mxs_take hx, mxs_take hx, mx_t (Int64.not_le.mp (fun z => h7 (lg_le.mpr z))), mx_t (Int64.not_le.mp (fun z => h5 (lg_le.mpr z)))]) ?_
            exact ih (i + 1) (by omega) (by omega)
      · refine V_aload_n dX8_hopeOf_17 rfl 3 rfl ?_
        refine V_iload_n dX8_hopeOf_18 rfl 4 rfl ?_
        refine V_aload_n dX8_hopeOf_19 rfl 3 rfl ?_
        refine g_29_15 tw_643 dX8_hopeOf_20 ?_
        refine V_iload dX8_hopeOf_23 0 rfl ?_
        refine l_40n (by omega) dX8_hopeOf_25 ?_
        refine V_topi (v := 2) (id x1) ?_
        refine V_aload_n dX8_hopeOf_26 rfl 3 rfl ?_
        refine g_29_16 tw_644 dX8_hopeOf_27 ?_
        refine V_iload dX8_hopeOf_30 0 rfl ?_
        refine l_41n (by omega) dX8_hopeOf_32 ?_
        refine V_topi (v := nI c) (id x2) ?_
        refine V_aload_n dX8_hopeOf_33 rfl 3 rfl ?_
        refine g_29_17 tw_645 dX8_hopeOf_34 ?_
        refine V_iload dX8_hopeOf_37 0 rfl ?_
        refine l_42n (by omega) dX8_hopeOf_39 ?_
        refine V_topi (v := nI e) (id x3) ?_
        refine V_cVi (P := pM G (d + 2) mX8_hopeOf _) (d := d + 1) 29 (r := []) (As := [.int (nI v), .int 2, .int (nI c), .int (nI e)]) (K := mX8_shouldFail) ok_X8_shouldFail tw_768 (ob_29 _) rfl (rmOk (Nat.le_of_ble_eq_true rfl)) (Nat.le_of_ble_eq_true rfl) dX8_hopeOf_40 rfl (c_X8_shouldFail2 (by omega) (by omega) (by omega) ?_)
        refine V_istore [(7, .int (b2i (sfB (S.2.2.1 30) v 2 c e))), (6, .int (nI i)), (4, .long (mxs (fun x => wMX S0 m x * (ten (S.2.2.1 37) (sfB (S.2.2.1 30) v x.1 x.2.1 x.2.2) false).toInt64) ((stl n).take i))), (2, .long (mxs (fun x => wMX S0 m x * (ten (S.2.2.1 37) (sfB (S.2.2.1 30) v x.1 x.2.1 x.2.2) true).toInt64) ((stl n).take i))), (0, .ref (G.2.1 29)), (1, .int (nI v))] dX8_hopeOf_43 (Nat.le_of_ble_eq_true rfl) rfl ?_
        refine V_aload_n dX8_hopeOf_45 rfl 4 rfl ?_
        refine g_29_18 tw_646 dX8_hopeOf_46 ?_
        refine V_iload dX8_hopeOf_49 1 rfl ?_
        refine l_43n (by omega) dX8_hopeOf_51 ?_
        refine V_topl (v := wMX S0 m (2, c, e)) (id x4) ?_
        refine V_aload_n dX8_hopeOf_52 rfl 4 rfl ?_
        refine V_iload dX8_hopeOf_53 0 rfl ?_
        refine V_iconst (v := 1) dX8_hopeOf_55 ki_1 ?_
        refine V_cVi (P := pM G (d + 2) mX8_hopeOf _) (d := d + 1) 29 (r := [.long (wMX S0 m (2, c, e))]) (As := [.int (b2i (sfB (S.2.2.1 30) v 2 c e)), .int 1]) (K := mX8_tenths) ok_X8_tenths tw_775 (ob_29 _) rfl (rmOk (Nat.le_of_ble_eq_true rfl)) (Nat.le_of_ble_eq_true rfl) dX8_hopeOf_56 rfl (c_X8_tenths (f := (sfB (S.2.2.1 30) v 2 c e)) (q := true) ?_)
        refine V_i2l dX8_hopeOf_59 ?_
        refine V_lmul dX8_hopeOf_60 ?_
        refine V_lstore [(8, .long ((wMX S0 m (2, c, e)) * (Int32.toInt64 (ten (S.2.2.1 37) (sfB (S.2.2.1 30) v 2 c e) true)))), (7, .int (b2i (sfB (S.2.2.1 30) v 2 c e))), (6, .int (nI i)), (4, .long (mxs (fun x => wMX S0 m x * (ten (S.2.2.1 37) (sfB (S.2.2.1 30) v x.1 x.2.1 x.2.2) false).toInt64) ((stl n).take i))), (2, .long (mxs (fun x => wMX S0 m x * (ten (S.2.2.1 37) (sfB (S.2.2.1 30) v x.1 x.2.1 x.2.2) true).toInt64) ((stl n).take i))), (0, .ref (G.2.1 29)), (1, .int (nI v))] dX8_hopeOf_61 (Nat.le_of_ble_eq_true rfl) rfl ?_
        refine V_aload_n dX8_hopeOf_63 rfl 5 rfl ?_
        refine g_29_18 tw_646 dX8_hopeOf_64 ?_
        refine V_iload dX8_hopeOf_67 2 rfl ?_
        refine l_43n (by omega) dX8_hopeOf_69 ?_
        refine V_topl (v := wMX S0 m (2, c, e)) (id x4) ?_
        refine V_aload_n dX8_hopeOf_70 rfl 5 rfl ?_
        refine V_iload dX8_hopeOf_71 1 rfl ?_
        refine V_iconst (v := 0) dX8_hopeOf_73 ki_0 ?_
        refine V_cVi (P := pM G (d + 2) mX8_hopeOf _) (d := d + 1) 29 (r := [.long (wMX S0 m (2, c, e))]) (As := [.int (b2i (sfB (S.2.2.1 30) v 2 c e)), .int 0]) (K := mX8_tenths) ok_X8_tenths tw_775 (ob_29 _) rfl (rmOk (Nat.le_of_ble_eq_true rfl)) (Nat.le_of_ble_eq_true rfl) dX8_hopeOf_74 rfl (c_X8_tenths (f := (sfB (S.2.2.1 30) v 2 c e)) (q := false) ?_)
        refine V_i2l dX8_hopeOf_77 ?_
        refine V_lmul dX8_hopeOf_78 ?_
        refine V_lstore [(10, .long ((wMX S0 m (2, c, e)) * (Int32.toInt64 (ten (S.2.2.1 37) (sfB (S.2.2.1 30) v 2 c e) false)))), (8, .long ((wMX S0 m (2, c, e)) * (Int32.toInt64 (ten (S.2.2.1 37) (sfB (S.2.2.1 30) v 2 c e) true)))), (7, .int (b2i (sfB (S.2.2.1 30) v 2 c e))), (6, .int (nI i)), (4, .long (mxs (fun x => wMX S0 m x * (ten (S.2.2.1 37) (sfB (S.2.2.1 30) v x.1 x.2.1 x.2.2) false).toInt64) ((stl n).take i))), (2, .long (mxs (fun x => wMX S0 m x * (ten (S.2.2.1 37) (sfB (S.2.2.1 30) v x.1 x.2.1 x.2.2) true).toInt64) ((stl n).take i))), (0, .ref (G.2.1 29)), (1, .int (nI v))] dX8_hopeOf_79 (Nat.le_of_ble_eq_true rfl) rfl ?_
        refine V_lload dX8_hopeOf_81 1 rfl ?_
        refine V_lload_n dX8_hopeOf_83 rfl 5 rfl ?_
        refine V_lcmp dX8_hopeOf_84 ?_
        refine V_if_le 93 dX8_hopeOf_85 (by decide) (fun h8 => ?_) (fun h8 => ?_)
        · refine V_lload_n dX8_hopeOf_93 rfl 5 rfl ?_
          refine V_lstore_n [(2, .long (mxs (fun x => wMX S0 m x * (ten (S.2.2.1 37) (sfB (S.2.2.1 30) v x.1 x.2.1 x.2.2) true).toInt64) ((stl n).take i))), (10, .long ((wMX S0 m (2, c, e)) * (Int32.toInt64 (ten (S.2.2.1 37) (sfB (S.2.2.1 30) v 2 c e) false)))), (8, .long ((wMX S0 m (2, c, e)) * (Int32.toInt64 (ten (S.2.2.1 37) (sfB (S.2.2.1 30) v 2 c e) true)))), (7, .int (b2i (sfB (S.2.2.1 30) v 2 c e))), (6, .int (nI i)), (4, .long (mxs (fun x => wMX S0 m x * (ten (S.2.2.1 37) (sfB (S.2.2.1 30) v x.1 x.2.1 x.2.2) false).toInt64) ((stl n).take i))), (0, .ref (G.2.1 29)), (1, .int (nI v))] dX8_hopeOf_94 rfl (Nat.le_of_ble_eq_true rfl) rfl ?_
          refine V_lload dX8_hopeOf_95 1 rfl ?_
          refine V_lload dX8_hopeOf_97 5 rfl ?_
          refine V_lcmp dX8_hopeOf_99 ?_
          refine V_if_le 108 dX8_hopeOf_100 (by decide) (fun h9 => ?_) (fun h9 => ?_)
          · refine V_lload dX8_hopeOf_108 5 rfl ?_
            refine V_lstore [(4, .long (mxs (fun x => wMX S0 m x * (ten (S.2.2.1 37) (sfB (S.2.2.1 30) v x.1 x.2.1 x.2.2) false).toInt64) ((stl n).take i))), (2, .long (mxs (fun x => wMX S0 m x * (ten (S.2.2.1 37) (sfB (S.2.2.1 30) v x.1 x.2.1 x.2.2) true).toInt64) ((stl n).take i))), (10, .long ((wMX S0 m (2, c, e)) * (Int32.toInt64 (ten (S.2.2.1 37) (sfB (S.2.2.1 30) v 2 c e) false)))), (8, .long ((wMX S0 m (2, c, e)) * (Int32.toInt64 (ten (S.2.2.1 37) (sfB (S.2.2.1 30) v 2 c e) true)))), (7, .int (b2i (sfB (S.2.2.1 30) v 2 c e))), (6, .int (nI i)), (0, .ref (G.2.1 29)), (1, .int (nI v))] dX8_hopeOf_110 (Nat.le_of_ble_eq_true rfl) rfl ?_
            refine V_iinc [(6, .int (nI (i + 1))), (4, .long (mxs (fun x => wMX S0 m x * (ten (S.2.2.1 37) (sfB (S.2.2.1 30) v x.1 x.2.1 x.2.2) false).toInt64) ((stl n).take i))), (2, .long (mxs (fun x => wMX S0 m x * (ten (S.2.2.1 37) (sfB (S.2.2.1 30) v x.1 x.2.1 x.2.2) true).toInt64) ((stl n).take i))), (10, .long ((wMX S0 m (2, c, e)) * (Int32.toInt64 (ten (S.2.2.1 37) (sfB (S.2.2.1 30) v 2 c e) false)))), (8, .long ((wMX S0 m (2, c, e)) * (Int32.toInt64 (ten (S.2.2.1 37) (sfB (S.2.2.1 30) v 2 c e) true)))), (7, .int (b2i (sfB (S.2.2.1 30) v 2 c e))), (0, .ref (G.2.1 29)), (1, .int (nI v))] dX8_hopeOf_112 5 rfl (nI_1 _) (Nat.le_of_ble_eq_true rfl) rfl ?_
            refine V_goto 8 dX8_hopeOf_115 (by decide) ?_
            refine V_lv [(6, .int (nI (i + 1))), (4, .long (mxs (fun x => wMX S0 m x * (ten (S.2.2.1 37) (sfB (S.2.2.1 30) v x.1 x.2.1 x.2.2) false).toInt64) ((stl n).take i))), (2, .long (mxs (fun x => wMX S0 m x * (ten (S.2.2.1 37) (sfB (S.2.2.1 30) v x.1 x.2.1 x.2.2) true).toInt64) ((stl n).take i))), (0, .ref (G.2.1 29)), (1, .int (nI v))] [0, 1, 2, 6, 7] rfl ?_
            refine V_lveq [(6, .int (nI (i + 1))), (4, .long (mxs (fun x => wMX S0 m x * (ten (S.2.2.1 37) (sfB (S.2.2.1 30) v x.1 x.2.1 x.2.2) false).toInt64) ((stl n).take (i + 1)))), (2, .long (mxs (fun x => wMX S0 m x * (ten (S.2.2.1 37) (sfB (S.2.2.1 30) v x.1 x.2.1 x.2.2) true).toInt64) ((stl n).take (i + 1)))), (0, .ref (G.2.1 29)), (1, .int (nI v))] (by rw [mxs_take hx, mxs_take hx, mx_f (Int64.not_lt.mpr (lg_le.mp h9)), mx_f (Int64.not_lt.mpr (lg_le.mp h8))]) ?_
            exact ih (i + 1) (by omega) (by omega)
          · refine V_lload dX8_hopeOf_103 1 rfl ?_
            refine V_goto 110 dX8_hopeOf_105 (by decide) ?_
            refine V_lstore [(4, .long ((wMX S0 m (2, c, e)) * (Int32.toInt64 (ten (S.2.2.1 37) (sfB (S.2.2.1 30) v 2 c e) false)))), (2, .long (mxs (fun x => wMX S0 m x * (ten (S.2.2.1 37) (sfB (S.2.2.1 30) v x.1 x.2.1 x.2.2) true).toInt64) ((stl n).take i))), (10, .long ((wMX S0 m (2, c, e)) * (Int32.toInt64 (ten (S.2.2.1 37) (sfB (S.2.2.1 30) v 2 c e) false)))), (8, .long ((wMX S0 m (2, c, e)) * (Int32.toInt64 (ten (S.2.2.1 37) (sfB (S.2.2.1 30) v 2 c e) true)))), (7, .int (b2i (sfB (S.2.2.1 30) v 2 c e))), (6, .int (nI i)), (0, .ref (G.2.1 29)), (1, .int (nI v))] dX8_hopeOf_110 (Nat.le_of_ble_eq_true rfl) rfl ?_
            refine V_iinc [(6, .int (nI (i + 1))), (4, .long ((wMX S0 m (2, c, e)) * (Int32.toInt64 (ten (S.2.2.1 37) (sfB (S.2.2.1 30) v 2 c e) false)))), (2, .long (mxs (fun x => wMX S0 m x * (ten (S.2.2.1 37) (sfB (S.2.2.1 30) v x.1 x.2.1 x.2.2) true).toInt64) ((stl n).take i))), (10, .long ((wMX S0 m (2, c, e)) * (Int32.toInt64 (ten (S.2.2.1 37) (sfB (S.2.2.1 30) v 2 c e) false)))), (8, .long ((wMX S0 m (2, c, e)) * (Int32.toInt64 (ten (S.2.2.1 37) (sfB (S.2.2.1 30) v 2 c e) true)))), (7, .int (b2i (sfB (S.2.2.1 30) v 2 c e))), (0, .ref (G.2.1 29)), (1, .int (nI v))] dX8_hopeOf_112 5 rfl (nI_1 _) (Nat.le_of_ble_eq_true rfl) rfl ?_
            refine V_goto 8 dX8_hopeOf_115 (by decide) ?_
            refine V_lv [(6, .int (nI (i + 1))), (4, .long ((wMX S0 m (2, c, e)) * (Int32.toInt64 (ten (S.2.2.1 37) (sfB (S.2.2.1 30) v 2 c e) false)))), (2, .long (mxs (fun x => wMX S0 m x * (ten (S.2.2.1 37) (sfB (S.2.2.1 30) v x.1 x.2.1 x.2.2) true).toInt64) ((stl n).take i))), (0, .ref (G.2.1 29)), (1, .int (nI v))] [0, 1, 2, 6, 7] rfl ?_
            refine V_lveq [(6, .int (nI (i + 1))), (4, .long (mxs (fun x => wMX S0 m x * (ten (S.2.2.1 37) (sfB (S.2.2.1 30) v x.1 x.2.1 x.2.2) false).toInt64) ((stl n).take (i + 1)))), (2, .long (mxs (fun x => wMX S0 m x * (ten (S.2.2.1 37) (sfB (S.2.2.1 30) v x.1 x.2.1 x.2.2) true).toInt64) ((stl n).take (i + 1)))), (0, .ref (G.2.1 29)), (1, .int (nI v))] (by rw [mxs_take hx, mxs_take hx, mx_t (Int64.not_le.mp (fun z => h9 (lg_le.mpr z))), mx_f (Int64.not_lt.mpr (lg_le.mp h8))]) ?_
            exact ih (i + 1) (by omega) (by omega)
        · refine V_lload dX8_hopeOf_88 1 rfl ?_
          refine V_goto 94 dX8_hopeOf_90 (by decide) ?_
          refine V_lstore_n [(2, .long ((wMX S0 m (2, c, e)) * (Int32.toInt64 (ten (S.2.2.1 37) (sfB (S.2.2.1 30) v 2 c e) true)))), (10, .long ((wMX S0 m (2, c, e)) * (Int32.toInt64 (ten (S.2.2.1 37) (sfB (S.2.2.1 30) v 2 c e) false)))), (8, .long ((wMX S0 m (2, c, e)) * (Int32.toInt64 (ten (S.2.2.1 37) (sfB (S.2.2.1 30) v 2 c e) true)))), (7, .int (b2i (sfB (S.2.2.1 30) v 2 c e))), (6, .int (nI i)), (4, .long (mxs (fun x => wMX S0 m x * (ten (S.2.2.1 37) (sfB (S.2.2.1 30) v x.1 x.2.1 x.2.2) false).toInt64) ((stl n).take i))), (0, .ref (G.2.1 29)), (1, .int (nI v))] dX8_hopeOf_94 rfl (Nat.le_of_ble_eq_true rfl) rfl ?_
          refine V_lload dX8_hopeOf_95 1 rfl ?_
          refine V_lload dX8_hopeOf_97 5 rfl ?_
          refine V_lcmp dX8_hopeOf_99 ?_
          refine V_if_le 108 dX8_hopeOf_100 (by decide) (fun h10 => ?_) (fun h10 => ?_)
          · refine V_lload dX8_hopeOf_108 5 rfl ?_
            refine V_lstore [(4, .long (mxs (fun x => wMX S0 m x * (ten (S.2.2.1 37) (sfB (S.2.2.1 30) v x.1 x.2.1 x.2.2) false).toInt64) ((stl n).take i))), (2, .long ((wMX S0 m (2, c, e)) * (Int32.toInt64 (ten (S.2.2.1 37) (sfB (S.2.2.1 30) v 2 c e) true)))), (10, .long ((wMX S0 m (2, c, e)) * (Int32.toInt64 (ten (S.2.2.1 37) (sfB (S.2.2.1 30) v 2 c e) false)))), (8, .long ((wMX S0 m (2, c, e)) * (Int32.toInt64 (ten (S.2.2.1 37) (sfB (S.2.2.1 30) v 2 c e) true)))), (7, .int (b2i (sfB (S.2.2.1 30) v 2 c e))), (6, .int (nI i)), (0, .ref (G.2.1 29)), (1, .int (nI v))] dX8_hopeOf_110 (Nat.le_of_ble_eq_true rfl) rfl ?_
            refine V_iinc [(6, .int (nI (i + 1))), (4, .long (mxs (fun x => wMX S0 m x * (ten (S.2.2.1 37) (sfB (S.2.2.1 30) v x.1 x.2.1 x.2.2) false).toInt64) ((stl n).take i))), (2, .long ((wMX S0 m (2, c, e)) * (Int32.toInt64 (ten (S.2.2.1 37) (sfB (S.2.2.1 30) v 2 c e) true)))), (10, .long ((wMX S0 m (2, c, e)) * (Int32.toInt64 (ten (S.2.2.1 37) (sfB (S.2.2.1 30) v 2 c e) false)))), (8, .long ((wMX S0 m (2, c, e)) * (Int32.toInt64 (ten (S.2.2.1 37) (sfB (S.2.2.1 30) v 2 c e) true)))), (7, .int (b2i (sfB (S.2.2.1 30) v 2 c e))), (0, .ref (G.2.1 29)), (1, .int (nI v))] dX8_hopeOf_112 5 rfl (nI_1 _) (Nat.le_of_ble_eq_true rfl) rfl ?_
            refine V_goto 8 dX8_hopeOf_115 (by decide) ?_
            refine V_lv [(6, .int (nI (i + 1))), (4, .long (mxs (fun x => wMX S0 m x * (ten (S.2.2.1 37) (sfB (S.2.2.1 30) v x.1 x.2.1 x.2.2) false).toInt64) ((stl n).take i))), (2, .long ((wMX S0 m (2, c, e)) * (Int32.toInt64 (ten (S.2.2.1 37) (sfB (S.2.2.1 30) v 2 c e) true)))), (0, .ref (G.2.1 29)), (1, .int (nI v))] [0, 1, 2, 6, 7] rfl ?_
            refine V_lveq [(6, .int (nI (i + 1))), (4, .long (mxs (fun x => wMX S0 m x * (ten (S.2.2.1 37) (sfB (S.2.2.1 30) v x.1 x.2.1 x.2.2) false).toInt64) ((stl n).take (i + 1)))), (2, .long (mxs (fun x => wMX S0 m x * (ten (S.2.2.1 37) (sfB (S.2.2.1 30) v x.1 x.2.1 x.2.2) true).toInt64) ((stl n).take (i + 1)))), (0, .ref (G.2.1 29)), (1, .int (nI v))] (by rw [mxs_take hx, mxs_take hx, mx_f (Int64.not_lt.mpr (lg_le.mp h10)), mx_t (Int64.not_le.mp (fun z => h8 (lg_le.mpr z)))]) ?_
            exact ih (i + 1) (by omega) (by omega)
          · refine V_lload dX8_hopeOf_103 1 rfl ?_
            refine V_goto 110 dX8_hopeOf_105 (by decide) ?_
            refine V_lstore [(4, .long ((wMX S0 m (2, c, e)) * (Int32.toInt64 (ten (S.2.2.1 37) (sfB (S.2.2.1 30) v 2 c e) false)))), (2, .long ((wMX S0 m (2, c, e)) * (Int32.toInt64 (ten (S.2.2.1 37) (sfB (S.2.2.1 30) v 2 c e) true)))), (10, .long ((wMX S0 m (2, c, e)) * (Int32.toInt64 (ten (S.2.2.1 37) (sfB (S.2.2.1 30) v 2 c e) false)))), (8, .long ((wMX S0 m (2, c, e)) * (Int32.toInt64 (ten (S.2.2.1 37) (sfB (S.2.2.1 30) v 2 c e) true)))), (7, .int (b2i (sfB (S.2.2.1 30) v 2 c e))), (6, .int (nI i)), (0, .ref (G.2.1 29)), (1, .int (nI v))] dX8_hopeOf_110 (Nat.le_of_ble_eq_true rfl) rfl ?_
            refine V_iinc [(6, .int (nI (i + 1))), (4, .long ((wMX S0 m (2, c, e)) * (Int32.toInt64 (ten (S.2.2.1 37) (sfB (S.2.2.1 30) v 2 c e) false)))), (2, .long ((wMX S0 m (2, c, e)) * (Int32.toInt64 (ten (S.2.2.1 37) (sfB (S.2.2.1 30) v 2 c e) true)))), (10, .long ((wMX S0 m (2, c, e)) * (Int32.toInt64 (ten (S.2.2.1 37) (sfB (S.2.2.1 30) v 2 c e) false)))), (8, .long ((wMX S0 m (2, c, e)) * (Int32.toInt64 (ten (S.2.2.1 37) (sfB (S.2.2.1 30) v 2 c e) true)))), (7, .int (b2i (sfB (S.2.2.1 30) v 2 c e))), (0, .ref (G.2.1 29)), (1, .int (nI v))] dX8_hopeOf_112 5 rfl (nI_1 _) (Nat.le_of_ble_eq_true rfl) rfl ?_
            refine V_goto 8 dX8_hopeOf_115 (by decide) ?_
            refine V_lv [(6, .int (nI (i + 1))), (4, .long ((wMX S0 m (2, c, e)) * (Int32.toInt64 (ten (S.2.2.1 37) (sfB (S.2.2.1 30) v 2 c e) false)))), (2, .long ((wMX S0 m (2, c, e)) * (Int32.toInt64 (ten (S.2.2.1 37) (sfB (S.2.2.1 30) v 2 c e) true)))), (0, .ref (G.2.1 29)), (1, .int (nI v))] [0, 1, 2, 6, 7] rfl ?_
            refine V_lveq [(6, .int (nI (i + 1))), (4, .long (mxs (fun x => wMX S0 m x * (ten (S.2.2.1 37) (sfB (S.2.2.1 30) v x.1 x.2.1 x.2.2) false).toInt64) ((stl n).take (i + 1)))), (2, .long (mxs (fun x => wMX S0 m x * (ten (S.2.2.1 37) (sfB (S.2.2.1 30) v x.1 x.2.1 x.2.2) true).toInt64) ((stl n).take (i + 1)))), (0, .ref (G.2.1 29)), (1, .int (nI v))] (by rw [mxs_take hx, mxs_take hx, mx_t (Int64.not_le.mp (fun z => h10 (lg_le.mpr z))), mx_t (Int64.not_le.mp (fun z => h8 (lg_le.mpr z)))]) ?_
            exact ih (i + 1) (by omega) (by omega)
theorem c_X8_hopeOf {G : GX} {d : Nat} {S : ST} {S0 : ST} {n m v : Nat} {Q : Int64 → ST → Prop} (hM : MS S0 m (stl n) S) (h12 : n ≤ 12) (hv : v < 12) (hq : Q (hpM S0 m n v) S) : Cn G (d + 2) mX8_hopeOf [.ref (G.2.1 29), .int (nI v)] S (ql Q) := by
  refine Cn.intro (lv := [(0, .ref (G.2.1 29)), (1, .int (nI v))]) (by decide) (Nat.le_of_ble_eq_true rfl) rfl ?_
  refine V_lconst (v := 0) dX8_hopeOf_0 rfl ?_
  refine V_lstore_n [(2, .long 0), (0, .ref (G.2.1 29)), (1, .int (nI v))] dX8_hopeOf_1 rfl (Nat.le_of_ble_eq_true rfl) rfl ?_
  refine V_lconst (v := 0) dX8_hopeOf_2 rfl ?_
  refine V_lstore [(4, .long 0), (2, .long 0), (0, .ref (G.2.1 29)), (1, .int (nI v))] dX8_hopeOf_3 (Nat.le_of_ble_eq_true rfl) rfl ?_
  refine V_iconst (v := 0) dX8_hopeOf_5 ki_0 ?_
  refine V_istore [(6, .int 0), (4, .long 0), (2, .long 0), (0, .ref (G.2.1 29)), (1, .int (nI v))] dX8_hopeOf_6 (Nat.le_of_ble_eq_true rfl) rfl ?_
  refine V_lv [(6, .int 0), (4, .long 0), (2, .long 0), (0, .ref (G.2.1 29)), (1, .int (nI v))] [0, 1, 2, 3, 4] rfl ?_
  refine V_lveq [(6, .int 0), (4, .long (mxs (fun x => wMX S0 m x * (ten (S.2.2.1 37) (sfB (S.2.2.1 30) v x.1 x.2.1 x.2.2) false).toInt64) ((stl n).take 0))), (2, .long (mxs (fun x => wMX S0 m x * (ten (S.2.2.1 37) (sfB (S.2.2.1 30) v x.1 x.2.1 x.2.2) true).toInt64) ((stl n).take 0))), (0, .ref (G.2.1 29)), (1, .int (nI v))] (by rfl) ?_
  exact lp_mhope hM h12 hv (qcast hq (by rw [hpM, hM.1.2.2.1 37 (by decide) (by decide) (by decide), hM.1.2.2.1 30 (by decide) (by decide) (by decide)])) (((stl n).length) + 1) 0 (by omega) (by omega)
theorem lp_mbad {G : GX} {d n m : Nat} {S0 S : ST} {v : Nat} {Q : Int64 → ST → Prop} (hM : MS S0 m (stl n) S) (h12 : n ≤ 12) (hv : v < 12) (hq : Q (if lsum (fun x => if sfB (S.2.2.1 30) v x.1 x.2.1 x.2.2 then wMX S0 m x else -wMX S0 m x) (stl n) < 0 then -lsum (fun x => if sfB (S.2.2.1 30) v x.1 x.2.1 x.2.2 then wMX S0 m x else -wMX S0 m x) (stl n) else lsum (fun x => if sfB (S.2.2.1 30) v x.1 x.2.1 x.2.2 then wMX S0 m x else -wMX S0 m x) (stl n)) S) : ∀ (k i : Nat), i ≤ ((stl n).length) → ((stl n).length) - i < k → V (pM G (d + 2) mX8_badness (ql Q)) 17 [(5, .int (nI i)), (3, .long (lsum (fun x => if sfB (S.2.2.1 30) v x.1 x.2.1 x.2.2 then wMX S0 m x else -wMX S0 m x) ((stl n).take i))), (0, .ref (G.2.1 29)), (1, .int (nI v)), (2, .int 0)] [] S := by
  have hl2 := stl_len n (by omega)
  intro k
  induction k with
  | zero => intro i hi hk; exact absurd hk (Nat.not_lt_zero _)
  | succ k ih =>
    intro i hi hk
    refine V_iload dX8_badness_17 0 rfl ?_
    refine V_aload_n dX8_badness_19 rfl 2 rfl ?_
    refine g_29_14 tw_642 dX8_badness_20 ?_
    refine V_topi (v := nI ((stl n).length)) (id hM.2.1) ?_
    refine V_icmp_gen 82 (a := i) (b := ((stl n).length)) dX8_badness_23 (by decide) (by omega) (by omega) (fun h1 => ?_) (fun h1 => ?_)
    · refine V_lload_n dX8_badness_82 rfl 1 rfl ?_
      refine V_lconst (v := 0) dX8_badness_83 rfl ?_
      refine V_lcmp dX8_badness_84 ?_
      refine V_if_ge 93 dX8_badness_85 (by decide) (fun h2 => ?_) (fun h2 => ?_)
      · refine V_lload_n dX8_badness_93 rfl 1 rfl ?_
        have hin : i = ((stl n).length) := by omega
        rw [hin, List.take_length] at h2
        refine V_lret rfl dX8_badness_94 ⟨_, rfl, ?_⟩
        exact qcast hq (by rw [hin, List.take_length, if_neg (by rw [Int64.not_lt]; exact lg_ge.mp h2)])
      · refine V_lload_n dX8_badness_88 rfl 1 rfl ?_
        refine V_lneg dX8_badness_89 ?_
        refine V_goto 94 dX8_badness_90 (by decide) ?_
        have hin : i = ((stl n).length) := by omega
        rw [hin, List.take_length] at h2
        refine V_lret rfl dX8_badness_94 ⟨_, rfl, ?_⟩
        exact qcast hq (by rw [hin, List.take_length, if_pos (by rw [lg_ge, Int64.not_le] at h2; exact h2)])
    · obtain ⟨x, hx⟩ : ∃ x, (stl n)[i]? = some x := ⟨_, List.getElem?_eq_getElem h1⟩
      obtain ⟨s, c, e⟩ := x
      obtain ⟨x1, x2, x3, x4⟩ := hM.2.2.1 i _ hx
      obtain ⟨y1, y2, y3⟩ := stl_at hx
      dsimp only at y1 y2 y3 x1 x2 x3 x4
      rcases (show s = 0 ∨ s = 1 ∨ s = 2 by omega) with rfl | rfl | rfl
      · refine V_lload_n dX8_badness_26 rfl 1 rfl ?_
        refine V_aload_n dX8_badness_27 rfl 2 rfl ?_
        refine V_iload_n dX8_badness_28 rfl 3 rfl ?_
        refine V_aload_n dX8_badness_29 rfl 2 rfl ?_
        refine g_29_15 tw_643 dX8_badness_30 ?_
        refine V_iload dX8_badness_33 0 rfl ?_
        refine l_40n (by omega) dX8_badness_35 ?_
        refine V_topi (v := 0) (id x1) ?_
        refine V_aload_n dX8_badness_36 rfl 2 rfl ?_
        refine g_29_16 tw_644 dX8_badness_37 ?_
        refine V_iload dX8_badness_40 0 rfl ?_
        refine l_41n (by omega) dX8_badness_42 ?_
        refine V_topi (v := nI c) (id x2) ?_
        refine V_aload_n dX8_badness_43 rfl 2 rfl ?_
        refine g_29_17 tw_645 dX8_badness_44 ?_
        refine V_iload dX8_badness_47 0 rfl ?_
        refine l_42n (by omega) dX8_badness_49 ?_
        refine V_topi (v := -6) (id x3) ?_
        refine V_cVi (P := pM G (d + 2) mX8_badness _) (d := d + 1) 29 (r := [.long (lsum (fun x => if sfB (S.2.2.1 30) v x.1 x.2.1 x.2.2 then wMX S0 m x else -wMX S0 m x) ((stl n).take i))]) (As := [.int (nI v), .int 0, .int (nI c), .int (-6)]) (K := mX8_shouldFail) ok_X8_shouldFail tw_768 (ob_29 _) rfl (rmOk (Nat.le_of_ble_eq_true rfl)) (Nat.le_of_ble_eq_true rfl) dX8_badness_50 rfl (c_X8_shouldFail0 e (by omega) (by omega) ?_)
        refine V_ifb_eq 66 dX8_badness_53 (by decide) (fun h3 => ?_) (fun h3 => ?_)
        · refine V_aload_n dX8_badness_66 rfl 2 rfl ?_
          refine g_29_18 tw_646 dX8_badness_67 ?_
          refine V_iload dX8_badness_70 0 rfl ?_
          refine l_43n (by omega) dX8_badness_72 ?_
          refine V_topl (v := wMX S0 m (0, c, e)) (id x4) ?_
          refine V_lneg dX8_badness_73 ?_
          refine V_ladd dX8_badness_74 ?_
          refine V_lstore_n [(3, .long ((lsum (fun x => if sfB (S.2.2.1 30) v x.1 x.2.1 x.2.2 then wMX S0 m x else -wMX S0 m x) ((stl n).take i)) + (-(wMX S0 m (0, c, e))))), (5, .int (nI i)), (0, .ref (G.2.1 29)), (1, .int (nI v)), (2, .int 0)] dX8_badness_75 rfl (Nat.le_of_ble_eq_true rfl) rfl ?_
          refine V_iinc [(5, .int (nI (i + 1))), (3, .long ((lsum (fun x => if sfB (S.2.2.1 30) v x.1 x.2.1 x.2.2 then wMX S0 m x else -wMX S0 m x) ((stl n).take i)) + (-(wMX S0 m (0, c, e))))), (0, .ref (G.2.1 29)), (1, .int (nI v)), (2, .int 0)] dX8_badness_76 1 rfl (nI_1 _) (Nat.le_of_ble_eq_true rfl) rfl ?_
          refine V_goto 17 dX8_badness_79 (by decide) ?_
          refine V_lv [(5, .int (nI (i + 1))), (3, .long ((lsum (fun x => if sfB (S.2.2.1 30) v x.1 x.2.1 x.2.2 then wMX S0 m x else -wMX S0 m x) ((stl n).take i)) + (-(wMX S0 m (0, c, e))))), (0, .ref (G.2.1 29)), (1, .int (nI v)), (2, .int 0)] [0, 1, 2, 3, 4] rfl ?_
          refine V_lveq [(5, .int (nI (i + 1))), (3, .long (lsum (fun x => if sfB (S.2.2.1 30) v x.1 x.2.1 x.2.2 then wMX S0 m x else -wMX S0 m x) ((stl n).take (i + 1)))), (0, .ref (G.2.1 29)), (1, .int (nI v)), (2, .int 0)] (by rw [lsum_take hx]; simp [h3]) ?_
          exact ih (i + 1) (by omega) (by omega)
        · refine V_aload_n dX8_badness_56 rfl 2 rfl ?_
          refine g_29_18 tw_646 dX8_badness_57 ?_
          refine V_iload dX8_badness_60 0 rfl ?_
          refine l_43n (by omega) dX8_badness_62 ?_
          refine V_topl (v := wMX S0 m (0, c, e)) (id x4) ?_
          refine V_goto 74 dX8_badness_63 (by decide) ?_
          refine V_ladd dX8_badness_74 ?_
          refine V_lstore_n [(3, .long ((lsum (fun x => if sfB (S.2.2.1 30) v x.1 x.2.1 x.2.2 then wMX S0 m x else -wMX S0 m x) ((stl n).take i)) + (wMX S0 m (0, c, e)))), (5, .int (nI i)), (0, .ref (G.2.1 29)), (1, .int (nI v)), (2, .int 0)] dX8_badness_75 rfl (Nat.le_of_ble_eq_true rfl) rfl ?_
          refine V_iinc [(5, .int (nI (i + 1))), (3, .long ((lsum (fun x => if sfB (S.2.2.1 30) v x.1 x.2.1 x.2.2 then wMX S0 m x else -wMX S0 m x) ((stl n).take i)) + (wMX S0 m (0, c, e)))), (0, .ref (G.2.1 29)), (1, .int (nI v)), (2, .int 0)] dX8_badness_76 1 rfl (nI_1 _) (Nat.le_of_ble_eq_true rfl) rfl ?_
          refine V_goto 17 dX8_badness_79 (by decide) ?_
          refine V_lv [(5, .int (nI (i + 1))), (3, .long ((lsum (fun x => if sfB (S.2.2.1 30) v x.1 x.2.1 x.2.2 then wMX S0 m x else -wMX S0 m x) ((stl n).take i)) + (wMX S0 m (0, c, e)))), (0, .ref (G.2.1 29)), (1, .int (nI v)), (2, .int 0)] [0, 1, 2, 3, 4] rfl ?_
          refine V_lveq [(5, .int (nI (i + 1))), (3, .long (lsum (fun x => if sfB (S.2.2.1 30) v x.1 x.2.1 x.2.2 then wMX S0 m x else -wMX S0 m x) ((stl n).take (i + 1)))), (0, .ref (G.2.1 29)), (1, .int (nI v)), (2, .int 0)] (by rw [lsum_take hx]; simp [h3]) ?_
          exact ih (i + 1) (by omega) (by omega)
      · refine V_lload_n dX8_badness_26 rfl 1 rfl ?_
        refine V_aload_n dX8_badness_27 rfl 2 rfl ?_
        refine V_iload_n dX8_badness_28 rfl 3 rfl ?_
        refine V_aload_n dX8_badness_29 rfl 2 rfl ?_
        refine g_29_15 tw_643 dX8_badness_30 ?_
        refine V_iload dX8_badness_33 0 rfl ?_
        refine l_40n (by omega) dX8_badness_35 ?_
        refine V_topi (v := 1) (id x1) ?_
        refine V_aload_n dX8_badness_36 rfl 2 rfl ?_
        refine g_29_16 tw_644 dX8_badness_37 ?_
        refine V_iload dX8_badness_40 0 rfl ?_
        refine l_41n (by omega) dX8_badness_42 ?_
        refine V_topi (v := nI c) (id x2) ?_
        refine V_aload_n dX8_badness_43 rfl 2 rfl ?_
        refine g_29_17 tw_645 dX8_badness_44 ?_
        refine V_iload dX8_badness_47 0 rfl ?_
        refine l_42n (by omega) dX8_badness_49 ?_
        refine V_topi (v := nI e) (id x3) ?_
        refine V_cVi (P := pM G (d + 2) mX8_badness _) (d := d + 1) 29 (r := [.long (lsum (fun x => if sfB (S.2.2.1 30) v x.1 x.2.1 x.2.2 then wMX S0 m x else -wMX S0 m x) ((stl n).take i))]) (As := [.int (nI v), .int 1, .int (nI c), .int (nI e)]) (K := mX8_shouldFail) ok_X8_shouldFail tw_768 (ob_29 _) rfl (rmOk (Nat.le_of_ble_eq_true rfl)) (Nat.le_of_ble_eq_true rfl) dX8_badness_50 rfl (c_X8_shouldFail1 (by omega) (by omega) (by omega) ?_)
        refine V_ifb_eq 66 dX8_badness_53 (by decide) (fun h4 => ?_) (fun h4 => ?_)
        · refine V_aload_n dX8_badness_66 rfl 2 rfl ?_
          refine g_29_18 tw_646 dX8_badness_67 ?_
          refine V_iload dX8_badness_70 0 rfl ?_
          refine l_43n (by omega) dX8_badness_72 ?_
          refine V_topl (v := wMX S0 m (1, c, e)) (id x4) ?_
          refine V_lneg dX8_badness_73 ?_
          refine V_ladd dX8_badness_74 ?_
          refine V_lstore_n [(3, .long ((lsum (fun x => if sfB (S.2.2.1 30) v x.1 x.2.1 x.2.2 then wMX S0 m x else -wMX S0 m x) ((stl n).take i)) + (-(wMX S0 m (1, c, e))))), (5, .int (nI i)), (0, .ref (G.2.1 29)), (1, .int (nI v)), (2, .int 0)] dX8_badness_75 rfl (Nat.le_of_ble_eq_true rfl) rfl ?_
          refine V_iinc [(5, .int (nI (i + 1))), (3, .long ((lsum (fun x => if sfB (S.2.2.1 30) v x.1 x.2.1 x.2.2 then wMX S0 m x else -wMX S0 m x) ((stl n).take i)) + (-(wMX S0 m (1, c, e))))), (0, .ref (G.2.1 29)), (1, .int (nI v)), (2, .int 0)] dX8_badness_76 1 rfl (nI_1 _) (Nat.le_of_ble_eq_true rfl) rfl ?_
          refine V_goto 17 dX8_badness_79 (by decide) ?_
          refine V_lv [(5, .int (nI (i + 1))), (3, .long ((lsum (fun x => if sfB (S.2.2.1 30) v x.1 x.2.1 x.2.2 then wMX S0 m x else -wMX S0 m x) ((stl n).take i)) + (-(wMX S0 m (1, c, e))))), (0, .ref (G.2.1 29)), (1, .int (nI v)), (2, .int 0)] [0, 1, 2, 3, 4] rfl ?_
          refine V_lveq [(5, .int (nI (i + 1))), (3, .long (lsum (fun x => if sfB (S.2.2.1 30) v x.1 x.2.1 x.2.2 then wMX S0 m x else -wMX S0 m x) ((stl n).take (i + 1)))), (0, .ref (G.2.1 29)), (1, .int (nI v)), (2, .int 0)] (by rw [lsum_take hx]; simp [h4]) ?_
          exact ih (i + 1) (by omega) (by omega)
        · refine V_aload_n dX8_badness_56 rfl 2 rfl ?_
          refine g_29_18 tw_646 dX8_badness_57 ?_
          refine V_iload dX8_badness_60 0 rfl ?_
          refine l_43n (by omega) dX8_badness_62 ?_
          refine V_topl (v := wMX S0 m (1, c, e)) (id x4) ?_
          refine V_goto 74 dX8_badness_63 (by decide) ?_
          refine V_ladd dX8_badness_74 ?_
          refine V_lstore_n [(3, .long ((lsum (fun x => if sfB (S.2.2.1 30) v x.1 x.2.1 x.2.2 then wMX S0 m x else -wMX S0 m x) ((stl n).take i)) + (wMX S0 m (1, c, e)))), (5, .int (nI i)), (0, .ref (G.2.1 29)), (1, .int (nI v)), (2, .int 0)] dX8_badness_75 rfl (Nat.le_of_ble_eq_true rfl) rfl ?_
          refine V_iinc [(5, .int (nI (i + 1))), (3, .long ((lsum (fun x => if sfB (S.2.2.1 30) v x.1 x.2.1 x.2.2 then wMX S0 m x else -wMX S0 m x) ((stl n).take i)) + (wMX S0 m (1, c, e)))), (0, .ref (G.2.1 29)), (1, .int (nI v)), (2, .int 0)] dX8_badness_76 1 rfl (nI_1 _) (Nat.le_of_ble_eq_true rfl) rfl ?_
          refine V_goto 17 dX8_badness_79 (by decide) ?_
          refine V_lv [(5, .int (nI (i + 1))), (3, .long ((lsum (fun x => if sfB (S.2.2.1 30) v x.1 x.2.1 x.2.2 then wMX S0 m x else -wMX S0 m x) ((stl n).take i)) + (wMX S0 m (1, c, e)))), (0, .ref (G.2.1 29)), (1, .int (nI v)), (2, .int 0)] [0, 1, 2, 3, 4] rfl ?_
          refine V_lveq [(5, .int (nI (i + 1))), (3, .long (lsum (fun x => if sfB (S.2.2.1 30) v x.1 x.2.1 x.2.2 then wMX S0 m x else -wMX S0 m x) ((stl n).take (i + 1)))), (0, .ref (G.2.1 29)), (1, .int (nI v)), (2, .int 0)] (by rw [lsum_take hx]; simp [h4]) ?_
          exact ih (i + 1) (by omega) (by omega)
      · refine V_lload_n dX8_badness_26 rfl 1 rfl ?_
        refine V_aload_n dX8_badness_27 rfl 2 rfl ?_
        refine V_iload_n dX8_badness_28 rfl 3 rfl ?_
        refine V_aload_n dX8_badness_29 rfl 2 rfl ?_
        refine g_29_15 tw_643 dX8_badness_30 ?_
        refine V_iload dX8_badness_33 0 rfl ?_
        refine l_40n (by omega) dX8_badness_35 ?_
        refine V_topi (v := 2) (id x1) ?_
        refine V_aload_n dX8_badness_36 rfl 2 rfl ?_
        refine g_29_16 tw_644 dX8_badness_37 ?_
        refine V_iload dX8_badness_40 0 rfl ?_
        refine l_41n (by omega) dX8_badness_42 ?_
        refine V_topi (v := nI c) (id x2) ?_
        refine V_aload_n dX8_badness_43 rfl 2 rfl ?_
        refine g_29_17 tw_645 dX8_badness_44 ?_
        refine V_iload dX8_badness_47 0 rfl ?_
        refine l_42n (by omega) dX8_badness_49 ?_
        refine V_topi (v := nI e) (id x3) ?_
        refine V_cVi (P := pM G (d + 2) mX8_badness _) (d := d + 1) 29 (r := [.long (lsum (fun x => if sfB (S.2.2.1 30) v x.1 x.2.1 x.2.2 then wMX S0 m x else -wMX S0 m x) ((stl n).take i))]) (As := [.int (nI v), .int 2, .int (nI c), .int (nI e)]) (K := mX8_shouldFail) ok_X8_shouldFail tw_768 (ob_29 _) rfl (rmOk (Nat.le_of_ble_eq_true rfl)) (Nat.le_of_ble_eq_true rfl) dX8_badness_50 rfl (c_X8_shouldFail2 (by omega) (by omega) (by omega) ?_)
        refine V_ifb_eq 66 dX8_badness_53 (by decide) (fun h5 => ?_) (fun h5 => ?_)
        · refine V_aload_n dX8_badness_66 rfl 2 rfl ?_
          refine g_29_18 tw_646 dX8_badness_67 ?_
          refine V_iload dX8_badness_70 0 rfl ?_
          refine l_43n (by omega) dX8_badness_72 ?_
          refine V_topl (v := wMX S0 m (2, c, e)) (id x4) ?_
          refine V_lneg dX8_badness_73 ?_
          refine V_ladd dX8_badness_74 ?_
          refine V_lstore_n [(3, .long ((lsum (fun x => if sfB (S.2.2.1 30) v x.1 x.2.1 x.2.2 then wMX S0 m x else -wMX S0 m x) ((stl n).take i)) + (-(wMX S0 m (2, c, e))))), (5, .int (nI i)), (0, .ref (G.2.1 29)), (1, .int (nI v)), (2, .int 0)] dX8_badness_75 rfl (Nat.le_of_ble_eq_true rfl) rfl ?_
          refine V_iinc [(5, .int (nI (i + 1))), (3, .long ((lsum (fun x => if sfB (S.2.2.1 30) v x.1 x.2.1 x.2.2 then wMX S0 m x else -wMX S0 m x) ((stl n).take i)) + (-(wMX S0 m (2, c, e))))), (0, .ref (G.2.1 29)), (1, .int (nI v)), (2, .int 0)] dX8_badness_76 1 rfl (nI_1 _) (Nat.le_of_ble_eq_true rfl) rfl ?_
          refine V_goto 17 dX8_badness_79 (by decide) ?_
          refine V_lv [(5, .int (nI (i + 1))), (3, .long ((lsum (fun x => if sfB (S.2.2.1 30) v x.1 x.2.1 x.2.2 then wMX S0 m x else -wMX S0 m x) ((stl n).take i)) + (-(wMX S0 m (2, c, e))))), (0, .ref (G.2.1 29)), (1, .int (nI v)), (2, .int 0)] [0, 1, 2, 3, 4] rfl ?_
          refine V_lveq [(5, .int (nI (i + 1))), (3, .long (lsum (fun x => if sfB (S.2.2.1 30) v x.1 x.2.1 x.2.2 then wMX S0 m x else -wMX S0 m x) ((stl n).take (i + 1)))), (0, .ref (G.2.1 29)), (1, .int (nI v)), (2, .int 0)] (by rw [lsum_take hx]; simp [h5]) ?_
          exact ih (i + 1) (by omega) (by omega)
        · refine V_aload_n dX8_badness_56 rfl 2 rfl ?_
          refine g_29_18 tw_646 dX8_badness_57 ?_
          refine V_iload dX8_badness_60 0 rfl ?_
          refine l_43n (by omega) dX8_badness_62 ?_
          refine V_topl (v := wMX S0 m (2, c, e)) (id x4) ?_
          refine V_goto 74 dX8_badness_63 (by decide) ?_
          refine V_ladd dX8_badness_74 ?_
          refine V_lstore_n [(3, .long ((lsum (fun x => if sfB (S.2.2.1 30) v x.1 x.2.1 x.2.2 then wMX S0 m x else -wMX S0 m x) ((stl n).take i)) + (wMX S0 m (2, c, e)))), (5, .int (nI i)), (0, .ref (G.2.1 29)), (1, .int (nI v)), (2, .int 0)] dX8_badness_75 rfl (Nat.le_of_ble_eq_true rfl) rfl ?_
          refine V_iinc [(5, .int (nI (i + 1))), (3, .long ((lsum (fun x => if sfB (S.2.2.1 30) v x.1 x.2.1 x.2.2 then wMX S0 m x else -wMX S0 m x) ((stl n).take i)) + (wMX S0 m (2, c, e)))), (0, .ref (G.2.1 29)), (1, .int (nI v)), (2, .int 0)] dX8_badness_76 1 rfl (nI_1 _) (Nat.le_of_ble_eq_true rfl) rfl ?_
          refine V_goto 17 dX8_badness_79 (by decide) ?_
          refine V_lv [(5, .int (nI (i + 1))), (3, .long ((lsum (fun x => if sfB (S.2.2.1 30) v x.1 x.2.1 x.2.2 then wMX S0 m x else -wMX S0 m x) ((stl n).take i)) + (wMX S0 m (2, c, e)))), (0, .ref (G.2.1 29)), (1, .int (nI v)), (2, .int 0)] [0, 1, 2, 3, 4] rfl ?_
          refine V_lveq [(5, .int (nI (i + 1))), (3, .long (lsum (fun x => if sfB (S.2.2.1 30) v x.1 x.2.1 x.2.2 then wMX S0 m x else -wMX S0 m x) ((stl n).take (i + 1)))), (0, .ref (G.2.1 29)), (1, .int (nI v)), (2, .int 0)] (by rw [lsum_take hx]; simp [h5]) ?_
          exact ih (i + 1) (by omega) (by omega)
theorem c_X8_badness0 {G : GX} {d : Nat} {S : ST} {S0 : ST} {n m v : Nat} {Q : Int64 → ST → Prop} (hM : MS S0 m (stl n) S) (h12 : n ≤ 12) (hv : v < 12) (hq : Q (lsM S0 m n 0 v) S) : Cn G (d + 2) mX8_badness [.ref (G.2.1 29), .int (nI v), .int 0] S (ql Q) := by
  refine Cn.intro (lv := [(0, .ref (G.2.1 29)), (1, .int (nI v)), (2, .int 0)]) (by decide) (Nat.le_of_ble_eq_true rfl) rfl ?_
  refine V_iload_n dX8_badness_0 rfl 2 rfl ?_
  refine V_iconst (v := 1) dX8_badness_1 ki_1 ?_
  refine V_icmp_ne 12 dX8_badness_2 (by decide) (fun _ => ?_) (fun hz => absurd hz (by decide))
  refine V_lconst (v := 0) dX8_badness_12 rfl ?_
  refine V_lstore_n [(3, .long 0), (0, .ref (G.2.1 29)), (1, .int (nI v)), (2, .int 0)] dX8_badness_13 rfl (Nat.le_of_ble_eq_true rfl) rfl ?_
  refine V_iconst (v := 0) dX8_badness_14 ki_0 ?_
  refine V_istore [(5, .int 0), (3, .long 0), (0, .ref (G.2.1 29)), (1, .int (nI v)), (2, .int 0)] dX8_badness_15 (Nat.le_of_ble_eq_true rfl) rfl ?_
  refine V_lv [(5, .int 0), (3, .long 0), (0, .ref (G.2.1 29)), (1, .int (nI v)), (2, .int 0)] [0, 1, 2, 3, 4] rfl ?_
  refine V_lveq [(5, .int 0), (3, .long (lsum (fun x => if sfB (S.2.2.1 30) v x.1 x.2.1 x.2.2 then wMX S0 m x else -wMX S0 m x) ((stl n).take 0))), (0, .ref (G.2.1 29)), (1, .int (nI v)), (2, .int 0)] (by rfl) ?_
  exact lp_mbad hM h12 hv (qcast hq (by rw [hM.1.2.2.1 30 (by decide) (by decide) (by decide)]; rfl)) (((stl n).length) + 1) 0 (by omega) (by omega)
theorem c_X8_badness1 {G : GX} {d : Nat} {S : ST} {S0 : ST} {n m v : Nat} {Q : Int64 → ST → Prop} (hM : MS S0 m (stl n) S) (h12 : n ≤ 12) (hv : v < 12) (hq : Q (lsM S0 m n 1 v) S) : Cn G (d + 3) mX8_badness [.ref (G.2.1 29), .int (nI v), .int 1] S (ql Q) := by
  refine Cn.intro (lv := [(0, .ref (G.2.1 29)), (1, .int (nI v)), (2, .int 1)]) (by decide) (Nat.le_of_ble_eq_true rfl) rfl ?_
  refine V_iload_n dX8_badness_0 rfl 2 rfl ?_
  refine V_iconst (v := 1) dX8_badness_1 ki_1 ?_
  refine V_icmp_ne 12 dX8_badness_2 (by decide) (fun hz => absurd hz (by decide)) (fun _ => ?_)
  refine V_aload_n dX8_badness_5 rfl 0 rfl ?_
  refine V_iload_n dX8_badness_6 rfl 1 rfl ?_
  refine V_cVl (P := pM G (d + 3) mX8_badness _) (d := d + 2) 29 (r := []) (As := [.int (nI v)]) (K := mX8_hopeOf) ok_X8_hopeOf tw_819 (ob_29 _) rfl (rmOk (Nat.le_of_ble_eq_true rfl)) (Nat.le_of_ble_eq_true rfl) dX8_badness_7 rfl (c_X8_hopeOf hM h12 hv ?_)
  refine V_lneg dX8_badness_10 ?_
  refine V_lret rfl dX8_badness_11 ⟨_, rfl, ?_⟩
  exact qcast hq (by rfl)
