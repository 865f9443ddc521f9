def mx (a b : Int64) : Int64 := if a < b then b else a
theorem mx_c (a b : Int64) : (if b < a then a else b) = mx a b := by
  unfold mx
  by_cases h : b < a
  · rw [if_pos h, if_neg]
    rw [Int64.lt_iff_toInt_lt] at *; omega
  · rw [if_neg h]
    by_cases h2 : a < b
    · rw [if_pos h2]
    · rw [if_neg h2]
      apply Int64.toInt_inj.mp
      rw [Int64.lt_iff_toInt_lt] at *
      omega
def mxs (f : XT → Int64) (L : List XT) : Int64 := L.foldl (fun a x => mx a (f x)) 0
theorem mxs_app (f : XT → Int64) (L : List XT) (x : XT) : mxs f (L ++ [x]) = mx (mxs f L) (f x) := by unfold mxs; rw [List.foldl_append]; rfl
theorem mxs_take {f : XT → Int64} {F : List XT} {k : Nat} {x : XT} (h : F[k]? = some x) : mxs f (F.take (k + 1)) = mx (mxs f (F.take k)) (f x) := by
  rw [List.take_succ, h]
  exact mxs_app f _ x
theorem mx_nn {a b : Int64} (h : 0 ≤ a) : 0 ≤ mx a b := by
  unfold mx
  split
  · rename_i h2
    rw [Int64.le_iff_toInt_le] at *
    rw [Int64.lt_iff_toInt_lt] at h2
    omega
  · exact h
theorem mx_0 {a : Int64} (h : 0 ≤ a) : mx a 0 = a := by
  unfold mx
  rw [if_neg]
  exact Int64.not_lt.mpr h
theorem mxs_nz {S : ST} {m : Nat} {f : XT → Int64} (h : ∀ x, wX S m x = 0 → f x = 0) (L : List XT) : mxs f (nz S m L) = mxs f L := by
  unfold mxs
  have : ∀ (L : List XT) (a : Int64), 0 ≤ a → (nz S m L).foldl (fun a x => mx a (f x)) a = L.foldl (fun a x => mx a (f x)) a := by
    intro L
    induction L with
    | nil => intro a _; rfl
    | cons y L ih =>
      intro a ha
      unfold nz
      by_cases hy : wX S m y = 0
      · rw [List.filter_cons_of_neg (by simp [hy]), List.foldl_cons, h y hy, mx_0 ha]
        exact ih a ha
      · rw [List.filter_cons_of_pos (by simp [hy]), List.foldl_cons, List.foldl_cons]
        exact ih _ (mx_nn ha)
  exact this L 0 (by decide)
theorem foldl_op {op : Int64 → Int64 → Int64} {f g : XT → Int64} : ∀ (L : List XT) (a : Int64), (∀ x, x ∈ L → f x = g x) → L.foldl (fun a x => op a (f x)) a = L.foldl (fun a x => op a (g x)) a := by
  intro L
  induction L with
  | nil => intro a _; rfl
  | cons y L ih =>
    intro a h
    rw [List.foldl_cons, List.foldl_cons, h y List.mem_cons_self]
    exact ih _ (fun x hx => h x (List.mem_cons_of_mem _ hx))
theorem mxs_congr {f g : XT → Int64} {L : List XT} (h : ∀ x, x ∈ L → f x = g x) : mxs f L = mxs g L := foldl_op (op := mx) L 0 h
def gapv (a f : Int64) : Int64 := if 0 < a - 2 * f then a - 2 * f else -(a - 2 * f)
theorem lp_gap {G : GX} {d n m : Nat} {S0 S : ST} {v : Nat} {Q : Int64 → ST → Prop} (hC : CS S0 m (stl n) S) (h12 : n ≤ 12) (hv : v < 12) (hq : Q (gapv (lsum (wX S0 m) (stl n)) (lsum (fun x => if bt (fX S0 x) v then wX S0 m x else 0) (nz S0 m (stl n)))) S) : ∀ (k i : Nat), i ≤ ((nz S0 m (stl n)).length) → ((nz S0 m (stl n)).length) - i < k → V (pM G (d + 1) mX4_gap (ql Q)) 5 [(4, .int (nI i)), (2, .long (lsum (fun x => if bt (fX S0 x) v then wX S0 m x else 0) ((nz S0 m (stl n)).take i))), (0, .ref (G.2.1 3)), (1, .int (nI v))] [] S := by
  have hl1 := nz_len S0 m (stl n)
  have hl2 := stl_len n (by omega)
  intro k
  induction k with
  | zero => intro i hi hk; exact absurd hk (Nat.not_lt_zero _)
  | succ k ih =>
    intro i hi hk
    refine V_iload dX4_gap_5 0 rfl ?_
    refine V_aload_n dX4_gap_7 rfl 2 rfl ?_
    refine g_3_3 tw_95 dX4_gap_8 ?_
    refine V_topi (v := nI ((nz S0 m (stl n)).length)) (id hC.2.1) ?_
    refine V_icmp_gen 44 (a := i) (b := ((nz S0 m (stl n)).length)) dX4_gap_11 (by decide) (by omega) (by omega) (fun h1 => ?_) (fun h1 => ?_)
    · refine V_aload_n dX4_gap_44 rfl 2 rfl ?_
      refine g_3_7 tw_99 dX4_gap_45 ?_
      refine V_topl (v := lsum (wX S0 m) (stl n)) (id hC.2.2.2.1) ?_
      refine V_ldc2 dX4_gap_48 tw_414 ?_
      refine V_lload_n dX4_gap_51 rfl 1 rfl ?_
      refine V_lmul dX4_gap_52 ?_
      refine V_lsub dX4_gap_53 ?_
      refine V_labs tw_415 (mR (Nat.le_of_ble_eq_true rfl)) dX4_gap_54 ?_
      have hin : i = ((nz S0 m (stl n)).length) := by omega
      refine V_lret rfl dX4_gap_57 ⟨_, rfl, ?_⟩
      exact qcast hq (by rw [hin, List.take_length]; rfl)
    · obtain ⟨x, hx⟩ : ∃ x, (nz S0 m (stl n))[i]? = some x := ⟨_, List.getElem?_eq_getElem h1⟩
      obtain ⟨x1, x2, x3⟩ := hC.2.2.1 i x hx
      obtain ⟨y1, y2, y3⟩ := nz_ok hx
      refine V_aload_n dX4_gap_14 rfl 2 rfl ?_
      refine g_3_6 tw_98 dX4_gap_15 ?_
      refine V_iload dX4_gap_18 0 rfl ?_
      refine l_20n (by omega) dX4_gap_20 ?_
      refine V_topi (v := fX S0 x) (id x3) ?_
      refine V_iload_n dX4_gap_21 rfl 3 rfl ?_
      refine V_cNi (P := pM G (d + 1) mX4_gap _) (d := d) (r := []) (As := [.int (fX S0 x), .int (nI v)]) (K := mX7_isBit) ok_X7_isBit nl_322 rfl (rmOk (Nat.le_of_ble_eq_true rfl)) (Nat.le_of_ble_eq_true rfl) dX4_gap_22 rfl (c_X7_isBit (by omega) ?_)
      refine V_ifb_eq 38 dX4_gap_25 (by decide) (fun h2 => ?_) (fun h2 => ?_)
      · refine V_iinc [(4, .int (nI (i + 1))), (2, .long (lsum (fun x => if bt (fX S0 x) v then wX S0 m x else 0) ((nz S0 m (stl n)).take i))), (0, .ref (G.2.1 3)), (1, .int (nI v))] dX4_gap_38 0 rfl (nI_1 _) (Nat.le_of_ble_eq_true rfl) rfl ?_
        refine V_goto 5 dX4_gap_41 (by decide) ?_
        refine V_lv [(4, .int (nI (i + 1))), (2, .long (lsum (fun x => if bt (fX S0 x) v then wX S0 m x else 0) ((nz S0 m (stl n)).take i))), (0, .ref (G.2.1 3)), (1, .int (nI v))] [0, 1, 2, 3] rfl ?_
        refine V_lveq [(4, .int (nI (i + 1))), (2, .long (lsum (fun x => if bt (fX S0 x) v then wX S0 m x else 0) ((nz S0 m (stl n)).take (i + 1)))), (0, .ref (G.2.1 3)), (1, .int (nI v))] (by rw [lsum_take hx]; simp [h2]) ?_
        exact ih (i + 1) (by omega) (by omega)
      · refine V_lload_n dX4_gap_28 rfl 1 rfl ?_
        refine V_aload_n dX4_gap_29 rfl 2 rfl ?_
        refine g_3_5 tw_97 dX4_gap_30 ?_
        refine V_iload dX4_gap_33 0 rfl ?_
        refine l_19n (by omega) dX4_gap_35 ?_
        refine V_topl (v := wX S0 m x) (id x2) ?_
        refine V_ladd dX4_gap_36 ?_
        refine V_lstore_n [(2, .long ((lsum (fun x => if bt (fX S0 x) v then wX S0 m x else 0) ((nz S0 m (stl n)).take i)) + (wX S0 m x))), (4, .int (nI i)), (0, .ref (G.2.1 3)), (1, .int (nI v))] dX4_gap_37 rfl (Nat.le_of_ble_eq_true rfl) rfl ?_
        refine V_iinc [(4, .int (nI (i + 1))), (2, .long ((lsum (fun x => if bt (fX S0 x) v then wX S0 m x else 0) ((nz S0 m (stl n)).take i)) + (wX S0 m x))), (0, .ref (G.2.1 3)), (1, .int (nI v))] dX4_gap_38 1 rfl (nI_1 _) (Nat.le_of_ble_eq_true rfl) rfl ?_
        refine V_goto 5 dX4_gap_41 (by decide) ?_
        refine V_lv [(4, .int (nI (i + 1))), (2, .long ((lsum (fun x => if bt (fX S0 x) v then wX S0 m x else 0) ((nz S0 m (stl n)).take i)) + (wX S0 m x))), (0, .ref (G.2.1 3)), (1, .int (nI v))] [0, 1, 2, 3] rfl ?_
        refine V_lveq [(4, .int (nI (i + 1))), (2, .long (lsum (fun x => if bt (fX S0 x) v then wX S0 m x else 0) ((nz S0 m (stl n)).take (i + 1)))), (0, .ref (G.2.1 3)), (1, .int (nI v))] (by rw [lsum_take hx]; simp [h2]) ?_
        exact ih (i + 1) (by omega) (by omega)
theorem c_X4_gap {G : GX} {d : Nat} {S : ST} {S0 : ST} {n m v : Nat} {Q : Int64 → ST → Prop} (hC : CS S0 m (stl n) S) (h12 : n ≤ 12) (hv : v < 12) (hq : Q (gapv (lsum (wX S0 m) (stl n)) (lsum (fun x => if bt (fX S0 x) v then wX S0 m x else 0) (stl n))) S) : Cn G (d + 1) mX4_gap [.ref (G.2.1 3), .int (nI v)] S (ql Q) := by
  refine Cn.intro (lv := [(0, .ref (G.2.1 3)), (1, .int (nI v))]) (by decide) (Nat.le_of_ble_eq_true rfl) rfl ?_
  refine V_lconst (v := 0) dX4_gap_0 rfl ?_
  refine V_lstore_n [(2, .long 0), (0, .ref (G.2.1 3)), (1, .int (nI v))] dX4_gap_1 rfl (Nat.le_of_ble_eq_true rfl) rfl ?_
  refine V_iconst (v := 0) dX4_gap_2 ki_0 ?_
  refine V_istore [(4, .int 0), (2, .long 0), (0, .ref (G.2.1 3)), (1, .int (nI v))] dX4_gap_3 (Nat.le_of_ble_eq_true rfl) rfl ?_
  refine V_lv [(4, .int 0), (2, .long 0), (0, .ref (G.2.1 3)), (1, .int (nI v))] [0, 1, 2, 3] rfl ?_
  refine V_lveq [(4, .int 0), (2, .long (lsum (fun x => if bt (fX S0 x) v then wX S0 m x else 0) ((nz S0 m (stl n)).take 0))), (0, .ref (G.2.1 3)), (1, .int (nI v))] (by rfl) ?_
  exact lp_gap hC h12 hv (qcast hq (by rw [lsum_nz (fun x hx => by simp [hx])])) (((nz S0 m (stl n)).length) + 1) 0 (by omega) (by omega)
theorem lp_hope {G : GX} {d n m : Nat} {S0 S : ST} {v : Nat} {Q : Int64 → ST → Prop} (hC : CS S0 m (stl n) S) (h12 : n ≤ 12) (hv : v < 12) (hq : Q (mxs (fun x => wX S0 m x * (ten (S.2.2.1 17) (bt (fX S0 x) v) true).toInt64) (nz S0 m (stl n)) + mxs (fun x => wX S0 m x * (ten (S.2.2.1 17) (bt (fX S0 x) v) false).toInt64) (nz S0 m (stl n))) S) : ∀ (k i : Nat), i ≤ ((nz S0 m (stl n)).length) → ((nz S0 m (stl n)).length) - i < k → V (pM G (d + 1) mX4_hopeWeight (ql Q)) 8 [(6, .int (nI i)), (4, .long (mxs (fun x => wX S0 m x * (ten (S.2.2.1 17) (bt (fX S0 x) v) false).toInt64) ((nz S0 m (stl n)).take i))), (2, .long (mxs (fun x => wX S0 m x * (ten (S.2.2.1 17) (bt (fX S0 x) v) true).toInt64) ((nz S0 m (stl n)).take i))), (0, .ref (G.2.1 3)), (1, .int (nI v))] [] S := by
  have hl1 := nz_len S0 m (stl n)
  have hl2 := stl_len n (by omega)
  intro k
  induction k with
  | zero => intro i hi hk; exact absurd hk (Nat.not_lt_zero _)
  | succ k ih =>
    intro i hi hk
    refine V_iload dX4_hopeWeight_8 0 rfl ?_
    refine V_aload_n dX4_hopeWeight_10 rfl 3 rfl ?_
    refine g_3_3 tw_95 dX4_hopeWeight_11 ?_
    refine V_topi (v := nI ((nz S0 m (stl n)).length)) (id hC.2.1) ?_
    refine V_icmp_gen 80 (a := i) (b := ((nz S0 m (stl n)).length)) dX4_hopeWeight_14 (by decide) (by omega) (by omega) (fun h1 => ?_) (fun h1 => ?_)
    · refine V_lload_n dX4_hopeWeight_80 rfl 2 rfl ?_
      refine V_lload dX4_hopeWeight_81 1 rfl ?_
      refine V_ladd dX4_hopeWeight_83 ?_
      have hin : i = ((nz S0 m (stl n)).length) := by omega
      refine V_lret rfl dX4_hopeWeight_84 ⟨_, rfl, ?_⟩
      exact qcast hq (by rw [hin, List.take_length])
    · obtain ⟨x, hx⟩ : ∃ x, (nz S0 m (stl n))[i]? = some x := ⟨_, List.getElem?_eq_getElem h1⟩
      obtain ⟨x1, x2, x3⟩ := hC.2.2.1 i x hx
      obtain ⟨y1, y2, y3⟩ := nz_ok hx
      refine V_aload_n dX4_hopeWeight_17 rfl 3 rfl ?_
      refine g_3_6 tw_98 dX4_hopeWeight_18 ?_
      refine V_iload dX4_hopeWeight_21 0 rfl ?_
      refine l_20n (by omega) dX4_hopeWeight_23 ?_
      refine V_topi (v := fX S0 x) (id x3) ?_
      refine V_iload_n dX4_hopeWeight_24 rfl 4 rfl ?_
      refine V_cNi (P := pM G (d + 1) mX4_hopeWeight _) (d := d) (r := []) (As := [.int (fX S0 x), .int (nI v)]) (K := mX7_isBit) ok_X7_isBit nl_322 rfl (rmOk (Nat.le_of_ble_eq_true rfl)) (Nat.le_of_ble_eq_true rfl) dX4_hopeWeight_25 rfl (c_X7_isBit (by omega) ?_)
      refine V_istore [(7, .int (b2i (bt (fX S0 x) v))), (6, .int (nI i)), (4, .long (mxs (fun x => wX S0 m x * (ten (S.2.2.1 17) (bt (fX S0 x) v) false).toInt64) ((nz S0 m (stl n)).take i))), (2, .long (mxs (fun x => wX S0 m x * (ten (S.2.2.1 17) (bt (fX S0 x) v) true).toInt64) ((nz S0 m (stl n)).take i))), (0, .ref (G.2.1 3)), (1, .int (nI v))] dX4_hopeWeight_28 (Nat.le_of_ble_eq_true rfl) rfl ?_
      refine V_lload_n dX4_hopeWeight_30 rfl 3 rfl ?_
      refine V_aload_n dX4_hopeWeight_31 rfl 4 rfl ?_
      refine g_3_5 tw_97 dX4_hopeWeight_32 ?_
      refine V_iload dX4_hopeWeight_35 1 rfl ?_
      refine l_19n (by omega) dX4_hopeWeight_37 ?_
      refine V_topl (v := wX S0 m x) (id x2) ?_
      refine V_aload_n dX4_hopeWeight_38 rfl 4 rfl ?_
      refine V_iload dX4_hopeWeight_39 0 rfl ?_
      refine V_iconst (v := 1) dX4_hopeWeight_41 ki_1 ?_
      refine V_cVi (P := pM G (d + 1) mX4_hopeWeight _) (d := d) 3 (r := [.long (wX S0 m x), .long (mxs (fun x => wX S0 m x * (ten (S.2.2.1 17) (bt (fX S0 x) v) true).toInt64) ((nz S0 m (stl n)).take i))]) (As := [.int (b2i (bt (fX S0 x) v)), .int 1]) (K := mX4_tenths) ok_X4_tenths tw_323 (ob_3 _) rfl (rmOk (Nat.le_of_ble_eq_true rfl)) (Nat.le_of_ble_eq_true rfl) dX4_hopeWeight_42 rfl (c_X4_tenths (f := (bt (fX S0 x) v)) (q := true) ?_)
      refine V_i2l dX4_hopeWeight_45 ?_
      refine V_lmul dX4_hopeWeight_46 ?_
      refine V_lmax tw_399 (mR (Nat.le_of_ble_eq_true rfl)) dX4_hopeWeight_47 ?_
      refine V_lstore_n [(2, .long (if ((wX S0 m x) * (Int32.toInt64 (ten (S.2.2.1 17) (bt (fX S0 x) v) true))) < (mxs (fun x => wX S0 m x * (ten (S.2.2.1 17) (bt (fX S0 x) v) true).toInt64) ((nz S0 m (stl n)).take i)) then (mxs (fun x => wX S0 m x * (ten (S.2.2.1 17) (bt (fX S0 x) v) true).toInt64) ((nz S0 m (stl n)).take i)) else ((wX S0 m x) * (Int32.toInt64 (ten (S.2.2.1 17) (bt (fX S0 x) v) true))))), (7, .int (b2i (bt (fX S0 x) v))), (6, .int (nI i)), (4, .long (mxs (fun x => wX S0 m x * (ten (S.2.2.1 17) (bt (fX S0 x) v) false).toInt64) ((nz S0 m (stl n)).take i))), (0, .ref (G.2.1 3)), (1, .int (nI v))] dX4_hopeWeight_50 rfl (Nat.le_of_ble_eq_true rfl) rfl ?_
      refine V_lload dX4_hopeWeight_51 3 rfl ?_
      refine V_aload_n dX4_hopeWeight_53 rfl 4 rfl ?_
      refine g_3_5 tw_97 dX4_hopeWeight_54 ?_
      refine V_iload dX4_hopeWeight_57 2 rfl ?_
      refine l_19n (by omega) dX4_hopeWeight_59 ?_
      refine V_topl (v := wX S0 m x) (id x2) ?_
      refine V_aload_n dX4_hopeWeight_60 rfl 4 rfl ?_
      refine V_iload dX4_hopeWeight_61 1 rfl ?_
      refine V_iconst (v := 0) dX4_hopeWeight_63 ki_0 ?_
      refine V_cVi (P := pM G (d + 1) mX4_hopeWeight _) (d := d) 3 (r := [.long (wX S0 m x), .long (mxs (fun x => wX S0 m x * (ten (S.2.2.1 17) (bt (fX S0 x) v) false).toInt64) ((nz S0 m (stl n)).take i))]) (As := [.int (b2i (bt (fX S0 x) v)), .int 0]) (K := mX4_tenths) ok_X4_tenths tw_323 (ob_3 _) rfl (rmOk (Nat.le_of_ble_eq_true rfl)) (Nat.le_of_ble_eq_true rfl) dX4_hopeWeight_64 rfl (c_X4_tenths (f := (bt (fX S0 x) v)) (q := false) ?_)
      refine V_i2l dX4_hopeWeight_67 ?_
      refine V_lmul dX4_hopeWeight_68 ?_
      refine V_lmax tw_399 (mR (Nat.le_of_ble_eq_true rfl)) dX4_hopeWeight_69 ?_
      refine V_lstore [(4, .long (if ((wX S0 m x) * (Int32.toInt64 (ten (S.2.2.1 17) (bt (fX S0 x) v) false))) < (mxs (fun x => wX S0 m x * (ten (S.2.2.1 17) (bt (fX S0 x) v) false).toInt64) ((nz S0 m (stl n)).take i)) then (mxs (fun x => wX S0 m x * (ten (S.2.2.1 17) (bt (fX S0 x) v) false).toInt64) ((nz S0 m (stl n)).take i)) else ((wX S0 m x) * (Int32.toInt64 (ten (S.2.2.1 17) (bt (fX S0 x) v) false))))), (2, .long (if ((wX S0 m x) * (Int32.toInt64 (ten (S.2.2.1 17) (bt (fX S0 x) v) true))) < (mxs (fun x => wX S0 m x * (ten (S.2.2.1 17) (bt (fX S0 x) v) true).toInt64) ((nz S0 m (stl n)).take i)) then (mxs (fun x => wX S0 m x * (ten (S.2.2.1 17) (bt (fX S0 x) v) true).toInt64) ((nz S0 m (stl n)).take i)) else ((wX S0 m x) * (Int32.toInt64 (ten (S.2.2.1 17) (bt (fX S0 x) v) true))))), (7, .int (b2i (bt (fX S0 x) v))), (6, .int (nI i)), (0, .ref (G.2.1 3)), (1, .int (nI v))] dX4_hopeWeight_72 (Nat.le_of_ble_eq_true rfl) rfl ?_
      refine V_iinc [(6, .int (nI (i + 1))), (4, .long (if ((wX S0 m x) * (Int32.toInt64 (ten (S.2.2.1 17) (bt (fX S0 x) v) false))) < (mxs (fun x => wX S0 m x * (ten (S.2.2.1 17) (bt (fX S0 x) v) false).toInt64) ((nz S0 m (stl n)).take i)) then (mxs (fun x => wX S0 m x * (ten (S.2.2.1 17) (bt (fX S0 x) v) false).toInt64) ((nz S0 m (stl n)).take i)) else ((wX S0 m x) * (Int32.toInt64 (ten (S.2.2.1 17) (bt (fX S0 x) v) false))))), (2, .long (if ((wX S0 m x) * (Int32.toInt64 (ten (S.2.2.1 17) (bt (fX S0 x) v) true))) < (mxs (fun x => wX S0 m x * (ten (S.2.2.1 17) (bt (fX S0 x) v) true).toInt64) ((nz S0 m (stl n)).take i)) then (mxs (fun x => wX S0 m x * (ten (S.2.2.1 17) (bt (fX S0 x) v) true).toInt64) ((nz S0 m (stl n)).take i)) else ((wX S0 m x) * (Int32.toInt64 (ten (S.2.2.1 17) (bt (fX S0 x) v) true))))), (7, .int (b2i (bt (fX S0 x) v))), (0, .ref (G.2.1 3)), (1, .int (nI v))] dX4_hopeWeight_74 3 rfl (nI_1 _) (Nat.le_of_ble_eq_true rfl) rfl ?_
      refine V_goto 8 dX4_hopeWeight_77 (by decide) ?_
      refine V_lv [(6, .int (nI (i + 1))), (4, .long (if ((wX S0 m x) * (Int32.toInt64 (ten (S.2.2.1 17) (bt (fX S0 x) v) false))) < (mxs (fun x => wX S0 m x * (ten (S.2.2.1 17) (bt (fX S0 x) v) false).toInt64) ((nz S0 m (stl n)).take i)) then (mxs (fun x => wX S0 m x * (ten (S.2.2.1 17) (bt (fX S0 x) v) false).toInt64) ((nz S0 m (stl n)).take i)) else ((wX S0 m x) * (Int32.toInt64 (ten (S.2.2.1 17) (bt (fX S0 x) v) false))))), (2, .long (if ((wX S0 m x) * (Int32.toInt64 (ten (S.2.2.1 17) (bt (fX S0 x) v) true))) < (mxs (fun x => wX S0 m x * (ten (S.2.2.1 17) (bt (fX S0 x) v) true).toInt64) ((nz S0 m (stl n)).take i)) then (mxs (fun x => wX S0 m x * (ten (S.2.2.1 17) (bt (fX S0 x) v) true).toInt64) ((nz S0 m (stl n)).take i)) else ((wX S0 m x) * (Int32.toInt64 (ten (S.2.2.1 17) (bt (fX S0 x) v) true))))), (0, .ref (G.2.1 3)), (1, .int (nI v))] [0, 1, 2, 4, 5] rfl ?_
      refine V_lveq [(6, .int (nI (i + 1))), (4, .long (mxs (fun x => wX S0 m x * (ten (S.2.2.1 17) (bt (fX S0 x) v) false).toInt64) ((nz S0 m (stl n)).take (i + 1)))), (2, .long (mxs (fun x => wX S0 m x * (ten (S.2.2.1 17) (bt (fX S0 x) v) true).toInt64) ((nz S0 m (stl n)).take (i + 1)))), (0, .ref (G.2.1 3)), (1, .int (nI v))] (by rw [mxs_take hx, mxs_take hx, mx_c, mx_c]) ?_
      exact ih (i + 1) (by omega) (by omega)
theorem c_X4_hopeWeight {G : GX} {d : Nat} {S : ST} {S0 : ST} {n m v : Nat} {Q : Int64 → ST → Prop} (hC : CS S0 m (stl n) S) (h12 : n ≤ 12) (hv : v < 12) (hq : Q (mxs (fun x => wX S0 m x * (ten (S0.2.2.1 17) (bt (fX S0 x) v) true).toInt64) (stl n) + mxs (fun x => wX S0 m x * (ten (S0.2.2.1 17) (bt (fX S0 x) v) false).toInt64) (stl n)) S) : Cn G (d + 1) mX4_hopeWeight [.ref (G.2.1 3), .int (nI v)] S (ql Q) := by
  refine Cn.intro (lv := [(0, .ref (G.2.1 3)), (1, .int (nI v))]) (by decide) (Nat.le_of_ble_eq_true rfl) rfl ?_
  refine V_lconst (v := 0) dX4_hopeWeight_0 rfl ?_
  refine V_lstore_n [(2, .long 0), (0, .ref (G.2.1 3)), (1, .int (nI v))] dX4_hopeWeight_1 rfl (Nat.le_of_ble_eq_true rfl) rfl ?_
  refine V_lconst (v := 0) dX4_hopeWeight_2 rfl ?_
  refine V_lstore [(4, .long 0), (2, .long 0), (0, .ref (G.2.1 3)), (1, .int (nI v))] dX4_hopeWeight_3 (Nat.le_of_ble_eq_true rfl) rfl ?_
  refine V_iconst (v := 0) dX4_hopeWeight_5 ki_0 ?_
  refine V_istore [(6, .int 0), (4, .long 0), (2, .long 0), (0, .ref (G.2.1 3)), (1, .int (nI v))] dX4_hopeWeight_6 (Nat.le_of_ble_eq_true rfl) rfl ?_
  refine V_lv [(6, .int 0), (4, .long 0), (2, .long 0), (0, .ref (G.2.1 3)), (1, .int (nI v))] [0, 1, 2, 3, 4] rfl ?_
  refine V_lveq [(6, .int 0), (4, .long (mxs (fun x => wX S0 m x * (ten (S.2.2.1 17) (bt (fX S0 x) v) false).toInt64) ((nz S0 m (stl n)).take 0))), (2, .long (mxs (fun x => wX S0 m x * (ten (S.2.2.1 17) (bt (fX S0 x) v) true).toInt64) ((nz S0 m (stl n)).take 0))), (0, .ref (G.2.1 3)), (1, .int (nI v))] (by rfl) ?_
  exact lp_hope hC h12 hv (qcast hq (by rw [mxs_nz (fun x hx => by simp [hx]), mxs_nz (fun x hx => by simp [hx]), hC.1.2.2.1 17 (by decide) (by decide)])) (((nz S0 m (stl n)).length) + 1) 0 (by omega) (by omega)
