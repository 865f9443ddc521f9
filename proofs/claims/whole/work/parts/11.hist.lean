def hrs (n : Nat) (df : Nat → Int32) (v : Int32) : Bool := kn n v && decide (df v.toNatClampNeg = 0)
def mso (n : Nat) (a b : Int32) : Bool := if b = -1 then decide (a = -1) || kn n a else kn n a && kn n b && decide (a ≠ b)
theorem vp_kn {n N : Nat} {v : Int32} (h : kn n v = true) (hn : n < 2 ^ 31) (hN : n ≤ N) (hB : N < 2 ^ 31) : vp_in v N := by
  obtain ⟨k, hk, rfl⟩ := kn_ex h hn
  exact vp_in_nI (by omega) hB
theorem c_X1_hears {G : GX} {d : Nat} {S : ST} {v : Int32} {n : Nat} {Q : Int32 → ST → Prop} (hn : S.1 0 = nI n) (h12 : n ≤ 12) (hq : Q (b2i (hrs n (S.2.2.1 14) v)) S) : Cn G (d + 1) mX1_hears [.ref (G.2.1 1), .int v] S (qi Q) := by
  refine Cn.intro (lv := [(0, .ref (G.2.1 1)), (1, .int v)]) (by decide) (Nat.le_of_ble_eq_true rfl) rfl ?_
  refine V_aload_n dX1_hears_0 rfl 0 rfl ?_
  refine V_iload_n dX1_hears_1 rfl 1 rfl ?_
  refine V_cVi (P := pM G (d + 1) mX1_hears _) (d := d) 1 (r := []) (As := [.int v]) (K := mX1_knows) ok_X1_knows tw_236 (ob_1 _) rfl (rmOk (Nat.le_of_ble_eq_true rfl)) (Nat.le_of_ble_eq_true rfl) dX1_hears_2 rfl (c_X1_knows hn ?_)
  refine V_ifb_eq 21 dX1_hears_5 (by decide) (fun h1 => ?_) (fun h1 => ?_)
  · refine V_iconst (v := 0) dX1_hears_21 ki_0 ?_
    refine V_zret rfl dX1_hears_22 rfl ⟨_, rfl, ?_⟩
    exact qcast hq (by simp [hrs, b2i, h1])
  · refine V_aload_n dX1_hears_8 rfl 0 rfl ?_
    refine g_1_6 tw_45 dX1_hears_9 ?_
    refine V_iload_n dX1_hears_12 rfl 1 rfl ?_
    refine l_14 (vp_kn h1 (by omega) h12 (by decide)) dX1_hears_13 ?_
    refine V_if_ne 21 dX1_hears_14 (by decide) (fun h2 => ?_) (fun h2 => ?_)
    · refine V_iconst (v := 0) dX1_hears_21 ki_0 ?_
      refine V_zret rfl dX1_hears_22 rfl ⟨_, rfl, ?_⟩
      exact qcast hq (by simp [hrs, b2i, h1, h2])
    · refine V_iconst (v := 1) dX1_hears_17 ki_1 ?_
      refine V_goto 22 dX1_hears_18 (by decide) ?_
      refine V_zret rfl dX1_hears_22 rfl ⟨_, rfl, ?_⟩
      exact qcast hq (by simp [hrs, b2i, h1, h2])
theorem c_X1_mayStandOn {G : GX} {d : Nat} {S : ST} {a b : Int32} {n : Nat} {Q : Int32 → ST → Prop} (hn : S.1 0 = nI n) (hq : Q (b2i (mso n a b)) S) : Cn G (d + 1) mX1_mayStandOn [.ref (G.2.1 1), .int a, .int b] S (qi Q) := by
  refine Cn.intro (lv := [(0, .ref (G.2.1 1)), (1, .int a), (2, .int b)]) (by decide) (Nat.le_of_ble_eq_true rfl) rfl ?_
  refine V_iload_n dX1_mayStandOn_0 rfl 2 rfl ?_
  refine V_iconst (v := -1) dX1_mayStandOn_1 ki_m1 ?_
  refine V_icmp_ne 24 dX1_mayStandOn_2 (by decide) (fun h1 => ?_) (fun h1 => ?_)
  · refine V_aload_n dX1_mayStandOn_24 rfl 0 rfl ?_
    refine V_iload_n dX1_mayStandOn_25 rfl 1 rfl ?_
    refine V_cVi (P := pM G (d + 1) mX1_mayStandOn _) (d := d) 1 (r := []) (As := [.int a]) (K := mX1_knows) ok_X1_knows tw_236 (ob_1 _) rfl (rmOk (Nat.le_of_ble_eq_true rfl)) (Nat.le_of_ble_eq_true rfl) dX1_mayStandOn_26 rfl (c_X1_knows hn ?_)
    refine V_ifb_eq 49 dX1_mayStandOn_29 (by decide) (fun h2 => ?_) (fun h2 => ?_)
    · refine V_iconst (v := 0) dX1_mayStandOn_49 ki_0 ?_
      refine V_zret rfl dX1_mayStandOn_50 rfl ⟨_, rfl, ?_⟩
      exact qcast hq (by simp [mso, b2i, h1, h2])
    · refine V_aload_n dX1_mayStandOn_32 rfl 0 rfl ?_
      refine V_iload_n dX1_mayStandOn_33 rfl 2 rfl ?_
      refine V_cVi (P := pM G (d + 1) mX1_mayStandOn _) (d := d) 1 (r := []) (As := [.int b]) (K := mX1_knows) ok_X1_knows tw_236 (ob_1 _) rfl (rmOk (Nat.le_of_ble_eq_true rfl)) (Nat.le_of_ble_eq_true rfl) dX1_mayStandOn_34 rfl (c_X1_knows hn ?_)
      refine V_ifb_eq 49 dX1_mayStandOn_37 (by decide) (fun h3 => ?_) (fun h3 => ?_)
      · refine V_iconst (v := 0) dX1_mayStandOn_49 ki_0 ?_
        refine V_zret rfl dX1_mayStandOn_50 rfl ⟨_, rfl, ?_⟩
        exact qcast hq (by simp [mso, b2i, h1, h2, h3])
      · refine V_iload_n dX1_mayStandOn_40 rfl 1 rfl ?_
        refine V_iload_n dX1_mayStandOn_41 rfl 2 rfl ?_
        refine V_icmp_eq 49 dX1_mayStandOn_42 (by decide) (fun h4 => ?_) (fun h4 => ?_)
        · refine V_iconst (v := 0) dX1_mayStandOn_49 ki_0 ?_
          refine V_zret rfl dX1_mayStandOn_50 rfl ⟨_, rfl, ?_⟩
          exact qcast hq (by simp [mso, b2i, h1, h2, h3, h4])
        · refine V_iconst (v := 1) dX1_mayStandOn_45 ki_1 ?_
          refine V_goto 50 dX1_mayStandOn_46 (by decide) ?_
          refine V_zret rfl dX1_mayStandOn_50 rfl ⟨_, rfl, ?_⟩
          exact qcast hq (by simp [mso, b2i, h1, h2, h3, h4])
  · refine V_iload_n dX1_mayStandOn_5 rfl 1 rfl ?_
    refine V_iconst (v := -1) dX1_mayStandOn_6 ki_m1 ?_
    refine V_icmp_eq 18 dX1_mayStandOn_7 (by decide) (fun h5 => ?_) (fun h5 => ?_)
    · refine V_iconst (v := 1) dX1_mayStandOn_18 ki_1 ?_
      refine V_goto 23 dX1_mayStandOn_19 (by decide) ?_
      refine V_zret rfl dX1_mayStandOn_23 rfl ⟨_, rfl, ?_⟩
      exact qcast hq (by simp [mso, b2i, h1, h5])
    · refine V_aload_n dX1_mayStandOn_10 rfl 0 rfl ?_
      refine V_iload_n dX1_mayStandOn_11 rfl 1 rfl ?_
      refine V_cVi (P := pM G (d + 1) mX1_mayStandOn _) (d := d) 1 (r := []) (As := [.int a]) (K := mX1_knows) ok_X1_knows tw_236 (ob_1 _) rfl (rmOk (Nat.le_of_ble_eq_true rfl)) (Nat.le_of_ble_eq_true rfl) dX1_mayStandOn_12 rfl (c_X1_knows hn ?_)
      refine V_ifb_eq 22 dX1_mayStandOn_15 (by decide) (fun h6 => ?_) (fun h6 => ?_)
      · refine V_iconst (v := 0) dX1_mayStandOn_22 ki_0 ?_
        refine V_zret rfl dX1_mayStandOn_23 rfl ⟨_, rfl, ?_⟩
        exact qcast hq (by simp [mso, b2i, h1, h5, h6])
      · refine V_iconst (v := 1) dX1_mayStandOn_18 ki_1 ?_
        refine V_goto 23 dX1_mayStandOn_19 (by decide) ?_
        refine V_zret rfl dX1_mayStandOn_23 rfl ⟨_, rfl, ?_⟩
        exact qcast hq (by simp [mso, b2i, h1, h5, h6])
theorem c_X1_row {G : GX} {d : Nat} {S : ST} {w : Int32} {Q : Nat → ST → Prop}  (hq : Q (G.2.1 (if w = 0 then 11 else if w = 1 then 12 else if w = 2 then 13 else 14)) S) : Cn G d mX1_row [.ref (G.2.1 1), .int w] S (qr Q) := by
  refine Cn.intro (lv := [(0, .ref (G.2.1 1)), (1, .int w)]) (by decide) (Nat.le_of_ble_eq_true rfl) rfl ?_
  refine V_iload_n dX1_row_0 rfl 1 rfl ?_
  by_cases h1 : w = 0
  · refine V_tsI 28 (off := 27) dX1_row_1 (by rw [h1]; decide +kernel) (by rw [h1]; decide +kernel) (by rw [h1]; decide +kernel) (by decide) ?_
    refine V_aload_n dX1_row_28 rfl 0 rfl ?_
    refine g_1_3 tw_38 dX1_row_29 ?_
    refine V_aret rfl dX1_row_32 ⟨_, rfl, ?_⟩
    exact qcast hq (by simp [pM, h1])
  by_cases h2 : w = 1
  · refine V_tsI 33 (off := 32) dX1_row_1 (by rw [h2]; decide +kernel) (by rw [h2]; decide +kernel) (by rw [h2]; decide +kernel) (by decide) ?_
    refine V_aload_n dX1_row_33 rfl 0 rfl ?_
    refine g_1_4 tw_40 dX1_row_34 ?_
    refine V_aret rfl dX1_row_37 ⟨_, rfl, ?_⟩
    exact qcast hq (by simp [pM, h1, h2])
  by_cases h3 : w = 2
  · refine V_tsI 38 (off := 37) dX1_row_1 (by rw [h3]; decide +kernel) (by rw [h3]; decide +kernel) (by rw [h3]; decide +kernel) (by decide) ?_
    refine V_aload_n dX1_row_38 rfl 0 rfl ?_
    refine g_1_5 tw_43 dX1_row_39 ?_
    refine V_aret rfl dX1_row_42 ⟨_, rfl, ?_⟩
    exact qcast hq (by simp [pM, h1, h2, h3])
  refine V_tsO 43 dX1_row_1 (by have zh1 := lv_neT (k := 0) (a := 0) h1 rfl; have zh2 := lv_neT (k := 1) (a := 1) h2 rfl; have zh3 := lv_neT (k := 2) (a := 2) h3 rfl; omega) (by decide) ?_
  refine V_aload_n dX1_row_43 rfl 0 rfl ?_
  refine g_1_6 tw_45 dX1_row_44 ?_
  refine V_aret rfl dX1_row_47 ⟨_, rfl, ?_⟩
  exact qcast hq (by simp [pM, h1, h2, h3])
theorem c_X1_everyVersion {G : GX} {d : Nat} {S : ST} {n : Nat} {Q : Int32 → ST → Prop} (hn : S.1 0 = nI n) (hq : Q (1 <<< (nI n &&& 31) - 1) S) : Cn G d mX1_everyVersion [.ref (G.2.1 1)] S (qi Q) := by
  refine Cn.intro (lv := [(0, .ref (G.2.1 1))]) (by decide) (Nat.le_of_ble_eq_true rfl) rfl ?_
  refine V_iconst (v := 1) dX1_everyVersion_0 ki_1 ?_
  refine V_aload_n dX1_everyVersion_1 rfl 0 rfl ?_
  refine g_1_0 tw_28 dX1_everyVersion_2 ?_
  refine V_topi (v := nI n) (hn) ?_
  refine V_ishl dX1_everyVersion_5 ?_
  refine V_iconst (v := 1) dX1_everyVersion_6 ki_1 ?_
  refine V_isub dX1_everyVersion_7 ?_
  refine V_iret rfl dX1_everyVersion_8 ⟨_, rfl, ?_⟩
  exact hq
theorem c_X1_mayBe {G : GX} {d : Nat} {S : ST} {v : Nat} {w x : Int32} {Q : Int32 → ST → Prop}  (hq : Q (b2i (if w = 0 ∨ w = 1 then fr x 1 9 else if w = 2 then fr x 0 (1 <<< (nI v &&& 31) - 1) else if w = 3 then fr x 0 1 else false)) S) : Cn G (d + 1) mX1_mayBe [.ref (G.2.1 1), .int (nI v), .int w, .int x] S (qi Q) := by
  refine Cn.intro (lv := [(0, .ref (G.2.1 1)), (1, .int (nI v)), (2, .int w), (3, .int x)]) (by decide) (Nat.le_of_ble_eq_true rfl) rfl ?_
  refine V_iload_n dX1_mayBe_0 rfl 2 rfl ?_
  by_cases h1 : w = 0
  · refine V_tsI 32 (off := 31) dX1_mayBe_1 (by rw [h1]; decide +kernel) (by rw [h1]; decide +kernel) (by rw [h1]; decide +kernel) (by decide) ?_
    refine V_iload_n dX1_mayBe_32 rfl 3 rfl ?_
    refine V_iconst (v := 1) dX1_mayBe_33 ki_1 ?_
    refine V_bipush (v := 9) dX1_mayBe_34 kb_9 ?_
    refine V_cNi (P := pM G (d + 1) mX1_mayBe _) (d := d) (r := []) (As := [.int x, .int 1, .int 9]) (K := mX7_isFrom) ok_X7_isFrom nl_267 rfl (rmOk (Nat.le_of_ble_eq_true rfl)) (Nat.le_of_ble_eq_true rfl) dX1_mayBe_36 rfl (c_X7_isFrom ?_)
    refine V_zret rfl dX1_mayBe_39 (b2i_nar _) ⟨_, rfl, ?_⟩
    exact qcast hq (by simp [b2i, h1])
  by_cases h2 : w = 1
  · refine V_tsI 32 (off := 31) dX1_mayBe_1 (by rw [h2]; decide +kernel) (by rw [h2]; decide +kernel) (by rw [h2]; decide +kernel) (by decide) ?_
    refine V_iload_n dX1_mayBe_32 rfl 3 rfl ?_
    refine V_iconst (v := 1) dX1_mayBe_33 ki_1 ?_
    refine V_bipush (v := 9) dX1_mayBe_34 kb_9 ?_
    refine V_cNi (P := pM G (d + 1) mX1_mayBe _) (d := d) (r := []) (As := [.int x, .int 1, .int 9]) (K := mX7_isFrom) ok_X7_isFrom nl_267 rfl (rmOk (Nat.le_of_ble_eq_true rfl)) (Nat.le_of_ble_eq_true rfl) dX1_mayBe_36 rfl (c_X7_isFrom ?_)
    refine V_zret rfl dX1_mayBe_39 (b2i_nar _) ⟨_, rfl, ?_⟩
    exact qcast hq (by simp [b2i, h1, h2])
  by_cases h3 : w = 2
  · refine V_tsI 40 (off := 39) dX1_mayBe_1 (by rw [h3]; decide +kernel) (by rw [h3]; decide +kernel) (by rw [h3]; decide +kernel) (by decide) ?_
    refine V_iload_n dX1_mayBe_40 rfl 3 rfl ?_
    refine V_iconst (v := 0) dX1_mayBe_41 ki_0 ?_
    refine V_iconst (v := 1) dX1_mayBe_42 ki_1 ?_
    refine V_iload_n dX1_mayBe_43 rfl 1 rfl ?_
    refine V_ishl dX1_mayBe_44 ?_
    refine V_iconst (v := 1) dX1_mayBe_45 ki_1 ?_
    refine V_isub dX1_mayBe_46 ?_
    refine V_cNi (P := pM G (d + 1) mX1_mayBe _) (d := d) (r := []) (As := [.int x, .int 0, .int (((1 : Int32) <<< ((nI v) &&& 31)) - 1)]) (K := mX7_isFrom) ok_X7_isFrom nl_267 rfl (rmOk (Nat.le_of_ble_eq_true rfl)) (Nat.le_of_ble_eq_true rfl) dX1_mayBe_47 rfl (c_X7_isFrom ?_)
    refine V_zret rfl dX1_mayBe_50 (b2i_nar _) ⟨_, rfl, ?_⟩
    exact qcast hq (by simp [b2i, h1, h2, h3])
  by_cases h4 : w = 3
  · refine V_tsI 51 (off := 50) dX1_mayBe_1 (by rw [h4]; decide +kernel) (by rw [h4]; decide +kernel) (by rw [h4]; decide +kernel) (by decide) ?_
    refine V_iload_n dX1_mayBe_51 rfl 3 rfl ?_
    refine V_iconst (v := 0) dX1_mayBe_52 ki_0 ?_
    refine V_iconst (v := 1) dX1_mayBe_53 ki_1 ?_
    refine V_cNi (P := pM G (d + 1) mX1_mayBe _) (d := d) (r := []) (As := [.int x, .int 0, .int 1]) (K := mX7_isFrom) ok_X7_isFrom nl_267 rfl (rmOk (Nat.le_of_ble_eq_true rfl)) (Nat.le_of_ble_eq_true rfl) dX1_mayBe_54 rfl (c_X7_isFrom ?_)
    refine V_zret rfl dX1_mayBe_57 (b2i_nar _) ⟨_, rfl, ?_⟩
    exact qcast hq (by simp [b2i, h1, h2, h3, h4])
  refine V_tsO 58 dX1_mayBe_1 (by have zh1 := lv_neT (k := 0) (a := 0) h1 rfl; have zh2 := lv_neT (k := 1) (a := 1) h2 rfl; have zh3 := lv_neT (k := 2) (a := 2) h3 rfl; have zh4 := lv_neT (k := 3) (a := 3) h4 rfl; omega) (by decide) ?_
  refine V_iconst (v := 0) dX1_mayBe_58 ki_0 ?_
  refine V_zret rfl dX1_mayBe_59 rfl ⟨_, rfl, ?_⟩
  exact qcast hq (by simp [b2i, h1, h2, h3, h4])
theorem lp_hearing {G : GX} {d n : Nat} {S : ST} {Q : Int32 → ST → Prop} (hn : S.1 0 = nI n) (h12 : n ≤ 12) (hq : Q (bitsOf (fun v => decide (S.2.2.1 14 v = 0)) n) S) : ∀ (k i : Nat), i ≤ n → n - i < k → V (pM G d mX1_hearing (qi Q)) 4 [(2, .int (nI i)), (1, .int (bitsOf (fun v => decide (S.2.2.1 14 v = 0)) i)), (0, .ref (G.2.1 1))] [] S := by
  intro k
  induction k with
  | zero => intro i hi hk; exact absurd hk (Nat.not_lt_zero _)
  | succ k ih =>
    intro i hi hk
    refine V_iload_n dX1_hearing_4 rfl 0 rfl ?_
    refine V_aload_n dX1_hearing_5 rfl 2 rfl ?_
    refine g_1_0 tw_28 dX1_hearing_6 ?_
    refine V_topi (v := nI n) (hn) ?_
    refine V_icmp_gen 33 (a := i) (b := n) dX1_hearing_9 (by decide) (by omega) (by omega) (fun h1 => ?_) (fun h1 => ?_)
    · refine V_iload_n dX1_hearing_33 rfl 1 rfl ?_
      have hin : i = n := by omega
      subst hin
      exact V_iret rfl dX1_hearing_34 ⟨_, rfl, hq⟩
    · refine V_aload_n dX1_hearing_12 rfl 2 rfl ?_
      refine g_1_6 tw_45 dX1_hearing_13 ?_
      refine V_iload_n dX1_hearing_16 rfl 0 rfl ?_
      refine l_14n (by omega) dX1_hearing_17 ?_
      refine V_if_ne 27 dX1_hearing_18 (by decide) (fun h2 => ?_) (fun h2 => ?_)
      · refine V_iinc [(2, .int (nI (i + 1))), (1, .int (bitsOf (fun v => decide (S.2.2.1 14 v = 0)) i)), (0, .ref (G.2.1 1))] dX1_hearing_27 0 rfl (nI_1 _) (Nat.le_of_ble_eq_true rfl) rfl ?_
        refine V_goto 4 dX1_hearing_30 (by decide) ?_
        refine V_lv [(2, .int (nI (i + 1))), (1, .int (bitsOf (fun v => decide (S.2.2.1 14 v = 0)) i)), (0, .ref (G.2.1 1))] [0, 1, 2] rfl ?_
        refine V_lveq [(2, .int (nI (i + 1))), (1, .int (bitsOf (fun v => decide (S.2.2.1 14 v = 0)) (i + 1))), (0, .ref (G.2.1 1))] (by rw [bits_f (by simp [h2])]) ?_
        exact ih (i + 1) (by omega) (by omega)
      · refine V_iload_n dX1_hearing_21 rfl 1 rfl ?_
        refine V_iconst (v := 1) dX1_hearing_22 ki_1 ?_
        refine V_iload_n dX1_hearing_23 rfl 0 rfl ?_
        refine V_ishl dX1_hearing_24 ?_
        refine V_ior dX1_hearing_25 ?_
        refine V_istore_n [(1, .int ((bitsOf (fun v => decide (S.2.2.1 14 v = 0)) i) ||| ((1 : Int32) <<< ((nI i) &&& 31)))), (2, .int (nI i)), (0, .ref (G.2.1 1))] dX1_hearing_26 rfl (Nat.le_of_ble_eq_true rfl) rfl ?_
        refine V_iinc [(2, .int (nI (i + 1))), (1, .int ((bitsOf (fun v => decide (S.2.2.1 14 v = 0)) i) ||| ((1 : Int32) <<< ((nI i) &&& 31)))), (0, .ref (G.2.1 1))] dX1_hearing_27 1 rfl (nI_1 _) (Nat.le_of_ble_eq_true rfl) rfl ?_
        refine V_goto 4 dX1_hearing_30 (by decide) ?_
        refine V_lv [(2, .int (nI (i + 1))), (1, .int ((bitsOf (fun v => decide (S.2.2.1 14 v = 0)) i) ||| ((1 : Int32) <<< ((nI i) &&& 31)))), (0, .ref (G.2.1 1))] [0, 1, 2] rfl ?_
        refine V_lveq [(2, .int (nI (i + 1))), (1, .int (bitsOf (fun v => decide (S.2.2.1 14 v = 0)) (i + 1))), (0, .ref (G.2.1 1))] (by rw [bits_t (by simp [h2])]) ?_
        exact ih (i + 1) (by omega) (by omega)
theorem c_X1_hearing {G : GX} {d : Nat} {S : ST} {n : Nat} {Q : Int32 → ST → Prop} (hn : S.1 0 = nI n) (h12 : n ≤ 12) (hq : Q (bitsOf (fun v => decide (S.2.2.1 14 v = 0)) n) S) : Cn G d mX1_hearing [.ref (G.2.1 1)] S (qi Q) := by
  refine Cn.intro (lv := [(0, .ref (G.2.1 1))]) (by decide) (Nat.le_of_ble_eq_true rfl) rfl ?_
  refine V_iconst (v := 0) dX1_hearing_0 ki_0 ?_
  refine V_istore_n [(1, .int 0), (0, .ref (G.2.1 1))] dX1_hearing_1 rfl (Nat.le_of_ble_eq_true rfl) rfl ?_
  refine V_iconst (v := 0) dX1_hearing_2 ki_0 ?_
  refine V_istore_n [(2, .int 0), (1, .int 0), (0, .ref (G.2.1 1))] dX1_hearing_3 rfl (Nat.le_of_ble_eq_true rfl) rfl ?_
  refine V_lv [(2, .int 0), (1, .int 0), (0, .ref (G.2.1 1))] [0, 1, 2] rfl ?_
  exact lp_hearing hn h12 hq (n + 1) 0 (by omega) (by omega)
theorem lp_twins {G : GX} {d n ch : Nat} {ab : Int32} {S : ST} {Q : Int32 → ST → Prop} (hn : S.1 0 = nI n) (h12 : n ≤ 12) (hc : ch < 12) (hq : Q (bitsOf (fun c => decide (((S.2.2.1 10 c ^^^ S.2.2.1 10 ch) &&& ab) = 0)) n) S) : ∀ (k i : Nat), i ≤ n → n - i < k → V (pM G d mX1_twinsOf (qi Q)) 10 [(4, .int (nI i)), (3, .int (bitsOf (fun c => decide (((S.2.2.1 10 c ^^^ S.2.2.1 10 ch) &&& ab) = 0)) i)), (2, .int ab), (0, .ref (G.2.1 1)), (1, .int (nI ch))] [] S := by
  intro k
  induction k with
  | zero => intro i hi hk; exact absurd hk (Nat.not_lt_zero _)
  | succ k ih =>
    intro i hi hk
    refine V_iload dX1_twinsOf_10 0 rfl ?_
    refine V_aload_n dX1_twinsOf_12 rfl 3 rfl ?_
    refine g_1_0 tw_28 dX1_twinsOf_13 ?_
    refine V_topi (v := nI n) (hn) ?_
    refine V_icmp_gen 51 (a := i) (b := n) dX1_twinsOf_16 (by decide) (by omega) (by omega) (fun h1 => ?_) (fun h1 => ?_)
    · refine V_iload_n dX1_twinsOf_51 rfl 1 rfl ?_
      have hin : i = n := by omega
      subst hin
      exact V_iret rfl dX1_twinsOf_52 ⟨_, rfl, hq⟩
    · refine V_aload_n dX1_twinsOf_19 rfl 3 rfl ?_
      refine g_1_2 tw_36 dX1_twinsOf_20 ?_
      refine V_iload dX1_twinsOf_23 0 rfl ?_
      refine l_10n (by omega) dX1_twinsOf_25 ?_
      refine V_aload_n dX1_twinsOf_26 rfl 3 rfl ?_
      refine g_1_2 tw_36 dX1_twinsOf_27 ?_
      refine V_iload_n dX1_twinsOf_30 rfl 4 rfl ?_
      refine l_10n (by omega) dX1_twinsOf_31 ?_
      refine V_ixor dX1_twinsOf_32 ?_
      refine V_iload_n dX1_twinsOf_33 rfl 2 rfl ?_
      refine V_iand dX1_twinsOf_34 ?_
      refine V_if_ne 45 dX1_twinsOf_35 (by decide) (fun h2 => ?_) (fun h2 => ?_)
      · refine V_iinc [(4, .int (nI (i + 1))), (3, .int (bitsOf (fun c => decide (((S.2.2.1 10 c ^^^ S.2.2.1 10 ch) &&& ab) = 0)) i)), (2, .int ab), (0, .ref (G.2.1 1)), (1, .int (nI ch))] dX1_twinsOf_45 0 rfl (nI_1 _) (Nat.le_of_ble_eq_true rfl) rfl ?_
        refine V_goto 10 dX1_twinsOf_48 (by decide) ?_
        refine V_lv [(4, .int (nI (i + 1))), (3, .int (bitsOf (fun c => decide (((S.2.2.1 10 c ^^^ S.2.2.1 10 ch) &&& ab) = 0)) i)), (2, .int ab), (0, .ref (G.2.1 1)), (1, .int (nI ch))] [0, 1, 2, 3, 4] rfl ?_
        refine V_lveq [(4, .int (nI (i + 1))), (3, .int (bitsOf (fun c => decide (((S.2.2.1 10 c ^^^ S.2.2.1 10 ch) &&& ab) = 0)) (i + 1))), (2, .int ab), (0, .ref (G.2.1 1)), (1, .int (nI ch))] (by rw [bits_f (by simp [h2])]) ?_
        exact ih (i + 1) (by omega) (by omega)
      · refine V_iload_n dX1_twinsOf_38 rfl 1 rfl ?_
        refine V_iconst (v := 1) dX1_twinsOf_39 ki_1 ?_
        refine V_iload dX1_twinsOf_40 0 rfl ?_
        refine V_ishl dX1_twinsOf_42 ?_
        refine V_ior dX1_twinsOf_43 ?_
        refine V_istore_n [(3, .int ((bitsOf (fun c => decide (((S.2.2.1 10 c ^^^ S.2.2.1 10 ch) &&& ab) = 0)) i) ||| ((1 : Int32) <<< ((nI i) &&& 31)))), (4, .int (nI i)), (2, .int ab), (0, .ref (G.2.1 1)), (1, .int (nI ch))] dX1_twinsOf_44 rfl (Nat.le_of_ble_eq_true rfl) rfl ?_
        refine V_iinc [(4, .int (nI (i + 1))), (3, .int ((bitsOf (fun c => decide (((S.2.2.1 10 c ^^^ S.2.2.1 10 ch) &&& ab) = 0)) i) ||| ((1 : Int32) <<< ((nI i) &&& 31)))), (2, .int ab), (0, .ref (G.2.1 1)), (1, .int (nI ch))] dX1_twinsOf_45 1 rfl (nI_1 _) (Nat.le_of_ble_eq_true rfl) rfl ?_
        refine V_goto 10 dX1_twinsOf_48 (by decide) ?_
        refine V_lv [(4, .int (nI (i + 1))), (3, .int ((bitsOf (fun c => decide (((S.2.2.1 10 c ^^^ S.2.2.1 10 ch) &&& ab) = 0)) i) ||| ((1 : Int32) <<< ((nI i) &&& 31)))), (2, .int ab), (0, .ref (G.2.1 1)), (1, .int (nI ch))] [0, 1, 2, 3, 4] rfl ?_
        refine V_lveq [(4, .int (nI (i + 1))), (3, .int (bitsOf (fun c => decide (((S.2.2.1 10 c ^^^ S.2.2.1 10 ch) &&& ab) = 0)) (i + 1))), (2, .int ab), (0, .ref (G.2.1 1)), (1, .int (nI ch))] (by rw [bits_t (by simp [h2])]) ?_
        exact ih (i + 1) (by omega) (by omega)
theorem c_X1_twinsOf {G : GX} {d : Nat} {S : ST} {n ch : Nat} {Q : Int32 → ST → Prop} (hn : S.1 0 = nI n) (h12 : n ≤ 12) (hc : ch < 12) (hq : Q (bitsOf (fun c => decide (((S.2.2.1 10 c ^^^ S.2.2.1 10 ch) &&& bitsOf (fun v => decide (S.2.2.1 14 v = 0)) n) = 0)) n) S) : Cn G (d + 1) mX1_twinsOf [.ref (G.2.1 1), .int (nI ch)] S (qi Q) := by
  refine Cn.intro (lv := [(0, .ref (G.2.1 1)), (1, .int (nI ch))]) (by decide) (Nat.le_of_ble_eq_true rfl) rfl ?_
  refine V_aload_n dX1_twinsOf_0 rfl 0 rfl ?_
  refine V_cVi (P := pM G (d + 1) mX1_twinsOf _) (d := d) 1 (r := []) (As := []) (K := mX1_hearing) ok_X1_hearing tw_482 (ob_1 _) rfl (rmOk (Nat.le_of_ble_eq_true rfl)) (Nat.le_of_ble_eq_true rfl) dX1_twinsOf_1 rfl (c_X1_hearing hn h12 ?_)
  refine V_istore_n [(2, .int (bitsOf (fun v => decide (S.2.2.1 14 v = 0)) n)), (0, .ref (G.2.1 1)), (1, .int (nI ch))] dX1_twinsOf_4 rfl (Nat.le_of_ble_eq_true rfl) rfl ?_
  refine V_iconst (v := 0) dX1_twinsOf_5 ki_0 ?_
  refine V_istore_n [(3, .int 0), (2, .int (bitsOf (fun v => decide (S.2.2.1 14 v = 0)) n)), (0, .ref (G.2.1 1)), (1, .int (nI ch))] dX1_twinsOf_6 rfl (Nat.le_of_ble_eq_true rfl) rfl ?_
  refine V_iconst (v := 0) dX1_twinsOf_7 ki_0 ?_
  refine V_istore [(4, .int 0), (3, .int 0), (2, .int (bitsOf (fun v => decide (S.2.2.1 14 v = 0)) n)), (0, .ref (G.2.1 1)), (1, .int (nI ch))] dX1_twinsOf_8 (Nat.le_of_ble_eq_true rfl) rfl ?_
  refine V_lv [(4, .int 0), (3, .int 0), (2, .int (bitsOf (fun v => decide (S.2.2.1 14 v = 0)) n)), (0, .ref (G.2.1 1)), (1, .int (nI ch))] [0, 1, 2, 3, 4] rfl ?_
  exact lp_twins hn h12 hc hq (n + 1) 0 (by omega) (by omega)
theorem lp_sizes {G : GX} {d n : Nat} {s : Int32} {S : ST} {Q : Int32 → ST → Prop} (hn : S.1 0 = nI n) (h12 : n ≤ 12) (hq : Q (szs (S.2.2.1 11) s n) S) : ∀ (k i : Nat), i ≤ n → n - i < k → V (pM G (d + 1) mX1_sizes (qi Q)) 4 [(3, .int (nI i)), (2, .int (szs (S.2.2.1 11) s i)), (0, .ref (G.2.1 1)), (1, .int s)] [] S := by
  intro k
  induction k with
  | zero => intro i hi hk; exact absurd hk (Nat.not_lt_zero _)
  | succ k ih =>
    intro i hi hk
    refine V_iload_n dX1_sizes_4 rfl 0 rfl ?_
    refine V_aload_n dX1_sizes_5 rfl 2 rfl ?_
    refine g_1_0 tw_28 dX1_sizes_6 ?_
    refine V_topi (v := nI n) (hn) ?_
    refine V_icmp_gen 35 (a := i) (b := n) dX1_sizes_9 (by decide) (by omega) (by omega) (fun h1 => ?_) (fun h1 => ?_)
    · refine V_iload_n dX1_sizes_35 rfl 1 rfl ?_
      have hin : i = n := by omega
      subst hin
      exact V_iret rfl dX1_sizes_36 ⟨_, rfl, hq⟩
    · refine V_iload_n dX1_sizes_12 rfl 3 rfl ?_
      refine V_iload_n dX1_sizes_13 rfl 0 rfl ?_
      refine V_cNi (P := pM G (d + 1) mX1_sizes _) (d := d) (r := []) (As := [.int s, .int (nI i)]) (K := mX7_isBit) ok_X7_isBit nl_251 rfl (rmOk (Nat.le_of_ble_eq_true rfl)) (Nat.le_of_ble_eq_true rfl) dX1_sizes_14 rfl (c_X7_isBit (by omega) ?_)
      refine V_ifb_eq 29 dX1_sizes_17 (by decide) (fun h2 => ?_) (fun h2 => ?_)
      · refine V_iinc [(3, .int (nI (i + 1))), (2, .int (szs (S.2.2.1 11) s i)), (0, .ref (G.2.1 1)), (1, .int s)] dX1_sizes_29 0 rfl (nI_1 _) (Nat.le_of_ble_eq_true rfl) rfl ?_
        refine V_goto 4 dX1_sizes_32 (by decide) ?_
        refine V_lv [(3, .int (nI (i + 1))), (2, .int (szs (S.2.2.1 11) s i)), (0, .ref (G.2.1 1)), (1, .int s)] [0, 1, 2, 3] rfl ?_
        refine V_lveq [(3, .int (nI (i + 1))), (2, .int (szs (S.2.2.1 11) s (i + 1))), (0, .ref (G.2.1 1)), (1, .int s)] (by rw [szs_f h2]) ?_
        exact ih (i + 1) (by omega) (by omega)
      · refine V_iload_n dX1_sizes_20 rfl 1 rfl ?_
        refine V_aload_n dX1_sizes_21 rfl 2 rfl ?_
        refine g_1_3 tw_38 dX1_sizes_22 ?_
        refine V_iload_n dX1_sizes_25 rfl 0 rfl ?_
        refine l_11n (by omega) dX1_sizes_26 ?_
        refine V_iadd dX1_sizes_27 ?_
        refine V_istore_n [(2, .int ((szs (S.2.2.1 11) s i) + (S.2.2.1 11 i))), (3, .int (nI i)), (0, .ref (G.2.1 1)), (1, .int s)] dX1_sizes_28 rfl (Nat.le_of_ble_eq_true rfl) rfl ?_
        refine V_iinc [(3, .int (nI (i + 1))), (2, .int ((szs (S.2.2.1 11) s i) + (S.2.2.1 11 i))), (0, .ref (G.2.1 1)), (1, .int s)] dX1_sizes_29 1 rfl (nI_1 _) (Nat.le_of_ble_eq_true rfl) rfl ?_
        refine V_goto 4 dX1_sizes_32 (by decide) ?_
        refine V_lv [(3, .int (nI (i + 1))), (2, .int ((szs (S.2.2.1 11) s i) + (S.2.2.1 11 i))), (0, .ref (G.2.1 1)), (1, .int s)] [0, 1, 2, 3] rfl ?_
        refine V_lveq [(3, .int (nI (i + 1))), (2, .int (szs (S.2.2.1 11) s (i + 1))), (0, .ref (G.2.1 1)), (1, .int s)] (by rw [szs_t h2]) ?_
        exact ih (i + 1) (by omega) (by omega)
theorem c_X1_sizes {G : GX} {d : Nat} {S : ST} {n : Nat} {s : Int32} {Q : Int32 → ST → Prop} (hn : S.1 0 = nI n) (h12 : n ≤ 12) (hq : Q (szs (S.2.2.1 11) s n) S) : Cn G (d + 1) mX1_sizes [.ref (G.2.1 1), .int s] S (qi Q) := by
  refine Cn.intro (lv := [(0, .ref (G.2.1 1)), (1, .int s)]) (by decide) (Nat.le_of_ble_eq_true rfl) rfl ?_
  refine V_iconst (v := 0) dX1_sizes_0 ki_0 ?_
  refine V_istore_n [(2, .int 0), (0, .ref (G.2.1 1)), (1, .int s)] dX1_sizes_1 rfl (Nat.le_of_ble_eq_true rfl) rfl ?_
  refine V_iconst (v := 0) dX1_sizes_2 ki_0 ?_
  refine V_istore_n [(3, .int 0), (2, .int 0), (0, .ref (G.2.1 1)), (1, .int s)] dX1_sizes_3 rfl (Nat.le_of_ble_eq_true rfl) rfl ?_
  refine V_lv [(3, .int 0), (2, .int 0), (0, .ref (G.2.1 1)), (1, .int s)] [0, 1, 2, 3] rfl ?_
  exact lp_sizes hn h12 hq (n + 1) 0 (by omega) (by omega)
