theorem lsum_take {f : XT → Int64} {F : List XT} {k : Nat} {x : XT} (h : F[k]? = some x) : lsum f (F.take (k + 1)) = lsum f (F.take k) + f x := by
  rw [List.take_succ, h]
  exact lsum_app f _ x
theorem lsum_congr {f g : XT → Int64} : ∀ {L : List XT}, (∀ x, x ∈ L → f x = g x) → lsum f L = lsum g L := by
  intro L
  unfold lsum
  generalize (0 : Int64) = a
  induction L generalizing a with
  | nil => intro _; rfl
  | cons y L ih =>
    intro h
    simp only [List.foldl_cons]
    rw [h y List.mem_cons_self]
    exact ih _ (fun x hx => h x (List.mem_cons_of_mem _ hx))
theorem lsum_nz {S : ST} {m : Nat} {f : XT → Int64} (h : ∀ x, wX S m x = 0 → f x = 0) (L : List XT) : lsum f (nz S m L) = lsum f L := by
  unfold lsum
  generalize (0 : Int64) = a
  induction L generalizing a with
  | nil => rfl
  | cons y L ih =>
    unfold nz
    by_cases hy : wX S m y = 0
    · rw [List.filter_cons_of_neg (by simp [hy]), List.foldl_cons, h y hy, Int64.add_zero]
      exact ih a
    · rw [List.filter_cons_of_pos (by simp [hy]), List.foldl_cons, List.foldl_cons]
      exact ih _
def okX (n : Nat) (x : XT) : Prop := x.1 < 3 ∧ x.2.1 < n ∧ x.2.2 < n
theorem rows_ok {n s c : Nat} (hs : s < 3) (hc : c < n) : ∀ x, x ∈ rows s c n → okX n x := by
  intro x hx
  unfold rows at hx
  obtain ⟨d, hd, rfl⟩ := List.mem_map.mp hx
  exact ⟨hs, hc, List.mem_range.mp (List.mem_filter.mp hd).1⟩
theorem cs_ok {n s c : Nat} (hs : s < 3) (hc : c ≤ n) : ∀ x, x ∈ cs n s c → okX n x := by
  intro x hx
  unfold cs at hx
  obtain ⟨k, hk, hx⟩ := List.mem_flatMap.mp hx
  exact rows_ok hs (Nat.lt_of_lt_of_le (List.mem_range.mp hk) hc) x hx
theorem stl_ok {n : Nat} : ∀ x, x ∈ stl n → okX n x := by
  intro x hx
  unfold stl at hx
  rcases List.mem_append.mp hx with h | h
  · rcases List.mem_append.mp h with h | h
    · exact cs_ok (by omega) (Nat.le_refl n) x h
    · exact cs_ok (by omega) (Nat.le_refl n) x h
  · exact cs_ok (by omega) (Nat.le_refl n) x h
theorem nz_ok {S : ST} {m n k : Nat} {x : XT} (h : (nz S m (stl n))[k]? = some x) : okX n x := stl_ok x (List.mem_filter.mp (List.mem_of_getElem? h)).1
theorem plc_s {x : XT} (h1 : x.2.1 < 12) (h2 : x.2.2 < 12) : plc x / 144 = x.1 := by unfold plc; omega
theorem plc_c {x : XT} (h1 : x.2.1 < 12) (h2 : x.2.2 < 12) : plc x / 12 % 12 = x.2.1 := by unfold plc; omega
theorem plc_e {x : XT} (h2 : x.2.2 < 12) : plc x % 12 = x.2.2 := by unfold plc; omega
theorem plc_b {x : XT} (h0 : x.1 < 3) (h1 : x.2.1 < 12) (h2 : x.2.2 < 12) : plc x < 432 := by unfold plc; omega
theorem stl_len : ∀ n, n < 13 → (stl n).length ≤ 210 := by decide +kernel
theorem lp_wos {G : GX} {d n m : Nat} {S0 S : ST} {s : Nat} {Q : Int64 → ST → Prop} (hC : CS S0 m (stl n) S) (h12 : n ≤ 12) (hs : s < 3) (hq : Q (lsum (fun x => if x.1 = s then wX S0 m x else 0) (nz S0 m (stl n))) S) : ∀ (k i : Nat), i ≤ ((nz S0 m (stl n)).length) → ((nz S0 m (stl n)).length) - i < k → V (pM G (d + 1) mX4_weightOfSort (ql Q)) 5 [(4, .int (nI i)), (2, .long (lsum (fun x => if x.1 = s then wX S0 m x else 0) ((nz S0 m (stl n)).take i))), (0, .ref (G.2.1 3)), (1, .int (nI s))] [] S := by
  have hl1 := nz_len S0 m (stl n)
  have hl2 := stl_len n (by omega)
  intro k
  induction k with
  | zero => intro i hi hk; exact absurd hk (Nat.not_lt_zero _)
  | succ k ih =>
    intro i hi hk
    refine V_iload dX4_weightOfSort_5 0 rfl ?_
    refine V_aload_n dX4_weightOfSort_7 rfl 2 rfl ?_
    refine g_3_3 tw_95 dX4_weightOfSort_8 ?_
    refine V_topi (v := nI ((nz S0 m (stl n)).length)) (id hC.2.1) ?_
    refine V_icmp_gen 44 (a := i) (b := ((nz S0 m (stl n)).length)) dX4_weightOfSort_11 (by decide) (by omega) (by omega) (fun h1 => ?_) (fun h1 => ?_)
    · refine V_lload_n dX4_weightOfSort_44 rfl 1 rfl ?_
      have hin : i = ((nz S0 m (stl n)).length) := by omega
      refine V_lret rfl dX4_weightOfSort_45 ⟨_, rfl, ?_⟩
      exact qcast hq (by rw [hin, List.take_length])
    · obtain ⟨x, hx⟩ : ∃ x, (nz S0 m (stl n))[i]? = some x := ⟨_, List.getElem?_eq_getElem h1⟩
      obtain ⟨x1, x2, x3⟩ := hC.2.2.1 i x hx
      obtain ⟨y1, y2, y3⟩ := nz_ok hx
      refine V_aload_n dX4_weightOfSort_14 rfl 2 rfl ?_
      refine g_3_4 tw_96 dX4_weightOfSort_15 ?_
      refine V_iload dX4_weightOfSort_18 0 rfl ?_
      refine l_18n (by omega) dX4_weightOfSort_20 ?_
      refine V_topi (v := nI (plc x)) (id x1) ?_
      refine V_cNi (P := pM G (d + 1) mX4_weightOfSort _) (d := d) (r := []) (As := [.int (nI (plc x))]) (K := mX7_sortAt) ok_X7_sortAt nl_366 rfl (rmOk (Nat.le_of_ble_eq_true rfl)) (Nat.le_of_ble_eq_true rfl) dX4_weightOfSort_21 rfl (c_X7_sortAt (plc_b y1 (by omega) (by omega)) ?_)
      refine V_topi (v := nI (x.1)) (by rw [plc_s (by omega) (by omega)]) ?_
      refine V_iload_n dX4_weightOfSort_24 rfl 3 rfl ?_
      refine V_icmp_nen 38 (a := (x.1)) (b := s) dX4_weightOfSort_25 (by decide) (by omega) (by omega) (fun h2 => ?_) (fun h2 => ?_)
      · refine V_iinc [(4, .int (nI (i + 1))), (2, .long (lsum (fun x => if x.1 = s then wX S0 m x else 0) ((nz S0 m (stl n)).take i))), (0, .ref (G.2.1 3)), (1, .int (nI s))] dX4_weightOfSort_38 0 rfl (nI_1 _) (Nat.le_of_ble_eq_true rfl) rfl ?_
        refine V_goto 5 dX4_weightOfSort_41 (by decide) ?_
        refine V_lv [(4, .int (nI (i + 1))), (2, .long (lsum (fun x => if x.1 = s then wX S0 m x else 0) ((nz S0 m (stl n)).take i))), (0, .ref (G.2.1 3)), (1, .int (nI s))] [0, 1, 2, 3] rfl ?_
        refine V_lveq [(4, .int (nI (i + 1))), (2, .long (lsum (fun x => if x.1 = s then wX S0 m x else 0) ((nz S0 m (stl n)).take (i + 1)))), (0, .ref (G.2.1 3)), (1, .int (nI s))] (by rw [lsum_take hx]; simp [h2]) ?_
        exact ih (i + 1) (by omega) (by omega)
      · refine V_lload_n dX4_weightOfSort_28 rfl 1 rfl ?_
        refine V_aload_n dX4_weightOfSort_29 rfl 2 rfl ?_
        refine g_3_5 tw_97 dX4_weightOfSort_30 ?_
        refine V_iload dX4_weightOfSort_33 0 rfl ?_
        refine l_19n (by omega) dX4_weightOfSort_35 ?_
        refine V_topl (v := wX S0 m x) (id x2) ?_
        refine V_ladd dX4_weightOfSort_36 ?_
        refine V_lstore_n [(2, .long ((lsum (fun x => if x.1 = s then wX S0 m x else 0) ((nz S0 m (stl n)).take i)) + (wX S0 m x))), (4, .int (nI i)), (0, .ref (G.2.1 3)), (1, .int (nI s))] dX4_weightOfSort_37 rfl (Nat.le_of_ble_eq_true rfl) rfl ?_
        refine V_iinc [(4, .int (nI (i + 1))), (2, .long ((lsum (fun x => if x.1 = s then wX S0 m x else 0) ((nz S0 m (stl n)).take i)) + (wX S0 m x))), (0, .ref (G.2.1 3)), (1, .int (nI s))] dX4_weightOfSort_38 1 rfl (nI_1 _) (Nat.le_of_ble_eq_true rfl) rfl ?_
        refine V_goto 5 dX4_weightOfSort_41 (by decide) ?_
        refine V_lv [(4, .int (nI (i + 1))), (2, .long ((lsum (fun x => if x.1 = s then wX S0 m x else 0) ((nz S0 m (stl n)).take i)) + (wX S0 m x))), (0, .ref (G.2.1 3)), (1, .int (nI s))] [0, 1, 2, 3] rfl ?_
        refine V_lveq [(4, .int (nI (i + 1))), (2, .long (lsum (fun x => if x.1 = s then wX S0 m x else 0) ((nz S0 m (stl n)).take (i + 1)))), (0, .ref (G.2.1 3)), (1, .int (nI s))] (by rw [lsum_take hx]; simp [h2]) ?_
        exact ih (i + 1) (by omega) (by omega)
theorem c_X4_weightOfSort {G : GX} {d : Nat} {S : ST} {S0 : ST} {n m s : Nat} {Q : Int64 → ST → Prop} (hC : CS S0 m (stl n) S) (h12 : n ≤ 12) (hs : s < 3) (hq : Q (lsum (fun x => if x.1 = s then wX S0 m x else 0) (stl n)) S) : Cn G (d + 1) mX4_weightOfSort [.ref (G.2.1 3), .int (nI s)] S (ql Q) := by
  refine Cn.intro (lv := [(0, .ref (G.2.1 3)), (1, .int (nI s))]) (by decide) (Nat.le_of_ble_eq_true rfl) rfl ?_
  refine V_lconst (v := 0) dX4_weightOfSort_0 rfl ?_
  refine V_lstore_n [(2, .long 0), (0, .ref (G.2.1 3)), (1, .int (nI s))] dX4_weightOfSort_1 rfl (Nat.le_of_ble_eq_true rfl) rfl ?_
  refine V_iconst (v := 0) dX4_weightOfSort_2 ki_0 ?_
  refine V_istore [(4, .int 0), (2, .long 0), (0, .ref (G.2.1 3)), (1, .int (nI s))] dX4_weightOfSort_3 (Nat.le_of_ble_eq_true rfl) rfl ?_
  refine V_lv [(4, .int 0), (2, .long 0), (0, .ref (G.2.1 3)), (1, .int (nI s))] [0, 1, 2, 3] rfl ?_
  refine V_lveq [(4, .int 0), (2, .long (lsum (fun x => if x.1 = s then wX S0 m x else 0) ((nz S0 m (stl n)).take 0))), (0, .ref (G.2.1 3)), (1, .int (nI s))] (by rfl) ?_
  exact lp_wos hC h12 hs (qcast hq (lsum_nz (fun x hx => by simp [hx]) _)) (((nz S0 m (stl n)).length) + 1) 0 (by omega) (by omega)
theorem lp_wbl {G : GX} {d n m : Nat} {S0 S : ST} {b : Nat} {Q : Int64 → ST → Prop} (hC : CS S0 m (stl n) S) (h12 : n ≤ 12) (hb : b < 12) (hq : Q (lsum (fun x => if x.2.1 = b ∨ (x.1 = 1 ∧ x.2.2 = b) then wX S0 m x else 0) (nz S0 m (stl n))) S) : ∀ (k i : Nat), i ≤ ((nz S0 m (stl n)).length) → ((nz S0 m (stl n)).length) - i < k → V (pM G (d + 1) mX4_weightBlaming (ql Q)) 5 [(4, .int (nI i)), (2, .long (lsum (fun x => if x.2.1 = b ∨ (x.1 = 1 ∧ x.2.2 = b) then wX S0 m x else 0) ((nz S0 m (stl n)).take i))), (0, .ref (G.2.1 3)), (1, .int (nI b))] [] S := by
  have hl1 := nz_len S0 m (stl n)
  have hl2 := stl_len n (by omega)
  intro k
  induction k with
  | zero => intro i hi hk; exact absurd hk (Nat.not_lt_zero _)
  | succ k ih =>
    intro i hi hk
    refine V_iload dX4_weightBlaming_5 0 rfl ?_
    refine V_aload_n dX4_weightBlaming_7 rfl 2 rfl ?_
    refine g_3_3 tw_95 dX4_weightBlaming_8 ?_
    refine V_topi (v := nI ((nz S0 m (stl n)).length)) (id hC.2.1) ?_
    refine V_icmp_gen 84 (a := i) (b := ((nz S0 m (stl n)).length)) dX4_weightBlaming_11 (by decide) (by omega) (by omega) (fun h1 => ?_) (fun h1 => ?_)
    · refine V_lload_n dX4_weightBlaming_84 rfl 1 rfl ?_
      have hin : i = ((nz S0 m (stl n)).length) := by omega
      refine V_lret rfl dX4_weightBlaming_85 ⟨_, rfl, ?_⟩
      exact qcast hq (by rw [hin, List.take_length])
    · obtain ⟨x, hx⟩ : ∃ x, (nz S0 m (stl n))[i]? = some x := ⟨_, List.getElem?_eq_getElem h1⟩
      obtain ⟨x1, x2, x3⟩ := hC.2.2.1 i x hx
      obtain ⟨y1, y2, y3⟩ := nz_ok hx
      refine V_aload_n dX4_weightBlaming_14 rfl 2 rfl ?_
      refine g_3_4 tw_96 dX4_weightBlaming_15 ?_
      refine V_iload dX4_weightBlaming_18 0 rfl ?_
      refine l_18n (by omega) dX4_weightBlaming_20 ?_
      refine V_topi (v := nI (plc x)) (id x1) ?_
      refine V_cNi (P := pM G (d + 1) mX4_weightBlaming _) (d := d) (r := []) (As := [.int (nI (plc x))]) (K := mX7_sortAt) ok_X7_sortAt nl_366 rfl (rmOk (Nat.le_of_ble_eq_true rfl)) (Nat.le_of_ble_eq_true rfl) dX4_weightBlaming_21 rfl (c_X7_sortAt (plc_b y1 (by omega) (by omega)) ?_)
      refine V_topi (v := nI (x.1)) (by rw [plc_s (by omega) (by omega)]) ?_
      refine V_iconst (v := 1) dX4_weightBlaming_24 ki_1 ?_
      refine V_icmp_nen 46 (a := (x.1)) (b := 1) dX4_weightBlaming_25 (by decide) (by omega) (by omega) (fun h2 => ?_) (fun h2 => ?_)
      · refine V_iconst (v := 0) dX4_weightBlaming_46 ki_0 ?_
        refine V_istore [(5, .int 0), (4, .int (nI i)), (2, .long (lsum (fun x => if x.2.1 = b ∨ (x.1 = 1 ∧ x.2.2 = b) then wX S0 m x else 0) ((nz S0 m (stl n)).take i))), (0, .ref (G.2.1 3)), (1, .int (nI b))] dX4_weightBlaming_47 (Nat.le_of_ble_eq_true rfl) rfl ?_
        refine V_aload_n dX4_weightBlaming_49 rfl 3 rfl ?_
        refine g_3_4 tw_96 dX4_weightBlaming_50 ?_
        refine V_iload dX4_weightBlaming_53 1 rfl ?_
        refine l_18n (by omega) dX4_weightBlaming_55 ?_
        refine V_topi (v := nI (plc x)) (id x1) ?_
        refine V_cNi (P := pM G (d + 1) mX4_weightBlaming _) (d := d) (r := []) (As := [.int (nI (plc x))]) (K := mX7_firstAt) ok_X7_firstAt nl_381 rfl (rmOk (Nat.le_of_ble_eq_true rfl)) (Nat.le_of_ble_eq_true rfl) dX4_weightBlaming_56 rfl (c_X7_firstAt (plc_b y1 (by omega) (by omega)) ?_)
        refine V_topi (v := nI (x.2.1)) (by rw [plc_c (by omega) (by omega)]) ?_
        refine V_iload_n dX4_weightBlaming_59 rfl 4 rfl ?_
        refine V_icmp_eqn 68 (a := (x.2.1)) (b := b) dX4_weightBlaming_60 (by decide) (by omega) (by omega) (fun h3 => ?_) (fun h3 => ?_)
        · refine V_lload_n dX4_weightBlaming_68 rfl 2 rfl ?_
          refine V_aload_n dX4_weightBlaming_69 rfl 3 rfl ?_
          refine g_3_5 tw_97 dX4_weightBlaming_70 ?_
          refine V_iload dX4_weightBlaming_73 1 rfl ?_
          refine l_19n (by omega) dX4_weightBlaming_75 ?_
          refine V_topl (v := wX S0 m x) (id x2) ?_
          refine V_ladd dX4_weightBlaming_76 ?_
          refine V_lstore_n [(2, .long ((lsum (fun x => if x.2.1 = b ∨ (x.1 = 1 ∧ x.2.2 = b) then wX S0 m x else 0) ((nz S0 m (stl n)).take i)) + (wX S0 m x))), (5, .int 0), (4, .int (nI i)), (0, .ref (G.2.1 3)), (1, .int (nI b))] dX4_weightBlaming_77 rfl (Nat.le_of_ble_eq_true rfl) rfl ?_
          refine V_iinc [(4, .int (nI (i + 1))), (2, .long ((lsum (fun x => if x.2.1 = b ∨ (x.1 = 1 ∧ x.2.2 = b) then wX S0 m x else 0) ((nz S0 m (stl n)).take i)) + (wX S0 m x))), (5, .int 0), (0, .ref (G.2.1 3)), (1, .int (nI b))] dX4_weightBlaming_78 2 rfl (nI_1 _) (Nat.le_of_ble_eq_true rfl) rfl ?_
          refine V_goto 5 dX4_weightBlaming_81 (by decide) ?_
          refine V_lv [(4, .int (nI (i + 1))), (2, .long ((lsum (fun x => if x.2.1 = b ∨ (x.1 = 1 ∧ x.2.2 = b) then wX S0 m x else 0) ((nz S0 m (stl n)).take i)) + (wX S0 m x))), (0, .ref (G.2.1 3)), (1, .int (nI b))] [0, 1, 3, 4] rfl ?_
          refine V_lveq [(4, .int (nI (i + 1))), (2, .long (lsum (fun x => if x.2.1 = b ∨ (x.1 = 1 ∧ x.2.2 = b) then wX S0 m x else 0) ((nz S0 m (stl n)).take (i + 1)))), (0, .ref (G.2.1 3)), (1, .int (nI b))] (by rw [lsum_take hx]; simp [h2, h3]) ?_
          exact ih (i + 1) (by omega) (by omega)
        · refine V_iload dX4_weightBlaming_63 0 rfl ?_
          refine V_if_eq 78 dX4_weightBlaming_65 (by decide) (fun _ => ?_) (fun hz => absurd hz (by decide))
          refine V_iinc [(4, .int (nI (i + 1))), (5, .int 0), (2, .long (lsum (fun x => if x.2.1 = b ∨ (x.1 = 1 ∧ x.2.2 = b) then wX S0 m x else 0) ((nz S0 m (stl n)).take i))), (0, .ref (G.2.1 3)), (1, .int (nI b))] dX4_weightBlaming_78 1 rfl (nI_1 _) (Nat.le_of_ble_eq_true rfl) rfl ?_
          refine V_goto 5 dX4_weightBlaming_81 (by decide) ?_
          refine V_lv [(4, .int (nI (i + 1))), (2, .long (lsum (fun x => if x.2.1 = b ∨ (x.1 = 1 ∧ x.2.2 = b) then wX S0 m x else 0) ((nz S0 m (stl n)).take i))), (0, .ref (G.2.1 3)), (1, .int (nI b))] [0, 2, 3, 4] rfl ?_
          refine V_lveq [(4, .int (nI (i + 1))), (2, .long (lsum (fun x => if x.2.1 = b ∨ (x.1 = 1 ∧ x.2.2 = b) then wX S0 m x else 0) ((nz S0 m (stl n)).take (i + 1)))), (0, .ref (G.2.1 3)), (1, .int (nI b))] (by rw [lsum_take hx]; simp [h2, h3]) ?_
          exact ih (i + 1) (by omega) (by omega)
      · refine V_aload_n dX4_weightBlaming_28 rfl 2 rfl ?_
        refine g_3_4 tw_96 dX4_weightBlaming_29 ?_
        refine V_iload dX4_weightBlaming_32 0 rfl ?_
        refine l_18n (by omega) dX4_weightBlaming_34 ?_
        refine V_topi (v := nI (plc x)) (id x1) ?_
        refine V_cNi (P := pM G (d + 1) mX4_weightBlaming _) (d := d) (r := []) (As := [.int (nI (plc x))]) (K := mX7_secondAt) ok_X7_secondAt nl_378 rfl (rmOk (Nat.le_of_ble_eq_true rfl)) (Nat.le_of_ble_eq_true rfl) dX4_weightBlaming_35 rfl (c_X7_secondAt (plc_b y1 (by omega) (by omega)) ?_)
        refine V_topi (v := nI (x.2.2)) (by rw [plc_e (by omega)]) ?_
        refine V_iload_n dX4_weightBlaming_38 rfl 3 rfl ?_
        refine V_icmp_nen 46 (a := (x.2.2)) (b := b) dX4_weightBlaming_39 (by decide) (by omega) (by omega) (fun h4 => ?_) (fun h4 => ?_)
        · refine V_iconst (v := 0) dX4_weightBlaming_46 ki_0 ?_
          refine V_istore [(5, .int 0), (4, .int (nI i)), (2, .long (lsum (fun x => if x.2.1 = b ∨ (x.1 = 1 ∧ x.2.2 = b) then wX S0 m x else 0) ((nz S0 m (stl n)).take i))), (0, .ref (G.2.1 3)), (1, .int (nI b))] dX4_weightBlaming_47 (Nat.le_of_ble_eq_true rfl) rfl ?_
          refine V_aload_n dX4_weightBlaming_49 rfl 3 rfl ?_
          refine g_3_4 tw_96 dX4_weightBlaming_50 ?_
          refine V_iload dX4_weightBlaming_53 1 rfl ?_
          refine l_18n (by omega) dX4_weightBlaming_55 ?_
          refine V_topi (v := nI (plc x)) (id x1) ?_
          refine V_cNi (P := pM G (d + 1) mX4_weightBlaming _) (d := d) (r := []) (As := [.int (nI (plc x))]) (K := mX7_firstAt) ok_X7_firstAt nl_381 rfl (rmOk (Nat.le_of_ble_eq_true rfl)) (Nat.le_of_ble_eq_true rfl) dX4_weightBlaming_56 rfl (c_X7_firstAt (plc_b y1 (by omega) (by omega)) ?_)
          refine V_topi (v := nI (x.2.1)) (by rw [plc_c (by omega) (by omega)]) ?_
          refine V_iload_n dX4_weightBlaming_59 rfl 4 rfl ?_
          refine V_icmp_eqn 68 (a := (x.2.1)) (b := b) dX4_weightBlaming_60 (by decide) (by omega) (by omega) (fun h5 => ?_) (fun h5 => ?_)
          · refine V_lload_n dX4_weightBlaming_68 rfl 2 rfl ?_
            refine V_aload_n dX4_weightBlaming_69 rfl 3 rfl ?_
            refine g_3_5 tw_97 dX4_weightBlaming_70 ?_
            refine V_iload dX4_weightBlaming_73 1 rfl ?_
            refine l_19n (by omega) dX4_weightBlaming_75 ?_
            refine V_topl (v := wX S0 m x) (id x2) ?_
            refine V_ladd dX4_weightBlaming_76 ?_
            refine V_lstore_n [(2, .long ((lsum (fun x => if x.2.1 = b ∨ (x.1 = 1 ∧ x.2.2 = b) then wX S0 m x else 0) ((nz S0 m (stl n)).take i)) + (wX S0 m x))), (5, .int 0), (4, .int (nI i)), (0, .ref (G.2.1 3)), (1, .int (nI b))] dX4_weightBlaming_77 rfl (Nat.le_of_ble_eq_true rfl) rfl ?_
            refine V_iinc [(4, .int (nI (i + 1))), (2, .long ((lsum (fun x => if x.2.1 = b ∨ (x.1 = 1 ∧ x.2.2 = b) then wX S0 m x else 0) ((nz S0 m (stl n)).take i)) + (wX S0 m x))), (5, .int 0), (0, .ref (G.2.1 3)), (1, .int (nI b))] dX4_weightBlaming_78 2 rfl (nI_1 _) (Nat.le_of_ble_eq_true rfl) rfl ?_
            refine V_goto 5 dX4_weightBlaming_81 (by decide) ?_
            refine V_lv [(4, .int (nI (i + 1))), (2, .long ((lsum (fun x => if x.2.1 = b ∨ (x.1 = 1 ∧ x.2.2 = b) then wX S0 m x else 0) ((nz S0 m (stl n)).take i)) + (wX S0 m x))), (0, .ref (G.2.1 3)), (1, .int (nI b))] [0, 1, 3, 4] rfl ?_
            refine V_lveq [(4, .int (nI (i + 1))), (2, .long (lsum (fun x => if x.2.1 = b ∨ (x.1 = 1 ∧ x.2.2 = b) then wX S0 m x else 0) ((nz S0 m (stl n)).take (i + 1)))), (0, .ref (G.2.1 3)), (1, .int (nI b))] (by rw [lsum_take hx]; simp [h2, h4, h5]) ?_
            exact ih (i + 1) (by omega) (by omega)
          · refine V_iload dX4_weightBlaming_63 0 rfl ?_
            refine V_if_eq 78 dX4_weightBlaming_65 (by decide) (fun _ => ?_) (fun hz => absurd hz (by decide))
            refine V_iinc [(4, .int (nI (i + 1))), (5, .int 0), (2, .long (lsum (fun x => if x.2.1 = b ∨ (x.1 = 1 ∧ x.2.2 = b) then wX S0 m x else 0) ((nz S0 m (stl n)).take i))), (0, .ref (G.2.1 3)), (1, .int (nI b))] dX4_weightBlaming_78 1 rfl (nI_1 _) (Nat.le_of_ble_eq_true rfl) rfl ?_
            refine V_goto 5 dX4_weightBlaming_81 (by decide) ?_
            refine V_lv [(4, .int (nI (i + 1))), (2, .long (lsum (fun x => if x.2.1 = b ∨ (x.1 = 1 ∧ x.2.2 = b) then wX S0 m x else 0) ((nz S0 m (stl n)).take i))), (0, .ref (G.2.1 3)), (1, .int (nI b))] [0, 2, 3, 4] rfl ?_
            refine V_lveq [(4, .int (nI (i + 1))), (2, .long (lsum (fun x => if x.2.1 = b ∨ (x.1 = 1 ∧ x.2.2 = b) then wX S0 m x else 0) ((nz S0 m (stl n)).take (i + 1)))), (0, .ref (G.2.1 3)), (1, .int (nI b))] (by rw [lsum_take hx]; simp [h2, h4, h5]) ?_
            exact ih (i + 1) (by omega) (by omega)
        · refine V_iconst (v := 1) dX4_weightBlaming_42 ki_1 ?_
          refine V_goto 47 dX4_weightBlaming_43 (by decide) ?_
          refine V_istore [(5, .int 1), (4, .int (nI i)), (2, .long (lsum (fun x => if x.2.1 = b ∨ (x.1 = 1 ∧ x.2.2 = b) then wX S0 m x else 0) ((nz S0 m (stl n)).take i))), (0, .ref (G.2.1 3)), (1, .int (nI b))] dX4_weightBlaming_47 (Nat.le_of_ble_eq_true rfl) rfl ?_
          refine V_aload_n dX4_weightBlaming_49 rfl 3 rfl ?_
          refine g_3_4 tw_96 dX4_weightBlaming_50 ?_
          refine V_iload dX4_weightBlaming_53 1 rfl ?_
          refine l_18n (by omega) dX4_weightBlaming_55 ?_
          refine V_topi (v := nI (plc x)) (id x1) ?_
          refine V_cNi (P := pM G (d + 1) mX4_weightBlaming _) (d := d) (r := []) (As := [.int (nI (plc x))]) (K := mX7_firstAt) ok_X7_firstAt nl_381 rfl (rmOk (Nat.le_of_ble_eq_true rfl)) (Nat.le_of_ble_eq_true rfl) dX4_weightBlaming_56 rfl (c_X7_firstAt (plc_b y1 (by omega) (by omega)) ?_)
          refine V_topi (v := nI (x.2.1)) (by rw [plc_c (by omega) (by omega)]) ?_
          refine V_iload_n dX4_weightBlaming_59 rfl 4 rfl ?_
          refine V_icmp_eqn 68 (a := (x.2.1)) (b := b) dX4_weightBlaming_60 (by decide) (by omega) (by omega) (fun h6 => ?_) (fun h6 => ?_)
          · refine V_lload_n dX4_weightBlaming_68 rfl 2 rfl ?_
            refine V_aload_n dX4_weightBlaming_69 rfl 3 rfl ?_
            refine g_3_5 tw_97 dX4_weightBlaming_70 ?_
            refine V_iload dX4_weightBlaming_73 1 rfl ?_
            refine l_19n (by omega) dX4_weightBlaming_75 ?_
            refine V_topl (v := wX S0 m x) (id x2) ?_
            refine V_ladd dX4_weightBlaming_76 ?_
            refine V_lstore_n [(2, .long ((lsum (fun x => if x.2.1 = b ∨ (x.1 = 1 ∧ x.2.2 = b) then wX S0 m x else 0) ((nz S0 m (stl n)).take i)) + (wX S0 m x))), (5, .int 1), (4, .int (nI i)), (0, .ref (G.2.1 3)), (1, .int (nI b))] dX4_weightBlaming_77 rfl (Nat.le_of_ble_eq_true rfl) rfl ?_
            refine V_iinc [(4, .int (nI (i + 1))), (2, .long ((lsum (fun x => if x.2.1 = b ∨ (x.1 = 1 ∧ x.2.2 = b) then wX S0 m x else 0) ((nz S0 m (stl n)).take i)) + (wX S0 m x))), (5, .int 1), (0, .ref (G.2.1 3)), (1, .int (nI b))] dX4_weightBlaming_78 2 rfl (nI_1 _) (Nat.le_of_ble_eq_true rfl) rfl ?_
            refine V_goto 5 dX4_weightBlaming_81 (by decide) ?_
            refine V_lv [(4, .int (nI (i + 1))), (2, .long ((lsum (fun x => if x.2.1 = b ∨ (x.1 = 1 ∧ x.2.2 = b) then wX S0 m x else 0) ((nz S0 m (stl n)).take i)) + (wX S0 m x))), (0, .ref (G.2.1 3)), (1, .int (nI b))] [0, 1, 3, 4] rfl ?_
            refine V_lveq [(4, .int (nI (i + 1))), (2, .long (lsum (fun x => if x.2.1 = b ∨ (x.1 = 1 ∧ x.2.2 = b) then wX S0 m x else 0) ((nz S0 m (stl n)).take (i + 1)))), (0, .ref (G.2.1 3)), (1, .int (nI b))] (by rw [lsum_take hx]; simp [h2, h4, h6]) ?_
            exact ih (i + 1) (by omega) (by omega)
          · refine V_iload dX4_weightBlaming_63 0 rfl ?_
            refine V_if_eq 78 dX4_weightBlaming_65 (by decide) (fun hz => absurd hz (by decide)) (fun _ => ?_)
            refine V_lload_n dX4_weightBlaming_68 rfl 2 rfl ?_
            refine V_aload_n dX4_weightBlaming_69 rfl 3 rfl ?_
            refine g_3_5 tw_97 dX4_weightBlaming_70 ?_
            refine V_iload dX4_weightBlaming_73 1 rfl ?_
            refine l_19n (by omega) dX4_weightBlaming_75 ?_
            refine V_topl (v := wX S0 m x) (id x2) ?_
            refine V_ladd dX4_weightBlaming_76 ?_
            refine V_lstore_n [(2, .long ((lsum (fun x => if x.2.1 = b ∨ (x.1 = 1 ∧ x.2.2 = b) then wX S0 m x else 0) ((nz S0 m (stl n)).take i)) + (wX S0 m x))), (5, .int 1), (4, .int (nI i)), (0, .ref (G.2.1 3)), (1, .int (nI b))] dX4_weightBlaming_77 rfl (Nat.le_of_ble_eq_true rfl) rfl ?_
            refine V_iinc [(4, .int (nI (i + 1))), (2, .long ((lsum (fun x => if x.2.1 = b ∨ (x.1 = 1 ∧ x.2.2 = b) then wX S0 m x else 0) ((nz S0 m (stl n)).take i)) + (wX S0 m x))), (5, .int 1), (0, .ref (G.2.1 3)), (1, .int (nI b))] dX4_weightBlaming_78 2 rfl (nI_1 _) (Nat.le_of_ble_eq_true rfl) rfl ?_
            refine V_goto 5 dX4_weightBlaming_81 (by decide) ?_
            refine V_lv [(4, .int (nI (i + 1))), (2, .long ((lsum (fun x => if x.2.1 = b ∨ (x.1 = 1 ∧ x.2.2 = b) then wX S0 m x else 0) ((nz S0 m (stl n)).take i)) + (wX S0 m x))), (0, .ref (G.2.1 3)), (1, .int (nI b))] [0, 1, 3, 4] rfl ?_
            refine V_lveq [(4, .int (nI (i + 1))), (2, .long (lsum (fun x => if x.2.1 = b ∨ (x.1 = 1 ∧ x.2.2 = b) then wX S0 m x else 0) ((nz S0 m (stl n)).take (i + 1)))), (0, .ref (G.2.1 3)), (1, .int (nI b))] (by rw [lsum_take hx]; simp [h2, h4, h6]) ?_
            exact ih (i + 1) (by omega) (by omega)
theorem c_X4_weightBlaming {G : GX} {d : Nat} {S : ST} {S0 : ST} {n m b : Nat} {Q : Int64 → ST → Prop} (hC : CS S0 m (stl n) S) (h12 : n ≤ 12) (hb : b < 12) (hq : Q (lsum (fun x => if x.2.1 = b ∨ (x.1 = 1 ∧ x.2.2 = b) then wX S0 m x else 0) (stl n)) S) : Cn G (d + 1) mX4_weightBlaming [.ref (G.2.1 3), .int (nI b)] S (ql Q) := by
  refine Cn.intro (lv := [(0, .ref (G.2.1 3)), (1, .int (nI b))]) (by decide) (Nat.le_of_ble_eq_true rfl) rfl ?_
  refine V_lconst (v := 0) dX4_weightBlaming_0 rfl ?_
  refine V_lstore_n [(2, .long 0), (0, .ref (G.2.1 3)), (1, .int (nI b))] dX4_weightBlaming_1 rfl (Nat.le_of_ble_eq_true rfl) rfl ?_
  refine V_iconst (v := 0) dX4_weightBlaming_2 ki_0 ?_
  refine V_istore [(4, .int 0), (2, .long 0), (0, .ref (G.2.1 3)), (1, .int (nI b))] dX4_weightBlaming_3 (Nat.le_of_ble_eq_true rfl) rfl ?_
  refine V_lv [(4, .int 0), (2, .long 0), (0, .ref (G.2.1 3)), (1, .int (nI b))] [0, 1, 2, 3] rfl ?_
  refine V_lveq [(4, .int 0), (2, .long (lsum (fun x => if x.2.1 = b ∨ (x.1 = 1 ∧ x.2.2 = b) then wX S0 m x else 0) ((nz S0 m (stl n)).take 0))), (0, .ref (G.2.1 3)), (1, .int (nI b))] (by rfl) ?_
  exact lp_wbl hC h12 hb (qcast hq (lsum_nz (fun x hx => by simp [hx]) _)) (((nz S0 m (stl n)).length) + 1) 0 (by omega) (by omega)
