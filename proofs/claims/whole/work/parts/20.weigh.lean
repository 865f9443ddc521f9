def al (s c d : Nat) : Bool := if s = 0 then decide (d = c) else if s = 1 then decide (c < d) else decide (d ≠ c)
def rows (s c j : Nat) : List XT := ((List.range j).filter (al s c)).map (fun d => (s, c, d))
theorem rows_t {s c j : Nat} (h : al s c j = true) : rows s c (j + 1) = rows s c j ++ [(s, c, j)] := by unfold rows; rw [List.range_succ, List.filter_append, List.map_append]; simp [h]
theorem rows_f {s c j : Nat} (h : al s c j = false) : rows s c (j + 1) = rows s c j := by unfold rows; rw [List.range_succ, List.filter_append, List.map_append]; simp [h]
theorem rows_nil {s c : Nat} : ∀ {j : Nat}, (∀ k, k < j → al s c k = false) → rows s c j = []
  | 0, _ => rfl
  | j + 1, h => by rw [rows_f (h j (by omega)), rows_nil (fun k hk => h k (by omega))]
theorem rows_stay {s c i : Nat} : ∀ {j : Nat}, i ≤ j → (∀ k, i ≤ k → k < j → al s c k = false) → rows s c j = rows s c i
  | 0, hi, _ => by rw [show i = 0 by omega]
  | j + 1, hi, h => by
    by_cases e : i = j + 1
    · rw [e]
    · rw [rows_f (h j (by omega) (by omega)), rows_stay (by omega) (fun k a b => h k a (by omega))]
theorem rows_mono {s c i : Nat} : ∀ {j : Nat}, i ≤ j → (rows s c i).length ≤ (rows s c j).length
  | 0, hi => by rw [show i = 0 by omega]; exact Nat.le_refl _
  | j + 1, hi => by
    by_cases e : i = j + 1
    · rw [e]; exact Nat.le_refl _
    · refine Nat.le_trans (rows_mono (show i ≤ j by omega)) ?_
      cases h : al s c j
      · rw [rows_f h]; exact Nat.le_refl _
      · rw [rows_t h, List.length_append]; omega
def cs (n s c : Nat) : List XT := (List.range c).flatMap (fun k => rows s k n)
theorem cs_succ (n s c : Nat) : cs n s (c + 1) = cs n s c ++ rows s c n := by unfold cs; rw [List.range_succ, List.flatMap_append]; simp
theorem cs_0 (n s : Nat) : cs n s 0 = [] := rfl
def Pf (n s : Nat) : List XT := if s = 0 then [] else if s = 1 then cs n 0 n else cs n 0 n ++ cs n 1 n
def stl (n : Nat) : List XT := cs n 0 n ++ cs n 1 n ++ cs n 2 n
theorem len_ok : ∀ n, n < 13 → ∀ s, s < 3 → ∀ c, c < n → (Pf n s ++ cs n s c).length + (rows s c n).length ≤ 210 := by decide +kernel
theorem al0 {c j : Nat} : al 0 c j = decide (j = c) := rfl
theorem al1 {c j : Nat} : al 1 c j = decide (c < j) := rfl
theorem al2 {c j : Nat} : al 2 c j = decide (j ≠ c) := rfl
theorem lp_wf0 {G : GX} {d n m c : Nat} {S0 : ST} {L : List XT} {Q : ST → Prop} (hD : DT S0 m) (h12 : n ≤ 12) (hc : c < n) (hlen : L.length + (rows 0 c n).length ≤ 210) (hq : ∀ S2, CS S0 m (L ++ rows 0 c n) S2 → Q S2) : ∀ (k j : Nat) (S : ST), c ≤ j → j ≤ c + 1 → c + 1 - j < k → CS S0 m (L ++ rows 0 c j) S → V (pM G (d + 3) mX4_weighFrom (qv Q)) 43 [(5, .int (nI j)), (4, .int (nI (c + 1))), (0, .ref (G.2.1 3)), (1, .int 0), (2, .int (nI c))] [] S := by
  intro k
  induction k with
  | zero => intro j S h0 hj hk; exact absurd hk (Nat.not_lt_zero _)
  | succ k ih =>
    intro j S h0 hj hk hC
    refine V_iload dX4_weighFrom_43 0 rfl ?_
    refine V_iload dX4_weighFrom_45 1 rfl ?_
    refine V_icmp_gen 75 (a := j) (b := (c + 1)) dX4_weighFrom_47 (by decide) (by omega) (by omega) (fun h1 => ?_) (fun h1 => ?_)
    · have hin : j = c + 1 := by omega
      rw [hin] at hC
      exact V_vret rfl dX4_weighFrom_75 ⟨rfl, hq S (by rw [show rows 0 c n = rows 0 c (c + 1) from rows_stay (show c + 1 ≤ n by omega) (fun k a b => by rw [al0]; exact decide_eq_false (by omega))]; exact hC)⟩
    · refine V_iload_n dX4_weighFrom_50 rfl 3 rfl ?_
      refine V_iconst (v := 2) dX4_weighFrom_51 ki_2 ?_
      refine V_icmp_ne 61 dX4_weighFrom_52 (by decide) (fun _ => ?_) (fun hz => absurd hz (by decide))
      have ha : al 0 c j = true := by rw [al0]; exact decide_eq_true (by omega)
      have hm1 := rows_mono (s := 0) (c := c) (show j + 1 ≤ n by omega)
      rw [rows_t ha, List.length_append] at hm1
      have hm2 : [(0, c, j)].length = 1 := rfl
      refine V_aload_n dX4_weighFrom_61 rfl 2 rfl ?_
      refine V_iload_n dX4_weighFrom_62 rfl 3 rfl ?_
      refine V_iload_n dX4_weighFrom_63 rfl 4 rfl ?_
      refine V_iload dX4_weighFrom_64 0 rfl ?_
      refine V_cVv (P := pM G (d + 3) mX4_weighFrom _) (d := d + 2) 3 (r := []) (As := [.int 0, .int (nI c), .int (nI j)]) (K := mX4_take) ok_X4_take tw_341 (ob_3 _) rfl (rmOk (Nat.le_of_ble_eq_true rfl)) (Nat.le_of_ble_eq_true rfl) dX4_weighFrom_66 rfl (c_X4_take (s := 0) (L := L ++ rows 0 c j) hC hD (by omega) (by omega) (by omega) (by rw [List.length_append]; omega) (fun S2 hC2 => ?_))
      refine V_iinc [(5, .int (nI (j + 1))), (4, .int (nI (c + 1))), (0, .ref (G.2.1 3)), (1, .int 0), (2, .int (nI c))] dX4_weighFrom_69 0 rfl (nI_1 _) (Nat.le_of_ble_eq_true rfl) rfl ?_
      refine V_goto 43 dX4_weighFrom_72 (by decide) ?_
      refine V_lv [(5, .int (nI (j + 1))), (4, .int (nI (c + 1))), (0, .ref (G.2.1 3)), (1, .int 0), (2, .int (nI c))] [0, 1, 2, 3, 4] rfl ?_
      exact ih (j + 1) S2 (by omega) (by omega) (by omega) (by rw [rows_t ha, ← List.append_assoc]; exact hC2)
theorem lp_wf1 {G : GX} {d n m c : Nat} {S0 : ST} {L : List XT} {Q : ST → Prop} (hD : DT S0 m) (h12 : n ≤ 12) (hc : c < n) (hlen : L.length + (rows 1 c n).length ≤ 210) (hq : ∀ S2, CS S0 m (L ++ rows 1 c n) S2 → Q S2) : ∀ (k j : Nat) (S : ST), c + 1 ≤ j → j ≤ n → n - j < k → CS S0 m (L ++ rows 1 c j) S → V (pM G (d + 3) mX4_weighFrom (qv Q)) 43 [(5, .int (nI j)), (4, .int (nI (n))), (0, .ref (G.2.1 3)), (1, .int 1), (2, .int (nI c))] [] S := by
  intro k
  induction k with
  | zero => intro j S h0 hj hk; exact absurd hk (Nat.not_lt_zero _)
  | succ k ih =>
    intro j S h0 hj hk hC
    refine V_iload dX4_weighFrom_43 0 rfl ?_
    refine V_iload dX4_weighFrom_45 1 rfl ?_
    refine V_icmp_gen 75 (a := j) (b := n) dX4_weighFrom_47 (by decide) (by omega) (by omega) (fun h1 => ?_) (fun h1 => ?_)
    · have hin : j = n := by omega
      rw [hin] at hC
      exact V_vret rfl dX4_weighFrom_75 ⟨rfl, hq S (by rw [show rows 1 c n = rows 1 c (n) from rfl]; exact hC)⟩
    · refine V_iload_n dX4_weighFrom_50 rfl 3 rfl ?_
      refine V_iconst (v := 2) dX4_weighFrom_51 ki_2 ?_
      refine V_icmp_ne 61 dX4_weighFrom_52 (by decide) (fun _ => ?_) (fun hz => absurd hz (by decide))
      have ha : al 1 c j = true := by rw [al1]; exact decide_eq_true (by omega)
      have hm1 := rows_mono (s := 1) (c := c) (show j + 1 ≤ n by omega)
      rw [rows_t ha, List.length_append] at hm1
      have hm2 : [(1, c, j)].length = 1 := rfl
      refine V_aload_n dX4_weighFrom_61 rfl 2 rfl ?_
      refine V_iload_n dX4_weighFrom_62 rfl 3 rfl ?_
      refine V_iload_n dX4_weighFrom_63 rfl 4 rfl ?_
      refine V_iload dX4_weighFrom_64 0 rfl ?_
      refine V_cVv (P := pM G (d + 3) mX4_weighFrom _) (d := d + 2) 3 (r := []) (As := [.int 1, .int (nI c), .int (nI j)]) (K := mX4_take) ok_X4_take tw_341 (ob_3 _) rfl (rmOk (Nat.le_of_ble_eq_true rfl)) (Nat.le_of_ble_eq_true rfl) dX4_weighFrom_66 rfl (c_X4_take (s := 1) (L := L ++ rows 1 c j) hC hD (by omega) (by omega) (by omega) (by rw [List.length_append]; omega) (fun S2 hC2 => ?_))
      refine V_iinc [(5, .int (nI (j + 1))), (4, .int (nI n)), (0, .ref (G.2.1 3)), (1, .int 1), (2, .int (nI c))] dX4_weighFrom_69 0 rfl (nI_1 _) (Nat.le_of_ble_eq_true rfl) rfl ?_
      refine V_goto 43 dX4_weighFrom_72 (by decide) ?_
      refine V_lv [(5, .int (nI (j + 1))), (4, .int (nI n)), (0, .ref (G.2.1 3)), (1, .int 1), (2, .int (nI c))] [0, 1, 2, 3, 4] rfl ?_
      exact ih (j + 1) S2 (by omega) (by omega) (by omega) (by rw [rows_t ha, ← List.append_assoc]; exact hC2)
theorem lp_wf2 {G : GX} {d n m c : Nat} {S0 : ST} {L : List XT} {Q : ST → Prop} (hD : DT S0 m) (h12 : n ≤ 12) (hc : c < n) (hlen : L.length + (rows 2 c n).length ≤ 210) (hq : ∀ S2, CS S0 m (L ++ rows 2 c n) S2 → Q S2) : ∀ (k j : Nat) (S : ST), 0 ≤ j → j ≤ n → n - j < k → CS S0 m (L ++ rows 2 c j) S → V (pM G (d + 3) mX4_weighFrom (qv Q)) 43 [(5, .int (nI j)), (4, .int (nI (n))), (0, .ref (G.2.1 3)), (1, .int 2), (2, .int (nI c))] [] S := by
  intro k
  induction k with
  | zero => intro j S h0 hj hk; exact absurd hk (Nat.not_lt_zero _)
  | succ k ih =>
    intro j S h0 hj hk hC
    refine V_iload dX4_weighFrom_43 0 rfl ?_
    refine V_iload dX4_weighFrom_45 1 rfl ?_
    refine V_icmp_gen 75 (a := j) (b := n) dX4_weighFrom_47 (by decide) (by omega) (by omega) (fun h1 => ?_) (fun h1 => ?_)
    · have hin : j = n := by omega
      rw [hin] at hC
      exact V_vret rfl dX4_weighFrom_75 ⟨rfl, hq S (by rw [show rows 2 c n = rows 2 c (n) from rfl]; exact hC)⟩
    · refine V_iload_n dX4_weighFrom_50 rfl 3 rfl ?_
      refine V_iconst (v := 2) dX4_weighFrom_51 ki_2 ?_
      refine V_icmp_ne 61 dX4_weighFrom_52 (by decide) (fun hz => absurd hz (by decide)) (fun _ => ?_)
      refine V_iload dX4_weighFrom_55 0 rfl ?_
      refine V_iload_n dX4_weighFrom_57 rfl 4 rfl ?_
      refine V_icmp_eqn 69 (a := j) (b := c) dX4_weighFrom_58 (by decide) (by omega) (by omega) (fun h2 => ?_) (fun h2 => ?_)
      · refine V_iinc [(5, .int (nI (j + 1))), (4, .int (nI n)), (0, .ref (G.2.1 3)), (1, .int 2), (2, .int (nI c))] dX4_weighFrom_69 0 rfl (nI_1 _) (Nat.le_of_ble_eq_true rfl) rfl ?_
        refine V_goto 43 dX4_weighFrom_72 (by decide) ?_
        refine V_lv [(5, .int (nI (j + 1))), (4, .int (nI n)), (0, .ref (G.2.1 3)), (1, .int 2), (2, .int (nI c))] [0, 1, 2, 3, 4] rfl ?_
        exact ih (j + 1) S (by omega) (by omega) (by omega) (by rw [rows_f (by rw [al2]; exact decide_eq_false (by omega))]; exact hC)
      · have ha : al 2 c j = true := by rw [al2]; exact decide_eq_true (by omega)
        have hm1 := rows_mono (s := 2) (c := c) (show j + 1 ≤ n by omega)
        rw [rows_t ha, List.length_append] at hm1
        have hm2 : [(2, c, j)].length = 1 := rfl
        refine V_aload_n dX4_weighFrom_61 rfl 2 rfl ?_
        refine V_iload_n dX4_weighFrom_62 rfl 3 rfl ?_
        refine V_iload_n dX4_weighFrom_63 rfl 4 rfl ?_
        refine V_iload dX4_weighFrom_64 0 rfl ?_
        refine V_cVv (P := pM G (d + 3) mX4_weighFrom _) (d := d + 2) 3 (r := []) (As := [.int 2, .int (nI c), .int (nI j)]) (K := mX4_take) ok_X4_take tw_341 (ob_3 _) rfl (rmOk (Nat.le_of_ble_eq_true rfl)) (Nat.le_of_ble_eq_true rfl) dX4_weighFrom_66 rfl (c_X4_take (s := 2) (L := L ++ rows 2 c j) hC hD (by omega) (by omega) (by omega) (by rw [List.length_append]; omega) (fun S2 hC2 => ?_))
        refine V_iinc [(5, .int (nI (j + 1))), (4, .int (nI n)), (0, .ref (G.2.1 3)), (1, .int 2), (2, .int (nI c))] dX4_weighFrom_69 0 rfl (nI_1 _) (Nat.le_of_ble_eq_true rfl) rfl ?_
        refine V_goto 43 dX4_weighFrom_72 (by decide) ?_
        refine V_lv [(5, .int (nI (j + 1))), (4, .int (nI n)), (0, .ref (G.2.1 3)), (1, .int 2), (2, .int (nI c))] [0, 1, 2, 3, 4] rfl ?_
        exact ih (j + 1) S2 (by omega) (by omega) (by omega) (by rw [rows_t ha, ← List.append_assoc]; exact hC2)
theorem c_X4_weighFrom {G : GX} {d : Nat} {S : ST} {S0 : ST} {n m s c : Nat} {L : List XT} {Q : ST → Prop} (hC : CS S0 m L S) (hn : S0.1 0 = nI n) (hD : DT S0 m) (h12 : n ≤ 12) (hs : s < 3) (hc : c < n) (hlen : L.length + (rows s c n).length ≤ 210) (hq : ∀ S2, CS S0 m (L ++ rows s c n) S2 → Q S2) : Cn G (d + 3) mX4_weighFrom [.ref (G.2.1 3), .int (nI s), .int (nI c)] S (qv Q) := by
  refine Cn.intro (lv := [(0, .ref (G.2.1 3)), (1, .int (nI s)), (2, .int (nI c))]) (by decide) (Nat.le_of_ble_eq_true rfl) rfl ?_
  rcases (show s = 0 ∨ s = 1 ∨ s = 2 by omega) with rfl | rfl | rfl
  · refine V_lveq [(0, .ref (G.2.1 3)), (1, .int 0), (2, .int (nI c))] rfl ?_
    refine V_iload_n dX4_weighFrom_0 rfl 1 rfl ?_
    refine V_if_ne 8 dX4_weighFrom_1 (by decide) (fun hz => absurd hz (by decide)) (fun _ => ?_)
    refine V_iload_n dX4_weighFrom_4 rfl 2 rfl ?_
    refine V_goto 20 dX4_weighFrom_5 (by decide) ?_
    refine V_istore_n [(3, .int (nI c)), (0, .ref (G.2.1 3)), (1, .int 0), (2, .int (nI c))] dX4_weighFrom_20 rfl (Nat.le_of_ble_eq_true rfl) rfl ?_
    refine V_iload_n dX4_weighFrom_21 rfl 2 rfl ?_
    refine V_if_ne 31 dX4_weighFrom_22 (by decide) (fun hz => absurd hz (by decide)) (fun _ => ?_)
    refine V_iload_n dX4_weighFrom_25 rfl 3 rfl ?_
    refine V_iconst (v := 1) dX4_weighFrom_26 ki_1 ?_
    refine V_iadd dX4_weighFrom_27 ?_
    refine V_topi (v := nI (c + 1)) (nI_1 _) ?_
    refine V_goto 38 dX4_weighFrom_28 (by decide) ?_
    refine V_istore [(4, .int (nI (c + 1))), (3, .int (nI c)), (0, .ref (G.2.1 3)), (1, .int 0), (2, .int (nI c))] dX4_weighFrom_38 (Nat.le_of_ble_eq_true rfl) rfl ?_
    refine V_iload_n dX4_weighFrom_40 rfl 1 rfl ?_
    refine V_istore [(5, .int (nI c)), (4, .int (nI (c + 1))), (3, .int (nI c)), (0, .ref (G.2.1 3)), (1, .int 0), (2, .int (nI c))] dX4_weighFrom_41 (Nat.le_of_ble_eq_true rfl) rfl ?_
    refine V_lv [(5, .int (nI c)), (4, .int (nI (c + 1))), (0, .ref (G.2.1 3)), (1, .int 0), (2, .int (nI c))] [0, 1, 3, 4, 5] rfl ?_
    exact lp_wf0 hD h12 hc hlen hq 2 c S (by omega) (by omega) (by omega) (by rw [rows_nil (fun k hk => by rw [al0]; exact decide_eq_false (by omega)), List.append_nil]; exact hC)
  · refine V_lveq [(0, .ref (G.2.1 3)), (1, .int 1), (2, .int (nI c))] rfl ?_
    refine V_iload_n dX4_weighFrom_0 rfl 1 rfl ?_
    refine V_if_ne 8 dX4_weighFrom_1 (by decide) (fun _ => ?_) (fun hz => absurd hz (by decide))
    refine V_iload_n dX4_weighFrom_8 rfl 1 rfl ?_
    refine V_iconst (v := 1) dX4_weighFrom_9 ki_1 ?_
    refine V_icmp_ne 19 dX4_weighFrom_10 (by decide) (fun hz => absurd hz (by decide)) (fun _ => ?_)
    refine V_iload_n dX4_weighFrom_13 rfl 2 rfl ?_
    refine V_iconst (v := 1) dX4_weighFrom_14 ki_1 ?_
    refine V_iadd dX4_weighFrom_15 ?_
    refine V_topi (v := nI (c + 1)) (nI_1 _) ?_
    refine V_goto 20 dX4_weighFrom_16 (by decide) ?_
    refine V_istore_n [(3, .int (nI (c + 1))), (0, .ref (G.2.1 3)), (1, .int 1), (2, .int (nI c))] dX4_weighFrom_20 rfl (Nat.le_of_ble_eq_true rfl) rfl ?_
    refine V_iload_n dX4_weighFrom_21 rfl 2 rfl ?_
    refine V_if_ne 31 dX4_weighFrom_22 (by decide) (fun _ => ?_) (fun hz => absurd hz (by decide))
    refine V_aload_n dX4_weighFrom_31 rfl 1 rfl ?_
    refine g_3_0 tw_91 dX4_weighFrom_32 ?_
    refine g_1_0 tw_32 dX4_weighFrom_35 ?_
    refine V_topi (v := nI n) ((hC.1.1 0 (by decide) (by decide)).trans hn) ?_
    refine V_istore [(4, .int (nI n)), (3, .int (nI (c + 1))), (0, .ref (G.2.1 3)), (1, .int 1), (2, .int (nI c))] dX4_weighFrom_38 (Nat.le_of_ble_eq_true rfl) rfl ?_
    refine V_iload_n dX4_weighFrom_40 rfl 1 rfl ?_
    refine V_istore [(5, .int (nI (c + 1))), (4, .int (nI n)), (3, .int (nI (c + 1))), (0, .ref (G.2.1 3)), (1, .int 1), (2, .int (nI c))] dX4_weighFrom_41 (Nat.le_of_ble_eq_true rfl) rfl ?_
    refine V_lv [(5, .int (nI (c + 1))), (4, .int (nI n)), (0, .ref (G.2.1 3)), (1, .int 1), (2, .int (nI c))] [0, 1, 3, 4, 5] rfl ?_
    exact lp_wf1 hD h12 hc hlen hq (n + 1) (c + 1) S (by omega) (by omega) (by omega) (by rw [rows_nil (fun k hk => by rw [al1]; exact decide_eq_false (by omega)), List.append_nil]; exact hC)
  · refine V_lveq [(0, .ref (G.2.1 3)), (1, .int 2), (2, .int (nI c))] rfl ?_
    refine V_iload_n dX4_weighFrom_0 rfl 1 rfl ?_
    refine V_if_ne 8 dX4_weighFrom_1 (by decide) (fun _ => ?_) (fun hz => absurd hz (by decide))
    refine V_iload_n dX4_weighFrom_8 rfl 1 rfl ?_
    refine V_iconst (v := 1) dX4_weighFrom_9 ki_1 ?_
    refine V_icmp_ne 19 dX4_weighFrom_10 (by decide) (fun _ => ?_) (fun hz => absurd hz (by decide))
    refine V_iconst (v := 0) dX4_weighFrom_19 ki_0 ?_
    refine V_istore_n [(3, .int 0), (0, .ref (G.2.1 3)), (1, .int 2), (2, .int (nI c))] dX4_weighFrom_20 rfl (Nat.le_of_ble_eq_true rfl) rfl ?_
    refine V_iload_n dX4_weighFrom_21 rfl 2 rfl ?_
    refine V_if_ne 31 dX4_weighFrom_22 (by decide) (fun _ => ?_) (fun hz => absurd hz (by decide))
    refine V_aload_n dX4_weighFrom_31 rfl 1 rfl ?_
    refine g_3_0 tw_91 dX4_weighFrom_32 ?_
    refine g_1_0 tw_32 dX4_weighFrom_35 ?_
    refine V_topi (v := nI n) ((hC.1.1 0 (by decide) (by decide)).trans hn) ?_
    refine V_istore [(4, .int (nI n)), (3, .int 0), (0, .ref (G.2.1 3)), (1, .int 2), (2, .int (nI c))] dX4_weighFrom_38 (Nat.le_of_ble_eq_true rfl) rfl ?_
    refine V_iload_n dX4_weighFrom_40 rfl 1 rfl ?_
    refine V_istore [(5, .int 0), (4, .int (nI n)), (3, .int 0), (0, .ref (G.2.1 3)), (1, .int 2), (2, .int (nI c))] dX4_weighFrom_41 (Nat.le_of_ble_eq_true rfl) rfl ?_
    refine V_lv [(5, .int 0), (4, .int (nI n)), (0, .ref (G.2.1 3)), (1, .int 2), (2, .int (nI c))] [0, 1, 3, 4, 5] rfl ?_
    exact lp_wf2 hD h12 hc hlen hq (n + 1) 0 S (by omega) (by omega) (by omega) (by rw [rows_nil (fun k hk => absurd hk (Nat.not_lt_zero _)), List.append_nil]; exact hC)
theorem lp_weigh2 {G : GX} {d n m : Nat} {S0 : ST} {Q : ST → Prop} (hn : S0.1 0 = nI n) (hD : DT S0 m) (h12 : n ≤ 12) (hq : ∀ S2, CS S0 m (stl n) S2 → Q S2) : ∀ (k c : Nat) (S : ST), c ≤ n → n - c < k → CS S0 m (Pf n 2 ++ cs n 2 c) S → V (pM G (d + 4) mX4_weigh (qv Q)) 29 [(2, .int (nI c)), (1, .int 2), (0, .ref (G.2.1 3))] [] S := by
  intro k
  induction k with
  | zero => intro c S hc hk; exact absurd hk (Nat.not_lt_zero _)
  | succ k ih =>
    intro c S hcn hk hC
    refine V_iload_n dX4_weigh_29 rfl 0 rfl ?_
    refine V_aload_n dX4_weigh_30 rfl 2 rfl ?_
    refine g_3_0 tw_91 dX4_weigh_31 ?_
    refine g_1_0 tw_32 dX4_weigh_34 ?_
    refine V_topi (v := nI n) ((hC.1.1 0 (by decide) (by decide)).trans hn) ?_
    refine V_icmp_gen 52 (a := c) (b := n) dX4_weigh_37 (by decide) (by omega) (by omega) (fun h1 => ?_) (fun h1 => ?_)
    · have hin : c = n := by omega
      subst hin
      refine V_iinc [(1, .int 3), (2, .int (nI c)), (0, .ref (G.2.1 3))] dX4_weigh_52 1 rfl rfl (Nat.le_of_ble_eq_true rfl) rfl ?_
      refine V_goto 22 dX4_weigh_55 (by decide) ?_
      refine V_iload_n dX4_weigh_22 rfl 0 rfl ?_
      refine V_iconst (v := 3) dX4_weigh_23 ki_3 ?_
      refine V_icmp_ge 58 dX4_weigh_24 (by decide) (fun _ => ?_) (fun hz => absurd hz (by decide))
      exact V_vret rfl dX4_weigh_58 ⟨rfl, hq S hC⟩
    · refine V_aload_n dX4_weigh_40 rfl 2 rfl ?_
      refine V_iload_n dX4_weigh_41 rfl 1 rfl ?_
      refine V_iload_n dX4_weigh_42 rfl 0 rfl ?_
      refine V_cVv (P := pM G (d + 4) mX4_weigh _) (d := d + 3) 3 (r := []) (As := [.int 2, .int (nI c)]) (K := mX4_weighFrom) ok_X4_weighFrom tw_337 (ob_3 _) rfl (rmOk (Nat.le_of_ble_eq_true rfl)) (Nat.le_of_ble_eq_true rfl) dX4_weigh_43 rfl (c_X4_weighFrom (s := 2) (n := n) (L := Pf n 2 ++ cs n 2 c) hC hn hD h12 (by omega) (by omega) (len_ok n (by omega) 2 (by omega) c (by omega)) (fun S2 hC2 => ?_))
      refine V_iinc [(2, .int (nI (c + 1))), (1, .int 2), (0, .ref (G.2.1 3))] dX4_weigh_46 0 rfl (nI_1 _) (Nat.le_of_ble_eq_true rfl) rfl ?_
      refine V_goto 29 dX4_weigh_49 (by decide) ?_
      refine V_lv [(2, .int (nI (c + 1))), (1, .int 2), (0, .ref (G.2.1 3))] [0, 1, 2] rfl ?_
      exact ih (c + 1) S2 (by omega) (by omega) (by rw [cs_succ, ← List.append_assoc]; exact hC2)
theorem lp_weigh1 {G : GX} {d n m : Nat} {S0 : ST} {Q : ST → Prop} (hn : S0.1 0 = nI n) (hD : DT S0 m) (h12 : n ≤ 12) (hq : ∀ S2, CS S0 m (stl n) S2 → Q S2) : ∀ (k c : Nat) (S : ST), c ≤ n → n - c < k → CS S0 m (Pf n 1 ++ cs n 1 c) S → V (pM G (d + 4) mX4_weigh (qv Q)) 29 [(2, .int (nI c)), (1, .int 1), (0, .ref (G.2.1 3))] [] S := by
  intro k
  induction k with
  | zero => intro c S hc hk; exact absurd hk (Nat.not_lt_zero _)
  | succ k ih =>
    intro c S hcn hk hC
    refine V_iload_n dX4_weigh_29 rfl 0 rfl ?_
    refine V_aload_n dX4_weigh_30 rfl 2 rfl ?_
    refine g_3_0 tw_91 dX4_weigh_31 ?_
    refine g_1_0 tw_32 dX4_weigh_34 ?_
    refine V_topi (v := nI n) ((hC.1.1 0 (by decide) (by decide)).trans hn) ?_
    refine V_icmp_gen 52 (a := c) (b := n) dX4_weigh_37 (by decide) (by omega) (by omega) (fun h1 => ?_) (fun h1 => ?_)
    · have hin : c = n := by omega
      subst hin
      refine V_iinc [(1, .int 2), (2, .int (nI c)), (0, .ref (G.2.1 3))] dX4_weigh_52 1 rfl rfl (Nat.le_of_ble_eq_true rfl) rfl ?_
      refine V_goto 22 dX4_weigh_55 (by decide) ?_
      refine V_iload_n dX4_weigh_22 rfl 0 rfl ?_
      refine V_iconst (v := 3) dX4_weigh_23 ki_3 ?_
      refine V_icmp_ge 58 dX4_weigh_24 (by decide) (fun hz => absurd hz (by decide)) (fun _ => ?_)
      refine V_iconst (v := 0) dX4_weigh_27 ki_0 ?_
      refine V_istore_n [(2, .int 0), (1, .int 2), (0, .ref (G.2.1 3))] dX4_weigh_28 rfl (Nat.le_of_ble_eq_true rfl) rfl ?_
      refine V_lv [(2, .int 0), (1, .int 2), (0, .ref (G.2.1 3))] [0, 1, 2] rfl ?_
      exact lp_weigh2 hn hD h12 hq (c + 1) 0 S (by omega) (by omega) (by rw [cs_0, List.append_nil]; exact hC)
    · refine V_aload_n dX4_weigh_40 rfl 2 rfl ?_
      refine V_iload_n dX4_weigh_41 rfl 1 rfl ?_
      refine V_iload_n dX4_weigh_42 rfl 0 rfl ?_
      refine V_cVv (P := pM G (d + 4) mX4_weigh _) (d := d + 3) 3 (r := []) (As := [.int 1, .int (nI c)]) (K := mX4_weighFrom) ok_X4_weighFrom tw_337 (ob_3 _) rfl (rmOk (Nat.le_of_ble_eq_true rfl)) (Nat.le_of_ble_eq_true rfl) dX4_weigh_43 rfl (c_X4_weighFrom (s := 1) (n := n) (L := Pf n 1 ++ cs n 1 c) hC hn hD h12 (by omega) (by omega) (len_ok n (by omega) 1 (by omega) c (by omega)) (fun S2 hC2 => ?_))
      refine V_iinc [(2, .int (nI (c + 1))), (1, .int 1), (0, .ref (G.2.1 3))] dX4_weigh_46 0 rfl (nI_1 _) (Nat.le_of_ble_eq_true rfl) rfl ?_
      refine V_goto 29 dX4_weigh_49 (by decide) ?_
      refine V_lv [(2, .int (nI (c + 1))), (1, .int 1), (0, .ref (G.2.1 3))] [0, 1, 2] rfl ?_
      exact ih (c + 1) S2 (by omega) (by omega) (by rw [cs_succ, ← List.append_assoc]; exact hC2)
theorem lp_weigh0 {G : GX} {d n m : Nat} {S0 : ST} {Q : ST → Prop} (hn : S0.1 0 = nI n) (hD : DT S0 m) (h12 : n ≤ 12) (hq : ∀ S2, CS S0 m (stl n) S2 → Q S2) : ∀ (k c : Nat) (S : ST), c ≤ n → n - c < k → CS S0 m (Pf n 0 ++ cs n 0 c) S → V (pM G (d + 4) mX4_weigh (qv Q)) 29 [(2, .int (nI c)), (1, .int 0), (0, .ref (G.2.1 3))] [] S := by
  intro k
  induction k with
  | zero => intro c S hc hk; exact absurd hk (Nat.not_lt_zero _)
  | succ k ih =>
    intro c S hcn hk hC
    refine V_iload_n dX4_weigh_29 rfl 0 rfl ?_
    refine V_aload_n dX4_weigh_30 rfl 2 rfl ?_
    refine g_3_0 tw_91 dX4_weigh_31 ?_
    refine g_1_0 tw_32 dX4_weigh_34 ?_
    refine V_topi (v := nI n) ((hC.1.1 0 (by decide) (by decide)).trans hn) ?_
    refine V_icmp_gen 52 (a := c) (b := n) dX4_weigh_37 (by decide) (by omega) (by omega) (fun h1 => ?_) (fun h1 => ?_)
    · have hin : c = n := by omega
      subst hin
      refine V_iinc [(1, .int 1), (2, .int (nI c)), (0, .ref (G.2.1 3))] dX4_weigh_52 1 rfl rfl (Nat.le_of_ble_eq_true rfl) rfl ?_
      refine V_goto 22 dX4_weigh_55 (by decide) ?_
      refine V_iload_n dX4_weigh_22 rfl 0 rfl ?_
      refine V_iconst (v := 3) dX4_weigh_23 ki_3 ?_
      refine V_icmp_ge 58 dX4_weigh_24 (by decide) (fun hz => absurd hz (by decide)) (fun _ => ?_)
      refine V_iconst (v := 0) dX4_weigh_27 ki_0 ?_
      refine V_istore_n [(2, .int 0), (1, .int 1), (0, .ref (G.2.1 3))] dX4_weigh_28 rfl (Nat.le_of_ble_eq_true rfl) rfl ?_
      refine V_lv [(2, .int 0), (1, .int 1), (0, .ref (G.2.1 3))] [0, 1, 2] rfl ?_
      exact lp_weigh1 hn hD h12 hq (c + 1) 0 S (by omega) (by omega) (by rw [cs_0, List.append_nil]; exact hC)
    · refine V_aload_n dX4_weigh_40 rfl 2 rfl ?_
      refine V_iload_n dX4_weigh_41 rfl 1 rfl ?_
      refine V_iload_n dX4_weigh_42 rfl 0 rfl ?_
      refine V_cVv (P := pM G (d + 4) mX4_weigh _) (d := d + 3) 3 (r := []) (As := [.int 0, .int (nI c)]) (K := mX4_weighFrom) ok_X4_weighFrom tw_337 (ob_3 _) rfl (rmOk (Nat.le_of_ble_eq_true rfl)) (Nat.le_of_ble_eq_true rfl) dX4_weigh_43 rfl (c_X4_weighFrom (s := 0) (n := n) (L := Pf n 0 ++ cs n 0 c) hC hn hD h12 (by omega) (by omega) (len_ok n (by omega) 0 (by omega) c (by omega)) (fun S2 hC2 => ?_))
      refine V_iinc [(2, .int (nI (c + 1))), (1, .int 0), (0, .ref (G.2.1 3))] dX4_weigh_46 0 rfl (nI_1 _) (Nat.le_of_ble_eq_true rfl) rfl ?_
      refine V_goto 29 dX4_weigh_49 (by decide) ?_
      refine V_lv [(2, .int (nI (c + 1))), (1, .int 0), (0, .ref (G.2.1 3))] [0, 1, 2] rfl ?_
      exact ih (c + 1) S2 (by omega) (by omega) (by rw [cs_succ, ← List.append_assoc]; exact hC2)
theorem c_X4_weigh {G : GX} {d : Nat} {S : ST} {n m : Nat} {Q : ST → Prop} (hn : S.1 0 = nI n) (hD : DT S m) (h12 : n ≤ 12) (hq : ∀ S2, CS S m (stl n) S2 → Q S2) : Cn G (d + 4) mX4_weigh [.ref (G.2.1 3)] S (qv Q) := by
  refine Cn.intro (lv := [(0, .ref (G.2.1 3))]) (by decide) (Nat.le_of_ble_eq_true rfl) rfl ?_
  refine V_aload_n dX4_weigh_0 rfl 0 rfl ?_
  refine V_iconst (v := 0) dX4_weigh_1 ki_0 ?_
  refine p_3_3 tw_95 dX4_weigh_2 ?_
  refine V_aload_n dX4_weigh_5 rfl 0 rfl ?_
  refine V_lconst (v := 0) dX4_weigh_6 rfl ?_
  refine p_3_7 tw_99 dX4_weigh_7 ?_
  refine V_aload_n dX4_weigh_10 rfl 0 rfl ?_
  refine V_iconst (v := 0) dX4_weigh_11 ki_0 ?_
  refine p_3_8 tw_101 dX4_weigh_12 ?_
  refine V_aload_n dX4_weigh_15 rfl 0 rfl ?_
  refine V_lconst (v := 0) dX4_weigh_16 rfl ?_
  refine p_3_9 tw_103 dX4_weigh_17 ?_
  refine V_iconst (v := 0) dX4_weigh_20 ki_0 ?_
  refine V_istore_n [(1, .int 0), (0, .ref (G.2.1 3))] dX4_weigh_21 rfl (Nat.le_of_ble_eq_true rfl) rfl ?_
  refine V_iload_n dX4_weigh_22 rfl 0 rfl ?_
  refine V_iconst (v := 3) dX4_weigh_23 ki_3 ?_
  refine V_icmp_ge 58 dX4_weigh_24 (by decide) (fun hz => absurd hz (by decide)) (fun _ => ?_)
  refine V_iconst (v := 0) dX4_weigh_27 ki_0 ?_
  refine V_istore_n [(2, .int 0), (1, .int 0), (0, .ref (G.2.1 3))] dX4_weigh_28 rfl (Nat.le_of_ble_eq_true rfl) rfl ?_
  refine V_lv [(2, .int 0), (1, .int 0), (0, .ref (G.2.1 3))] [0, 1, 2] rfl ?_
  refine lp_weigh0 (S0 := S) hn hD h12 hq (n + 1) 0 _ (by omega) (by omega) ⟨⟨?_, ?_, ?_, ?_⟩, rfl, ?_, rfl, rfl, rfl⟩
  · intro k a b; simp [setI, setL, va_up, a, b]
  · intro k a b; simp [setI, setL, va_up, a, b]
  · intro k a b; rfl
  · intro k a; rfl
  · intro k x hk; exact absurd hk (by simp [nz, Pf, cs])
