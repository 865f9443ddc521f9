theorem lp_layd1 {G : GX} {d n m c : Nat} {S0 : ST} {L : List XT} {Q : ST → Prop} (hn : S0.1 10 = nI n) (hD : DTm S0 m) (h12 : n ≤ 12) (hc : c < n) (hlen : L.length + (rows 1 c n).length ≤ 210) (hX : ∀ S2, MS S0 m (L ++ rows 1 c n) S2 → V (pM G (d + 4) mX8_layStories (qv Q)) 84 [(2, .int (nI c)), (1, .int 1), (0, .ref (G.2.1 29))] [] S2) : ∀ (k j : Nat) (S : ST), j ≤ n → n - j < k → MS S0 m (L ++ rows 1 c j) S → V (pM G (d + 4) mX8_layStories (qv Q)) 41 [(3, .int (nI j)), (2, .int (nI c)), (1, .int 1), (0, .ref (G.2.1 29))] [] S := by
  intro k
  induction k with
  | zero => intro j S hj hk; exact absurd hk (Nat.not_lt_zero _)
  | succ k ih =>
    intro j S hj hk hM
    refine V_iload_n dX8_layStories_41 rfl 0 rfl ?_
    refine V_aload_n dX8_layStories_42 rfl 3 rfl ?_
    refine g_29_0 tw_628 dX8_layStories_43 ?_
    refine V_topi (v := nI n) ((hM.1.1 10 (by decide)).trans hn) ?_
    refine V_icmp_gen 84 (a := j) (b := n) dX8_layStories_46 (by decide) (by omega) (by omega) (fun h1 => ?_) (fun h1 => ?_)
    · have hin : j = n := by omega
      rw [hin] at hM
      refine V_lv [(2, .int (nI c)), (1, .int 1), (0, .ref (G.2.1 29))] [1, 2, 3] rfl ?_
      exact hX S hM
    · refine V_iload_n dX8_layStories_49 rfl 2 rfl ?_
      refine V_if_le 84 dX8_layStories_50 (by decide) (fun hz => absurd hz (by decide)) (fun _ => ?_)
      refine V_iload_n dX8_layStories_53 rfl 2 rfl ?_
      refine V_iconst (v := 1) dX8_layStories_54 ki_1 ?_
      refine V_icmp_ne 66 dX8_layStories_55 (by decide) (fun hz => absurd hz (by decide)) (fun _ => ?_)
      refine V_iload_n dX8_layStories_58 rfl 0 rfl ?_
      refine V_iload_n dX8_layStories_59 rfl 1 rfl ?_
      refine V_icmp_len 78 (a := j) (b := c) dX8_layStories_60 (by decide) (by omega) (by omega) (fun h2 => ?_) (fun h2 => ?_)
      · refine V_iinc [(3, .int (nI (j + 1))), (2, .int (nI c)), (1, .int 1), (0, .ref (G.2.1 29))] dX8_layStories_78 0 rfl (nI_1 _) (Nat.le_of_ble_eq_true rfl) rfl ?_
        refine V_goto 41 dX8_layStories_81 (by decide) ?_
        refine V_lv [(3, .int (nI (j + 1))), (2, .int (nI c)), (1, .int 1), (0, .ref (G.2.1 29))] [0, 1, 2, 3] rfl ?_
        exact ih (j + 1) S (by omega) (by omega) (by rw [rows_f (by rw [al1]; exact decide_eq_false (by omega))]; exact hM)
      · refine V_goto 71 dX8_layStories_63 (by decide) ?_
        have ha : al 1 c j = true := by rw [al1]; exact decide_eq_true (by omega)
        have hm1 := rows_mono (s := 1) (c := c) (show j + 1 ≤ n by omega)
        rw [rows_t ha, List.length_append] at hm1
        have hm2 : [(1, c, j)].length = 1 := rfl
        refine V_aload_n dX8_layStories_71 rfl 3 rfl ?_
        refine V_iload_n dX8_layStories_72 rfl 2 rfl ?_
        refine V_iload_n dX8_layStories_73 rfl 1 rfl ?_
        refine V_iload_n dX8_layStories_74 rfl 0 rfl ?_
        refine V_cVv (P := pM G (d + 4) mX8_layStories _) (d := d + 3) 29 (r := []) (As := [.int 1, .int (nI c), .int (nI j)]) (K := mX8_add) ok_X8_add tw_788 (ob_29 _) rfl (rmOk (Nat.le_of_ble_eq_true rfl)) (Nat.le_of_ble_eq_true rfl) dX8_layStories_75 rfl (c_X8_add1 (L := L ++ rows 1 c j) hM hD (by omega) (by omega) (by rw [List.length_append]; omega) (fun S2 hM2 => ?_))
        refine V_iinc [(3, .int (nI (j + 1))), (2, .int (nI c)), (1, .int 1), (0, .ref (G.2.1 29))] dX8_layStories_78 0 rfl (nI_1 _) (Nat.le_of_ble_eq_true rfl) rfl ?_
        refine V_goto 41 dX8_layStories_81 (by decide) ?_
        refine V_lv [(3, .int (nI (j + 1))), (2, .int (nI c)), (1, .int 1), (0, .ref (G.2.1 29))] [0, 1, 2, 3] rfl ?_
        exact ih (j + 1) S2 (by omega) (by omega) (by rw [rows_t ha, ← List.append_assoc]; exact hM2)
theorem lp_layd2 {G : GX} {d n m c : Nat} {S0 : ST} {L : List XT} {Q : ST → Prop} (hn : S0.1 10 = nI n) (hD : DTm S0 m) (h12 : n ≤ 12) (hc : c < n) (hlen : L.length + (rows 2 c n).length ≤ 210) (hX : ∀ S2, MS S0 m (L ++ rows 2 c n) S2 → V (pM G (d + 4) mX8_layStories (qv Q)) 84 [(2, .int (nI c)), (1, .int 2), (0, .ref (G.2.1 29))] [] S2) : ∀ (k j : Nat) (S : ST), j ≤ n → n - j < k → MS S0 m (L ++ rows 2 c j) S → V (pM G (d + 4) mX8_layStories (qv Q)) 41 [(3, .int (nI j)), (2, .int (nI c)), (1, .int 2), (0, .ref (G.2.1 29))] [] S := by
  intro k
  induction k with
  | zero => intro j S hj hk; exact absurd hk (Nat.not_lt_zero _)
  | succ k ih =>
    intro j S hj hk hM
    refine V_iload_n dX8_layStories_41 rfl 0 rfl ?_
    refine V_aload_n dX8_layStories_42 rfl 3 rfl ?_
    refine g_29_0 tw_628 dX8_layStories_43 ?_
    refine V_topi (v := nI n) ((hM.1.1 10 (by decide)).trans hn) ?_
    refine V_icmp_gen 84 (a := j) (b := n) dX8_layStories_46 (by decide) (by omega) (by omega) (fun h1 => ?_) (fun h1 => ?_)
    · have hin : j = n := by omega
      rw [hin] at hM
      refine V_lv [(2, .int (nI c)), (1, .int 2), (0, .ref (G.2.1 29))] [1, 2, 3] rfl ?_
      exact hX S hM
    · refine V_iload_n dX8_layStories_49 rfl 2 rfl ?_
      refine V_if_le 84 dX8_layStories_50 (by decide) (fun hz => absurd hz (by decide)) (fun _ => ?_)
      refine V_iload_n dX8_layStories_53 rfl 2 rfl ?_
      refine V_iconst (v := 1) dX8_layStories_54 ki_1 ?_
      refine V_icmp_ne 66 dX8_layStories_55 (by decide) (fun _ => ?_) (fun hz => absurd hz (by decide))
      refine V_iload_n dX8_layStories_66 rfl 0 rfl ?_
      refine V_iload_n dX8_layStories_67 rfl 1 rfl ?_
      refine V_icmp_eqn 78 (a := j) (b := c) dX8_layStories_68 (by decide) (by omega) (by omega) (fun h2 => ?_) (fun h2 => ?_)
      · refine V_iinc [(3, .int (nI (j + 1))), (2, .int (nI c)), (1, .int 2), (0, .ref (G.2.1 29))] dX8_layStories_78 0 rfl (nI_1 _) (Nat.le_of_ble_eq_true rfl) rfl ?_
        refine V_goto 41 dX8_layStories_81 (by decide) ?_
        refine V_lv [(3, .int (nI (j + 1))), (2, .int (nI c)), (1, .int 2), (0, .ref (G.2.1 29))] [0, 1, 2, 3] rfl ?_
        exact ih (j + 1) S (by omega) (by omega) (by rw [rows_f (by rw [al2]; exact decide_eq_false (by omega))]; exact hM)
      · have ha : al 2 c j = true := by rw [al2]; exact decide_eq_true (by omega)
        have hm1 := rows_mono (s := 2) (c := c) (show j + 1 ≤ n by omega)
        rw [rows_t ha, List.length_append] at hm1
        have hm2 : [(2, c, j)].length = 1 := rfl
        refine V_aload_n dX8_layStories_71 rfl 3 rfl ?_
        refine V_iload_n dX8_layStories_72 rfl 2 rfl ?_
        refine V_iload_n dX8_layStories_73 rfl 1 rfl ?_
        refine V_iload_n dX8_layStories_74 rfl 0 rfl ?_
        refine V_cVv (P := pM G (d + 4) mX8_layStories _) (d := d + 3) 29 (r := []) (As := [.int 2, .int (nI c), .int (nI j)]) (K := mX8_add) ok_X8_add tw_788 (ob_29 _) rfl (rmOk (Nat.le_of_ble_eq_true rfl)) (Nat.le_of_ble_eq_true rfl) dX8_layStories_75 rfl (c_X8_add2 (L := L ++ rows 2 c j) hM hD (by omega) (by omega) (by rw [List.length_append]; omega) (fun S2 hM2 => ?_))
        refine V_iinc [(3, .int (nI (j + 1))), (2, .int (nI c)), (1, .int 2), (0, .ref (G.2.1 29))] dX8_layStories_78 0 rfl (nI_1 _) (Nat.le_of_ble_eq_true rfl) rfl ?_
        refine V_goto 41 dX8_layStories_81 (by decide) ?_
        refine V_lv [(3, .int (nI (j + 1))), (2, .int (nI c)), (1, .int 2), (0, .ref (G.2.1 29))] [0, 1, 2, 3] rfl ?_
        exact ih (j + 1) S2 (by omega) (by omega) (by rw [rows_t ha, ← List.append_assoc]; exact hM2)
theorem lp_lay2 {G : GX} {d n m : Nat} {S0 : ST} {Q : ST → Prop} (hn : S0.1 10 = nI n) (hD : DTm S0 m) (h12 : n ≤ 12) (hq : ∀ S2, MS S0 m (stl n) S2 → Q S2) : ∀ (k c : Nat) (S : ST), c ≤ n → n - c < k → MS S0 m (Pf n 2 ++ cs n 2 c) S → V (pM G (d + 4) mX8_layStories (qv Q)) 19 [(2, .int (nI c)), (1, .int 2), (0, .ref (G.2.1 29))] [] S := by
  intro k
  induction k with
  | zero => intro c S hc hk; exact absurd hk (Nat.not_lt_zero _)
  | succ k ih =>
    intro c S hcn hk hM
    refine V_iload_n dX8_layStories_19 rfl 0 rfl ?_
    refine V_aload_n dX8_layStories_20 rfl 2 rfl ?_
    refine g_29_0 tw_628 dX8_layStories_21 ?_
    refine V_topi (v := nI n) ((hM.1.1 10 (by decide)).trans hn) ?_
    refine V_icmp_gen 90 (a := c) (b := n) dX8_layStories_24 (by decide) (by omega) (by omega) (fun h1 => ?_) (fun h1 => ?_)
    · have hin : c = n := by omega
      subst hin
      refine V_iinc [(1, .int 3), (2, .int (nI c)), (0, .ref (G.2.1 29))] dX8_layStories_90 1 rfl rfl (Nat.le_of_ble_eq_true rfl) rfl ?_
      refine V_goto 12 dX8_layStories_93 (by decide) ?_
      refine V_iload_n dX8_layStories_12 rfl 0 rfl ?_
      refine V_iconst (v := 3) dX8_layStories_13 ki_3 ?_
      refine V_icmp_ge 96 dX8_layStories_14 (by decide) (fun _ => ?_) (fun hz => absurd hz (by decide))
      exact V_vret rfl dX8_layStories_96 ⟨rfl, hq S hM⟩
    · refine V_iload_n dX8_layStories_27 rfl 1 rfl ?_
      refine V_if_ne 39 dX8_layStories_28 (by decide) (fun _ => ?_) (fun hz => absurd hz (by decide))
      refine V_iconst (v := 0) dX8_layStories_39 ki_0 ?_
      refine V_istore_n [(3, .int 0), (2, .int (nI c)), (1, .int 2), (0, .ref (G.2.1 29))] dX8_layStories_40 rfl (Nat.le_of_ble_eq_true rfl) rfl ?_
      refine V_lv [(3, .int 0), (2, .int (nI c)), (1, .int 2), (0, .ref (G.2.1 29))] [0, 1, 2, 3] rfl ?_
      refine lp_layd2 (L := Pf n 2 ++ cs n 2 c) hn hD h12 (by omega) (len_ok n (by omega) 2 (by omega) c (by omega)) (fun S2 hM2 => ?_) (n + 1) 0 S (by omega) (by omega) (by rw [rows_nil (fun k hk => absurd hk (Nat.not_lt_zero _)), List.append_nil]; exact hM)
      refine V_iinc [(2, .int (nI (c + 1))), (1, .int 2), (0, .ref (G.2.1 29))] dX8_layStories_84 0 rfl (nI_1 _) (Nat.le_of_ble_eq_true rfl) rfl ?_
      refine V_goto 19 dX8_layStories_87 (by decide) ?_
      refine V_lv [(2, .int (nI (c + 1))), (1, .int 2), (0, .ref (G.2.1 29))] [0, 1, 2] rfl ?_
      exact ih (c + 1) S2 (by omega) (by omega) (by rw [cs_succ, ← List.append_assoc]; exact hM2)
theorem lp_lay1 {G : GX} {d n m : Nat} {S0 : ST} {Q : ST → Prop} (hn : S0.1 10 = nI n) (hD : DTm S0 m) (h12 : n ≤ 12) (hq : ∀ S2, MS S0 m (stl n) S2 → Q S2) : ∀ (k c : Nat) (S : ST), c ≤ n → n - c < k → MS S0 m (Pf n 1 ++ cs n 1 c) S → V (pM G (d + 4) mX8_layStories (qv Q)) 19 [(2, .int (nI c)), (1, .int 1), (0, .ref (G.2.1 29))] [] S := by
  intro k
  induction k with
  | zero => intro c S hc hk; exact absurd hk (Nat.not_lt_zero _)
  | succ k ih =>
    intro c S hcn hk hM
    refine V_iload_n dX8_layStories_19 rfl 0 rfl ?_
    refine V_aload_n dX8_layStories_20 rfl 2 rfl ?_
    refine g_29_0 tw_628 dX8_layStories_21 ?_
    refine V_topi (v := nI n) ((hM.1.1 10 (by decide)).trans hn) ?_
    refine V_icmp_gen 90 (a := c) (b := n) dX8_layStories_24 (by decide) (by omega) (by omega) (fun h1 => ?_) (fun h1 => ?_)
    · have hin : c = n := by omega
      subst hin
      refine V_iinc [(1, .int 2), (2, .int (nI c)), (0, .ref (G.2.1 29))] dX8_layStories_90 1 rfl rfl (Nat.le_of_ble_eq_true rfl) rfl ?_
      refine V_goto 12 dX8_layStories_93 (by decide) ?_
      refine V_iload_n dX8_layStories_12 rfl 0 rfl ?_
      refine V_iconst (v := 3) dX8_layStories_13 ki_3 ?_
      refine V_icmp_ge 96 dX8_layStories_14 (by decide) (fun hz => absurd hz (by decide)) (fun _ => ?_)
      refine V_iconst (v := 0) dX8_layStories_17 ki_0 ?_
      refine V_istore_n [(2, .int 0), (1, .int 2), (0, .ref (G.2.1 29))] dX8_layStories_18 rfl (Nat.le_of_ble_eq_true rfl) rfl ?_
      refine V_lv [(2, .int 0), (1, .int 2), (0, .ref (G.2.1 29))] [0, 1, 2] rfl ?_
      exact lp_lay2 hn hD h12 hq (c + 1) 0 S (by omega) (by omega) (by rw [cs_0, List.append_nil]; exact hM)
    · refine V_iload_n dX8_layStories_27 rfl 1 rfl ?_
      refine V_if_ne 39 dX8_layStories_28 (by decide) (fun _ => ?_) (fun hz => absurd hz (by decide))
      refine V_iconst (v := 0) dX8_layStories_39 ki_0 ?_
      refine V_istore_n [(3, .int 0), (2, .int (nI c)), (1, .int 1), (0, .ref (G.2.1 29))] dX8_layStories_40 rfl (Nat.le_of_ble_eq_true rfl) rfl ?_
      refine V_lv [(3, .int 0), (2, .int (nI c)), (1, .int 1), (0, .ref (G.2.1 29))] [0, 1, 2, 3] rfl ?_
      refine lp_layd1 (L := Pf n 1 ++ cs n 1 c) hn hD h12 (by omega) (len_ok n (by omega) 1 (by omega) c (by omega)) (fun S2 hM2 => ?_) (n + 1) 0 S (by omega) (by omega) (by rw [rows_nil (fun k hk => absurd hk (Nat.not_lt_zero _)), List.append_nil]; exact hM)
      refine V_iinc [(2, .int (nI (c + 1))), (1, .int 1), (0, .ref (G.2.1 29))] dX8_layStories_84 0 rfl (nI_1 _) (Nat.le_of_ble_eq_true rfl) rfl ?_
      refine V_goto 19 dX8_layStories_87 (by decide) ?_
      refine V_lv [(2, .int (nI (c + 1))), (1, .int 1), (0, .ref (G.2.1 29))] [0, 1, 2] rfl ?_
      exact ih (c + 1) S2 (by omega) (by omega) (by rw [cs_succ, ← List.append_assoc]; exact hM2)
theorem lp_lay0 {G : GX} {d n m : Nat} {S0 : ST} {Q : ST → Prop} (hn : S0.1 10 = nI n) (hD : DTm S0 m) (h12 : n ≤ 12) (hq : ∀ S2, MS S0 m (stl n) S2 → Q S2) : ∀ (k c : Nat) (S : ST), c ≤ n → n - c < k → MS S0 m (Pf n 0 ++ cs n 0 c) S → V (pM G (d + 4) mX8_layStories (qv Q)) 19 [(2, .int (nI c)), (1, .int 0), (0, .ref (G.2.1 29))] [] S := by
  intro k
  induction k with
  | zero => intro c S hc hk; exact absurd hk (Nat.not_lt_zero _)
  | succ k ih =>
    intro c S hcn hk hM
    refine V_iload_n dX8_layStories_19 rfl 0 rfl ?_
    refine V_aload_n dX8_layStories_20 rfl 2 rfl ?_
    refine g_29_0 tw_628 dX8_layStories_21 ?_
    refine V_topi (v := nI n) ((hM.1.1 10 (by decide)).trans hn) ?_
    refine V_icmp_gen 90 (a := c) (b := n) dX8_layStories_24 (by decide) (by omega) (by omega) (fun h1 => ?_) (fun h1 => ?_)
    · have hin : c = n := by omega
      subst hin
      refine V_iinc [(1, .int 1), (2, .int (nI c)), (0, .ref (G.2.1 29))] dX8_layStories_90 1 rfl rfl (Nat.le_of_ble_eq_true rfl) rfl ?_
      refine V_goto 12 dX8_layStories_93 (by decide) ?_
      refine V_iload_n dX8_layStories_12 rfl 0 rfl ?_
      refine V_iconst (v := 3) dX8_layStories_13 ki_3 ?_
      refine V_icmp_ge 96 dX8_layStories_14 (by decide) (fun hz => absurd hz (by decide)) (fun _ => ?_)
      refine V_iconst (v := 0) dX8_layStories_17 ki_0 ?_
      refine V_istore_n [(2, .int 0), (1, .int 1), (0, .ref (G.2.1 29))] dX8_layStories_18 rfl (Nat.le_of_ble_eq_true rfl) rfl ?_
      refine V_lv [(2, .int 0), (1, .int 1), (0, .ref (G.2.1 29))] [0, 1, 2] rfl ?_
      exact lp_lay1 hn hD h12 hq (c + 1) 0 S (by omega) (by omega) (by rw [cs_0, List.append_nil]; exact hM)
    · refine V_iload_n dX8_layStories_27 rfl 1 rfl ?_
      refine V_if_ne 39 dX8_layStories_28 (by decide) (fun hz => absurd hz (by decide)) (fun _ => ?_)
      refine V_aload_n dX8_layStories_31 rfl 2 rfl ?_
      refine V_iload_n dX8_layStories_32 rfl 1 rfl ?_
      refine V_iload_n dX8_layStories_33 rfl 0 rfl ?_
      refine V_bipush (v := -6) dX8_layStories_34 kb_m6 ?_
      refine V_cVv (P := pM G (d + 4) mX8_layStories _) (d := d + 3) 29 (r := []) (As := [.int 0, .int (nI c), .int (-6)]) (K := mX8_add) ok_X8_add tw_788 (ob_29 _) rfl (rmOk (Nat.le_of_ble_eq_true rfl)) (Nat.le_of_ble_eq_true rfl) dX8_layStories_36 rfl (c_X8_add0 (L := Pf n 0 ++ cs n 0 c) hM hD (by omega) (by have h9 := len_ok n (by omega) 0 (by omega) c (by omega); have h8 := rows_mono (s := 0) (c := c) (show c + 1 ≤ n by omega); rw [rows_t (by rw [al0]; exact decide_eq_true rfl), List.length_append] at h8; have h7 : [(0, c, c)].length = 1 := rfl; omega) (fun S2 hM2 => ?_))
      refine V_iconst (v := 0) dX8_layStories_39 ki_0 ?_
      refine V_istore_n [(3, .int 0), (2, .int (nI c)), (1, .int 0), (0, .ref (G.2.1 29))] dX8_layStories_40 rfl (Nat.le_of_ble_eq_true rfl) rfl ?_
      refine V_iload_n dX8_layStories_41 rfl 0 rfl ?_
      refine V_aload_n dX8_layStories_42 rfl 3 rfl ?_
      refine g_29_0 tw_628 dX8_layStories_43 ?_
      refine V_topi (v := nI n) ((hM2.1.1 10 (by decide)).trans hn) ?_
      refine V_icmp_gen 84 (a := 0) (b := n) dX8_layStories_46 (by decide) (by omega) (by omega) (fun h2 => ?_) (fun h2 => ?_)
      · refine V_iinc [(2, .int (nI (c + 1))), (3, .int 0), (1, .int 0), (0, .ref (G.2.1 29))] dX8_layStories_84 1 rfl (nI_1 _) (Nat.le_of_ble_eq_true rfl) rfl ?_
        refine V_goto 19 dX8_layStories_87 (by decide) ?_
        have er : rows 0 c n = [(0, c, c)] := by rw [rows_stay (show c + 1 ≤ n by omega) (fun k a b => by rw [al0]; exact decide_eq_false (by omega)), rows_t (by rw [al0]; exact decide_eq_true rfl), rows_nil (fun k hk => by rw [al0]; exact decide_eq_false (by omega))]; rfl
        refine V_lv [(2, .int (nI (c + 1))), (1, .int 0), (0, .ref (G.2.1 29))] [0, 2, 3] rfl ?_
        exact ih (c + 1) S2 (by omega) (by omega) (by rw [cs_succ, ← List.append_assoc, er]; exact hM2)
      · refine V_iload_n dX8_layStories_49 rfl 2 rfl ?_
        refine V_if_le 84 dX8_layStories_50 (by decide) (fun _ => ?_) (fun hz => absurd hz (by decide))
        refine V_iinc [(2, .int (nI (c + 1))), (3, .int 0), (1, .int 0), (0, .ref (G.2.1 29))] dX8_layStories_84 1 rfl (nI_1 _) (Nat.le_of_ble_eq_true rfl) rfl ?_
        refine V_goto 19 dX8_layStories_87 (by decide) ?_
        have er : rows 0 c n = [(0, c, c)] := by rw [rows_stay (show c + 1 ≤ n by omega) (fun k a b => by rw [al0]; exact decide_eq_false (by omega)), rows_t (by rw [al0]; exact decide_eq_true rfl), rows_nil (fun k hk => by rw [al0]; exact decide_eq_false (by omega))]; rfl
        refine V_lv [(2, .int (nI (c + 1))), (1, .int 0), (0, .ref (G.2.1 29))] [0, 2, 3] rfl ?_
        exact ih (c + 1) S2 (by omega) (by omega) (by rw [cs_succ, ← List.append_assoc, er]; exact hM2)
theorem c_X8_layStories {G : GX} {d : Nat} {S : ST} {n m : Nat} {Q : ST → Prop} (hn : S.1 10 = nI n) (hD : DTm S m) (h12 : n ≤ 12) (hq : ∀ S2, MS S m (stl n) S2 → Q S2) : Cn G (d + 4) mX8_layStories [.ref (G.2.1 29)] S (qv Q) := by
  refine Cn.intro (lv := [(0, .ref (G.2.1 29))]) (by decide) (Nat.le_of_ble_eq_true rfl) rfl ?_
  refine V_aload_n dX8_layStories_0 rfl 0 rfl ?_
  refine V_iconst (v := 0) dX8_layStories_1 ki_0 ?_
  refine p_29_14 tw_642 dX8_layStories_2 ?_
  refine V_aload_n dX8_layStories_5 rfl 0 rfl ?_
  refine V_lconst (v := 0) dX8_layStories_6 rfl ?_
  refine p_29_19 tw_647 dX8_layStories_7 ?_
  refine V_iconst (v := 0) dX8_layStories_10 ki_0 ?_
  refine V_istore_n [(1, .int 0), (0, .ref (G.2.1 29))] dX8_layStories_11 rfl (Nat.le_of_ble_eq_true rfl) rfl ?_
  refine V_iload_n dX8_layStories_12 rfl 0 rfl ?_
  refine V_iconst (v := 3) dX8_layStories_13 ki_3 ?_
  refine V_icmp_ge 96 dX8_layStories_14 (by decide) (fun hz => absurd hz (by decide)) (fun _ => ?_)
  refine V_iconst (v := 0) dX8_layStories_17 ki_0 ?_
  refine V_istore_n [(2, .int 0), (1, .int 0), (0, .ref (G.2.1 29))] dX8_layStories_18 rfl (Nat.le_of_ble_eq_true rfl) rfl ?_
  refine V_lv [(2, .int 0), (1, .int 0), (0, .ref (G.2.1 29))] [0, 1, 2] rfl ?_
  refine lp_lay0 (S0 := S) hn hD h12 hq (n + 1) 0 _ (by omega) (by omega) ⟨⟨?_, ?_, ?_, ?_⟩, rfl, ?_, rfl⟩
  · intro k a; simp [setI, setL, va_up, a]
  · intro k a; simp [setI, setL, va_up, a]
  · intro k a b c; rfl
  · intro k a; rfl
  · intro k x hk; exact absurd hk (by simp [Pf, cs])
