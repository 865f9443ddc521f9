theorem lp_msorts {G : GX} {d n m s2 : Nat} {q : Int32} {S0 S : ST} {Q : Int64 → ST → Prop} (hM : MS S0 m (stl n) S) (h12 : n ≤ 12) (hD : DTm S0 m) (hR : RG (S0.2.2.1 37) (S0.2.2.1 31) n) (hf : fr q 0 1 = true) (hs2 : s2 < 3) (hq : Q (frc (lsum (fun x => if x.1 = s2 then wMX S0 m x else 0) (stl n)) (lsum (wMX S0 m) (stl n)) q) S) : ∀ (k i : Nat), i ≤ ((stl n).length) → ((stl n).length) - i < k → V (pM G (d + 5) mX8_sorts (ql Q)) 29 [(5, .int (nI i)), (3, .long (lsum (fun x => if x.1 = s2 then wMX S0 m x else 0) ((stl n).take i))), (0, .ref (G.2.1 29)), (1, .int (nI s2)), (2, .int q)] [] S := by
  have hl2 := stl_len n (by omega)
  intro k
  induction k with
  | zero => intro i hi hk; exact absurd hk (Nat.not_lt_zero _)
  | succ k ih =>
    intro i hi hk
    refine V_iload dX8_sorts_29 0 rfl ?_
    refine V_aload_n dX8_sorts_31 rfl 2 rfl ?_
    refine g_29_14 tw_642 dX8_sorts_32 ?_
    refine V_topi (v := nI ((stl n).length)) (id hM.2.1) ?_
    refine V_icmp_gen 69 (a := i) (b := ((stl n).length)) dX8_sorts_35 (by decide) (by omega) (by omega) (fun h1 => ?_) (fun h1 => ?_)
    · refine V_lload_n dX8_sorts_69 rfl 1 rfl ?_
      refine V_aload_n dX8_sorts_70 rfl 2 rfl ?_
      refine g_29_19 tw_647 dX8_sorts_71 ?_
      refine V_topl (v := lsum (wMX S0 m) (stl n)) (id hM.2.2.2) ?_
      refine V_iload_n dX8_sorts_74 rfl 4 rfl ?_
      have hin : i = ((stl n).length) := by omega
      refine V_cSl (P := pM G (d + 5) mX8_sorts _) (d := d + 4) (r := []) (As := [.long (lsum (fun x => if x.1 = s2 then wMX S0 m x else 0) ((stl n).take i)), .long (lsum (wMX S0 m) (stl n)), .int q]) (K := mX8_term) ok_X8_term tw_792 rfl (rmOk (Nat.le_of_ble_eq_true rfl)) (Nat.le_of_ble_eq_true rfl) dX8_sorts_75 rfl (c_X8_frc (ba := 153090000000000000) (bb := 153090000000000000) (by rw [hin, List.take_length]; exact all_ub (S := S0) (m := m) h12 (fun x hx => ub_if (wM_ub hR hD.2.1 x hx))) (all_ub (S := S0) (m := m) h12 (wM_ub hR hD.2.1)) (by decide) (by decide) hf ?_)
      refine V_lret rfl dX8_sorts_78 ⟨_, rfl, ?_⟩
      exact qcast hq (by rw [hin, List.take_length])
    · obtain ⟨x, hx⟩ : ∃ x, (stl n)[i]? = some x := ⟨_, List.getElem?_eq_getElem h1⟩
      obtain ⟨x1, x2, x3, x4⟩ := hM.2.2.1 i _ hx
      obtain ⟨y1, y2, y3⟩ := stl_at hx
      refine V_lload_n dX8_sorts_38 rfl 1 rfl ?_
      refine V_aload_n dX8_sorts_39 rfl 2 rfl ?_
      refine g_29_15 tw_643 dX8_sorts_40 ?_
      refine V_iload dX8_sorts_43 0 rfl ?_
      refine l_40n (by omega) dX8_sorts_45 ?_
      refine V_topi (v := nI (x.1)) (id x1) ?_
      refine V_iload_n dX8_sorts_46 rfl 3 rfl ?_
      refine V_icmp_nen 60 (a := (x.1)) (b := s2) dX8_sorts_47 (by decide) (by omega) (by omega) (fun h2 => ?_) (fun h2 => ?_)
      · refine V_lconst (v := 0) dX8_sorts_60 rfl ?_
        refine V_ladd dX8_sorts_61 ?_
        refine V_lstore_n [(3, .long ((lsum (fun x => if x.1 = s2 then wMX S0 m x else 0) ((stl n).take i)) + 0)), (5, .int (nI i)), (0, .ref (G.2.1 29)), (1, .int (nI s2)), (2, .int q)] dX8_sorts_62 rfl (Nat.le_of_ble_eq_true rfl) rfl ?_
        refine V_iinc [(5, .int (nI (i + 1))), (3, .long ((lsum (fun x => if x.1 = s2 then wMX S0 m x else 0) ((stl n).take i)) + 0)), (0, .ref (G.2.1 29)), (1, .int (nI s2)), (2, .int q)] dX8_sorts_63 1 rfl (nI_1 _) (Nat.le_of_ble_eq_true rfl) rfl ?_
        refine V_goto 29 dX8_sorts_66 (by decide) ?_
        refine V_lv [(5, .int (nI (i + 1))), (3, .long ((lsum (fun x => if x.1 = s2 then wMX S0 m x else 0) ((stl n).take i)) + 0)), (0, .ref (G.2.1 29)), (1, .int (nI s2)), (2, .int q)] [0, 1, 2, 3, 4] rfl ?_
        refine V_lveq [(5, .int (nI (i + 1))), (3, .long (lsum (fun x => if x.1 = s2 then wMX S0 m x else 0) ((stl n).take (i + 1)))), (0, .ref (G.2.1 29)), (1, .int (nI s2)), (2, .int q)] (by rw [lsum_take hx]; simp [h2]) ?_
        exact ih (i + 1) (by omega) (by omega)
      · refine V_aload_n dX8_sorts_50 rfl 2 rfl ?_
        refine g_29_18 tw_646 dX8_sorts_51 ?_
        refine V_iload dX8_sorts_54 0 rfl ?_
        refine l_43n (by omega) dX8_sorts_56 ?_
        refine V_topl (v := wMX S0 m x) (id x4) ?_
        refine V_goto 61 dX8_sorts_57 (by decide) ?_
        refine V_ladd dX8_sorts_61 ?_
        refine V_lstore_n [(3, .long ((lsum (fun x => if x.1 = s2 then wMX S0 m x else 0) ((stl n).take i)) + (wMX S0 m x))), (5, .int (nI i)), (0, .ref (G.2.1 29)), (1, .int (nI s2)), (2, .int q)] dX8_sorts_62 rfl (Nat.le_of_ble_eq_true rfl) rfl ?_
        refine V_iinc [(5, .int (nI (i + 1))), (3, .long ((lsum (fun x => if x.1 = s2 then wMX S0 m x else 0) ((stl n).take i)) + (wMX S0 m x))), (0, .ref (G.2.1 29)), (1, .int (nI s2)), (2, .int q)] dX8_sorts_63 1 rfl (nI_1 _) (Nat.le_of_ble_eq_true rfl) rfl ?_
        refine V_goto 29 dX8_sorts_66 (by decide) ?_
        refine V_lv [(5, .int (nI (i + 1))), (3, .long ((lsum (fun x => if x.1 = s2 then wMX S0 m x else 0) ((stl n).take i)) + (wMX S0 m x))), (0, .ref (G.2.1 29)), (1, .int (nI s2)), (2, .int q)] [0, 1, 2, 3, 4] rfl ?_
        refine V_lveq [(5, .int (nI (i + 1))), (3, .long (lsum (fun x => if x.1 = s2 then wMX S0 m x else 0) ((stl n).take (i + 1)))), (0, .ref (G.2.1 29)), (1, .int (nI s2)), (2, .int q)] (by rw [lsum_take hx]; simp [h2]) ?_
        exact ih (i + 1) (by omega) (by omega)
theorem c_X8_sorts {G : GX} {d : Nat} {S : ST} {s q : Int32} {n m : Nat} {Q : Int64 → ST → Prop} (hn : S.1 10 = nI n) (h12 : n ≤ 12) (hD : DTm S m) (hR : RG (S.2.2.1 37) (S.2.2.1 31) n) (hq : ∀ S2, FrM S S2 → Q (sorM S n m s q) S2) : Cn G (d + 5) mX8_sorts [.ref (G.2.1 29), .int s, .int q] S (ql Q) := by
  refine Cn.intro (lv := [(0, .ref (G.2.1 29)), (1, .int s), (2, .int q)]) (by decide) (Nat.le_of_ble_eq_true rfl) rfl ?_
  refine V_iload_n dX8_sorts_0 rfl 1 rfl ?_
  refine V_iconst (v := 0) dX8_sorts_1 ki_0 ?_
  refine V_iconst (v := 2) dX8_sorts_2 ki_2 ?_
  refine V_cSi (P := pM G (d + 5) mX8_sorts _) (d := d + 4) (r := []) (As := [.int s, .int 0, .int 2]) (K := mX8_in) ok_X8_in tw_721 rfl (rmOk (Nat.le_of_ble_eq_true rfl)) (Nat.le_of_ble_eq_true rfl) dX8_sorts_3 rfl (c_X8_in ?_)
  refine V_ifb_eq 16 dX8_sorts_6 (by decide) (fun h1 => ?_) (fun h1 => ?_)
  · refine V_ldc2 dX8_sorts_16 tw_759 ?_
    refine V_lret rfl dX8_sorts_19 ⟨_, rfl, ?_⟩
    exact qcast (hq S (FrM.rf S)) (by simp [sorM, h1])
  · refine V_iload_n dX8_sorts_9 rfl 2 rfl ?_
    refine V_cSi (P := pM G (d + 5) mX8_sorts _) (d := d + 4) (r := []) (As := [.int q]) (K := mX8_isPart) ok_X8_isPart tw_732 rfl (rmOk (Nat.le_of_ble_eq_true rfl)) (Nat.le_of_ble_eq_true rfl) dX8_sorts_10 rfl (c_X8_isPart ?_)
    refine V_ifb_ne 20 dX8_sorts_13 (by decide) (fun h2 => ?_) (fun h2 => ?_)
    · refine V_aload_n dX8_sorts_20 rfl 0 rfl ?_
      refine V_cVv (P := pM G (d + 5) mX8_sorts _) (d := d + 4) 29 (r := []) (As := []) (K := mX8_layStories) ok_X8_layStories tw_784 (ob_29 _) rfl (rmOk (Nat.le_of_ble_eq_true rfl)) (Nat.le_of_ble_eq_true rfl) dX8_sorts_21 rfl (c_X8_layStories hn hD h12 (fun S2 hM2 => ?_))
      refine V_lconst (v := 0) dX8_sorts_24 rfl ?_
      refine V_lstore_n [(3, .long 0), (0, .ref (G.2.1 29)), (1, .int s), (2, .int q)] dX8_sorts_25 rfl (Nat.le_of_ble_eq_true rfl) rfl ?_
      refine V_iconst (v := 0) dX8_sorts_26 ki_0 ?_
      refine V_istore [(5, .int 0), (3, .long 0), (0, .ref (G.2.1 29)), (1, .int s), (2, .int q)] dX8_sorts_27 (Nat.le_of_ble_eq_true rfl) rfl ?_
      obtain ⟨s2, -, hs2, rfl⟩ := fr_ex (a := 0) (b := 2) rfl rfl h1 (by omega)
      refine V_lv [(5, .int 0), (3, .long 0), (0, .ref (G.2.1 29)), (1, .int (nI s2)), (2, .int q)] [0, 1, 2, 3, 4] rfl ?_
      refine V_lveq [(5, .int 0), (3, .long (lsum (fun x => if x.1 = s2 then wMX S m x else 0) ((stl n).take 0))), (0, .ref (G.2.1 29)), (1, .int (nI s2)), (2, .int q)] (by rfl) ?_
      exact lp_msorts hM2 h12 hD hR h2 (by omega) (qcast (hq S2 hM2.1) (by simp [sorM, h1, h2, nI_clamp (show s2 < 2 ^ 31 by omega)])) (((stl n).length) + 1) 0 (by omega) (by omega)
    · refine V_ldc2 dX8_sorts_16 tw_759 ?_
      refine V_lret rfl dX8_sorts_19 ⟨_, rfl, ?_⟩
      exact qcast (hq S (FrM.rf S)) (by simp [sorM, h1, h2])
theorem lp_mblame {G : GX} {d n m c2 : Nat} {q : Int32} {S0 S : ST} {Q : Int64 → ST → Prop} (hM : MS S0 m (stl n) S) (h12 : n ≤ 12) (hD : DTm S0 m) (hR : RG (S0.2.2.1 37) (S0.2.2.1 31) n) (hf : fr q 0 1 = true) (hc2 : c2 < n) (hq : Q (frc (lsum (fun x => if x.2.1 = c2 ∨ (x.1 = 1 ∧ x.2.2 = c2) then wMX S0 m x else 0) (stl n)) (lsum (wMX S0 m) (stl n)) q) S) : ∀ (k i : Nat), i ≤ ((stl n).length) → ((stl n).length) - i < k → V (pM G (d + 5) mX8_blame (ql Q)) 32 [(5, .int (nI i)), (3, .long (lsum (fun x => if x.2.1 = c2 ∨ (x.1 = 1 ∧ x.2.2 = c2) then wMX S0 m x else 0) ((stl n).take i))), (0, .ref (G.2.1 29)), (1, .int (nI c2)), (2, .int q)] [] S := by
  have hl2 := stl_len n (by omega)
  intro k
  induction k with
  | zero => intro i hi hk; exact absurd hk (Nat.not_lt_zero _)
  | succ k ih =>
    intro i hi hk
    refine V_iload dX8_blame_32 0 rfl ?_
    refine V_aload_n dX8_blame_34 rfl 2 rfl ?_
    refine g_29_14 tw_642 dX8_blame_35 ?_
    refine V_topi (v := nI ((stl n).length)) (id hM.2.1) ?_
    refine V_icmp_gen 94 (a := i) (b := ((stl n).length)) dX8_blame_38 (by decide) (by omega) (by omega) (fun h1 => ?_) (fun h1 => ?_)
    · refine V_lload_n dX8_blame_94 rfl 1 rfl ?_
      refine V_aload_n dX8_blame_95 rfl 2 rfl ?_
      refine g_29_19 tw_647 dX8_blame_96 ?_
      refine V_topl (v := lsum (wMX S0 m) (stl n)) (id hM.2.2.2) ?_
      refine V_iload_n dX8_blame_99 rfl 4 rfl ?_
      have hin : i = ((stl n).length) := by omega
      refine V_cSl (P := pM G (d + 5) mX8_blame _) (d := d + 4) (r := []) (As := [.long (lsum (fun x => if x.2.1 = c2 ∨ (x.1 = 1 ∧ x.2.2 = c2) then wMX S0 m x else 0) ((stl n).take i)), .long (lsum (wMX S0 m) (stl n)), .int q]) (K := mX8_term) ok_X8_term tw_792 rfl (rmOk (Nat.le_of_ble_eq_true rfl)) (Nat.le_of_ble_eq_true rfl) dX8_blame_100 rfl (c_X8_frc (ba := 153090000000000000) (bb := 153090000000000000) (by rw [hin, List.take_length]; exact all_ub (S := S0) (m := m) h12 (fun x hx => ub_if (wM_ub hR hD.2.1 x hx))) (all_ub (S := S0) (m := m) h12 (wM_ub hR hD.2.1)) (by decide) (by decide) hf ?_)
      refine V_lret rfl dX8_blame_103 ⟨_, rfl, ?_⟩
      exact qcast hq (by rw [hin, List.take_length])
    · obtain ⟨x, hx⟩ : ∃ x, (stl n)[i]? = some x := ⟨_, List.getElem?_eq_getElem h1⟩
      obtain ⟨x1, x2, x3, x4⟩ := hM.2.2.1 i _ hx
      obtain ⟨y1, y2, y3⟩ := stl_at hx
      refine V_lload_n dX8_blame_41 rfl 1 rfl ?_
      refine V_aload_n dX8_blame_42 rfl 2 rfl ?_
      refine g_29_16 tw_644 dX8_blame_43 ?_
      refine V_iload dX8_blame_46 0 rfl ?_
      refine l_41n (by omega) dX8_blame_48 ?_
      refine V_topi (v := nI (x.2.1)) (id x2) ?_
      refine V_iload_n dX8_blame_49 rfl 3 rfl ?_
      refine V_icmp_eqn 75 (a := (x.2.1)) (b := c2) dX8_blame_50 (by decide) (by omega) (by omega) (fun h2 => ?_) (fun h2 => ?_)
      · refine V_aload_n dX8_blame_75 rfl 2 rfl ?_
        refine g_29_18 tw_646 dX8_blame_76 ?_
        refine V_iload dX8_blame_79 0 rfl ?_
        refine l_43n (by omega) dX8_blame_81 ?_
        refine V_topl (v := wMX S0 m x) (id x4) ?_
        refine V_goto 86 dX8_blame_82 (by decide) ?_
        refine V_ladd dX8_blame_86 ?_
        refine V_lstore_n [(3, .long ((lsum (fun x => if x.2.1 = c2 ∨ (x.1 = 1 ∧ x.2.2 = c2) then wMX S0 m x else 0) ((stl n).take i)) + (wMX S0 m x))), (5, .int (nI i)), (0, .ref (G.2.1 29)), (1, .int (nI c2)), (2, .int q)] dX8_blame_87 rfl (Nat.le_of_ble_eq_true rfl) rfl ?_
        refine V_iinc [(5, .int (nI (i + 1))), (3, .long ((lsum (fun x => if x.2.1 = c2 ∨ (x.1 = 1 ∧ x.2.2 = c2) then wMX S0 m x else 0) ((stl n).take i)) + (wMX S0 m x))), (0, .ref (G.2.1 29)), (1, .int (nI c2)), (2, .int q)] dX8_blame_88 1 rfl (nI_1 _) (Nat.le_of_ble_eq_true rfl) rfl ?_
        refine V_goto 32 dX8_blame_91 (by decide) ?_
        refine V_lv [(5, .int (nI (i + 1))), (3, .long ((lsum (fun x => if x.2.1 = c2 ∨ (x.1 = 1 ∧ x.2.2 = c2) then wMX S0 m x else 0) ((stl n).take i)) + (wMX S0 m x))), (0, .ref (G.2.1 29)), (1, .int (nI c2)), (2, .int q)] [0, 1, 2, 3, 4] rfl ?_
        refine V_lveq [(5, .int (nI (i + 1))), (3, .long (lsum (fun x => if x.2.1 = c2 ∨ (x.1 = 1 ∧ x.2.2 = c2) then wMX S0 m x else 0) ((stl n).take (i + 1)))), (0, .ref (G.2.1 29)), (1, .int (nI c2)), (2, .int q)] (by rw [lsum_take hx]; simp [h2]) ?_
        exact ih (i + 1) (by omega) (by omega)
      · refine V_aload_n dX8_blame_53 rfl 2 rfl ?_
        refine g_29_15 tw_643 dX8_blame_54 ?_
        refine V_iload dX8_blame_57 0 rfl ?_
        refine l_40n (by omega) dX8_blame_59 ?_
        refine V_topi (v := nI (x.1)) (id x1) ?_
        refine V_iconst (v := 1) dX8_blame_60 ki_1 ?_
        refine V_icmp_nen 85 (a := (x.1)) (b := 1) dX8_blame_61 (by decide) (by omega) (by omega) (fun h3 => ?_) (fun h3 => ?_)
        · refine V_lconst (v := 0) dX8_blame_85 rfl ?_
          refine V_ladd dX8_blame_86 ?_
          refine V_lstore_n [(3, .long ((lsum (fun x => if x.2.1 = c2 ∨ (x.1 = 1 ∧ x.2.2 = c2) then wMX S0 m x else 0) ((stl n).take i)) + 0)), (5, .int (nI i)), (0, .ref (G.2.1 29)), (1, .int (nI c2)), (2, .int q)] dX8_blame_87 rfl (Nat.le_of_ble_eq_true rfl) rfl ?_
          refine V_iinc [(5, .int (nI (i + 1))), (3, .long ((lsum (fun x => if x.2.1 = c2 ∨ (x.1 = 1 ∧ x.2.2 = c2) then wMX S0 m x else 0) ((stl n).take i)) + 0)), (0, .ref (G.2.1 29)), (1, .int (nI c2)), (2, .int q)] dX8_blame_88 1 rfl (nI_1 _) (Nat.le_of_ble_eq_true rfl) rfl ?_
          refine V_goto 32 dX8_blame_91 (by decide) ?_
          refine V_lv [(5, .int (nI (i + 1))), (3, .long ((lsum (fun x => if x.2.1 = c2 ∨ (x.1 = 1 ∧ x.2.2 = c2) then wMX S0 m x else 0) ((stl n).take i)) + 0)), (0, .ref (G.2.1 29)), (1, .int (nI c2)), (2, .int q)] [0, 1, 2, 3, 4] rfl ?_
          refine V_lveq [(5, .int (nI (i + 1))), (3, .long (lsum (fun x => if x.2.1 = c2 ∨ (x.1 = 1 ∧ x.2.2 = c2) then wMX S0 m x else 0) ((stl n).take (i + 1)))), (0, .ref (G.2.1 29)), (1, .int (nI c2)), (2, .int q)] (by rw [lsum_take hx]; simp [h2, h3]) ?_
          exact ih (i + 1) (by omega) (by omega)
        · refine V_aload_n dX8_blame_64 rfl 2 rfl ?_
          refine g_29_17 tw_645 dX8_blame_65 ?_
          refine V_iload dX8_blame_68 0 rfl ?_
          refine l_42n (by omega) dX8_blame_70 ?_
          refine V_topi (v := nI (x.2.2)) (x3.trans (by rw [tw, if_neg (by omega)])) ?_
          refine V_iload_n dX8_blame_71 rfl 3 rfl ?_
          refine V_icmp_nen 85 (a := (x.2.2)) (b := c2) dX8_blame_72 (by decide) (by omega) (by omega) (fun h4 => ?_) (fun h4 => ?_)
          · refine V_lconst (v := 0) dX8_blame_85 rfl ?_
            refine V_ladd dX8_blame_86 ?_
            refine V_lstore_n [(3, .long ((lsum (fun x => if x.2.1 = c2 ∨ (x.1 = 1 ∧ x.2.2 = c2) then wMX S0 m x else 0) ((stl n).take i)) + 0)), (5, .int (nI i)), (0, .ref (G.2.1 29)), (1, .int (nI c2)), (2, .int q)] dX8_blame_87 rfl (Nat.le_of_ble_eq_true rfl) rfl ?_
            refine V_iinc [(5, .int (nI (i + 1))), (3, .long ((lsum (fun x => if x.2.1 = c2 ∨ (x.1 = 1 ∧ x.2.2 = c2) then wMX S0 m x else 0) ((stl n).take i)) + 0)), (0, .ref (G.2.1 29)), (1, .int (nI c2)), (2, .int q)] dX8_blame_88 1 rfl (nI_1 _) (Nat.le_of_ble_eq_true rfl) rfl ?_
            refine V_goto 32 dX8_blame_91 (by decide) ?_
            refine V_lv [(5, .int (nI (i + 1))), (3, .long ((lsum (fun x => if x.2.1 = c2 ∨ (x.1 = 1 ∧ x.2.2 = c2) then wMX S0 m x else 0) ((stl n).take i)) + 0)), (0, .ref (G.2.1 29)), (1, .int (nI c2)), (2, .int q)] [0, 1, 2, 3, 4] rfl ?_
            refine V_lveq [(5, .int (nI (i + 1))), (3, .long (lsum (fun x => if x.2.1 = c2 ∨ (x.1 = 1 ∧ x.2.2 = c2) then wMX S0 m x else 0) ((stl n).take (i + 1)))), (0, .ref (G.2.1 29)), (1, .int (nI c2)), (2, .int q)] (by rw [lsum_take hx]; simp [h2, h3, h4]) ?_
            exact ih (i + 1) (by omega) (by omega)
          · refine V_aload_n dX8_blame_75 rfl 2 rfl ?_
            refine g_29_18 tw_646 dX8_blame_76 ?_
            refine V_iload dX8_blame_79 0 rfl ?_
            refine l_43n (by omega) dX8_blame_81 ?_
            refine V_topl (v := wMX S0 m x) (id x4) ?_
            refine V_goto 86 dX8_blame_82 (by decide) ?_
            refine V_ladd dX8_blame_86 ?_
            refine V_lstore_n [(3, .long ((lsum (fun x => if x.2.1 = c2 ∨ (x.1 = 1 ∧ x.2.2 = c2) then wMX S0 m x else 0) ((stl n).take i)) + (wMX S0 m x))), (5, .int (nI i)), (0, .ref (G.2.1 29)), (1, .int (nI c2)), (2, .int q)] dX8_blame_87 rfl (Nat.le_of_ble_eq_true rfl) rfl ?_
            refine V_iinc [(5, .int (nI (i + 1))), (3, .long ((lsum (fun x => if x.2.1 = c2 ∨ (x.1 = 1 ∧ x.2.2 = c2) then wMX S0 m x else 0) ((stl n).take i)) + (wMX S0 m x))), (0, .ref (G.2.1 29)), (1, .int (nI c2)), (2, .int q)] dX8_blame_88 1 rfl (nI_1 _) (Nat.le_of_ble_eq_true rfl) rfl ?_
            refine V_goto 32 dX8_blame_91 (by decide) ?_
            refine V_lv [(5, .int (nI (i + 1))), (3, .long ((lsum (fun x => if x.2.1 = c2 ∨ (x.1 = 1 ∧ x.2.2 = c2) then wMX S0 m x else 0) ((stl n).take i)) + (wMX S0 m x))), (0, .ref (G.2.1 29)), (1, .int (nI c2)), (2, .int q)] [0, 1, 2, 3, 4] rfl ?_
            refine V_lveq [(5, .int (nI (i + 1))), (3, .long (lsum (fun x => if x.2.1 = c2 ∨ (x.1 = 1 ∧ x.2.2 = c2) then wMX S0 m x else 0) ((stl n).take (i + 1)))), (0, .ref (G.2.1 29)), (1, .int (nI c2)), (2, .int q)] (by rw [lsum_take hx]; simp [h2, h3, h4]) ?_
            exact ih (i + 1) (by omega) (by omega)
theorem c_X8_blame {G : GX} {d : Nat} {S : ST} {c q : Int32} {n m : Nat} {Q : Int64 → ST → Prop} (hn : S.1 10 = nI n) (h12 : n ≤ 12) (hD : DTm S m) (hR : RG (S.2.2.1 37) (S.2.2.1 31) n) (hq : ∀ S2, FrM S S2 → Q (blaM S n m c q) S2) : Cn G (d + 5) mX8_blame [.ref (G.2.1 29), .int c, .int q] S (ql Q) := by
  refine Cn.intro (lv := [(0, .ref (G.2.1 29)), (1, .int c), (2, .int q)]) (by decide) (Nat.le_of_ble_eq_true rfl) rfl ?_
  refine V_aload_n dX8_blame_0 rfl 0 rfl ?_
  refine V_iload_n dX8_blame_1 rfl 1 rfl ?_
  refine V_cVi (P := pM G (d + 5) mX8_blame _) (d := d + 4) 29 (r := []) (As := [.int c]) (K := mX8_isVersion) ok_X8_isVersion tw_717 (ob_29 _) rfl (rmOk (Nat.le_of_ble_eq_true rfl)) (Nat.le_of_ble_eq_true rfl) dX8_blame_2 rfl (c_X8_isVersion hn h12 ?_)
  refine V_ifb_ne 12 dX8_blame_5 (by decide) (fun h1 => ?_) (fun h1 => ?_)
  · refine V_iload_n dX8_blame_12 rfl 2 rfl ?_
    refine V_cSi (P := pM G (d + 5) mX8_blame _) (d := d + 4) (r := []) (As := [.int q]) (K := mX8_isPart) ok_X8_isPart tw_732 rfl (rmOk (Nat.le_of_ble_eq_true rfl)) (Nat.le_of_ble_eq_true rfl) dX8_blame_13 rfl (c_X8_isPart ?_)
    refine V_ifb_ne 23 dX8_blame_16 (by decide) (fun h2 => ?_) (fun h2 => ?_)
    · refine V_aload_n dX8_blame_23 rfl 0 rfl ?_
      refine V_cVv (P := pM G (d + 5) mX8_blame _) (d := d + 4) 29 (r := []) (As := []) (K := mX8_layStories) ok_X8_layStories tw_784 (ob_29 _) rfl (rmOk (Nat.le_of_ble_eq_true rfl)) (Nat.le_of_ble_eq_true rfl) dX8_blame_24 rfl (c_X8_layStories hn hD h12 (fun S2 hM2 => ?_))
      refine V_lconst (v := 0) dX8_blame_27 rfl ?_
      refine V_lstore_n [(3, .long 0), (0, .ref (G.2.1 29)), (1, .int c), (2, .int q)] dX8_blame_28 rfl (Nat.le_of_ble_eq_true rfl) rfl ?_
      refine V_iconst (v := 0) dX8_blame_29 ki_0 ?_
      refine V_istore [(5, .int 0), (3, .long 0), (0, .ref (G.2.1 29)), (1, .int c), (2, .int q)] dX8_blame_30 (Nat.le_of_ble_eq_true rfl) rfl ?_
      obtain ⟨c2, hc2, rfl⟩ := kn_ex h1 (by omega)
      refine V_lv [(5, .int 0), (3, .long 0), (0, .ref (G.2.1 29)), (1, .int (nI c2)), (2, .int q)] [0, 1, 2, 3, 4] rfl ?_
      refine V_lveq [(5, .int 0), (3, .long (lsum (fun x => if x.2.1 = c2 ∨ (x.1 = 1 ∧ x.2.2 = c2) then wMX S m x else 0) ((stl n).take 0))), (0, .ref (G.2.1 29)), (1, .int (nI c2)), (2, .int q)] (by rfl) ?_
      exact lp_mblame hM2 h12 hD hR h2 hc2 (qcast (hq S2 hM2.1) (by simp [blaM, h1, h2, nI_clamp (show c2 < 2 ^ 31 by omega)])) (((stl n).length) + 1) 0 (by omega) (by omega)
    · refine V_ldc2 dX8_blame_19 tw_759 ?_
      refine V_lret rfl dX8_blame_22 ⟨_, rfl, ?_⟩
      exact qcast (hq S (FrM.rf S)) (by simp [blaM, h1, h2])
  · refine V_ldc2 dX8_blame_8 tw_779 ?_
    refine V_lret rfl dX8_blame_11 ⟨_, rfl, ?_⟩
    exact qcast (hq S (FrM.rf S)) (by simp [blaM, h1])
theorem gm_gxo {w : XT → Int64} {L : List XT} {f : Nat → Int64} (hf : ∀ k x, L[k]? = some x → f k = w x) : ∀ {i : Nat}, i ≤ L.length → (gm f i).2 = (gxo w (L.take i)).1 ∧ ((gxo w (L.take i)).2 = none → (gm f i).1 = -6) ∧ ∀ x, (gxo w (L.take i)).2 = some x → ∃ j, j < i ∧ (gm f i).1 = nI j ∧ L[j]? = some x
  | 0, _ => ⟨rfl, fun _ => rfl, fun x hx => by cases hx⟩
  | i + 1, hi => by
    obtain ⟨h1, h2, h3⟩ := gm_gxo hf (i := i) (by omega)
    obtain ⟨y, hy⟩ : ∃ y, L[i]? = some y := ⟨_, List.getElem?_eq_getElem (by omega)⟩
    rw [List.take_succ, hy, show L.take i ++ (some y).toList = L.take i ++ [y] from rfl, gxo_app, gm_s, hf i y hy, h1]
    unfold gxs
    by_cases h : (gxo w (L.take i)).1 < w y
    · rw [if_pos h, if_pos h]
      refine ⟨rfl, fun z => (by cases z), fun x hx => ⟨i, by omega, rfl, ?_⟩⟩
      rw [← hx]; exact hy
    · rw [if_neg h, if_neg h]
      refine ⟨h1, h2, fun x hx => ?_⟩
      obtain ⟨j, a1, a2, a3⟩ := h3 x hx
      exact ⟨j, by omega, a2, a3⟩
theorem gm_end {w : XT → Int64} {n : Nat} {f : Nat → Int64} (hf : ∀ k x, (stl n)[k]? = some x → f k = w x) : ((gxo w (stl n)).2 = none ∧ (gm f (stl n).length).1 = -6) ∨ ∃ x j, (gxo w (stl n)).2 = some x ∧ j < (stl n).length ∧ (gm f (stl n).length).1 = nI j ∧ (stl n)[j]? = some x := by
  obtain ⟨-, h2, h3⟩ := gm_gxo hf (Nat.le_refl (stl n).length)
  rw [List.take_length] at h2 h3
  cases h : (gxo w (stl n)).2 with
  | none => exact Or.inl ⟨rfl, h2 h⟩
  | some x => obtain ⟨j, a1, a2, a3⟩ := h3 x h; exact Or.inr ⟨x, j, rfl, a1, a2, a3⟩
def gueM (S : ST) (n m : Nat) (w : Int32) : Int32 := if fr w 0 2 then guR w (gxo (wMX S m) (stl n)).2 else -2
theorem c_X8_guess {G : GX} {d : Nat} {S : ST} {w : Int32} {n m : Nat} {Q : Int32 → ST → Prop} (hn : S.1 10 = nI n) (h12 : n ≤ 12) (hD : DTm S m) (hq : ∀ S2, FrM S S2 → Q (gueM S n m w) S2) : Cn G (d + 5) mX8_guess [.ref (G.2.1 29), .int w] S (qi Q) := by
  refine Cn.intro (lv := [(0, .ref (G.2.1 29)), (1, .int w)]) (by decide) (Nat.le_of_ble_eq_true rfl) rfl ?_
  refine V_iload_n dX8_guess_0 rfl 1 rfl ?_
  refine V_iconst (v := 0) dX8_guess_1 ki_0 ?_
  refine V_iconst (v := 2) dX8_guess_2 ki_2 ?_
  refine V_cSi (P := pM G (d + 5) mX8_guess _) (d := d + 4) (r := []) (As := [.int w, .int 0, .int 2]) (K := mX8_in) ok_X8_in tw_721 rfl (rmOk (Nat.le_of_ble_eq_true rfl)) (Nat.le_of_ble_eq_true rfl) dX8_guess_3 rfl (c_X8_in ?_)
  refine V_ifb_ne 12 dX8_guess_6 (by decide) (fun h1 => ?_) (fun h1 => ?_)
  · refine V_aload_n dX8_guess_12 rfl 0 rfl ?_
    refine V_cVv (P := pM G (d + 5) mX8_guess _) (d := d + 4) 29 (r := []) (As := []) (K := mX8_layStories) ok_X8_layStories tw_784 (ob_29 _) rfl (rmOk (Nat.le_of_ble_eq_true rfl)) (Nat.le_of_ble_eq_true rfl) dX8_guess_13 rfl (c_X8_layStories hn hD h12 (fun S2 hM2 => ?_))
    refine V_aload_n dX8_guess_16 rfl 0 rfl ?_
    refine V_cVi (P := pM G (d + 5) mX8_guess _) (d := d + 4) 29 (r := []) (As := []) (K := mX8_guessOf) ok_X8_guessOf tw_807 (ob_29 _) rfl (rmOk (Nat.le_of_ble_eq_true rfl)) (Nat.le_of_ble_eq_true rfl) dX8_guess_17 rfl (c_X8_guessOf hM2.2.1 (stl_len n (by omega)) ?_)
    refine V_istore_n [(2, .int ((gm (S2.2.2.2 43) ((stl n).length)).1)), (0, .ref (G.2.1 29)), (1, .int w)] dX8_guess_20 rfl (Nat.le_of_ble_eq_true rfl) rfl ?_
    have hl2 := stl_len n (by omega)
    rcases gm_end (w := wMX S m) (f := S2.2.2.2 43) (fun k x hx => (hM2.2.2.1 k x hx).2.2.2) with ⟨g1, g2⟩ | ⟨x, j, g1, hj, g2, hx⟩
    · refine V_lveq [(2, .int (-6)), (0, .ref (G.2.1 29)), (1, .int w)] (by rw [g2]) ?_
      refine V_iload_n dX8_guess_21 rfl 0 rfl ?_
      refine V_if_ge 30 dX8_guess_22 (by decide) (fun hz => absurd hz (by decide)) (fun _ => ?_)
      refine V_bipush (v := -5) dX8_guess_25 kb_m5 ?_
      refine V_goto 63 dX8_guess_27 (by decide) ?_
      refine V_iret rfl dX8_guess_63 ⟨_, rfl, ?_⟩
      exact qcast (hq S2 hM2.1) (by rw [gueM, if_pos h1, g1]; rfl)
    · refine V_lveq [(2, .int (nI j)), (0, .ref (G.2.1 29)), (1, .int w)] (by rw [g2]) ?_
      obtain ⟨x1, x2, x3, x4⟩ := hM2.2.2.1 j x hx
      refine V_iload_n dX8_guess_21 rfl 0 rfl ?_
      refine V_if_gen 30 (a := j) dX8_guess_22 (by decide) (by omega) (fun _ => ?_) (fun hz => hz.elim)
      refine V_iload_n dX8_guess_30 rfl 2 rfl ?_
      refine V_if_ne 43 dX8_guess_31 (by decide) (fun h2 => ?_) (fun h2 => ?_)
      · refine V_iload_n dX8_guess_43 rfl 2 rfl ?_
        refine V_iconst (v := 1) dX8_guess_44 ki_1 ?_
        refine V_icmp_ne 57 dX8_guess_45 (by decide) (fun h3 => ?_) (fun h3 => ?_)
        · refine V_aload_n dX8_guess_57 rfl 1 rfl ?_
          refine g_29_17 tw_645 dX8_guess_58 ?_
          refine V_iload_n dX8_guess_61 rfl 0 rfl ?_
          refine l_42n (by omega) dX8_guess_62 ?_
          refine V_topi (v := tw x) (id x3) ?_
          refine V_iret rfl dX8_guess_63 ⟨_, rfl, ?_⟩
          exact qcast (hq S2 hM2.1) (by rw [gueM, if_pos h1, g1]; simp [guR, h2, h3])
        · refine V_aload_n dX8_guess_48 rfl 1 rfl ?_
          refine g_29_16 tw_644 dX8_guess_49 ?_
          refine V_iload_n dX8_guess_52 rfl 0 rfl ?_
          refine l_41n (by omega) dX8_guess_53 ?_
          refine V_topi (v := nI (x.2.1)) (id x2) ?_
          refine V_goto 63 dX8_guess_54 (by decide) ?_
          refine V_iret rfl dX8_guess_63 ⟨_, rfl, ?_⟩
          exact qcast (hq S2 hM2.1) (by rw [gueM, if_pos h1, g1]; simp [guR, h2, h3])
      · refine V_aload_n dX8_guess_34 rfl 1 rfl ?_
        refine g_29_15 tw_643 dX8_guess_35 ?_
        refine V_iload_n dX8_guess_38 rfl 0 rfl ?_
        refine l_40n (by omega) dX8_guess_39 ?_
        refine V_topi (v := nI (x.1)) (id x1) ?_
        refine V_goto 63 dX8_guess_40 (by decide) ?_
        refine V_iret rfl dX8_guess_63 ⟨_, rfl, ?_⟩
        exact qcast (hq S2 hM2.1) (by rw [gueM, if_pos h1, g1]; simp [guR, h2])
  · refine V_bipush (v := -2) dX8_guess_9 kb_m2 ?_
    refine V_iret rfl dX8_guess_11 ⟨_, rfl, ?_⟩
    exact qcast (hq S (FrM.rf S)) (by simp [gueM, h1])
def isu (w : XT → Int64) (L : List XT) (q : Int32) : Bool := match (gxo w L).2 with
  | none => false
  | some _ => decide (lsum w L * q.toInt64 ≤ (gxo w L).1 * 10)
