theorem lp_pa_4 {G : GX} {d n t dp : Nat} {S0 : ST} {Q : Int32 → ST → Prop} (hE : EV S0 n) (h12 : n ≤ 12) (ht : t < 4096) (HB : ∀ (v : Nat) (S : ST) (Q2 : Int32 → ST → Prop), v < n → pts (S0.2.2.1 9) (S0.2.2.1 14) t v = true → FrK 21 S0 S → PK false S0 n (S.2.2.1 21) → (∀ S2, FrK 21 S0 S2 → PK false S0 n (S2.2.2.1 21) → Q2 (nI (gvv false (S0.2.2.1 9) (S0.2.2.1 14) (S0.2.2.1 12) (S0.2.2.1 11) n t v)) S2) → Cn G (d + 2) mX3_priceBy [.ref (G.2.1 4), .int (nI v), .int (nI t), .int (nI dp)] S (qi Q2)) (hq : ∀ S2, FrK 21 S0 S2 → PK false S0 n (S2.2.2.1 21) → Q (nI (pz (PR false (S0.2.2.1 9) (S0.2.2.1 14) (S0.2.2.1 12) (S0.2.2.1 11) n t))) S2) : ∀ (k v : Nat) (S : ST), v ≤ n → n - v < k → FrK 21 S0 S → PK false S0 n (S.2.2.1 21) → V (pM G (d + 3) mX3_priceAt (qi Q)) 42 [(4, .int (nI v)), (3, .int (lem (mf (pts (S0.2.2.1 9) (S0.2.2.1 14) t) (gvv false (S0.2.2.1 9) (S0.2.2.1 14) (S0.2.2.1 12) (S0.2.2.1 11) n t) v))), (0, .ref (G.2.1 4)), (1, .int (nI t)), (2, .int (nI dp))] [] S := by
  intro k
  induction k with
  | zero => intro v S hv hk; exact absurd hk (Nat.not_lt_zero _)
  | succ k ih =>
    intro v S hv hk hF hK
    have hn : S.1 0 = nI n := by rw [hF.1]; exact hE.1.1
    refine V_iload dX3_priceAt_42 0 rfl ?_
    refine V_aload_n dX3_priceAt_44 rfl 2 rfl ?_
    refine g_4_0 tw_132 dX3_priceAt_45 ?_
    refine g_1_0 tw_31 dX3_priceAt_48 ?_
    refine V_topi (v := nI n) (id hn) ?_
    refine V_icmp_gen 96 (a := v) (b := n) dX3_priceAt_51 (by decide) (by omega) (by omega) (fun h1 => ?_) (fun h1 => ?_)
    · refine V_iconst (v := 0) dX3_priceAt_96 ki_0 ?_
      refine V_iload_n dX3_priceAt_97 rfl 1 rfl ?_
      refine V_mmax tw_460 (mR (Nat.le_of_ble_eq_true rfl)) dX3_priceAt_98 ?_
      have hin : v = n := by omega
      rw [hin]
      refine V_topi (v := nI (pz (PR false (S0.2.2.1 9) (S0.2.2.1 14) (S0.2.2.1 12) (S0.2.2.1 11) n t))) (by rw [← PR_eq ht]; exact le_max (PR_b2 hE.2.1 hE.2.2 h12 ht)) ?_
      refine V_istore_n [(3, .int (nI (pz (PR false (S0.2.2.1 9) (S0.2.2.1 14) (S0.2.2.1 12) (S0.2.2.1 11) n t)))), (4, .int (nI n)), (0, .ref (G.2.1 4)), (1, .int (nI t)), (2, .int (nI dp))] dX3_priceAt_101 rfl (Nat.le_of_ble_eq_true rfl) rfl ?_
      refine V_aload_n dX3_priceAt_102 rfl 2 rfl ?_
      refine g_4_2 tw_134 dX3_priceAt_103 ?_
      refine V_iload_n dX3_priceAt_106 rfl 3 rfl ?_
      refine V_iload_n dX3_priceAt_107 rfl 0 rfl ?_
      refine V_iconst (v := 1) dX3_priceAt_108 ki_1 ?_
      refine V_iadd dX3_priceAt_109 ?_
      refine V_topi (v := nI ((pz (PR false (S0.2.2.1 9) (S0.2.2.1 14) (S0.2.2.1 12) (S0.2.2.1 11) n t)) + 1)) (nI_1 _) ?_
      refine s_21n (by omega) dX3_priceAt_110 ?_
      refine V_iload_n dX3_priceAt_111 rfl 0 rfl ?_
      exact V_iret rfl dX3_priceAt_112 ⟨_, rfl, hq _ (hF.a _ _) (hK.s rfl)⟩
    · refine V_aload_n dX3_priceAt_54 rfl 2 rfl ?_
      refine V_iload dX3_priceAt_55 0 rfl ?_
      refine V_iload_n dX3_priceAt_57 rfl 3 rfl ?_
      refine V_cVi (P := pM G (d + 3) mX3_priceAt _) (d := d + 2) 4 (r := []) (As := [.int (nI v), .int (nI t)]) (K := mX3_parts) ok_X3_parts tw_447 (ob_4 _) rfl (rmOk (Nat.le_of_ble_eq_true rfl)) (Nat.le_of_ble_eq_true rfl) dX3_priceAt_58 rfl (c_X3_parts_4 (n := n) (by unfold HS; rw [hF.1, hF.2.2.1 9 (by decide)]; exact hE.1) h12 (by omega) ht ?_)
      refine V_topi (v := b2i (pts (S0.2.2.1 9) (S0.2.2.1 14) t v)) (by rw [hF.2.2.1 9 (by decide), hF.2.2.1 14 (by decide)]) ?_
      refine V_ifb_eq 90 dX3_priceAt_61 (by decide) (fun h2 => ?_) (fun h2 => ?_)
      · refine V_lveq [(4, .int (nI v)), (3, .int (lem (mf (pts (S0.2.2.1 9) (S0.2.2.1 14) t) (gvv false (S0.2.2.1 9) (S0.2.2.1 14) (S0.2.2.1 12) (S0.2.2.1 11) n t) (v + 1)))), (0, .ref (G.2.1 4)), (1, .int (nI t)), (2, .int (nI dp))] (by rw [mf_s, mst_f h2]) ?_
        refine V_iinc [(4, .int (nI (v + 1))), (3, .int (lem (mf (pts (S0.2.2.1 9) (S0.2.2.1 14) t) (gvv false (S0.2.2.1 9) (S0.2.2.1 14) (S0.2.2.1 12) (S0.2.2.1 11) n t) (v + 1)))), (0, .ref (G.2.1 4)), (1, .int (nI t)), (2, .int (nI dp))] dX3_priceAt_90 0 rfl (nI_1 _) (Nat.le_of_ble_eq_true rfl) rfl ?_
        refine V_goto 42 dX3_priceAt_93 (by decide) ?_
        refine V_lv [(4, .int (nI (v + 1))), (3, .int (lem (mf (pts (S0.2.2.1 9) (S0.2.2.1 14) t) (gvv false (S0.2.2.1 9) (S0.2.2.1 14) (S0.2.2.1 12) (S0.2.2.1 11) n t) (v + 1)))), (0, .ref (G.2.1 4)), (1, .int (nI t)), (2, .int (nI dp))] [0, 1, 2, 3, 4] rfl ?_
        exact ih (v + 1) _ (by omega) (by omega) hF hK
      · refine V_aload_n dX3_priceAt_64 rfl 2 rfl ?_
        refine V_iload dX3_priceAt_65 0 rfl ?_
        refine V_iload_n dX3_priceAt_67 rfl 3 rfl ?_
        refine V_iload_n dX3_priceAt_68 rfl 4 rfl ?_
        refine V_cVi (P := pM G (d + 3) mX3_priceAt _) (d := d + 2) 4 (r := []) (As := [.int (nI v), .int (nI t), .int (nI dp)]) (K := mX3_priceBy) ok_X3_priceBy tw_452 (ob_4 _) rfl (rmOk (Nat.le_of_ble_eq_true rfl)) (Nat.le_of_ble_eq_true rfl) dX3_priceAt_69 rfl (HB v S _ (by omega) h2 hF hK (fun S2 hF2 hK2 => ?_))
        refine V_istore [(5, .int (nI (gvv false (S0.2.2.1 9) (S0.2.2.1 14) (S0.2.2.1 12) (S0.2.2.1 11) n t v))), (4, .int (nI v)), (3, .int (lem (mf (pts (S0.2.2.1 9) (S0.2.2.1 14) t) (gvv false (S0.2.2.1 9) (S0.2.2.1 14) (S0.2.2.1 12) (S0.2.2.1 11) n t) v))), (0, .ref (G.2.1 4)), (1, .int (nI t)), (2, .int (nI dp))] dX3_priceAt_72 (Nat.le_of_ble_eq_true rfl) rfl ?_
        rcases hm : mf (pts (S0.2.2.1 9) (S0.2.2.1 14) t) (gvv false (S0.2.2.1 9) (S0.2.2.1 14) (S0.2.2.1 12) (S0.2.2.1 11) n t) v with _ | q
        · refine V_lveq [(5, .int (nI (gvv false (S0.2.2.1 9) (S0.2.2.1 14) (S0.2.2.1 12) (S0.2.2.1 11) n t v))), (4, .int (nI v)), (3, .int (-1)), (0, .ref (G.2.1 4)), (1, .int (nI t)), (2, .int (nI dp))] rfl ?_
          refine V_iload_n dX3_priceAt_74 rfl 2 rfl ?_
          refine V_if_ge 83 dX3_priceAt_75 (by decide) (fun hz => absurd hz (by decide)) (fun _ => ?_)
          refine V_iload dX3_priceAt_78 0 rfl ?_
          refine V_goto 89 dX3_priceAt_80 (by decide) ?_
          refine V_topi (v := lem (mf (pts (S0.2.2.1 9) (S0.2.2.1 14) t) (gvv false (S0.2.2.1 9) (S0.2.2.1 14) (S0.2.2.1 12) (S0.2.2.1 11) n t) (v + 1))) (by rw [mf_s, hm, mst_n h2]; rfl) ?_
          refine V_istore_n [(3, .int (lem (mf (pts (S0.2.2.1 9) (S0.2.2.1 14) t) (gvv false (S0.2.2.1 9) (S0.2.2.1 14) (S0.2.2.1 12) (S0.2.2.1 11) n t) (v + 1)))), (5, .int (nI (gvv false (S0.2.2.1 9) (S0.2.2.1 14) (S0.2.2.1 12) (S0.2.2.1 11) n t v))), (4, .int (nI v)), (0, .ref (G.2.1 4)), (1, .int (nI t)), (2, .int (nI dp))] dX3_priceAt_89 rfl (Nat.le_of_ble_eq_true rfl) rfl ?_
          refine V_iinc [(4, .int (nI (v + 1))), (3, .int (lem (mf (pts (S0.2.2.1 9) (S0.2.2.1 14) t) (gvv false (S0.2.2.1 9) (S0.2.2.1 14) (S0.2.2.1 12) (S0.2.2.1 11) n t) (v + 1)))), (5, .int (nI (gvv false (S0.2.2.1 9) (S0.2.2.1 14) (S0.2.2.1 12) (S0.2.2.1 11) n t v))), (0, .ref (G.2.1 4)), (1, .int (nI t)), (2, .int (nI dp))] dX3_priceAt_90 2 rfl (nI_1 _) (Nat.le_of_ble_eq_true rfl) rfl ?_
          refine V_goto 42 dX3_priceAt_93 (by decide) ?_
          refine V_lv [(4, .int (nI (v + 1))), (3, .int (lem (mf (pts (S0.2.2.1 9) (S0.2.2.1 14) t) (gvv false (S0.2.2.1 9) (S0.2.2.1 14) (S0.2.2.1 12) (S0.2.2.1 11) n t) (v + 1)))), (0, .ref (G.2.1 4)), (1, .int (nI t)), (2, .int (nI dp))] [0, 1, 3, 4, 5] rfl ?_
          exact ih (v + 1) _ (by omega) (by omega) hF2 hK2
        · have hb := mf_b hm
          have hq1 : q.1 ≤ 10692 := by rw [hb.2.2.1]; exact gvv_b hE.2.1 hE.2.2 h12 ht (by omega) hb.2.1
          refine V_lveq [(5, .int (nI (gvv false (S0.2.2.1 9) (S0.2.2.1 14) (S0.2.2.1 12) (S0.2.2.1 11) n t v))), (4, .int (nI v)), (3, .int (nI (q.1))), (0, .ref (G.2.1 4)), (1, .int (nI t)), (2, .int (nI dp))] rfl ?_
          refine V_iload_n dX3_priceAt_74 rfl 2 rfl ?_
          refine V_if_gen 83 (a := (q.1)) dX3_priceAt_75 (by decide) (by omega) (fun _ => ?_) (fun hz => hz.elim)
          refine V_iload_n dX3_priceAt_83 rfl 2 rfl ?_
          refine V_iload dX3_priceAt_84 0 rfl ?_
          refine V_mmin tw_463 (mR (Nat.le_of_ble_eq_true rfl)) dX3_priceAt_86 ?_
          refine V_topi (v := lem (mf (pts (S0.2.2.1 9) (S0.2.2.1 14) t) (gvv false (S0.2.2.1 9) (S0.2.2.1 14) (S0.2.2.1 12) (S0.2.2.1 11) n t) (v + 1))) (by rw [mf_s, hm]; exact le_mst h2 (gvv_b hE.2.1 hE.2.2 h12 ht (by omega) h2) hq1) ?_
          refine V_istore_n [(3, .int (lem (mf (pts (S0.2.2.1 9) (S0.2.2.1 14) t) (gvv false (S0.2.2.1 9) (S0.2.2.1 14) (S0.2.2.1 12) (S0.2.2.1 11) n t) (v + 1)))), (5, .int (nI (gvv false (S0.2.2.1 9) (S0.2.2.1 14) (S0.2.2.1 12) (S0.2.2.1 11) n t v))), (4, .int (nI v)), (0, .ref (G.2.1 4)), (1, .int (nI t)), (2, .int (nI dp))] dX3_priceAt_89 rfl (Nat.le_of_ble_eq_true rfl) rfl ?_
          refine V_iinc [(4, .int (nI (v + 1))), (3, .int (lem (mf (pts (S0.2.2.1 9) (S0.2.2.1 14) t) (gvv false (S0.2.2.1 9) (S0.2.2.1 14) (S0.2.2.1 12) (S0.2.2.1 11) n t) (v + 1)))), (5, .int (nI (gvv false (S0.2.2.1 9) (S0.2.2.1 14) (S0.2.2.1 12) (S0.2.2.1 11) n t v))), (0, .ref (G.2.1 4)), (1, .int (nI t)), (2, .int (nI dp))] dX3_priceAt_90 2 rfl (nI_1 _) (Nat.le_of_ble_eq_true rfl) rfl ?_
          refine V_goto 42 dX3_priceAt_93 (by decide) ?_
          refine V_lv [(4, .int (nI (v + 1))), (3, .int (lem (mf (pts (S0.2.2.1 9) (S0.2.2.1 14) t) (gvv false (S0.2.2.1 9) (S0.2.2.1 14) (S0.2.2.1 12) (S0.2.2.1 11) n t) (v + 1)))), (0, .ref (G.2.1 4)), (1, .int (nI t)), (2, .int (nI dp))] [0, 1, 3, 4, 5] rfl ?_
          exact ih (v + 1) _ (by omega) (by omega) hF2 hK2
theorem c_pa_4 {G : GX} {d : Nat} {S : ST} {n t dp : Nat} {S0 : ST} {Q : Int32 → ST → Prop} (hE : EV S0 n) (h12 : n ≤ 12) (ht : t < 4096) (hdp : dp ≤ 12) (hF : FrK 21 S0 S) (hK : PK false S0 n (S.2.2.1 21)) (HB : ∀ (v : Nat) (S : ST) (Q2 : Int32 → ST → Prop), v < n → pts (S0.2.2.1 9) (S0.2.2.1 14) t v = true → FrK 21 S0 S → PK false S0 n (S.2.2.1 21) → (∀ S2, FrK 21 S0 S2 → PK false S0 n (S2.2.2.1 21) → Q2 (nI (gvv false (S0.2.2.1 9) (S0.2.2.1 14) (S0.2.2.1 12) (S0.2.2.1 11) n t v)) S2) → Cn G (d + 2) mX3_priceBy [.ref (G.2.1 4), .int (nI v), .int (nI t), .int (nI dp)] S (qi Q2)) (hq : ∀ S2, FrK 21 S0 S2 → PK false S0 n (S2.2.2.1 21) → Q (nI (pz (PR false (S0.2.2.1 9) (S0.2.2.1 14) (S0.2.2.1 12) (S0.2.2.1 11) n t))) S2) : Cn G (d + 3) mX3_priceAt [.ref (G.2.1 4), .int (nI t), .int (nI dp)] S (qi Q) := by
  refine Cn.intro (lv := [(0, .ref (G.2.1 4)), (1, .int (nI t)), (2, .int (nI dp))]) (by decide) (Nat.le_of_ble_eq_true rfl) rfl ?_
  have hpb := PR_b2 (bc := false) (ho := S0.2.2.1 9) (df := S0.2.2.1 14) hE.2.1 hE.2.2 h12 ht
  refine V_iload_n dX3_priceAt_0 rfl 2 rfl ?_
  refine V_bipush (v := 12) dX3_priceAt_1 kb_12 ?_
  refine V_icmp_gtn 17 (a := dp) (b := 12) dX3_priceAt_3 (by decide) (by omega) (by omega) (fun h1 => ?_) (fun h1 => ?_)
  · exact absurd h1 (by omega)
  · refine V_iload_n dX3_priceAt_6 rfl 1 rfl ?_
    refine V_iconst (v := 0) dX3_priceAt_7 ki_0 ?_
    refine V_sipush (v := 4095) dX3_priceAt_8 ks_4095 ?_
    refine V_cNi (P := pM G (d + 3) mX3_priceAt _) (d := d + 2) (r := []) (As := [.int (nI t), .int 0, .int 4095]) (K := mX7_isFrom) ok_X7_isFrom nl_446 rfl (rmOk (Nat.le_of_ble_eq_true rfl)) (Nat.le_of_ble_eq_true rfl) dX3_priceAt_11 rfl (c_X7_isFrom ?_)
    refine V_topi (v := 1) (b2i_t (fr_4095 ht)) ?_
    refine V_if_ne 19 dX3_priceAt_14 (by decide) (fun _ => ?_) (fun hz => absurd hz (by decide))
    rcases hK t ht with hk | hk
    · refine V_aload_n dX3_priceAt_19 rfl 0 rfl ?_
      refine g_4_2 tw_134 dX3_priceAt_20 ?_
      refine V_iload_n dX3_priceAt_23 rfl 1 rfl ?_
      refine l_21n (by omega) dX3_priceAt_24 ?_
      refine V_topi (v := 0) (id hk) ?_
      refine V_if_le 37 dX3_priceAt_25 (by decide) (fun _ => ?_) (fun hz => absurd hz (by decide))
      refine V_iconst (v := -1) dX3_priceAt_37 ki_m1 ?_
      refine V_istore_n [(3, .int (-1)), (0, .ref (G.2.1 4)), (1, .int (nI t)), (2, .int (nI dp))] dX3_priceAt_38 rfl (Nat.le_of_ble_eq_true rfl) rfl ?_
      refine V_iconst (v := 0) dX3_priceAt_39 ki_0 ?_
      refine V_istore [(4, .int 0), (3, .int (-1)), (0, .ref (G.2.1 4)), (1, .int (nI t)), (2, .int (nI dp))] dX3_priceAt_40 (Nat.le_of_ble_eq_true rfl) rfl ?_
      refine V_lv [(4, .int 0), (3, .int (-1)), (0, .ref (G.2.1 4)), (1, .int (nI t)), (2, .int (nI dp))] [0, 1, 2, 3, 4] rfl ?_
      refine V_lveq [(4, .int (nI 0)), (3, .int (lem (mf (pts (S0.2.2.1 9) (S0.2.2.1 14) t) (gvv false (S0.2.2.1 9) (S0.2.2.1 14) (S0.2.2.1 12) (S0.2.2.1 11) n t) 0))), (0, .ref (G.2.1 4)), (1, .int (nI t)), (2, .int (nI dp))] (by rfl) ?_
      exact lp_pa_4 hE h12 ht HB hq (n + 1) 0 S (by omega) (by omega) hF hK
    · refine V_aload_n dX3_priceAt_19 rfl 0 rfl ?_
      refine g_4_2 tw_134 dX3_priceAt_20 ?_
      refine V_iload_n dX3_priceAt_23 rfl 1 rfl ?_
      refine l_21n (by omega) dX3_priceAt_24 ?_
      refine V_topi (v := nI (pz (PR false (S0.2.2.1 9) (S0.2.2.1 14) (S0.2.2.1 12) (S0.2.2.1 11) n t) + 1)) (id hk) ?_
      refine V_if_len 37 (a := (pz (PR false (S0.2.2.1 9) (S0.2.2.1 14) (S0.2.2.1 12) (S0.2.2.1 11) n t) + 1)) dX3_priceAt_25 (by decide) (by omega) (fun h2 => ?_) (fun h2 => ?_)
      · exact absurd h2 (by omega)
      · refine V_aload_n dX3_priceAt_28 rfl 0 rfl ?_
        refine g_4_2 tw_134 dX3_priceAt_29 ?_
        refine V_iload_n dX3_priceAt_32 rfl 1 rfl ?_
        refine l_21n (by omega) dX3_priceAt_33 ?_
        refine V_topi (v := nI (pz (PR false (S0.2.2.1 9) (S0.2.2.1 14) (S0.2.2.1 12) (S0.2.2.1 11) n t) + 1)) (id hk) ?_
        refine V_iconst (v := 1) dX3_priceAt_34 ki_1 ?_
        refine V_isub dX3_priceAt_35 ?_
        refine V_topi (v := nI (pz (PR false (S0.2.2.1 9) (S0.2.2.1 14) (S0.2.2.1 12) (S0.2.2.1 11) n t))) (nI_pred _) ?_
        exact V_iret rfl dX3_priceAt_36 ⟨_, rfl, hq S hF hK⟩
theorem c_pb_4 {G : GX} {d : Nat} {S : ST} {n t v dp : Nat} {S0 : ST} {Q : Int32 → ST → Prop} (hE : EV S0 n) (h12 : n ≤ 12) (ht : t < 4096) (hv : v < n) (hp : pts (S0.2.2.1 9) (S0.2.2.1 14) t v = true) (hdp : dp ≤ 12) (hF : FrK 21 S0 S) (hK : PK false S0 n (S.2.2.1 21)) (HA : ∀ (t2 : Nat) (S : ST) (Q2 : Int32 → ST → Prop), t2 < 4096 → pop t2 + 1 ≤ pop t → FrK 21 S0 S → PK false S0 n (S.2.2.1 21) → (∀ S2, FrK 21 S0 S2 → PK false S0 n (S2.2.2.1 21) → Q2 (nI (pz (PR false (S0.2.2.1 9) (S0.2.2.1 14) (S0.2.2.1 12) (S0.2.2.1 11) n t2))) S2) → Cn G (d + 3) mX3_priceAt [.ref (G.2.1 4), .int (nI t2), .int (nI (dp + 1))] S (qi Q2)) (hq : ∀ S2, FrK 21 S0 S2 → PK false S0 n (S2.2.2.1 21) → Q (nI (gvv false (S0.2.2.1 9) (S0.2.2.1 14) (S0.2.2.1 12) (S0.2.2.1 11) n t v)) S2) : Cn G (d + 4) mX3_priceBy [.ref (G.2.1 4), .int (nI v), .int (nI t), .int (nI dp)] S (qi Q) := by
  refine Cn.intro (lv := [(0, .ref (G.2.1 4)), (1, .int (nI v)), (2, .int (nI t)), (3, .int (nI dp))]) (by decide) (Nat.le_of_ble_eq_true rfl) rfl ?_
  obtain ⟨h, hh, eh⟩ := hE.1.2 v hv
  obtain ⟨c, hc1, hc2, ec⟩ := hE.2.1 v hv
  obtain ⟨m, hm, em⟩ := szs_b (s := nI t) hE.2.2 h12
  have hNv : hN (S0.2.2.1 9) v = h := by unfold hN; rw [eh, nI_clamp (by omega)]
  have e9 : S.2.2.1 9 v = nI h := by rw [hF.2.2.1 9 (by decide)]; exact eh
  obtain ⟨p1, p2, p3⟩ := pts_pop ht hp
  rw [hNv] at p1 p2 p3
  obtain ⟨l1, l2⟩ := pts_lt ht hp
  rw [hNv] at l1 l2
  have hpa := PR_b2 (bc := false) (ho := S0.2.2.1 9) (df := S0.2.2.1 14) hE.2.1 hE.2.2 h12 (show t &&& h < 4096 by omega)
  have hpb := PR_b2 (bc := false) (ho := S0.2.2.1 9) (df := S0.2.2.1 14) hE.2.1 hE.2.2 h12 (show nd t h < 4096 by omega)
  refine V_aload_n dX3_priceBy_0 rfl 0 rfl ?_
  refine V_iload_n dX3_priceBy_1 rfl 2 rfl ?_
  refine V_aload_n dX3_priceBy_2 rfl 0 rfl ?_
  refine g_4_0 tw_132 dX3_priceBy_3 ?_
  refine g_1_1 tw_35 dX3_priceBy_6 ?_
  refine V_iload_n dX3_priceBy_9 rfl 1 rfl ?_
  refine l_9n (by omega) dX3_priceBy_10 ?_
  refine V_topi (v := nI h) ((e9)) ?_
  refine V_iand dX3_priceBy_11 ?_
  refine V_topi (v := nI (t &&& h)) (nI_and _ _) ?_
  refine V_iload_n dX3_priceBy_12 rfl 3 rfl ?_
  refine V_iconst (v := 1) dX3_priceBy_13 ki_1 ?_
  refine V_iadd dX3_priceBy_14 ?_
  refine V_topi (v := nI (dp + 1)) (nI_1 _) ?_
  refine V_cVi (P := pM G (d + 4) mX3_priceBy _) (d := d + 3) 4 (r := []) (As := [.int (nI (t &&& h)), .int (nI (dp + 1))]) (K := mX3_priceAt) ok_X3_priceAt tw_442 (ob_4 _) rfl (rmOk (Nat.le_of_ble_eq_true rfl)) (Nat.le_of_ble_eq_true rfl) dX3_priceBy_15 rfl (HA (t &&& h) S _ (by omega) (by omega) hF hK (fun S2 hF2 hK2 => ?_))
  have e92 : S2.2.2.1 9 v = nI h := by rw [hF2.2.2.1 9 (by decide)]; exact eh
  refine V_istore [(4, .int (nI (pz (PR false (S0.2.2.1 9) (S0.2.2.1 14) (S0.2.2.1 12) (S0.2.2.1 11) n (t &&& h))))), (0, .ref (G.2.1 4)), (1, .int (nI v)), (2, .int (nI t)), (3, .int (nI dp))] dX3_priceBy_18 (Nat.le_of_ble_eq_true rfl) rfl ?_
  refine V_aload_n dX3_priceBy_20 rfl 1 rfl ?_
  refine V_iload_n dX3_priceBy_21 rfl 3 rfl ?_
  refine V_aload_n dX3_priceBy_22 rfl 1 rfl ?_
  refine g_4_0 tw_132 dX3_priceBy_23 ?_
  refine g_1_1 tw_35 dX3_priceBy_26 ?_
  refine V_iload_n dX3_priceBy_29 rfl 2 rfl ?_
  refine l_9n (by omega) dX3_priceBy_30 ?_
  refine V_topi (v := nI h) (id e92) ?_
  refine V_iconst (v := -1) dX3_priceBy_31 ki_m1 ?_
  refine V_ixor dX3_priceBy_32 ?_
  refine V_iand dX3_priceBy_33 ?_
  refine V_topi (v := nI (nd t h)) (nI_nd _ ht) ?_
  refine V_iload_n dX3_priceBy_34 rfl 4 rfl ?_
  refine V_iconst (v := 1) dX3_priceBy_35 ki_1 ?_
  refine V_iadd dX3_priceBy_36 ?_
  refine V_topi (v := nI (dp + 1)) (nI_1 _) ?_
  refine V_cVi (P := pM G (d + 4) mX3_priceBy _) (d := d + 3) 4 (r := []) (As := [.int (nI (nd t h)), .int (nI (dp + 1))]) (K := mX3_priceAt) ok_X3_priceAt tw_442 (ob_4 _) rfl (rmOk (Nat.le_of_ble_eq_true rfl)) (Nat.le_of_ble_eq_true rfl) dX3_priceBy_37 rfl (HA (nd t h) S2 _ (by omega) (by omega) hF2 hK2 (fun S3 hF3 hK3 => ?_))
  have e12 : S3.2.2.1 12 v = nI c := by rw [hF3.2.2.1 12 (by decide)]; exact ec
  refine V_istore [(5, .int (nI (pz (PR false (S0.2.2.1 9) (S0.2.2.1 14) (S0.2.2.1 12) (S0.2.2.1 11) n (nd t h))))), (4, .int (nI (pz (PR false (S0.2.2.1 9) (S0.2.2.1 14) (S0.2.2.1 12) (S0.2.2.1 11) n (t &&& h))))), (0, .ref (G.2.1 4)), (1, .int (nI v)), (2, .int (nI t)), (3, .int (nI dp))] dX3_priceBy_40 (Nat.le_of_ble_eq_true rfl) rfl ?_
  refine V_aload_n dX3_priceBy_42 rfl 2 rfl ?_
  refine g_4_1 tw_133 dX3_priceBy_43 ?_
  refine V_if_eq 74 dX3_priceBy_46 (by decide) (fun _ => ?_) (fun hz => absurd hz (by decide))
  refine V_iconst (v := 1) dX3_priceBy_74 ki_1 ?_
  refine V_iload dX3_priceBy_75 1 rfl ?_
  refine V_iload dX3_priceBy_77 0 rfl ?_
  refine V_mmax tw_460 (mR (Nat.le_of_ble_eq_true rfl)) dX3_priceBy_79 ?_
  refine V_topi (v := nI (max (pz (PR false (S0.2.2.1 9) (S0.2.2.1 14) (S0.2.2.1 12) (S0.2.2.1 11) n (t &&& h))) (pz (PR false (S0.2.2.1 9) (S0.2.2.1 14) (S0.2.2.1 12) (S0.2.2.1 11) n (nd t h))))) (mx_nI hpa hpb) ?_
  refine V_iadd dX3_priceBy_82 ?_
  refine V_topi (v := nI (1 + max (pz (PR false (S0.2.2.1 9) (S0.2.2.1 14) (S0.2.2.1 12) (S0.2.2.1 11) n (t &&& h))) (pz (PR false (S0.2.2.1 9) (S0.2.2.1 14) (S0.2.2.1 12) (S0.2.2.1 11) n (nd t h))))) (nI_add 1 _) ?_
  exact V_iret rfl dX3_priceBy_83 ⟨_, rfl, qcast (hq S3 hF3 hK3) (by unfold gvv gvp; rw [hNv]; rfl)⟩
theorem pa_all_4 {G : GX} {d n : Nat} {S0 : ST} (hE : EV S0 n) (h12 : n ≤ 12) : ∀ (m t dp : Nat) (S : ST) (Q : Int32 → ST → Prop), t < 4096 → pop t ≤ m → pop t + dp ≤ 12 → FrK 21 S0 S → PK false S0 n (S.2.2.1 21) → (∀ S2, FrK 21 S0 S2 → PK false S0 n (S2.2.2.1 21) → Q (nI (pz (PR false (S0.2.2.1 9) (S0.2.2.1 14) (S0.2.2.1 12) (S0.2.2.1 11) n t))) S2) → Cn G (d + 2 * m + 3) mX3_priceAt [.ref (G.2.1 4), .int (nI t), .int (nI dp)] S (qi Q) := by
  intro m
  induction m with
  | zero =>
    intro t dp S Q ht hm hdp hF hK hq
    exact c_pa_4 hE h12 ht (by omega) hF hK (fun v S Q2 hv hp _ _ _ => by have := pts_pop ht hp; omega) hq
  | succ m ih =>
    intro t dp S Q ht hm hdp hF hK hq
    exact c_pa_4 (d := d + 2 * m + 2) hE h12 ht (by omega) hF hK (fun v S Q2 hv hp hF2 hK2 hq2 => c_pb_4 (d := d + 2 * m) hE h12 ht hv hp (by omega) hF2 hK2 (fun t2 S Q3 ht2 hp2 hF3 hK3 hq3 => ih t2 (dp + 1) S Q3 ht2 (by omega) (by omega) hF3 hK3 hq3) hq2) hq
theorem lp_pa_5 {G : GX} {d n t dp : Nat} {S0 : ST} {Q : Int32 → ST → Prop} (hE : EV S0 n) (h12 : n ≤ 12) (ht : t < 4096) (HB : ∀ (v : Nat) (S : ST) (Q2 : Int32 → ST → Prop), v < n → pts (S0.2.2.1 9) (S0.2.2.1 14) t v = true → FrK 22 S0 S → PK true S0 n (S.2.2.1 22) → (∀ S2, FrK 22 S0 S2 → PK true S0 n (S2.2.2.1 22) → Q2 (nI (gvv true (S0.2.2.1 9) (S0.2.2.1 14) (S0.2.2.1 12) (S0.2.2.1 11) n t v)) S2) → Cn G (d + 2) mX3_priceBy [.ref (G.2.1 5), .int (nI v), .int (nI t), .int (nI dp)] S (qi Q2)) (hq : ∀ S2, FrK 22 S0 S2 → PK true S0 n (S2.2.2.1 22) → Q (nI (pz (PR true (S0.2.2.1 9) (S0.2.2.1 14) (S0.2.2.1 12) (S0.2.2.1 11) n t))) S2) : ∀ (k v : Nat) (S : ST), v ≤ n → n - v < k → FrK 22 S0 S → PK true S0 n (S.2.2.1 22) → V (pM G (d + 3) mX3_priceAt (qi Q)) 42 [(4, .int (nI v)), (3, .int (lem (mf (pts (S0.2.2.1 9) (S0.2.2.1 14) t) (gvv true (S0.2.2.1 9) (S0.2.2.1 14) (S0.2.2.1 12) (S0.2.2.1 11) n t) v))), (0, .ref (G.2.1 5)), (1, .int (nI t)), (2, .int (nI dp))] [] S := by
  intro k
  induction k with
  | zero => intro v S hv hk; exact absurd hk (Nat.not_lt_zero _)
  | succ k ih =>
    intro v S hv hk hF hK
    have hn : S.1 0 = nI n := by rw [hF.1]; exact hE.1.1
    refine V_iload dX3_priceAt_42 0 rfl ?_
    refine V_aload_n dX3_priceAt_44 rfl 2 rfl ?_
    refine g_5_0 tw_132 dX3_priceAt_45 ?_
    refine g_1_0 tw_31 dX3_priceAt_48 ?_
    refine V_topi (v := nI n) (id hn) ?_
    refine V_icmp_gen 96 (a := v) (b := n) dX3_priceAt_51 (by decide) (by omega) (by omega) (fun h1 => ?_) (fun h1 => ?_)
    · refine V_iconst (v := 0) dX3_priceAt_96 ki_0 ?_
      refine V_iload_n dX3_priceAt_97 rfl 1 rfl ?_
      refine V_mmax tw_460 (mR (Nat.le_of_ble_eq_true rfl)) dX3_priceAt_98 ?_
      have hin : v = n := by omega
      rw [hin]
      refine V_topi (v := nI (pz (PR true (S0.2.2.1 9) (S0.2.2.1 14) (S0.2.2.1 12) (S0.2.2.1 11) n t))) (by rw [← PR_eq ht]; exact le_max (PR_b2 hE.2.1 hE.2.2 h12 ht)) ?_
      refine V_istore_n [(3, .int (nI (pz (PR true (S0.2.2.1 9) (S0.2.2.1 14) (S0.2.2.1 12) (S0.2.2.1 11) n t)))), (4, .int (nI n)), (0, .ref (G.2.1 5)), (1, .int (nI t)), (2, .int (nI dp))] dX3_priceAt_101 rfl (Nat.le_of_ble_eq_true rfl) rfl ?_
      refine V_aload_n dX3_priceAt_102 rfl 2 rfl ?_
      refine g_5_2 tw_134 dX3_priceAt_103 ?_
      refine V_iload_n dX3_priceAt_106 rfl 3 rfl ?_
      refine V_iload_n dX3_priceAt_107 rfl 0 rfl ?_
      refine V_iconst (v := 1) dX3_priceAt_108 ki_1 ?_
      refine V_iadd dX3_priceAt_109 ?_
      refine V_topi (v := nI ((pz (PR true (S0.2.2.1 9) (S0.2.2.1 14) (S0.2.2.1 12) (S0.2.2.1 11) n t)) + 1)) (nI_1 _) ?_
      refine s_22n (by omega) dX3_priceAt_110 ?_
      refine V_iload_n dX3_priceAt_111 rfl 0 rfl ?_
      exact V_iret rfl dX3_priceAt_112 ⟨_, rfl, hq _ (hF.a _ _) (hK.s rfl)⟩
    · refine V_aload_n dX3_priceAt_54 rfl 2 rfl ?_
      refine V_iload dX3_priceAt_55 0 rfl ?_
      refine V_iload_n dX3_priceAt_57 rfl 3 rfl ?_
      refine V_cVi (P := pM G (d + 3) mX3_priceAt _) (d := d + 2) 5 (r := []) (As := [.int (nI v), .int (nI t)]) (K := mX3_parts) ok_X3_parts tw_447 (ob_5 _) rfl (rmOk (Nat.le_of_ble_eq_true rfl)) (Nat.le_of_ble_eq_true rfl) dX3_priceAt_58 rfl (c_X3_parts_5 (n := n) (by unfold HS; rw [hF.1, hF.2.2.1 9 (by decide)]; exact hE.1) h12 (by omega) ht ?_)
      refine V_topi (v := b2i (pts (S0.2.2.1 9) (S0.2.2.1 14) t v)) (by rw [hF.2.2.1 9 (by decide), hF.2.2.1 14 (by decide)]) ?_
      refine V_ifb_eq 90 dX3_priceAt_61 (by decide) (fun h2 => ?_) (fun h2 => ?_)
      · refine V_lveq [(4, .int (nI v)), (3, .int (lem (mf (pts (S0.2.2.1 9) (S0.2.2.1 14) t) (gvv true (S0.2.2.1 9) (S0.2.2.1 14) (S0.2.2.1 12) (S0.2.2.1 11) n t) (v + 1)))), (0, .ref (G.2.1 5)), (1, .int (nI t)), (2, .int (nI dp))] (by rw [mf_s, mst_f h2]) ?_
        refine V_iinc [(4, .int (nI (v + 1))), (3, .int (lem (mf (pts (S0.2.2.1 9) (S0.2.2.1 14) t) (gvv true (S0.2.2.1 9) (S0.2.2.1 14) (S0.2.2.1 12) (S0.2.2.1 11) n t) (v + 1)))), (0, .ref (G.2.1 5)), (1, .int (nI t)), (2, .int (nI dp))] dX3_priceAt_90 0 rfl (nI_1 _) (Nat.le_of_ble_eq_true rfl) rfl ?_
        refine V_goto 42 dX3_priceAt_93 (by decide) ?_
        refine V_lv [(4, .int (nI (v + 1))), (3, .int (lem (mf (pts (S0.2.2.1 9) (S0.2.2.1 14) t) (gvv true (S0.2.2.1 9) (S0.2.2.1 14) (S0.2.2.1 12) (S0.2.2.1 11) n t) (v + 1)))), (0, .ref (G.2.1 5)), (1, .int (nI t)), (2, .int (nI dp))] [0, 1, 2, 3, 4] rfl ?_
        exact ih (v + 1) _ (by omega) (by omega) hF hK
      · refine V_aload_n dX3_priceAt_64 rfl 2 rfl ?_
        refine V_iload dX3_priceAt_65 0 rfl ?_
        refine V_iload_n dX3_priceAt_67 rfl 3 rfl ?_
        refine V_iload_n dX3_priceAt_68 rfl 4 rfl ?_
        refine V_cVi (P := pM G (d + 3) mX3_priceAt _) (d := d + 2) 5 (r := []) (As := [.int (nI v), .int (nI t), .int (nI dp)]) (K := mX3_priceBy) ok_X3_priceBy tw_452 (ob_5 _) rfl (rmOk (Nat.le_of_ble_eq_true rfl)) (Nat.le_of_ble_eq_true rfl) dX3_priceAt_69 rfl (HB v S _ (by omega) h2 hF hK (fun S2 hF2 hK2 => ?_))
        refine V_istore [(5, .int (nI (gvv true (S0.2.2.1 9) (S0.2.2.1 14) (S0.2.2.1 12) (S0.2.2.1 11) n t v))), (4, .int (nI v)), (3, .int (lem (mf (pts (S0.2.2.1 9) (S0.2.2.1 14) t) (gvv true (S0.2.2.1 9) (S0.2.2.1 14) (S0.2.2.1 12) (S0.2.2.1 11) n t) v))), (0, .ref (G.2.1 5)), (1, .int (nI t)), (2, .int (nI dp))] dX3_priceAt_72 (Nat.le_of_ble_eq_true rfl) rfl ?_
        rcases hm : mf (pts (S0.2.2.1 9) (S0.2.2.1 14) t) (gvv true (S0.2.2.1 9) (S0.2.2.1 14) (S0.2.2.1 12) (S0.2.2.1 11) n t) v with _ | q
        · refine V_lveq [(5, .int (nI (gvv true (S0.2.2.1 9) (S0.2.2.1 14) (S0.2.2.1 12) (S0.2.2.1 11) n t v))), (4, .int (nI v)), (3, .int (-1)), (0, .ref (G.2.1 5)), (1, .int (nI t)), (2, .int (nI dp))] rfl ?_
          refine V_iload_n dX3_priceAt_74 rfl 2 rfl ?_
          refine V_if_ge 83 dX3_priceAt_75 (by decide) (fun hz => absurd hz (by decide)) (fun _ => ?_)
          refine V_iload dX3_priceAt_78 0 rfl ?_
          refine V_goto 89 dX3_priceAt_80 (by decide) ?_
          refine V_topi (v := lem (mf (pts (S0.2.2.1 9) (S0.2.2.1 14) t) (gvv true (S0.2.2.1 9) (S0.2.2.1 14) (S0.2.2.1 12) (S0.2.2.1 11) n t) (v + 1))) (by rw [mf_s, hm, mst_n h2]; rfl) ?_
          refine V_istore_n [(3, .int (lem (mf (pts (S0.2.2.1 9) (S0.2.2.1 14) t) (gvv true (S0.2.2.1 9) (S0.2.2.1 14) (S0.2.2.1 12) (S0.2.2.1 11) n t) (v + 1)))), (5, .int (nI (gvv true (S0.2.2.1 9) (S0.2.2.1 14) (S0.2.2.1 12) (S0.2.2.1 11) n t v))), (4, .int (nI v)), (0, .ref (G.2.1 5)), (1, .int (nI t)), (2, .int (nI dp))] dX3_priceAt_89 rfl (Nat.le_of_ble_eq_true rfl) rfl ?_
          refine V_iinc [(4, .int (nI (v + 1))), (3, .int (lem (mf (pts (S0.2.2.1 9) (S0.2.2.1 14) t) (gvv true (S0.2.2.1 9) (S0.2.2.1 14) (S0.2.2.1 12) (S0.2.2.1 11) n t) (v + 1)))), (5, .int (nI (gvv true (S0.2.2.1 9) (S0.2.2.1 14) (S0.2.2.1 12) (S0.2.2.1 11) n t v))), (0, .ref (G.2.1 5)), (1, .int (nI t)), (2, .int (nI dp))] dX3_priceAt_90 2 rfl (nI_1 _) (Nat.le_of_ble_eq_true rfl) rfl ?_
          refine V_goto 42 dX3_priceAt_93 (by decide) ?_
          refine V_lv [(4, .int (nI (v + 1))), (3, .int (lem (mf (pts (S0.2.2.1 9) (S0.2.2.1 14) t) (gvv true (S0.2.2.1 9) (S0.2.2.1 14) (S0.2.2.1 12) (S0.2.2.1 11) n t) (v + 1)))), (0, .ref (G.2.1 5)), (1, .int (nI t)), (2, .int (nI dp))] [0, 1, 3, 4, 5] rfl ?_
          exact ih (v + 1) _ (by omega) (by omega) hF2 hK2
        · have hb := mf_b hm
          have hq1 : q.1 ≤ 10692 := by rw [hb.2.2.1]; exact gvv_b hE.2.1 hE.2.2 h12 ht (by omega) hb.2.1
          refine V_lveq [(5, .int (nI (gvv true (S0.2.2.1 9) (S0.2.2.1 14) (S0.2.2.1 12) (S0.2.2.1 11) n t v))), (4, .int (nI v)), (3, .int (nI (q.1))), (0, .ref (G.2.1 5)), (1, .int (nI t)), (2, .int (nI dp))] rfl ?_
          refine V_iload_n dX3_priceAt_74 rfl 2 rfl ?_
          refine V_if_gen 83 (a := (q.1)) dX3_priceAt_75 (by decide) (by omega) (fun _ => ?_) (fun hz => hz.elim)
          refine V_iload_n dX3_priceAt_83 rfl 2 rfl ?_
          refine V_iload dX3_priceAt_84 0 rfl ?_
          refine V_mmin tw_463 (mR (Nat.le_of_ble_eq_true rfl)) dX3_priceAt_86 ?_
          refine V_topi (v := lem (mf (pts (S0.2.2.1 9) (S0.2.2.1 14) t) (gvv true (S0.2.2.1 9) (S0.2.2.1 14) (S0.2.2.1 12) (S0.2.2.1 11) n t) (v + 1))) (by rw [mf_s, hm]; exact le_mst h2 (gvv_b hE.2.1 hE.2.2 h12 ht (by omega) h2) hq1) ?_
          refine V_istore_n [(3, .int (lem (mf (pts (S0.2.2.1 9) (S0.2.2.1 14) t) (gvv true (S0.2.2.1 9) (S0.2.2.1 14) (S0.2.2.1 12) (S0.2.2.1 11) n t) (v + 1)))), (5, .int (nI (gvv true (S0.2.2.1 9) (S0.2.2.1 14) (S0.2.2.1 12) (S0.2.2.1 11) n t v))), (4, .int (nI v)), (0, .ref (G.2.1 5)), (1, .int (nI t)), (2, .int (nI dp))] dX3_priceAt_89 rfl (Nat.le_of_ble_eq_true rfl) rfl ?_
          refine V_iinc [(4, .int (nI (v + 1))), (3, .int (lem (mf (pts (S0.2.2.1 9) (S0.2.2.1 14) t) (gvv true (S0.2.2.1 9) (S0.2.2.1 14) (S0.2.2.1 12) (S0.2.2.1 11) n t) (v + 1)))), (5, .int (nI (gvv true (S0.2.2.1 9) (S0.2.2.1 14) (S0.2.2.1 12) (S0.2.2.1 11) n t v))), (0, .ref (G.2.1 5)), (1, .int (nI t)), (2, .int (nI dp))] dX3_priceAt_90 2 rfl (nI_1 _) (Nat.le_of_ble_eq_true rfl) rfl ?_
          refine V_goto 42 dX3_priceAt_93 (by decide) ?_
          refine V_lv [(4, .int (nI (v + 1))), (3, .int (lem (mf (pts (S0.2.2.1 9) (S0.2.2.1 14) t) (gvv true (S0.2.2.1 9) (S0.2.2.1 14) (S0.2.2.1 12) (S0.2.2.1 11) n t) (v + 1)))), (0, .ref (G.2.1 5)), (1, .int (nI t)), (2, .int (nI dp))] [0, 1, 3, 4, 5] rfl ?_
          exact ih (v + 1) _ (by omega) (by omega) hF2 hK2
theorem c_pa_5 {G : GX} {d : Nat} {S : ST} {n t dp : Nat} {S0 : ST} {Q : Int32 → ST → Prop} (hE : EV S0 n) (h12 : n ≤ 12) (ht : t < 4096) (hdp : dp ≤ 12) (hF : FrK 22 S0 S) (hK : PK true S0 n (S.2.2.1 22)) (HB : ∀ (v : Nat) (S : ST) (Q2 : Int32 → ST → Prop), v < n → pts (S0.2.2.1 9) (S0.2.2.1 14) t v = true → FrK 22 S0 S → PK true S0 n (S.2.2.1 22) → (∀ S2, FrK 22 S0 S2 → PK true S0 n (S2.2.2.1 22) → Q2 (nI (gvv true (S0.2.2.1 9) (S0.2.2.1 14) (S0.2.2.1 12) (S0.2.2.1 11) n t v)) S2) → Cn G (d + 2) mX3_priceBy [.ref (G.2.1 5), .int (nI v), .int (nI t), .int (nI dp)] S (qi Q2)) (hq : ∀ S2, FrK 22 S0 S2 → PK true S0 n (S2.2.2.1 22) → Q (nI (pz (PR true (S0.2.2.1 9) (S0.2.2.1 14) (S0.2.2.1 12) (S0.2.2.1 11) n t))) S2) : Cn G (d + 3) mX3_priceAt [.ref (G.2.1 5), .int (nI t), .int (nI dp)] S (qi Q) := by
  refine Cn.intro (lv := [(0, .ref (G.2.1 5)), (1, .int (nI t)), (2, .int (nI dp))]) (by decide) (Nat.le_of_ble_eq_true rfl) rfl ?_
  have hpb := PR_b2 (bc := true) (ho := S0.2.2.1 9) (df := S0.2.2.1 14) hE.2.1 hE.2.2 h12 ht
  refine V_iload_n dX3_priceAt_0 rfl 2 rfl ?_
  refine V_bipush (v := 12) dX3_priceAt_1 kb_12 ?_
  refine V_icmp_gtn 17 (a := dp) (b := 12) dX3_priceAt_3 (by decide) (by omega) (by omega) (fun h1 => ?_) (fun h1 => ?_)
  · exact absurd h1 (by omega)
  · refine V_iload_n dX3_priceAt_6 rfl 1 rfl ?_
    refine V_iconst (v := 0) dX3_priceAt_7 ki_0 ?_
    refine V_sipush (v := 4095) dX3_priceAt_8 ks_4095 ?_
    refine V_cNi (P := pM G (d + 3) mX3_priceAt _) (d := d + 2) (r := []) (As := [.int (nI t), .int 0, .int 4095]) (K := mX7_isFrom) ok_X7_isFrom nl_446 rfl (rmOk (Nat.le_of_ble_eq_true rfl)) (Nat.le_of_ble_eq_true rfl) dX3_priceAt_11 rfl (c_X7_isFrom ?_)
    refine V_topi (v := 1) (b2i_t (fr_4095 ht)) ?_
    refine V_if_ne 19 dX3_priceAt_14 (by decide) (fun _ => ?_) (fun hz => absurd hz (by decide))
    rcases hK t ht with hk | hk
    · refine V_aload_n dX3_priceAt_19 rfl 0 rfl ?_
      refine g_5_2 tw_134 dX3_priceAt_20 ?_
      refine V_iload_n dX3_priceAt_23 rfl 1 rfl ?_
      refine l_22n (by omega) dX3_priceAt_24 ?_
      refine V_topi (v := 0) (id hk) ?_
      refine V_if_le 37 dX3_priceAt_25 (by decide) (fun _ => ?_) (fun hz => absurd hz (by decide))
      refine V_iconst (v := -1) dX3_priceAt_37 ki_m1 ?_
      refine V_istore_n [(3, .int (-1)), (0, .ref (G.2.1 5)), (1, .int (nI t)), (2, .int (nI dp))] dX3_priceAt_38 rfl (Nat.le_of_ble_eq_true rfl) rfl ?_
      refine V_iconst (v := 0) dX3_priceAt_39 ki_0 ?_
      refine V_istore [(4, .int 0), (3, .int (-1)), (0, .ref (G.2.1 5)), (1, .int (nI t)), (2, .int (nI dp))] dX3_priceAt_40 (Nat.le_of_ble_eq_true rfl) rfl ?_
      refine V_lv [(4, .int 0), (3, .int (-1)), (0, .ref (G.2.1 5)), (1, .int (nI t)), (2, .int (nI dp))] [0, 1, 2, 3, 4] rfl ?_
      refine V_lveq [(4, .int (nI 0)), (3, .int (lem (mf (pts (S0.2.2.1 9) (S0.2.2.1 14) t) (gvv true (S0.2.2.1 9) (S0.2.2.1 14) (S0.2.2.1 12) (S0.2.2.1 11) n t) 0))), (0, .ref (G.2.1 5)), (1, .int (nI t)), (2, .int (nI dp))] (by rfl) ?_
      exact lp_pa_5 hE h12 ht HB hq (n + 1) 0 S (by omega) (by omega) hF hK
    · refine V_aload_n dX3_priceAt_19 rfl 0 rfl ?_
      refine g_5_2 tw_134 dX3_priceAt_20 ?_
      refine V_iload_n dX3_priceAt_23 rfl 1 rfl ?_
      refine l_22n (by omega) dX3_priceAt_24 ?_
      refine V_topi (v := nI (pz (PR true (S0.2.2.1 9) (S0.2.2.1 14) (S0.2.2.1 12) (S0.2.2.1 11) n t) + 1)) (id hk) ?_
      refine V_if_len 37 (a := (pz (PR true (S0.2.2.1 9) (S0.2.2.1 14) (S0.2.2.1 12) (S0.2.2.1 11) n t) + 1)) dX3_priceAt_25 (by decide) (by omega) (fun h2 => ?_) (fun h2 => ?_)
      · exact absurd h2 (by omega)
      · refine V_aload_n dX3_priceAt_28 rfl 0 rfl ?_
        refine g_5_2 tw_134 dX3_priceAt_29 ?_
        refine V_iload_n dX3_priceAt_32 rfl 1 rfl ?_
        refine l_22n (by omega) dX3_priceAt_33 ?_
        refine V_topi (v := nI (pz (PR true (S0.2.2.1 9) (S0.2.2.1 14) (S0.2.2.1 12) (S0.2.2.1 11) n t) + 1)) (id hk) ?_
        refine V_iconst (v := 1) dX3_priceAt_34 ki_1 ?_
        refine V_isub dX3_priceAt_35 ?_
        refine V_topi (v := nI (pz (PR true (S0.2.2.1 9) (S0.2.2.1 14) (S0.2.2.1 12) (S0.2.2.1 11) n t))) (nI_pred _) ?_
        exact V_iret rfl dX3_priceAt_36 ⟨_, rfl, hq S hF hK⟩
theorem c_pb_5 {G : GX} {d : Nat} {S : ST} {n t v dp : Nat} {S0 : ST} {Q : Int32 → ST → Prop} (hE : EV S0 n) (h12 : n ≤ 12) (ht : t < 4096) (hv : v < n) (hp : pts (S0.2.2.1 9) (S0.2.2.1 14) t v = true) (hdp : dp ≤ 12) (hF : FrK 22 S0 S) (hK : PK true S0 n (S.2.2.1 22)) (HA : ∀ (t2 : Nat) (S : ST) (Q2 : Int32 → ST → Prop), t2 < 4096 → pop t2 + 1 ≤ pop t → FrK 22 S0 S → PK true S0 n (S.2.2.1 22) → (∀ S2, FrK 22 S0 S2 → PK true S0 n (S2.2.2.1 22) → Q2 (nI (pz (PR true (S0.2.2.1 9) (S0.2.2.1 14) (S0.2.2.1 12) (S0.2.2.1 11) n t2))) S2) → Cn G (d + 3) mX3_priceAt [.ref (G.2.1 5), .int (nI t2), .int (nI (dp + 1))] S (qi Q2)) (hq : ∀ S2, FrK 22 S0 S2 → PK true S0 n (S2.2.2.1 22) → Q (nI (gvv true (S0.2.2.1 9) (S0.2.2.1 14) (S0.2.2.1 12) (S0.2.2.1 11) n t v)) S2) : Cn G (d + 4) mX3_priceBy [.ref (G.2.1 5), .int (nI v), .int (nI t), .int (nI dp)] S (qi Q) := by
  refine Cn.intro (lv := [(0, .ref (G.2.1 5)), (1, .int (nI v)), (2, .int (nI t)), (3, .int (nI dp))]) (by decide) (Nat.le_of_ble_eq_true rfl) rfl ?_
  obtain ⟨h, hh, eh⟩ := hE.1.2 v hv
  obtain ⟨c, hc1, hc2, ec⟩ := hE.2.1 v hv
  obtain ⟨m, hm, em⟩ := szs_b (s := nI t) hE.2.2 h12
  have hNv : hN (S0.2.2.1 9) v = h := by unfold hN; rw [eh, nI_clamp (by omega)]
  have e9 : S.2.2.1 9 v = nI h := by rw [hF.2.2.1 9 (by decide)]; exact eh
  obtain ⟨p1, p2, p3⟩ := pts_pop ht hp
  rw [hNv] at p1 p2 p3
  obtain ⟨l1, l2⟩ := pts_lt ht hp
  rw [hNv] at l1 l2
  have hpa := PR_b2 (bc := true) (ho := S0.2.2.1 9) (df := S0.2.2.1 14) hE.2.1 hE.2.2 h12 (show t &&& h < 4096 by omega)
  have hpb := PR_b2 (bc := true) (ho := S0.2.2.1 9) (df := S0.2.2.1 14) hE.2.1 hE.2.2 h12 (show nd t h < 4096 by omega)
  refine V_aload_n dX3_priceBy_0 rfl 0 rfl ?_
  refine V_iload_n dX3_priceBy_1 rfl 2 rfl ?_
  refine V_aload_n dX3_priceBy_2 rfl 0 rfl ?_
  refine g_5_0 tw_132 dX3_priceBy_3 ?_
  refine g_1_1 tw_35 dX3_priceBy_6 ?_
  refine V_iload_n dX3_priceBy_9 rfl 1 rfl ?_
  refine l_9n (by omega) dX3_priceBy_10 ?_
  refine V_topi (v := nI h) ((e9)) ?_
  refine V_iand dX3_priceBy_11 ?_
  refine V_topi (v := nI (t &&& h)) (nI_and _ _) ?_
  refine V_iload_n dX3_priceBy_12 rfl 3 rfl ?_
  refine V_iconst (v := 1) dX3_priceBy_13 ki_1 ?_
  refine V_iadd dX3_priceBy_14 ?_
  refine V_topi (v := nI (dp + 1)) (nI_1 _) ?_
  refine V_cVi (P := pM G (d + 4) mX3_priceBy _) (d := d + 3) 5 (r := []) (As := [.int (nI (t &&& h)), .int (nI (dp + 1))]) (K := mX3_priceAt) ok_X3_priceAt tw_442 (ob_5 _) rfl (rmOk (Nat.le_of_ble_eq_true rfl)) (Nat.le_of_ble_eq_true rfl) dX3_priceBy_15 rfl (HA (t &&& h) S _ (by omega) (by omega) hF hK (fun S2 hF2 hK2 => ?_))
  have e92 : S2.2.2.1 9 v = nI h := by rw [hF2.2.2.1 9 (by decide)]; exact eh
  refine V_istore [(4, .int (nI (pz (PR true (S0.2.2.1 9) (S0.2.2.1 14) (S0.2.2.1 12) (S0.2.2.1 11) n (t &&& h))))), (0, .ref (G.2.1 5)), (1, .int (nI v)), (2, .int (nI t)), (3, .int (nI dp))] dX3_priceBy_18 (Nat.le_of_ble_eq_true rfl) rfl ?_
  refine V_aload_n dX3_priceBy_20 rfl 1 rfl ?_
  refine V_iload_n dX3_priceBy_21 rfl 3 rfl ?_
  refine V_aload_n dX3_priceBy_22 rfl 1 rfl ?_
  refine g_5_0 tw_132 dX3_priceBy_23 ?_
  refine g_1_1 tw_35 dX3_priceBy_26 ?_
  refine V_iload_n dX3_priceBy_29 rfl 2 rfl ?_
  refine l_9n (by omega) dX3_priceBy_30 ?_
  refine V_topi (v := nI h) (id e92) ?_
  refine V_iconst (v := -1) dX3_priceBy_31 ki_m1 ?_
  refine V_ixor dX3_priceBy_32 ?_
  refine V_iand dX3_priceBy_33 ?_
  refine V_topi (v := nI (nd t h)) (nI_nd _ ht) ?_
  refine V_iload_n dX3_priceBy_34 rfl 4 rfl ?_
  refine V_iconst (v := 1) dX3_priceBy_35 ki_1 ?_
  refine V_iadd dX3_priceBy_36 ?_
  refine V_topi (v := nI (dp + 1)) (nI_1 _) ?_
  refine V_cVi (P := pM G (d + 4) mX3_priceBy _) (d := d + 3) 5 (r := []) (As := [.int (nI (nd t h)), .int (nI (dp + 1))]) (K := mX3_priceAt) ok_X3_priceAt tw_442 (ob_5 _) rfl (rmOk (Nat.le_of_ble_eq_true rfl)) (Nat.le_of_ble_eq_true rfl) dX3_priceBy_37 rfl (HA (nd t h) S2 _ (by omega) (by omega) hF2 hK2 (fun S3 hF3 hK3 => ?_))
  have e12 : S3.2.2.1 12 v = nI c := by rw [hF3.2.2.1 12 (by decide)]; exact ec
  refine V_istore [(5, .int (nI (pz (PR true (S0.2.2.1 9) (S0.2.2.1 14) (S0.2.2.1 12) (S0.2.2.1 11) n (nd t h))))), (4, .int (nI (pz (PR true (S0.2.2.1 9) (S0.2.2.1 14) (S0.2.2.1 12) (S0.2.2.1 11) n (t &&& h))))), (0, .ref (G.2.1 5)), (1, .int (nI v)), (2, .int (nI t)), (3, .int (nI dp))] dX3_priceBy_40 (Nat.le_of_ble_eq_true rfl) rfl ?_
  refine V_aload_n dX3_priceBy_42 rfl 2 rfl ?_
  refine g_5_1 tw_133 dX3_priceBy_43 ?_
  refine V_if_eq 74 dX3_priceBy_46 (by decide) (fun hz => absurd hz (by decide)) (fun _ => ?_)
  refine V_aload_n dX3_priceBy_49 rfl 2 rfl ?_
  refine g_5_0 tw_132 dX3_priceBy_50 ?_
  refine g_1_4 tw_41 dX3_priceBy_53 ?_
  refine V_iload_n dX3_priceBy_56 rfl 3 rfl ?_
  refine l_12n (by omega) dX3_priceBy_57 ?_
  refine V_topi (v := nI c) (id e12) ?_
  refine V_aload_n dX3_priceBy_58 rfl 2 rfl ?_
  refine g_5_0 tw_132 dX3_priceBy_59 ?_
  refine V_iload_n dX3_priceBy_62 rfl 4 rfl ?_
  refine V_cVi (P := pM G (d + 4) mX3_priceBy _) (d := d + 3) 1 (r := [.int (nI c)]) (As := [.int (nI t)]) (K := mX1_sizes) ok_X1_sizes tw_456 (ob_1 _) rfl (rmOk (Nat.le_of_ble_eq_true rfl)) (Nat.le_of_ble_eq_true rfl) dX3_priceBy_63 rfl (c_X1_sizes (n := n) (by rw [hF3.1]; exact hE.1.1) h12 ?_)
  refine V_topi (v := nI m) (by rw [hF3.2.2.1 11 (by decide)]; exact em) ?_
  refine V_imul dX3_priceBy_66 ?_
  refine V_topi (v := nI (c * m)) (pk_mul _ _) ?_
  refine V_iload dX3_priceBy_67 1 rfl ?_
  refine V_iadd dX3_priceBy_69 ?_
  refine V_topi (v := nI (c * m + pz (PR true (S0.2.2.1 9) (S0.2.2.1 14) (S0.2.2.1 12) (S0.2.2.1 11) n (t &&& h)))) (nI_add _ _) ?_
  refine V_iload dX3_priceBy_70 0 rfl ?_
  refine V_iadd dX3_priceBy_72 ?_
  refine V_topi (v := nI (c * m + pz (PR true (S0.2.2.1 9) (S0.2.2.1 14) (S0.2.2.1 12) (S0.2.2.1 11) n (t &&& h)) + pz (PR true (S0.2.2.1 9) (S0.2.2.1 14) (S0.2.2.1 12) (S0.2.2.1 11) n (nd t h)))) (nI_add _ _) ?_
  exact V_iret rfl dX3_priceBy_73 ⟨_, rfl, qcast (hq S3 hF3 hK3) (by unfold gvv gvp; rw [hNv, ec, em, nI_clamp (by omega), nI_clamp (by omega)]; rfl)⟩
theorem pa_all_5 {G : GX} {d n : Nat} {S0 : ST} (hE : EV S0 n) (h12 : n ≤ 12) : ∀ (m t dp : Nat) (S : ST) (Q : Int32 → ST → Prop), t < 4096 → pop t ≤ m → pop t + dp ≤ 12 → FrK 22 S0 S → PK true S0 n (S.2.2.1 22) → (∀ S2, FrK 22 S0 S2 → PK true S0 n (S2.2.2.1 22) → Q (nI (pz (PR true (S0.2.2.1 9) (S0.2.2.1 14) (S0.2.2.1 12) (S0.2.2.1 11) n t))) S2) → Cn G (d + 2 * m + 3) mX3_priceAt [.ref (G.2.1 5), .int (nI t), .int (nI dp)] S (qi Q) := by
  intro m
  induction m with
  | zero =>
    intro t dp S Q ht hm hdp hF hK hq
    exact c_pa_5 hE h12 ht (by omega) hF hK (fun v S Q2 hv hp _ _ _ => by have := pts_pop ht hp; omega) hq
  | succ m ih =>
    intro t dp S Q ht hm hdp hF hK hq
    exact c_pa_5 (d := d + 2 * m + 2) hE h12 ht (by omega) hF hK (fun v S Q2 hv hp hF2 hK2 hq2 => c_pb_5 (d := d + 2 * m) hE h12 ht hv hp (by omega) hF2 hK2 (fun t2 S Q3 ht2 hp2 hF3 hK3 hq3 => ih t2 (dp + 1) S Q3 ht2 (by omega) (by omega) hF3 hK3 hq3) hq2) hq
