theorem c_X7_fault {G : GX} {d : Nat} {S : ST} {y : Nat} {Q : Int32 → ST → Prop} (hg : S.1 8 = nI y) (hy : y ≤ 40) (hq : ∀ S2, FrD S S2 → Q (flt (S.2.2.1 23) y y [0]) S2) : Cn G (d + 2) mX7_fault [.ref (G.2.1 0)] S (qi Q) := by
  refine Cn.intro (lv := [(0, .ref (G.2.1 0))]) (by decide) (Nat.le_of_ble_eq_true rfl) rfl ?_
  refine V_aload_n dX7_fault_0 rfl 0 rfl ?_
  refine g_0_5 tw_208 dX7_fault_1 ?_
  refine V_cVi (P := pM G (d + 2) mX7_fault _) (d := d + 1) 6 (r := []) (As := []) (K := mX5_firstFault) ok_X5_firstFault tw_502 (ob_6 _) rfl (rmOk (Nat.le_of_ble_eq_true rfl)) (Nat.le_of_ble_eq_true rfl) dX7_fault_4 rfl (c_X5_firstFault hg hy (fun S2 hF => ?_))
  exact V_iret rfl dX7_fault_7 ⟨_, rfl, hq S2 hF⟩
theorem c_X7_truth {G : GX} {d : Nat} {S : ST} {y : Nat} {Q : Int32 → ST → Prop} (hg : S.1 8 = nI y) (hy : y ≤ 40) (hq : ∀ S2, FrD S S2 → (¬ flt (S.2.2.1 23) y y [0] = -6 → Q (-5) S2) ∧ (flt (S.2.2.1 23) y y [0] = -6 → ∀ S3, TK S2 y 64 S3 → Q (nI y) (setI S3 8 0))) : Cn G (d + 4) mX7_truth [.ref (G.2.1 0)] S (qi Q) := by
  refine Cn.intro (lv := [(0, .ref (G.2.1 0))]) (by decide) (Nat.le_of_ble_eq_true rfl) rfl ?_
  refine V_aload_n dX7_truth_0 rfl 0 rfl ?_
  refine g_0_5 tw_208 dX7_truth_1 ?_
  refine V_cVi (P := pM G (d + 4) mX7_truth _) (d := d + 3) 6 (r := []) (As := []) (K := mX5_firstFault) ok_X5_firstFault tw_502 (ob_6 _) rfl (rmOk (Nat.le_of_ble_eq_true rfl)) (Nat.le_of_ble_eq_true rfl) dX7_truth_4 rfl (c_X5_firstFault hg hy (fun S2 hF => ?_))
  refine V_bipush (v := -6) dX7_truth_7 kb_m6 ?_
  refine V_icmp_eq 15 dX7_truth_9 (by decide) (fun h1 => ?_) (fun h1 => ?_)
  · refine V_aload_n dX7_truth_15 rfl 0 rfl ?_
    refine g_0_6 tw_209 dX7_truth_16 ?_
    refine V_aload_n dX7_truth_19 rfl 0 rfl ?_
    refine g_0_5 tw_208 dX7_truth_20 ?_
    refine V_cVv (P := pM G (d + 4) mX7_truth _) (d := d + 3) 7 (r := []) (As := [.ref (G.2.1 6)]) (K := mX6_take) ok_X6_take tw_513 (ob_7 _) rfl (rmOk (Nat.le_of_ble_eq_true rfl)) (Nat.le_of_ble_eq_true rfl) dX7_truth_23 rfl (c_X6_take (y := y) (by rw [hF.1]; exact hg) (by rw [hF.2.2.1 23 (by decide)]; exact flt_WF hy h1) (fun S3 hT => ?_))
    refine V_aload_n dX7_truth_26 rfl 0 rfl ?_
    refine g_0_5 tw_208 dX7_truth_27 ?_
    refine V_iconst (v := 0) dX7_truth_30 ki_0 ?_
    refine p_6_0 tw_154 dX7_truth_31 ?_
    refine V_aload_n dX7_truth_34 rfl 0 rfl ?_
    refine g_0_6 tw_209 dX7_truth_35 ?_
    refine g_7_0 tw_172 dX7_truth_38 ?_
    refine V_topi (v := S3.1 9) rfl ?_
    exact V_iret rfl dX7_truth_41 ⟨_, rfl, qcast ((hq S2 hF).2 h1 S3 hT) hT.2.1⟩
  · refine V_bipush (v := -5) dX7_truth_12 kb_m5 ?_
    exact V_iret rfl dX7_truth_14 ⟨_, rfl, (hq S2 hF).1 h1⟩
