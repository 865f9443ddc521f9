theorem c_X5_firstFault {G : GX} {d : Nat} {S : ST} {y : Nat} {Q : Int32 → ST → Prop} (hg : S.1 8 = nI y) (hy : y ≤ 40) (hq : ∀ S2, FrD S S2 → Q (flt (S.2.2.1 23) y y [0]) S2) : Cn G (d + 1) mX5_firstFault [.ref (G.2.1 6)] S (qi Q) := by
  refine Cn.intro (lv := [(0, .ref (G.2.1 6))]) (by decide) (Nat.le_of_ble_eq_true rfl) rfl ?_
  refine V_iconst (v := 1) dX5_firstFault_0 ki_1 ?_
  refine V_istore_n [(1, .int 1), (0, .ref (G.2.1 6))] dX5_firstFault_1 rfl (Nat.le_of_ble_eq_true rfl) rfl ?_
  refine V_aload_n dX5_firstFault_2 rfl 1 rfl ?_
  refine g_6_2 tw_157 dX5_firstFault_3 ?_
  refine V_iconst (v := 0) dX5_firstFault_6 ki_0 ?_
  refine V_iconst (v := 0) dX5_firstFault_7 ki_0 ?_
  refine s_24n (i := 0) (by decide) dX5_firstFault_8 ?_
  refine V_iconst (v := 0) dX5_firstFault_9 ki_0 ?_
  refine V_istore_n [(2, .int 0), (1, .int 1), (0, .ref (G.2.1 6))] dX5_firstFault_10 rfl (Nat.le_of_ble_eq_true rfl) rfl ?_
  refine V_lv [(2, .int 0), (1, .int 1), (0, .ref (G.2.1 6))] [0, 1, 2] rfl ?_
  refine V_lveq [(2, .int (nI 0)), (1, .int (nI 1)), (0, .ref (G.2.1 6))] (by rfl) ?_
  refine V_S (S2 := setAr S 24 (upd (S.2.2.1 24) 0 (nI 0))) (rfl) ?_
  exact lp_ff hg hy y 0 [0] 1 _ rfl (by omega) (by omega) (fun b hb => by rw [List.mem_singleton.mp hb]; omega) ⟨rfl, trivial⟩ hq
