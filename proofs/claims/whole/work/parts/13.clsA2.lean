def cw (w : Int32) : Nat := if w = 0 then 11 else if w = 1 then 12 else if w = 2 then 13 else 14
theorem mb_w {v w x : Int32} (h : mb v w x = true) : w = 0 ∨ w = 1 ∨ w = 2 ∨ w = 3 := by
  unfold mb at h
  by_cases h0 : w = 0
  · exact Or.inl h0
  by_cases h1 : w = 1
  · exact Or.inr (Or.inl h1)
  by_cases h2 : w = 2
  · exact Or.inr (Or.inr (Or.inl h2))
  by_cases h3 : w = 3
  · exact Or.inr (Or.inr (Or.inr h3))
  simp [h0, h1, h2, h3] at h
theorem cw0 : cw 0 = 11 := by decide
theorem cw1 : cw 1 = 12 := by decide
theorem cw2 : cw 2 = 13 := by decide
theorem cw3 : cw 3 = 14 := by decide
def setR (S : ST) (n t : Nat) (v w x : Int32) : Int32 := if kn n v then (if mb v w x then (if w = 3 ∧ x = 1 ∧ anyEq (S.2.2.1 15) v t = true then -3 else S.2.2.1 (cw w) v.toNatClampNeg) else -2) else -1
def setS (S : ST) (n t : Nat) (v w x : Int32) : ST := if kn n v then (if mb v w x then (if w = 3 ∧ x = 1 ∧ anyEq (S.2.2.1 15) v t = true then S else setA (setI (setI S 3 1) 5 1) (cw w) v.toNatClampNeg x) else S) else S
def z01 (x : Int32) : Int32 := if x = 0 then 0 else 1
theorem fr04 {w : Int32} (h : fr w 0 4 = true) : ∃ j, j < 5 ∧ w = nI j := by
  obtain ⟨h1, h2⟩ := fr_t.mp h
  obtain ⟨j, hj, e⟩ := nI_of2 (M := 4) (n := 4) rfl (Int32.not_lt.mpr h1) h2
  exact ⟨j, by omega, e⟩
def trB (w x : Int32) : Bool := fr w 0 4 && fr x 0 (if 2 ≤ w then 9 else 5)
theorem c_X7_asNumber2 {G : GX} {d : Nat} {S : ST} {x : Int32} {Q : Int32 → ST → Prop}  (hq : Q (z01 x) S) : Cn G d mX7_asNumber [.int x] S (qi Q) := by
  refine Cn.intro (lv := [(0, .int x)]) (by decide) (Nat.le_of_ble_eq_true rfl) rfl ?_
  refine V_iload_n dX7_asNumber_0 rfl 0 rfl ?_
  refine V_if_eq 8 dX7_asNumber_1 (by decide) (fun h1 => ?_) (fun h1 => ?_)
  · refine V_iconst (v := 0) dX7_asNumber_8 ki_0 ?_
    refine V_iret rfl dX7_asNumber_9 ⟨_, rfl, ?_⟩
    exact qcast hq (by simp [z01, h1])
  · refine V_iconst (v := 1) dX7_asNumber_4 ki_1 ?_
    refine V_goto 9 dX7_asNumber_5 (by decide) ?_
    refine V_iret rfl dX7_asNumber_9 ⟨_, rfl, ?_⟩
    exact qcast hq (by simp [z01, h1])
theorem c_X7_tested {G : GX} {d : Nat} {S : ST} {x w : Int32} {t : Nat} {Q : Int32 → ST → Prop} (ht : S.1 1 = nI t) (t12 : t ≤ 12) (hq : Q (if kn t x then (if fr w 0 1 then (if w = 0 then S.2.2.1 15 x.toNatClampNeg else z01 (S.2.2.1 16 x.toNatClampNeg)) else -2) else -1) S) : Cn G (d + 1) mX7_tested [.ref (G.2.1 0), .int x, .int w] S (qi Q) := by
  refine Cn.intro (lv := [(0, .ref (G.2.1 0)), (1, .int x), (2, .int w)]) (by decide) (Nat.le_of_ble_eq_true rfl) rfl ?_
  refine V_iload_n dX7_tested_0 rfl 1 rfl ?_
  refine V_iconst (v := 0) dX7_tested_1 ki_0 ?_
  refine V_aload_n dX7_tested_2 rfl 0 rfl ?_
  refine g_0_1 tw_204 dX7_tested_3 ?_
  refine g_2_0 tw_70 dX7_tested_6 ?_
  refine V_topi (v := nI t) (ht) ?_
  refine V_iconst (v := 1) dX7_tested_9 ki_1 ?_
  refine V_isub dX7_tested_10 ?_
  refine V_cSi (P := pM G (d + 1) mX7_tested _) (d := d) (r := []) (As := [.int x, .int 0, .int ((nI t) - 1)]) (K := mX7_isFrom) ok_X7_isFrom tw_240 rfl (rmOk (Nat.le_of_ble_eq_true rfl)) (Nat.le_of_ble_eq_true rfl) dX7_tested_11 rfl (c_X7_isFrom ?_)
  refine V_topi (v := b2i (kn t x)) (by rw [kn_fr t12]) ?_
  refine V_ifb_ne 19 dX7_tested_14 (by decide) (fun h1 => ?_) (fun h1 => ?_)
  · refine V_iload_n dX7_tested_19 rfl 2 rfl ?_
    refine V_iconst (v := 0) dX7_tested_20 ki_0 ?_
    refine V_iconst (v := 1) dX7_tested_21 ki_1 ?_
    refine V_cSi (P := pM G (d + 1) mX7_tested _) (d := d) (r := []) (As := [.int w, .int 0, .int 1]) (K := mX7_isFrom) ok_X7_isFrom tw_240 rfl (rmOk (Nat.le_of_ble_eq_true rfl)) (Nat.le_of_ble_eq_true rfl) dX7_tested_22 rfl (c_X7_isFrom ?_)
    refine V_ifb_ne 31 dX7_tested_25 (by decide) (fun h2 => ?_) (fun h2 => ?_)
    · refine V_iload_n dX7_tested_31 rfl 2 rfl ?_
      refine V_if_ne 47 dX7_tested_32 (by decide) (fun h3 => ?_) (fun h3 => ?_)
      · refine V_aload_n dX7_tested_47 rfl 0 rfl ?_
        refine g_0_1 tw_204 dX7_tested_48 ?_
        refine g_2_2 tw_76 dX7_tested_51 ?_
        refine V_iload_n dX7_tested_54 rfl 1 rfl ?_
        refine l_16 (vp_kn h1 (by omega) t12 (by decide)) dX7_tested_55 ?_
        refine V_cSi (P := pM G (d + 1) mX7_tested _) (d := d) (r := []) (As := [.int (S.2.2.1 16 x.toNatClampNeg)]) (K := mX7_asNumber) ok_X7_asNumber tw_299 rfl (rmOk (Nat.le_of_ble_eq_true rfl)) (Nat.le_of_ble_eq_true rfl) dX7_tested_56 rfl (c_X7_asNumber2 ?_)
        refine V_iret rfl dX7_tested_59 ⟨_, rfl, ?_⟩
        exact qcast hq (by simp [h1, h2, h3])
      · subst h3
        refine V_aload_n dX7_tested_35 rfl 0 rfl ?_
        refine g_0_1 tw_204 dX7_tested_36 ?_
        refine g_2_1 tw_73 dX7_tested_39 ?_
        refine V_iload_n dX7_tested_42 rfl 1 rfl ?_
        refine l_15 (vp_kn h1 (by omega) t12 (by decide)) dX7_tested_43 ?_
        refine V_goto 59 dX7_tested_44 (by decide) ?_
        refine V_iret rfl dX7_tested_59 ⟨_, rfl, ?_⟩
        exact qcast hq (by simp [h1, h2])
    · refine V_bipush (v := -2) dX7_tested_28 kb_m2 ?_
      refine V_iret rfl dX7_tested_30 ⟨_, rfl, ?_⟩
      exact qcast hq (by simp [h1, h2])
  · refine V_iconst (v := -1) dX7_tested_17 ki_m1 ?_
    refine V_iret rfl dX7_tested_18 ⟨_, rfl, ?_⟩
    exact qcast hq (by simp [h1])
theorem c_X7_set {G : GX} {d : Nat} {S : ST} {v w x : Int32} {n t : Nat} {Q : Int32 → ST → Prop} (hn : S.1 0 = nI n) (h12 : n ≤ 12) (ht : S.1 1 = nI t) (t12 : t ≤ 12) (hq : Q (setR S n t v w x) (setS S n t v w x)) : Cn G (d + 2) mX7_set [.ref (G.2.1 0), .int v, .int w, .int x] S (qi Q) := by
  refine Cn.intro (lv := [(0, .ref (G.2.1 0)), (1, .int v), (2, .int w), (3, .int x)]) (by decide) (Nat.le_of_ble_eq_true rfl) rfl ?_
  refine V_aload_n dX7_set_0 rfl 0 rfl ?_
  refine g_0_0 tw_203 dX7_set_1 ?_
  refine V_iload_n dX7_set_4 rfl 1 rfl ?_
  refine V_cVi (P := pM G (d + 2) mX7_set _) (d := d + 1) 1 (r := []) (As := [.int v]) (K := mX1_knows) ok_X1_knows tw_258 (ob_1 _) rfl (rmOk (Nat.le_of_ble_eq_true rfl)) (Nat.le_of_ble_eq_true rfl) dX7_set_5 rfl (c_X1_knows hn ?_)
  refine V_ifb_ne 13 dX7_set_8 (by decide) (fun h1 => ?_) (fun h1 => ?_)
  · obtain ⟨j, hj, rfl⟩ := kn_ex h1 (by omega)
    refine V_aload_n dX7_set_13 rfl 0 rfl ?_
    refine g_0_0 tw_203 dX7_set_14 ?_
    refine V_iload_n dX7_set_17 rfl 1 rfl ?_
    refine V_iload_n dX7_set_18 rfl 2 rfl ?_
    refine V_iload_n dX7_set_19 rfl 3 rfl ?_
    refine V_cVi (P := pM G (d + 2) mX7_set _) (d := d + 1) 1 (r := []) (As := [.int (nI j), .int w, .int x]) (K := mX1_mayBe) ok_X1_mayBe tw_263 (ob_1 _) rfl (rmOk (Nat.le_of_ble_eq_true rfl)) (Nat.le_of_ble_eq_true rfl) dX7_set_20 rfl (c_X1_mayBe ?_)
    refine V_topi (v := b2i (mb (nI j) w x)) rfl ?_
    refine V_ifb_ne 29 dX7_set_23 (by decide) (fun h2 => ?_) (fun h2 => ?_)
    · rcases mb_w h2 with rfl | rfl | rfl | rfl
      · refine V_iload_n dX7_set_29 rfl 2 rfl ?_
        refine V_iconst (v := 3) dX7_set_30 ki_3 ?_
        refine V_icmp_ne 53 dX7_set_31 (by decide) (fun _ => ?_) (fun hz => absurd hz (by decide))
        refine V_aload_n dX7_set_53 rfl 0 rfl ?_
        refine V_cVv (P := pM G (d + 2) mX7_set _) (d := d + 1) 0 (r := []) (As := []) (K := mX7_forgetPartings) ok_X7_forgetPartings tw_243 (ob_0 _) rfl (rmOk (Nat.le_of_ble_eq_true rfl)) (Nat.le_of_ble_eq_true rfl) dX7_set_54 rfl (c_X7_forgetPartings ?_)
        refine V_aload_n dX7_set_57 rfl 0 rfl ?_
        refine g_0_0 tw_203 dX7_set_58 ?_
        refine V_iload_n dX7_set_61 rfl 2 rfl ?_
        refine V_cVr (P := pM G (d + 2) mX7_set _) (d := d + 1) 1 (r := []) (As := [.int 0]) (K := mX1_row) ok_X1_row tw_272 (ob_1 _) rfl (rmOk (Nat.le_of_ble_eq_true rfl)) (Nat.le_of_ble_eq_true rfl) dX7_set_62 rfl (c_X1_row ?_)
        refine V_iload_n dX7_set_65 rfl 1 rfl ?_
        refine V_iload_n dX7_set_66 rfl 3 rfl ?_
        refine V_cSi (P := pM G (d + 2) mX7_set _) (d := d + 1) (r := []) (As := [.ref (G.2.1 11), .int (nI j), .int x]) (K := mX7_swap) ok_X7_swap tw_276 rfl (rmOk (Nat.le_of_ble_eq_true rfl)) (Nat.le_of_ble_eq_true rfl) dX7_set_67 rfl (c_X7_swap_11 (by omega) ?_)
        refine V_iret rfl dX7_set_70 ⟨_, rfl, ?_⟩
        exact qcast2 hq (by simp [setR, h1, h2]; rw [cw0, nI_clamp (show j < 2 ^ 31 by omega)]; rfl) (by simp [setS, h1, h2]; rw [cw0, nI_clamp (show j < 2 ^ 31 by omega)])
      · refine V_iload_n dX7_set_29 rfl 2 rfl ?_
        refine V_iconst (v := 3) dX7_set_30 ki_3 ?_
        refine V_icmp_ne 53 dX7_set_31 (by decide) (fun _ => ?_) (fun hz => absurd hz (by decide))
        refine V_aload_n dX7_set_53 rfl 0 rfl ?_
        refine V_cVv (P := pM G (d + 2) mX7_set _) (d := d + 1) 0 (r := []) (As := []) (K := mX7_forgetPartings) ok_X7_forgetPartings tw_243 (ob_0 _) rfl (rmOk (Nat.le_of_ble_eq_true rfl)) (Nat.le_of_ble_eq_true rfl) dX7_set_54 rfl (c_X7_forgetPartings ?_)
        refine V_aload_n dX7_set_57 rfl 0 rfl ?_
        refine g_0_0 tw_203 dX7_set_58 ?_
        refine V_iload_n dX7_set_61 rfl 2 rfl ?_
        refine V_cVr (P := pM G (d + 2) mX7_set _) (d := d + 1) 1 (r := []) (As := [.int 1]) (K := mX1_row) ok_X1_row tw_272 (ob_1 _) rfl (rmOk (Nat.le_of_ble_eq_true rfl)) (Nat.le_of_ble_eq_true rfl) dX7_set_62 rfl (c_X1_row ?_)
        refine V_iload_n dX7_set_65 rfl 1 rfl ?_
        refine V_iload_n dX7_set_66 rfl 3 rfl ?_
        refine V_cSi (P := pM G (d + 2) mX7_set _) (d := d + 1) (r := []) (As := [.ref (G.2.1 12), .int (nI j), .int x]) (K := mX7_swap) ok_X7_swap tw_276 rfl (rmOk (Nat.le_of_ble_eq_true rfl)) (Nat.le_of_ble_eq_true rfl) dX7_set_67 rfl (c_X7_swap_12 (by omega) ?_)
        refine V_iret rfl dX7_set_70 ⟨_, rfl, ?_⟩
        exact qcast2 hq (by simp [setR, h1, h2]; rw [cw1, nI_clamp (show j < 2 ^ 31 by omega)]; rfl) (by simp [setS, h1, h2]; rw [cw1, nI_clamp (show j < 2 ^ 31 by omega)])
      · refine V_iload_n dX7_set_29 rfl 2 rfl ?_
        refine V_iconst (v := 3) dX7_set_30 ki_3 ?_
        refine V_icmp_ne 53 dX7_set_31 (by decide) (fun _ => ?_) (fun hz => absurd hz (by decide))
        refine V_aload_n dX7_set_53 rfl 0 rfl ?_
        refine V_cVv (P := pM G (d + 2) mX7_set _) (d := d + 1) 0 (r := []) (As := []) (K := mX7_forgetPartings) ok_X7_forgetPartings tw_243 (ob_0 _) rfl (rmOk (Nat.le_of_ble_eq_true rfl)) (Nat.le_of_ble_eq_true rfl) dX7_set_54 rfl (c_X7_forgetPartings ?_)
        refine V_aload_n dX7_set_57 rfl 0 rfl ?_
        refine g_0_0 tw_203 dX7_set_58 ?_
        refine V_iload_n dX7_set_61 rfl 2 rfl ?_
        refine V_cVr (P := pM G (d + 2) mX7_set _) (d := d + 1) 1 (r := []) (As := [.int 2]) (K := mX1_row) ok_X1_row tw_272 (ob_1 _) rfl (rmOk (Nat.le_of_ble_eq_true rfl)) (Nat.le_of_ble_eq_true rfl) dX7_set_62 rfl (c_X1_row ?_)
        refine V_iload_n dX7_set_65 rfl 1 rfl ?_
        refine V_iload_n dX7_set_66 rfl 3 rfl ?_
        refine V_cSi (P := pM G (d + 2) mX7_set _) (d := d + 1) (r := []) (As := [.ref (G.2.1 13), .int (nI j), .int x]) (K := mX7_swap) ok_X7_swap tw_276 rfl (rmOk (Nat.le_of_ble_eq_true rfl)) (Nat.le_of_ble_eq_true rfl) dX7_set_67 rfl (c_X7_swap_13 (by omega) ?_)
        refine V_iret rfl dX7_set_70 ⟨_, rfl, ?_⟩
        exact qcast2 hq (by simp [setR, h1, h2]; rw [cw2, nI_clamp (show j < 2 ^ 31 by omega)]; rfl) (by simp [setS, h1, h2]; rw [cw2, nI_clamp (show j < 2 ^ 31 by omega)])
      · refine V_iload_n dX7_set_29 rfl 2 rfl ?_
        refine V_iconst (v := 3) dX7_set_30 ki_3 ?_
        refine V_icmp_ne 53 dX7_set_31 (by decide) (fun hz => absurd hz (by decide)) (fun _ => ?_)
        refine V_iload_n dX7_set_34 rfl 3 rfl ?_
        refine V_iconst (v := 1) dX7_set_35 ki_1 ?_
        refine V_icmp_ne 53 dX7_set_36 (by decide) (fun h3 => ?_) (fun h3 => ?_)
        · refine V_aload_n dX7_set_53 rfl 0 rfl ?_
          refine V_cVv (P := pM G (d + 2) mX7_set _) (d := d + 1) 0 (r := []) (As := []) (K := mX7_forgetPartings) ok_X7_forgetPartings tw_243 (ob_0 _) rfl (rmOk (Nat.le_of_ble_eq_true rfl)) (Nat.le_of_ble_eq_true rfl) dX7_set_54 rfl (c_X7_forgetPartings ?_)
          refine V_aload_n dX7_set_57 rfl 0 rfl ?_
          refine g_0_0 tw_203 dX7_set_58 ?_
          refine V_iload_n dX7_set_61 rfl 2 rfl ?_
          refine V_cVr (P := pM G (d + 2) mX7_set _) (d := d + 1) 1 (r := []) (As := [.int 3]) (K := mX1_row) ok_X1_row tw_272 (ob_1 _) rfl (rmOk (Nat.le_of_ble_eq_true rfl)) (Nat.le_of_ble_eq_true rfl) dX7_set_62 rfl (c_X1_row ?_)
          refine V_iload_n dX7_set_65 rfl 1 rfl ?_
          refine V_iload_n dX7_set_66 rfl 3 rfl ?_
          refine V_cSi (P := pM G (d + 2) mX7_set _) (d := d + 1) (r := []) (As := [.ref (G.2.1 14), .int (nI j), .int x]) (K := mX7_swap) ok_X7_swap tw_276 rfl (rmOk (Nat.le_of_ble_eq_true rfl)) (Nat.le_of_ble_eq_true rfl) dX7_set_67 rfl (c_X7_swap_14 (by omega) ?_)
          refine V_iret rfl dX7_set_70 ⟨_, rfl, ?_⟩
          exact qcast2 hq (by simp [setR, h1, h2, h3]; rw [cw3, nI_clamp (show j < 2 ^ 31 by omega)]; rfl) (by simp [setS, h1, h2, h3]; rw [cw3, nI_clamp (show j < 2 ^ 31 by omega)])
        · subst h3
          refine V_aload_n dX7_set_39 rfl 0 rfl ?_
          refine g_0_1 tw_204 dX7_set_40 ?_
          refine V_iload_n dX7_set_43 rfl 1 rfl ?_
          refine V_cVi (P := pM G (d + 2) mX7_set _) (d := d + 1) 2 (r := []) (As := [.int (nI j)]) (K := mX2_holdsTestOf) ok_X2_holdsTestOf tw_268 (ob_2 _) rfl (rmOk (Nat.le_of_ble_eq_true rfl)) (Nat.le_of_ble_eq_true rfl) dX7_set_44 rfl (c_X2_holdsTestOf ht t12 ?_)
          refine V_ifb_eq 53 dX7_set_47 (by decide) (fun h4 => ?_) (fun h4 => ?_)
          · refine V_aload_n dX7_set_53 rfl 0 rfl ?_
            refine V_cVv (P := pM G (d + 2) mX7_set _) (d := d + 1) 0 (r := []) (As := []) (K := mX7_forgetPartings) ok_X7_forgetPartings tw_243 (ob_0 _) rfl (rmOk (Nat.le_of_ble_eq_true rfl)) (Nat.le_of_ble_eq_true rfl) dX7_set_54 rfl (c_X7_forgetPartings ?_)
            refine V_aload_n dX7_set_57 rfl 0 rfl ?_
            refine g_0_0 tw_203 dX7_set_58 ?_
            refine V_iload_n dX7_set_61 rfl 2 rfl ?_
            refine V_cVr (P := pM G (d + 2) mX7_set _) (d := d + 1) 1 (r := []) (As := [.int 3]) (K := mX1_row) ok_X1_row tw_272 (ob_1 _) rfl (rmOk (Nat.le_of_ble_eq_true rfl)) (Nat.le_of_ble_eq_true rfl) dX7_set_62 rfl (c_X1_row ?_)
            refine V_iload_n dX7_set_65 rfl 1 rfl ?_
            refine V_iload_n dX7_set_66 rfl 3 rfl ?_
            refine V_cSi (P := pM G (d + 2) mX7_set _) (d := d + 1) (r := []) (As := [.ref (G.2.1 14), .int (nI j), .int 1]) (K := mX7_swap) ok_X7_swap tw_276 rfl (rmOk (Nat.le_of_ble_eq_true rfl)) (Nat.le_of_ble_eq_true rfl) dX7_set_67 rfl (c_X7_swap_14 (by omega) ?_)
            refine V_iret rfl dX7_set_70 ⟨_, rfl, ?_⟩
            exact qcast2 hq (by simp [setR, h1, h2, h4]; rw [cw3, nI_clamp (show j < 2 ^ 31 by omega)]; rfl) (by simp [setS, h1, h2, h4]; rw [cw3, nI_clamp (show j < 2 ^ 31 by omega)])
          · refine V_bipush (v := -3) dX7_set_50 kb_m3 ?_
            refine V_iret rfl dX7_set_52 ⟨_, rfl, ?_⟩
            exact qcast2 hq (by simp [setR, h1, h2, h4]) (by simp [setS, h1, h2, h4])
    · refine V_bipush (v := -2) dX7_set_26 kb_m2 ?_
      refine V_iret rfl dX7_set_28 ⟨_, rfl, ?_⟩
      exact qcast2 hq (by simp [setR, h1, h2]) (by simp [setS, h1, h2])
  · refine V_iconst (v := -1) dX7_set_11 ki_m1 ?_
    refine V_iret rfl dX7_set_12 ⟨_, rfl, ?_⟩
    exact qcast2 hq (by simp [setR, h1]) (by simp [setS, h1])
theorem c_X7_trust {G : GX} {d : Nat} {S : ST} {w x : Int32} {Q : Int32 → ST → Prop}  (hq : Q (if trB w x then S.2.2.1 17 w.toNatClampNeg else -2) (if trB w x then setA S 17 w.toNatClampNeg x else S)) : Cn G (d + 1) mX7_trust [.ref (G.2.1 0), .int w, .int x] S (qi Q) := by
  refine Cn.intro (lv := [(0, .ref (G.2.1 0)), (1, .int w), (2, .int x)]) (by decide) (Nat.le_of_ble_eq_true rfl) rfl ?_
  refine V_iload_n dX7_trust_0 rfl 1 rfl ?_
  refine V_iconst (v := 0) dX7_trust_1 ki_0 ?_
  refine V_iconst (v := 4) dX7_trust_2 ki_4 ?_
  refine V_cSi (P := pM G (d + 1) mX7_trust _) (d := d) (r := []) (As := [.int w, .int 0, .int 4]) (K := mX7_isFrom) ok_X7_isFrom tw_240 rfl (rmOk (Nat.le_of_ble_eq_true rfl)) (Nat.le_of_ble_eq_true rfl) dX7_trust_3 rfl (c_X7_isFrom ?_)
  refine V_ifb_eq 28 dX7_trust_6 (by decide) (fun h1 => ?_) (fun h1 => ?_)
  · refine V_bipush (v := -2) dX7_trust_28 kb_m2 ?_
    refine V_iret rfl dX7_trust_30 ⟨_, rfl, ?_⟩
    exact qcast2 hq (by simp [trB, h1]) (by simp [trB, h1])
  · refine V_iload_n dX7_trust_9 rfl 2 rfl ?_
    refine V_iconst (v := 0) dX7_trust_10 ki_0 ?_
    refine V_iload_n dX7_trust_11 rfl 1 rfl ?_
    refine V_iconst (v := 2) dX7_trust_12 ki_2 ?_
    refine V_icmp_ge 20 dX7_trust_13 (by decide) (fun h2 => ?_) (fun h2 => ?_)
    · refine V_bipush (v := 9) dX7_trust_20 kb_9 ?_
      refine V_cSi (P := pM G (d + 1) mX7_trust _) (d := d) (r := []) (As := [.int x, .int 0, .int 9]) (K := mX7_isFrom) ok_X7_isFrom tw_240 rfl (rmOk (Nat.le_of_ble_eq_true rfl)) (Nat.le_of_ble_eq_true rfl) dX7_trust_22 rfl (c_X7_isFrom ?_)
      refine V_ifb_ne 31 dX7_trust_25 (by decide) (fun h3 => ?_) (fun h3 => ?_)
      · obtain ⟨j, hj, rfl⟩ := fr04 h1
        rw [nI_clamp (show j < 2 ^ 31 by omega)] at hq
        refine V_aload_n dX7_trust_31 rfl 0 rfl ?_
        refine g_0_2 tw_205 dX7_trust_32 ?_
        refine g_3_2 tw_94 dX7_trust_35 ?_
        refine V_iload_n dX7_trust_38 rfl 1 rfl ?_
        refine V_iload_n dX7_trust_39 rfl 2 rfl ?_
        refine V_cSi (P := pM G (d + 1) mX7_trust _) (d := d) (r := []) (As := [.ref (G.2.1 17), .int (nI j), .int x]) (K := mX7_swap) ok_X7_swap tw_276 rfl (rmOk (Nat.le_of_ble_eq_true rfl)) (Nat.le_of_ble_eq_true rfl) dX7_trust_40 rfl (c_X7_swap_17 (by omega) ?_)
        refine V_iret rfl dX7_trust_43 ⟨_, rfl, ?_⟩
        exact qcast2 hq (by simp [trB, h1, h2, h3]) (by simp [trB, h1, h2, h3])
      · refine V_bipush (v := -2) dX7_trust_28 kb_m2 ?_
        refine V_iret rfl dX7_trust_30 ⟨_, rfl, ?_⟩
        exact qcast2 hq (by simp [trB, h1, h2, h3]) (by simp [trB, h1, h2, h3])
    · refine V_iconst (v := 5) dX7_trust_16 ki_5 ?_
      refine V_goto 22 dX7_trust_17 (by decide) ?_
      refine V_cSi (P := pM G (d + 1) mX7_trust _) (d := d) (r := []) (As := [.int x, .int 0, .int 5]) (K := mX7_isFrom) ok_X7_isFrom tw_240 rfl (rmOk (Nat.le_of_ble_eq_true rfl)) (Nat.le_of_ble_eq_true rfl) dX7_trust_22 rfl (c_X7_isFrom ?_)
      refine V_ifb_ne 31 dX7_trust_25 (by decide) (fun h4 => ?_) (fun h4 => ?_)
      · obtain ⟨j, hj, rfl⟩ := fr04 h1
        rw [nI_clamp (show j < 2 ^ 31 by omega)] at hq
        refine V_aload_n dX7_trust_31 rfl 0 rfl ?_
        refine g_0_2 tw_205 dX7_trust_32 ?_
        refine g_3_2 tw_94 dX7_trust_35 ?_
        refine V_iload_n dX7_trust_38 rfl 1 rfl ?_
        refine V_iload_n dX7_trust_39 rfl 2 rfl ?_
        refine V_cSi (P := pM G (d + 1) mX7_trust _) (d := d) (r := []) (As := [.ref (G.2.1 17), .int (nI j), .int x]) (K := mX7_swap) ok_X7_swap tw_276 rfl (rmOk (Nat.le_of_ble_eq_true rfl)) (Nat.le_of_ble_eq_true rfl) dX7_trust_40 rfl (c_X7_swap_17 (by omega) ?_)
        refine V_iret rfl dX7_trust_43 ⟨_, rfl, ?_⟩
        exact qcast2 hq (by simp [trB, h1, h2, h4]) (by simp [trB, h1, h2, h4])
      · refine V_bipush (v := -2) dX7_trust_28 kb_m2 ?_
        refine V_iret rfl dX7_trust_30 ⟨_, rfl, ?_⟩
        exact qcast2 hq (by simp [trB, h1, h2, h4]) (by simp [trB, h1, h2, h4])
