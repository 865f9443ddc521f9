theorem wO0 (S : ST) (m c e e2 : Nat) : wO S m 0 c e = wO S m 0 c e2 := by
  have h1 : ∀ e, w0c (S.2.2.1 17) (S.2.2.1 11) 0 c e = (S.2.2.1 17 2 * S.2.2.1 11 c).toInt64 := fun e => if_pos rfl
  have h2 : ∀ e, fO (S.2.2.1 10) 0 c e = S.2.2.1 10 c := fun e => rfl
  unfold wO
  rw [h1 e, h1 e2, h2 e, h2 e2]
theorem wX_nat3 {S : ST} {m n s c e : Nat} (h : RG (S.2.2.1 17) (S.2.2.1 11) n) (hm : m ≤ 12) (hs : s < 3) (hc : c < n) (he : e < n) : ub 729000000000000 (wO S m s c e) := wX_nat (x := (s, c, e)) h hm ⟨hs, hc, he⟩
theorem all_ub {S : ST} {m n : Nat} {f : XT → Int64} (h12 : n ≤ 12) (h : ∀ x, x ∈ stl n → ub 729000000000000 (f x)) : ub 153090000000000000 (lsum f (stl n)) := by
  refine ub_le (lsum_nat (stl n) h) ?_
  have := Nat.mul_le_mul_right 729000000000000 (stl_len n (by omega))
  omega
theorem ub_0 (b : Nat) : ub b 0 := ⟨0, Nat.zero_le _, rfl⟩
theorem ub_if {b : Nat} {q : Prop} [Decidable q] {x : Int64} (h : ub b x) : ub b (if q then x else 0) := by
  split
  · exact h
  · exact ub_0 b
theorem wX_ub {S : ST} {m n : Nat} (hR : RG (S.2.2.1 17) (S.2.2.1 11) n) (hm : m ≤ 12) : ∀ x, x ∈ stl n → ub 729000000000000 (wX S m x) := fun x hx => wX_nat hR hm (stl_ok x hx)
theorem hp_ub {S : ST} {m n v : Nat} (hR : RG (S.2.2.1 17) (S.2.2.1 11) n) (hm : m ≤ 12) : ub 14580000000000000 (hpC S m n v) := by
  have key : ∀ b : Bool, ub 7290000000000000 (mxs (fun x => wX S m x * (ten (S.2.2.1 17) (bt (fX S x) v) b).toInt64) (stl n)) := by
    intro b
    refine mxs_nat (stl n) (fun x hx => ?_)
    obtain ⟨a, ha, ea⟩ := ten_nat hR (bt (fX S x) v) b
    rw [ea]
    exact ub_le (ub_mul (wX_ub hR hm x hx) (ub_i ha (by omega))) (by omega)
  exact ub_le (ub_add (key true) (key false)) (by omega)
def oddC (S : ST) (n m : Nat) (s c o q : Int32) : Int64 := if fr s 0 2 then (if stO n s c o then (if fr q 0 1 then frc (wO S m s.toNatClampNeg c.toNatClampNeg o.toNatClampNeg) (lsum (wX S m) (stl n)) q else -1000000000000000002) else -1000000000000000001) else -1000000000000000002
def sorC (S : ST) (n m : Nat) (s q : Int32) : Int64 := if fr s 0 2 && fr q 0 1 then frc (lsum (fun x => if x.1 = s.toNatClampNeg then wX S m x else 0) (stl n)) (lsum (wX S m) (stl n)) q else -1000000000000000002
def blaC (S : ST) (n m : Nat) (c q : Int32) : Int64 := if kn n c then (if fr q 0 1 then frc (lsum (fun x => if x.2.1 = c.toNatClampNeg ∨ (x.1 = 1 ∧ x.2.2 = c.toNatClampNeg) then wX S m x else 0) (stl n)) (lsum (wX S m) (stl n)) q else -1000000000000000002) else -1000000000000000001
def hopC (S : ST) (n m : Nat) (v q : Int32) : Int64 := if hrs n (S.2.2.1 14) v then (if fr q 0 1 then frc (hpC S m n v.toNatClampNeg) (10 * lsum (wX S m) (stl n)) q else -1000000000000000002) else -1000000000000000001
def nexC (S : ST) (n m : Nat) (w : Int32) : Int32 := if fr w 0 1 then (nfo (S.2.2.1 14) (S.2.2.1 12) (if w = 1 then lsH S m n else lsG S m n) n).1 else -2
theorem c_X7_odds {G : GX} {d : Nat} {S : ST} {s c o q : Int32} {n m : Nat} {Q : Int64 → ST → Prop} (hn : S.1 0 = nI n) (h12 : n ≤ 12) (hD : DT S m) (hR : RG (S.2.2.1 17) (S.2.2.1 11) n) (hq : ∀ S2, FrS S S2 → Q (oddC S n m s c o q) S2) : Cn G (d + 5) mX7_odds [.ref (G.2.1 0), .int s, .int c, .int o, .int q] S (ql Q) := by
  refine Cn.intro (lv := [(0, .ref (G.2.1 0)), (1, .int s), (2, .int c), (3, .int o), (4, .int q)]) (by decide) (Nat.le_of_ble_eq_true rfl) rfl ?_
  refine V_aload_n dX7_odds_0 rfl 0 rfl ?_
  refine V_iload_n dX7_odds_1 rfl 1 rfl ?_
  refine V_iload_n dX7_odds_2 rfl 2 rfl ?_
  refine V_iload_n dX7_odds_3 rfl 3 rfl ?_
  refine V_cVi (P := pM G (d + 5) mX7_odds _) (d := d + 4) 0 (r := []) (As := [.int s, .int c, .int o]) (K := mX7_storyRefusal) ok_X7_storyRefusal tw_310 (ob_0 _) rfl (rmOk (Nat.le_of_ble_eq_true rfl)) (Nat.le_of_ble_eq_true rfl) dX7_odds_4 rfl (c_X7_storyRefusal hn ?_)
  refine V_istore [(5, .int (sref n s c o)), (0, .ref (G.2.1 0)), (1, .int s), (2, .int c), (3, .int o), (4, .int q)] dX7_odds_7 (Nat.le_of_ble_eq_true rfl) rfl ?_
  refine V_iload dX7_odds_9 0 rfl ?_
  refine V_if_eq 22 dX7_odds_11 (by decide) (fun h1 => ?_) (fun h1 => ?_)
  · refine V_iload dX7_odds_22 5 rfl ?_
    refine V_iconst (v := 0) dX7_odds_24 ki_0 ?_
    refine V_iconst (v := 1) dX7_odds_25 ki_1 ?_
    refine V_cSi (P := pM G (d + 5) mX7_odds _) (d := d + 4) (r := []) (As := [.int q, .int 0, .int 1]) (K := mX7_isFrom) ok_X7_isFrom tw_240 rfl (rmOk (Nat.le_of_ble_eq_true rfl)) (Nat.le_of_ble_eq_true rfl) dX7_odds_26 rfl (c_X7_isFrom ?_)
    refine V_ifb_ne 36 dX7_odds_29 (by decide) (fun h2 => ?_) (fun h2 => ?_)
    · refine V_aload_n dX7_odds_36 rfl 1 rfl ?_
      refine g_0_2 tw_205 dX7_odds_37 ?_
      refine V_cVv (P := pM G (d + 5) mX7_odds _) (d := d + 4) 3 (r := []) (As := []) (K := mX4_weigh) ok_X4_weigh tw_333 (ob_3 _) rfl (rmOk (Nat.le_of_ble_eq_true rfl)) (Nat.le_of_ble_eq_true rfl) dX7_odds_40 rfl (c_X4_weigh hn hD h12 (fun S2 hC2 => ?_))
      obtain ⟨z1, z2⟩ := sref_0 h1
      obtain ⟨s2, c2, hs2, hc2, rfl, rfl, hoo⟩ := stO_ex z1 z2 h12
      rcases (show s2 = 0 ∨ s2 = 1 ∨ s2 = 2 by omega) with rfl | rfl | rfl
      · refine V_aload_n dX7_odds_43 rfl 1 rfl ?_
        refine g_0_2 tw_205 dX7_odds_44 ?_
        refine V_iload_n dX7_odds_47 rfl 2 rfl ?_
        refine V_iload_n dX7_odds_48 rfl 3 rfl ?_
        refine V_iload_n dX7_odds_49 rfl 4 rfl ?_
        refine V_cVl (P := pM G (d + 5) mX7_odds _) (d := d + 4) 3 (r := []) (As := [.int 0, .int (nI c2), .int o]) (K := mX4_weightOf) ok_X4_weightOf tw_314 (ob_3 _) rfl (rmOk (Nat.le_of_ble_eq_true rfl)) (Nat.le_of_ble_eq_true rfl) dX7_odds_50 rfl (c_X4_weightOfD c2 (hC2.1.DT hD) (by omega) ?_)
        refine V_topl (v := wO S m 0 c2 c2) (hC2.1.wO _ _ _ _) ?_
        refine V_aload_n dX7_odds_53 rfl 1 rfl ?_
        refine g_0_2 tw_205 dX7_odds_54 ?_
        refine g_3_7 tw_100 dX7_odds_57 ?_
        refine V_topl (v := lsum (wX S m) (stl n)) (id hC2.2.2.2.1) ?_
        refine V_iload dX7_odds_60 5 rfl ?_
        refine V_cSl (P := pM G (d + 5) mX7_odds _) (d := d + 4) (r := []) (As := [.long (wO S m 0 c2 c2), .long (lsum (wX S m) (stl n)), .int q]) (K := mX7_fraction) ok_X7_fraction tw_349 rfl (rmOk (Nat.le_of_ble_eq_true rfl)) (Nat.le_of_ble_eq_true rfl) dX7_odds_62 rfl (c_X7_frc (ba := 729000000000000) (bb := 153090000000000000) (wX_nat3 hR hD.2.1 (Nat.le_of_ble_eq_true rfl) hc2 hc2) (all_ub (S := S) (m := m) h12 (wX_ub hR hD.2.1)) (by decide) (by decide) ?_)
        refine V_lret rfl dX7_odds_65 ⟨_, rfl, ?_⟩
        exact qcast (hq S2 hC2.1) (by simp only [oddC, z1, z2, h2, if_true, nI_clamp (show c2 < 2 ^ 31 by omega), nI_clamp (show 0 < 2 ^ 31 by omega)]; rw [wO0 S m c2 c2 o.toNatClampNeg])
      · obtain ⟨e, he, rfl⟩ := hoo.resolve_left (by decide)
        refine V_aload_n dX7_odds_43 rfl 1 rfl ?_
        refine g_0_2 tw_205 dX7_odds_44 ?_
        refine V_iload_n dX7_odds_47 rfl 2 rfl ?_
        refine V_iload_n dX7_odds_48 rfl 3 rfl ?_
        refine V_iload_n dX7_odds_49 rfl 4 rfl ?_
        refine V_cVl (P := pM G (d + 5) mX7_odds _) (d := d + 4) 3 (r := []) (As := [.int 1, .int (nI c2), .int (nI e)]) (K := mX4_weightOf) ok_X4_weightOf tw_314 (ob_3 _) rfl (rmOk (Nat.le_of_ble_eq_true rfl)) (Nat.le_of_ble_eq_true rfl) dX7_odds_50 rfl (c_X4_weightOf (s := 1) (c := c2) (e := e) (hC2.1.DT hD) (by omega) (by omega) (by omega) ?_)
        refine V_topl (v := wO S m 1 c2 e) (hC2.1.wO _ _ _ _) ?_
        refine V_aload_n dX7_odds_53 rfl 1 rfl ?_
        refine g_0_2 tw_205 dX7_odds_54 ?_
        refine g_3_7 tw_100 dX7_odds_57 ?_
        refine V_topl (v := lsum (wX S m) (stl n)) (id hC2.2.2.2.1) ?_
        refine V_iload dX7_odds_60 5 rfl ?_
        refine V_cSl (P := pM G (d + 5) mX7_odds _) (d := d + 4) (r := []) (As := [.long (wO S m 1 c2 e), .long (lsum (wX S m) (stl n)), .int q]) (K := mX7_fraction) ok_X7_fraction tw_349 rfl (rmOk (Nat.le_of_ble_eq_true rfl)) (Nat.le_of_ble_eq_true rfl) dX7_odds_62 rfl (c_X7_frc (ba := 729000000000000) (bb := 153090000000000000) (wX_nat3 hR hD.2.1 (Nat.le_of_ble_eq_true rfl) hc2 he) (all_ub (S := S) (m := m) h12 (wX_ub hR hD.2.1)) (by decide) (by decide) ?_)
        refine V_lret rfl dX7_odds_65 ⟨_, rfl, ?_⟩
        exact qcast (hq S2 hC2.1) (by simp only [oddC, z1, z2, h2, if_true, nI_clamp (show c2 < 2 ^ 31 by omega), nI_clamp (show e < 2 ^ 31 by omega), nI_clamp (show 1 < 2 ^ 31 by omega)])
      · obtain ⟨e, he, rfl⟩ := hoo.resolve_left (by decide)
        refine V_aload_n dX7_odds_43 rfl 1 rfl ?_
        refine g_0_2 tw_205 dX7_odds_44 ?_
        refine V_iload_n dX7_odds_47 rfl 2 rfl ?_
        refine V_iload_n dX7_odds_48 rfl 3 rfl ?_
        refine V_iload_n dX7_odds_49 rfl 4 rfl ?_
        refine V_cVl (P := pM G (d + 5) mX7_odds _) (d := d + 4) 3 (r := []) (As := [.int 2, .int (nI c2), .int (nI e)]) (K := mX4_weightOf) ok_X4_weightOf tw_314 (ob_3 _) rfl (rmOk (Nat.le_of_ble_eq_true rfl)) (Nat.le_of_ble_eq_true rfl) dX7_odds_50 rfl (c_X4_weightOf (s := 2) (c := c2) (e := e) (hC2.1.DT hD) (by omega) (by omega) (by omega) ?_)
        refine V_topl (v := wO S m 2 c2 e) (hC2.1.wO _ _ _ _) ?_
        refine V_aload_n dX7_odds_53 rfl 1 rfl ?_
        refine g_0_2 tw_205 dX7_odds_54 ?_
        refine g_3_7 tw_100 dX7_odds_57 ?_
        refine V_topl (v := lsum (wX S m) (stl n)) (id hC2.2.2.2.1) ?_
        refine V_iload dX7_odds_60 5 rfl ?_
        refine V_cSl (P := pM G (d + 5) mX7_odds _) (d := d + 4) (r := []) (As := [.long (wO S m 2 c2 e), .long (lsum (wX S m) (stl n)), .int q]) (K := mX7_fraction) ok_X7_fraction tw_349 rfl (rmOk (Nat.le_of_ble_eq_true rfl)) (Nat.le_of_ble_eq_true rfl) dX7_odds_62 rfl (c_X7_frc (ba := 729000000000000) (bb := 153090000000000000) (wX_nat3 hR hD.2.1 (Nat.le_of_ble_eq_true rfl) hc2 he) (all_ub (S := S) (m := m) h12 (wX_ub hR hD.2.1)) (by decide) (by decide) ?_)
        refine V_lret rfl dX7_odds_65 ⟨_, rfl, ?_⟩
        exact qcast (hq S2 hC2.1) (by simp only [oddC, z1, z2, h2, if_true, nI_clamp (show c2 < 2 ^ 31 by omega), nI_clamp (show e < 2 ^ 31 by omega), nI_clamp (show 2 < 2 ^ 31 by omega)])
    · refine V_ldc2 dX7_odds_32 tw_332 ?_
      refine V_lret rfl dX7_odds_35 ⟨_, rfl, ?_⟩
      obtain ⟨z1, z2⟩ := sref_0 h1
      exact qcast (hq S (FrS.rf S)) (by simp [oddC, z1, z2, h2])
  · refine V_ldc2 dX7_odds_14 tw_327 ?_
    refine V_iload dX7_odds_17 0 rfl ?_
    refine V_i2l dX7_odds_19 ?_
    refine V_ladd dX7_odds_20 ?_
    refine V_lret rfl dX7_odds_21 ⟨_, rfl, ?_⟩
    rcases sref_n h1 with ⟨z1, z2⟩ | ⟨z1, z2, z3⟩
    · exact qcast (hq S (FrS.rf S)) (by simp only [oddC, z1, if_false, Bool.false_eq_true]; rw [z2]; decide)
    · exact qcast (hq S (FrS.rf S)) (by simp only [oddC, z1, z2, if_true, if_false, Bool.false_eq_true]; rw [z3]; decide)
theorem c_X7_sorts {G : GX} {d : Nat} {S : ST} {s q : Int32} {n m : Nat} {Q : Int64 → ST → Prop} (hn : S.1 0 = nI n) (h12 : n ≤ 12) (hD : DT S m) (hR : RG (S.2.2.1 17) (S.2.2.1 11) n) (hq : ∀ S2, FrS S S2 → Q (sorC S n m s q) S2) : Cn G (d + 5) mX7_sorts [.ref (G.2.1 0), .int s, .int q] S (ql Q) := by
  refine Cn.intro (lv := [(0, .ref (G.2.1 0)), (1, .int s), (2, .int q)]) (by decide) (Nat.le_of_ble_eq_true rfl) rfl ?_
  refine V_iload_n dX7_sorts_0 rfl 1 rfl ?_
  refine V_iconst (v := 0) dX7_sorts_1 ki_0 ?_
  refine V_iconst (v := 2) dX7_sorts_2 ki_2 ?_
  refine V_cSi (P := pM G (d + 5) mX7_sorts _) (d := d + 4) (r := []) (As := [.int s, .int 0, .int 2]) (K := mX7_isFrom) ok_X7_isFrom tw_240 rfl (rmOk (Nat.le_of_ble_eq_true rfl)) (Nat.le_of_ble_eq_true rfl) dX7_sorts_3 rfl (c_X7_isFrom ?_)
  refine V_ifb_eq 18 dX7_sorts_6 (by decide) (fun h1 => ?_) (fun h1 => ?_)
  · refine V_ldc2 dX7_sorts_18 tw_332 ?_
    refine V_lret rfl dX7_sorts_21 ⟨_, rfl, ?_⟩
    exact qcast (hq S (FrS.rf S)) (by simp [sorC, h1])
  · refine V_iload_n dX7_sorts_9 rfl 2 rfl ?_
    refine V_iconst (v := 0) dX7_sorts_10 ki_0 ?_
    refine V_iconst (v := 1) dX7_sorts_11 ki_1 ?_
    refine V_cSi (P := pM G (d + 5) mX7_sorts _) (d := d + 4) (r := []) (As := [.int q, .int 0, .int 1]) (K := mX7_isFrom) ok_X7_isFrom tw_240 rfl (rmOk (Nat.le_of_ble_eq_true rfl)) (Nat.le_of_ble_eq_true rfl) dX7_sorts_12 rfl (c_X7_isFrom ?_)
    refine V_ifb_ne 22 dX7_sorts_15 (by decide) (fun h2 => ?_) (fun h2 => ?_)
    · refine V_aload_n dX7_sorts_22 rfl 0 rfl ?_
      refine g_0_2 tw_205 dX7_sorts_23 ?_
      refine V_cVv (P := pM G (d + 5) mX7_sorts _) (d := d + 4) 3 (r := []) (As := []) (K := mX4_weigh) ok_X4_weigh tw_333 (ob_3 _) rfl (rmOk (Nat.le_of_ble_eq_true rfl)) (Nat.le_of_ble_eq_true rfl) dX7_sorts_26 rfl (c_X4_weigh hn hD h12 (fun S2 hC2 => ?_))
      obtain ⟨s2, -, hs2, rfl⟩ := fr_ex (a := 0) (b := 2) rfl rfl h1 (by omega)
      refine V_aload_n dX7_sorts_29 rfl 0 rfl ?_
      refine g_0_2 tw_205 dX7_sorts_30 ?_
      refine V_iload_n dX7_sorts_33 rfl 1 rfl ?_
      refine V_cVl (P := pM G (d + 5) mX7_sorts _) (d := d + 4) 3 (r := []) (As := [.int (nI s2)]) (K := mX4_weightOfSort) ok_X4_weightOfSort tw_362 (ob_3 _) rfl (rmOk (Nat.le_of_ble_eq_true rfl)) (Nat.le_of_ble_eq_true rfl) dX7_sorts_34 rfl (c_X4_weightOfSort hC2 h12 (by omega) ?_)
      refine V_aload_n dX7_sorts_37 rfl 0 rfl ?_
      refine g_0_2 tw_205 dX7_sorts_38 ?_
      refine g_3_7 tw_100 dX7_sorts_41 ?_
      refine V_topl (v := lsum (wX S m) (stl n)) (id hC2.2.2.2.1) ?_
      refine V_iload_n dX7_sorts_44 rfl 2 rfl ?_
      refine V_cSl (P := pM G (d + 5) mX7_sorts _) (d := d + 4) (r := []) (As := [.long (lsum (fun x => if x.1 = s2 then wX S m x else 0) (stl n)), .long (lsum (wX S m) (stl n)), .int q]) (K := mX7_fraction) ok_X7_fraction tw_349 rfl (rmOk (Nat.le_of_ble_eq_true rfl)) (Nat.le_of_ble_eq_true rfl) dX7_sorts_45 rfl (c_X7_frc (ba := 153090000000000000) (bb := 153090000000000000) (all_ub (S := S) (m := m) h12 (fun x hx => ub_if (wX_ub hR hD.2.1 x hx))) (all_ub (S := S) (m := m) h12 (wX_ub hR hD.2.1)) (by decide) (by decide) ?_)
      refine V_lret rfl dX7_sorts_48 ⟨_, rfl, ?_⟩
      exact qcast (hq S2 hC2.1) (by simp [sorC, h1, h2, nI_clamp (show s2 < 2 ^ 31 by omega)])
    · refine V_ldc2 dX7_sorts_18 tw_332 ?_
      refine V_lret rfl dX7_sorts_21 ⟨_, rfl, ?_⟩
      exact qcast (hq S (FrS.rf S)) (by simp [sorC, h1, h2])
theorem c_X7_blame {G : GX} {d : Nat} {S : ST} {c q : Int32} {n m : Nat} {Q : Int64 → ST → Prop} (hn : S.1 0 = nI n) (h12 : n ≤ 12) (hD : DT S m) (hR : RG (S.2.2.1 17) (S.2.2.1 11) n) (hq : ∀ S2, FrS S S2 → Q (blaC S n m c q) S2) : Cn G (d + 5) mX7_blame [.ref (G.2.1 0), .int c, .int q] S (ql Q) := by
  refine Cn.intro (lv := [(0, .ref (G.2.1 0)), (1, .int c), (2, .int q)]) (by decide) (Nat.le_of_ble_eq_true rfl) rfl ?_
  refine V_aload_n dX7_blame_0 rfl 0 rfl ?_
  refine g_0_0 tw_203 dX7_blame_1 ?_
  refine V_iload_n dX7_blame_4 rfl 1 rfl ?_
  refine V_cVi (P := pM G (d + 5) mX7_blame _) (d := d + 4) 1 (r := []) (As := [.int c]) (K := mX1_knows) ok_X1_knows tw_258 (ob_1 _) rfl (rmOk (Nat.le_of_ble_eq_true rfl)) (Nat.le_of_ble_eq_true rfl) dX7_blame_5 rfl (c_X1_knows hn ?_)
  refine V_ifb_ne 15 dX7_blame_8 (by decide) (fun h1 => ?_) (fun h1 => ?_)
  · refine V_iload_n dX7_blame_15 rfl 2 rfl ?_
    refine V_iconst (v := 0) dX7_blame_16 ki_0 ?_
    refine V_iconst (v := 1) dX7_blame_17 ki_1 ?_
    refine V_cSi (P := pM G (d + 5) mX7_blame _) (d := d + 4) (r := []) (As := [.int q, .int 0, .int 1]) (K := mX7_isFrom) ok_X7_isFrom tw_240 rfl (rmOk (Nat.le_of_ble_eq_true rfl)) (Nat.le_of_ble_eq_true rfl) dX7_blame_18 rfl (c_X7_isFrom ?_)
    refine V_ifb_ne 28 dX7_blame_21 (by decide) (fun h2 => ?_) (fun h2 => ?_)
    · refine V_aload_n dX7_blame_28 rfl 0 rfl ?_
      refine g_0_2 tw_205 dX7_blame_29 ?_
      refine V_cVv (P := pM G (d + 5) mX7_blame _) (d := d + 4) 3 (r := []) (As := []) (K := mX4_weigh) ok_X4_weigh tw_333 (ob_3 _) rfl (rmOk (Nat.le_of_ble_eq_true rfl)) (Nat.le_of_ble_eq_true rfl) dX7_blame_32 rfl (c_X4_weigh hn hD h12 (fun S2 hC2 => ?_))
      obtain ⟨c2, hc2, rfl⟩ := kn_ex h1 (by omega)
      refine V_aload_n dX7_blame_35 rfl 0 rfl ?_
      refine g_0_2 tw_205 dX7_blame_36 ?_
      refine V_iload_n dX7_blame_39 rfl 1 rfl ?_
      refine V_cVl (P := pM G (d + 5) mX7_blame _) (d := d + 4) 3 (r := []) (As := [.int (nI c2)]) (K := mX4_weightBlaming) ok_X4_weightBlaming tw_374 (ob_3 _) rfl (rmOk (Nat.le_of_ble_eq_true rfl)) (Nat.le_of_ble_eq_true rfl) dX7_blame_40 rfl (c_X4_weightBlaming hC2 h12 (by omega) ?_)
      refine V_aload_n dX7_blame_43 rfl 0 rfl ?_
      refine g_0_2 tw_205 dX7_blame_44 ?_
      refine g_3_7 tw_100 dX7_blame_47 ?_
      refine V_topl (v := lsum (wX S m) (stl n)) (id hC2.2.2.2.1) ?_
      refine V_iload_n dX7_blame_50 rfl 2 rfl ?_
      refine V_cSl (P := pM G (d + 5) mX7_blame _) (d := d + 4) (r := []) (As := [.long (lsum (fun x => if x.2.1 = c2 ∨ (x.1 = 1 ∧ x.2.2 = c2) then wX S m x else 0) (stl n)), .long (lsum (wX S m) (stl n)), .int q]) (K := mX7_fraction) ok_X7_fraction tw_349 rfl (rmOk (Nat.le_of_ble_eq_true rfl)) (Nat.le_of_ble_eq_true rfl) dX7_blame_51 rfl (c_X7_frc (ba := 153090000000000000) (bb := 153090000000000000) (all_ub (S := S) (m := m) h12 (fun x hx => ub_if (wX_ub hR hD.2.1 x hx))) (all_ub (S := S) (m := m) h12 (wX_ub hR hD.2.1)) (by decide) (by decide) ?_)
      refine V_lret rfl dX7_blame_54 ⟨_, rfl, ?_⟩
      exact qcast (hq S2 hC2.1) (by simp [blaC, h1, h2, nI_clamp (show c2 < 2 ^ 31 by omega)])
    · refine V_ldc2 dX7_blame_24 tw_332 ?_
      refine V_lret rfl dX7_blame_27 ⟨_, rfl, ?_⟩
      exact qcast (hq S (FrS.rf S)) (by simp [blaC, h1, h2])
  · refine V_ldc2 dX7_blame_11 tw_373 ?_
    refine V_lret rfl dX7_blame_14 ⟨_, rfl, ?_⟩
    exact qcast (hq S (FrS.rf S)) (by simp [blaC, h1])
theorem hrs_ex {n : Nat} {df : Nat → Int32} {v : Int32} (h : hrs n df v = true) (hn : n ≤ 12) : ∃ k, k < n ∧ v = nI k := by
  unfold hrs at h
  rw [Bool.and_eq_true] at h
  exact kn_ex h.1 (by omega)
theorem c_X7_hope {G : GX} {d : Nat} {S : ST} {v q : Int32} {n m : Nat} {Q : Int64 → ST → Prop} (hn : S.1 0 = nI n) (h12 : n ≤ 12) (hD : DT S m) (hR : RG (S.2.2.1 17) (S.2.2.1 11) n) (hq : ∀ S2, FrS S S2 → Q (hopC S n m v q) S2) : Cn G (d + 5) mX7_hope [.ref (G.2.1 0), .int v, .int q] S (ql Q) := by
  refine Cn.intro (lv := [(0, .ref (G.2.1 0)), (1, .int v), (2, .int q)]) (by decide) (Nat.le_of_ble_eq_true rfl) rfl ?_
  refine V_aload_n dX7_hope_0 rfl 0 rfl ?_
  refine g_0_0 tw_203 dX7_hope_1 ?_
  refine V_iload_n dX7_hope_4 rfl 1 rfl ?_
  refine V_cVi (P := pM G (d + 5) mX7_hope _) (d := d + 4) 1 (r := []) (As := [.int v]) (K := mX1_hears) ok_X1_hears tw_287 (ob_1 _) rfl (rmOk (Nat.le_of_ble_eq_true rfl)) (Nat.le_of_ble_eq_true rfl) dX7_hope_5 rfl (c_X1_hears hn h12 ?_)
  refine V_ifb_ne 15 dX7_hope_8 (by decide) (fun h1 => ?_) (fun h1 => ?_)
  · refine V_iload_n dX7_hope_15 rfl 2 rfl ?_
    refine V_iconst (v := 0) dX7_hope_16 ki_0 ?_
    refine V_iconst (v := 1) dX7_hope_17 ki_1 ?_
    refine V_cSi (P := pM G (d + 5) mX7_hope _) (d := d + 4) (r := []) (As := [.int q, .int 0, .int 1]) (K := mX7_isFrom) ok_X7_isFrom tw_240 rfl (rmOk (Nat.le_of_ble_eq_true rfl)) (Nat.le_of_ble_eq_true rfl) dX7_hope_18 rfl (c_X7_isFrom ?_)
    refine V_ifb_ne 28 dX7_hope_21 (by decide) (fun h2 => ?_) (fun h2 => ?_)
    · refine V_aload_n dX7_hope_28 rfl 0 rfl ?_
      refine g_0_2 tw_205 dX7_hope_29 ?_
      refine V_cVv (P := pM G (d + 5) mX7_hope _) (d := d + 4) 3 (r := []) (As := []) (K := mX4_weigh) ok_X4_weigh tw_333 (ob_3 _) rfl (rmOk (Nat.le_of_ble_eq_true rfl)) (Nat.le_of_ble_eq_true rfl) dX7_hope_32 rfl (c_X4_weigh hn hD h12 (fun S2 hC2 => ?_))
      obtain ⟨v2, hv2, rfl⟩ := hrs_ex h1 h12
      refine V_aload_n dX7_hope_35 rfl 0 rfl ?_
      refine g_0_2 tw_205 dX7_hope_36 ?_
      refine V_iload_n dX7_hope_39 rfl 1 rfl ?_
      refine V_cVl (P := pM G (d + 5) mX7_hope _) (d := d + 4) 3 (r := []) (As := [.int (nI v2)]) (K := mX4_hopeWeight) ok_X4_hopeWeight tw_395 (ob_3 _) rfl (rmOk (Nat.le_of_ble_eq_true rfl)) (Nat.le_of_ble_eq_true rfl) dX7_hope_40 rfl (c_X4_hopeWeight hC2 h12 (by omega) ?_)
      refine V_topl (v := hpC S m n v2) rfl ?_
      refine V_ldc2 dX7_hope_43 tw_400 ?_
      refine V_aload_n dX7_hope_46 rfl 0 rfl ?_
      refine g_0_2 tw_205 dX7_hope_47 ?_
      refine g_3_7 tw_100 dX7_hope_50 ?_
      refine V_topl (v := lsum (wX S m) (stl n)) (id hC2.2.2.2.1) ?_
      refine V_lmul dX7_hope_53 ?_
      refine V_iload_n dX7_hope_54 rfl 2 rfl ?_
      refine V_cSl (P := pM G (d + 5) mX7_hope _) (d := d + 4) (r := []) (As := [.long (hpC S m n v2), .long (10 * (lsum (wX S m) (stl n))), .int q]) (K := mX7_fraction) ok_X7_fraction tw_349 rfl (rmOk (Nat.le_of_ble_eq_true rfl)) (Nat.le_of_ble_eq_true rfl) dX7_hope_55 rfl (c_X7_frc (ba := 14580000000000000) (bb := 1530900000000000000) (hp_ub hR hD.2.1) (ub_mul (a := 10) (b := 153090000000000000) ⟨10, Nat.le_refl 10, rfl⟩ (all_ub (S := S) (m := m) h12 (wX_ub hR hD.2.1))) (by decide) (by decide) ?_)
      refine V_lret rfl dX7_hope_58 ⟨_, rfl, ?_⟩
      exact qcast (hq S2 hC2.1) (by simp [hopC, h1, h2, nI_clamp (show v2 < 2 ^ 31 by omega)])
    · refine V_ldc2 dX7_hope_24 tw_332 ?_
      refine V_lret rfl dX7_hope_27 ⟨_, rfl, ?_⟩
      exact qcast (hq S (FrS.rf S)) (by simp [hopC, h1, h2])
  · refine V_ldc2 dX7_hope_11 tw_373 ?_
    refine V_lret rfl dX7_hope_14 ⟨_, rfl, ?_⟩
    exact qcast (hq S (FrS.rf S)) (by simp [hopC, h1])
theorem c_X7_next {G : GX} {d : Nat} {S : ST} {w : Int32} {n m : Nat} {Q : Int32 → ST → Prop} (hn : S.1 0 = nI n) (h12 : n ≤ 12) (hD : DT S m) (hq : ∀ S2, FrS S S2 → Q (nexC S n m w) S2) : Cn G (d + 5) mX7_next [.ref (G.2.1 0), .int w] S (qi Q) := by
  refine Cn.intro (lv := [(0, .ref (G.2.1 0)), (1, .int w)]) (by decide) (Nat.le_of_ble_eq_true rfl) rfl ?_
  refine V_iload_n dX7_next_0 rfl 1 rfl ?_
  refine V_iconst (v := 0) dX7_next_1 ki_0 ?_
  refine V_iconst (v := 1) dX7_next_2 ki_1 ?_
  refine V_cSi (P := pM G (d + 5) mX7_next _) (d := d + 4) (r := []) (As := [.int w, .int 0, .int 1]) (K := mX7_isFrom) ok_X7_isFrom tw_240 rfl (rmOk (Nat.le_of_ble_eq_true rfl)) (Nat.le_of_ble_eq_true rfl) dX7_next_3 rfl (c_X7_isFrom ?_)
  refine V_ifb_ne 12 dX7_next_6 (by decide) (fun h1 => ?_) (fun h1 => ?_)
  · refine V_aload_n dX7_next_12 rfl 0 rfl ?_
    refine g_0_2 tw_205 dX7_next_13 ?_
    refine V_cVv (P := pM G (d + 5) mX7_next _) (d := d + 4) 3 (r := []) (As := []) (K := mX4_weigh) ok_X4_weigh tw_333 (ob_3 _) rfl (rmOk (Nat.le_of_ble_eq_true rfl)) (Nat.le_of_ble_eq_true rfl) dX7_next_16 rfl (c_X4_weigh hn hD h12 (fun S2 hC2 => ?_))
    obtain ⟨w2, -, hw2, rfl⟩ := fr_ex (a := 0) (b := 1) rfl rfl h1 (by omega)
    rcases (show w2 = 0 ∨ w2 = 1 by omega) with rfl | rfl
    · refine V_aload_n dX7_next_19 rfl 0 rfl ?_
      refine g_0_2 tw_205 dX7_next_20 ?_
      refine V_iload_n dX7_next_23 rfl 1 rfl ?_
      refine V_cVi (P := pM G (d + 5) mX7_next _) (d := d + 4) 3 (r := []) (As := [.int 0]) (K := mX4_nextVersion) ok_X4_nextVersion tw_405 (ob_3 _) rfl (rmOk (Nat.le_of_ble_eq_true rfl)) (Nat.le_of_ble_eq_true rfl) dX7_next_24 rfl (c_X4_nextVersion0 hC2 hn h12 ?_)
      refine V_iret rfl dX7_next_27 ⟨_, rfl, ?_⟩
      exact qcast (hq S2 hC2.1) (by simp only [nexC, h1, if_true]; rfl)
    · refine V_aload_n dX7_next_19 rfl 0 rfl ?_
      refine g_0_2 tw_205 dX7_next_20 ?_
      refine V_iload_n dX7_next_23 rfl 1 rfl ?_
      refine V_cVi (P := pM G (d + 5) mX7_next _) (d := d + 4) 3 (r := []) (As := [.int 1]) (K := mX4_nextVersion) ok_X4_nextVersion tw_405 (ob_3 _) rfl (rmOk (Nat.le_of_ble_eq_true rfl)) (Nat.le_of_ble_eq_true rfl) dX7_next_24 rfl (c_X4_nextVersion1 hC2 hn h12 ?_)
      refine V_iret rfl dX7_next_27 ⟨_, rfl, ?_⟩
      exact qcast (hq S2 hC2.1) (by simp only [nexC, h1, if_true]; rfl)
  · refine V_bipush (v := -2) dX7_next_9 kb_m2 ?_
    refine V_iret rfl dX7_next_11 ⟨_, rfl, ?_⟩
    exact qcast (hq S (FrS.rf S)) (by simp [nexC, h1])
