theorem FrM.rf (S : ST) : FrM S S := ⟨fun _ _ => rfl, fun _ _ => rfl, fun _ _ _ _ => rfl, fun _ _ => rfl⟩
theorem sfB0 (h : Nat → Int32) (v c e : Nat) : sfB h v 0 c e = bt (h v) c := by simp [sfB]
theorem wM0 (S : ST) (m c e e2 : Nat) : wM S m 0 c e = wM S m 0 c e2 := by
  have h1 : ∀ e, w0m (S.2.2.1 37) (S.2.2.1 31) 0 c e = (S.2.2.1 37 2).toInt64 * (S.2.2.1 31 c).toInt64 * 1 := fun e => by simp [w0m]
  have h2 : tenm S 0 c e = tenm S 0 c e2 := by funext k; unfold tenm; rw [sfB0, sfB0]
  unfold wM
  rw [h1 e, h1 e2, h2]
theorem wM_nat {S : ST} {m n s c e : Nat} (h : RG (S.2.2.1 37) (S.2.2.1 31) n) (hm : m ≤ 12) (hs : s < 3) (hc : c < n) (he : e < n) : ub 729000000000000 (wM S m s c e) := by
  have h0 : ub 729 (w0m (S.2.2.1 37) (S.2.2.1 31) s c e) := by rw [w0m_nat h hs hc he]; exact w0c_nat h hs hc he
  have h1 := wprod_nat (f := tenm S s c e) (m := m) h0 (fun k _ => by
    obtain ⟨a, ha, ea⟩ := ten_nat h (sfB (S.2.2.1 30) (S.2.2.1 35 k).toNatClampNeg s c e) (decide (S.2.2.1 36 k ≠ 0))
    unfold tenm
    rw [ea]
    exact ub_i ha (by omega))
  refine ub_le h1 ?_
  have : 10 ^ m ≤ 10 ^ 12 := Nat.pow_le_pow_right (by omega) hm
  have := Nat.mul_le_mul_left 729 this
  omega
theorem wM_ub {S : ST} {m n : Nat} (hR : RG (S.2.2.1 37) (S.2.2.1 31) n) (hm : m ≤ 12) : ∀ x, x ∈ stl n → ub 729000000000000 (wMX S m x) := fun x hx => wM_nat hR hm (stl_ok x hx).1 (stl_ok x hx).2.1 (stl_ok x hx).2.2
theorem hpM_ub {S : ST} {m n v : Nat} (hR : RG (S.2.2.1 37) (S.2.2.1 31) n) (hm : m ≤ 12) : ub 14580000000000000 (hpM S m n v) := by
  have key : ∀ b : Bool, ub 7290000000000000 (mxs (fun x => wMX S m x * (ten (S.2.2.1 37) (sfB (S.2.2.1 30) v x.1 x.2.1 x.2.2) b).toInt64) (stl n)) := by
    intro b
    refine mxs_nat (stl n) (fun x hx => ?_)
    obtain ⟨a, ha, ea⟩ := ten_nat hR (sfB (S.2.2.1 30) v x.1 x.2.1 x.2.2) b
    rw [ea]
    exact ub_le (ub_mul (wM_ub hR hm x hx) (ub_i ha (by omega))) (by omega)
  exact ub_le (ub_add (key true) (key false)) (by omega)
theorem c_X8_frc {G : GX} {d : Nat} {S : ST} {a b : Int64} {q : Int32} {ba bb : Nat} {Q : Int64 → ST → Prop} (ha : ub ba a) (hb : ub bb b) (ha2 : ba < 2 ^ 63) (hb2 : bb < 2 ^ 63) (hf : fr q 0 1 = true) (hq : Q (frc a b q) S) : Cn G d mX8_term [.long a, .long b, .int q] S (ql Q) := by
  obtain ⟨x, hx, rfl⟩ := ha
  obtain ⟨y, hy, rfl⟩ := hb
  refine c_X8_term (by omega) (by omega) hf ?_
  rw [frc, lN_tn (by omega), lN_tn (by omega)] at hq
  exact hq
def wgtM (S : ST) (n m : Nat) (s c o : Int32) : Int64 := if fr s 0 2 then (if stO n s c o then wM S m s.toNatClampNeg c.toNatClampNeg o.toNatClampNeg else -1000000000000000001) else -1000000000000000002
def oddM (S : ST) (n m : Nat) (s c o q : Int32) : Int64 := if fr s 0 2 then (if stO n s c o then (if fr q 0 1 then frc (wM S m s.toNatClampNeg c.toNatClampNeg o.toNatClampNeg) (lsum (wMX S m) (stl n)) q else -1000000000000000002) else -1000000000000000001) else -1000000000000000002
def sorM (S : ST) (n m : Nat) (s q : Int32) : Int64 := if fr s 0 2 && fr q 0 1 then frc (lsum (fun x => if x.1 = s.toNatClampNeg then wMX S m x else 0) (stl n)) (lsum (wMX S m) (stl n)) q else -1000000000000000002
def blaM (S : ST) (n m : Nat) (c q : Int32) : Int64 := if kn n c then (if fr q 0 1 then frc (lsum (fun x => if x.2.1 = c.toNatClampNeg ∨ (x.1 = 1 ∧ x.2.2 = c.toNatClampNeg) then wMX S m x else 0) (stl n)) (lsum (wMX S m) (stl n)) q else -1000000000000000002) else -1000000000000000001
def hopM (S : ST) (n m : Nat) (v q : Int32) : Int64 := if hrs n (S.2.2.1 34) v then (if fr q 0 1 then frc (hpM S m n v.toNatClampNeg) (10 * lsum (wMX S m) (stl n)) q else -1000000000000000002) else -1000000000000000001
def nexM (S : ST) (n m : Nat) (w : Int32) : Int32 := if fr w 0 1 then (nfo (S.2.2.1 34) (S.2.2.1 32) (lsM S m n w.toNatClampNeg) n).1 else -2
theorem c_X8_isStory {G : GX} {d : Nat} {S : ST} {s c o : Int32} {n : Nat} {Q : Int32 → ST → Prop} (hn : S.1 10 = nI n) (h12 : n ≤ 12) (hq : Q (b2i (stO n s c o)) S) : Cn G (d + 2) mX8_isStory [.ref (G.2.1 29), .int s, .int c, .int o] S (qi Q) := by
  refine Cn.intro (lv := [(0, .ref (G.2.1 29)), (1, .int s), (2, .int c), (3, .int o)]) (by decide) (Nat.le_of_ble_eq_true rfl) rfl ?_
  refine V_aload_n dX8_isStory_0 rfl 0 rfl ?_
  refine V_iload_n dX8_isStory_1 rfl 2 rfl ?_
  refine V_cVi (P := pM G (d + 2) mX8_isStory _) (d := d + 1) 29 (r := []) (As := [.int c]) (K := mX8_isVersion) ok_X8_isVersion tw_717 (ob_29 _) rfl (rmOk (Nat.le_of_ble_eq_true rfl)) (Nat.le_of_ble_eq_true rfl) dX8_isStory_2 rfl (c_X8_isVersion hn h12 ?_)
  refine V_ifb_eq 42 dX8_isStory_5 (by decide) (fun h1 => ?_) (fun h1 => ?_)
  · refine V_iconst (v := 0) dX8_isStory_42 ki_0 ?_
    refine V_zret rfl dX8_isStory_43 rfl ⟨_, rfl, ?_⟩
    exact qcast hq (by simp [stO, b2i, h1])
  · refine V_iload_n dX8_isStory_8 rfl 1 rfl ?_
    refine V_if_eq 38 dX8_isStory_9 (by decide) (fun h2 => ?_) (fun h2 => ?_)
    · subst h2
      refine V_iconst (v := 1) dX8_isStory_38 ki_1 ?_
      refine V_goto 43 dX8_isStory_39 (by decide) ?_
      refine V_zret rfl dX8_isStory_43 rfl ⟨_, rfl, ?_⟩
      exact qcast hq (by simp [stO, b2i, h1])
    · refine V_aload_n dX8_isStory_12 rfl 0 rfl ?_
      refine V_iload_n dX8_isStory_13 rfl 3 rfl ?_
      refine V_cVi (P := pM G (d + 2) mX8_isStory _) (d := d + 1) 29 (r := []) (As := [.int o]) (K := mX8_isVersion) ok_X8_isVersion tw_717 (ob_29 _) rfl (rmOk (Nat.le_of_ble_eq_true rfl)) (Nat.le_of_ble_eq_true rfl) dX8_isStory_14 rfl (c_X8_isVersion hn h12 ?_)
      refine V_ifb_eq 42 dX8_isStory_17 (by decide) (fun h3 => ?_) (fun h3 => ?_)
      · refine V_iconst (v := 0) dX8_isStory_42 ki_0 ?_
        refine V_zret rfl dX8_isStory_43 rfl ⟨_, rfl, ?_⟩
        exact qcast hq (by simp [stO, b2i, h1, h2, h3])
      · refine V_iload_n dX8_isStory_20 rfl 1 rfl ?_
        refine V_iconst (v := 1) dX8_isStory_21 ki_1 ?_
        refine V_icmp_ne 33 dX8_isStory_22 (by decide) (fun h4 => ?_) (fun h4 => ?_)
        · refine V_iload_n dX8_isStory_33 rfl 2 rfl ?_
          refine V_iload_n dX8_isStory_34 rfl 3 rfl ?_
          refine V_icmp_eq 42 dX8_isStory_35 (by decide) (fun h5 => ?_) (fun h5 => ?_)
          · refine V_iconst (v := 0) dX8_isStory_42 ki_0 ?_
            refine V_zret rfl dX8_isStory_43 rfl ⟨_, rfl, ?_⟩
            exact qcast hq (by simp [stO, b2i, h1, h2, h3, h4, h5])
          · refine V_iconst (v := 1) dX8_isStory_38 ki_1 ?_
            refine V_goto 43 dX8_isStory_39 (by decide) ?_
            refine V_zret rfl dX8_isStory_43 rfl ⟨_, rfl, ?_⟩
            exact qcast hq (by simp [stO, b2i, h1, h2, h3, h4, h5])
        · subst h4
          refine V_iload_n dX8_isStory_25 rfl 2 rfl ?_
          refine V_iload_n dX8_isStory_26 rfl 3 rfl ?_
          refine V_icmp_ge 42 dX8_isStory_27 (by decide) (fun h6 => ?_) (fun h6 => ?_)
          · refine V_iconst (v := 0) dX8_isStory_42 ki_0 ?_
            refine V_zret rfl dX8_isStory_43 rfl ⟨_, rfl, ?_⟩
            exact qcast hq (by simp [stO, b2i, h1, h2, h3, h6, Int32.not_lt.mpr h6])
          · refine V_goto 38 dX8_isStory_30 (by decide) ?_
            refine V_iconst (v := 1) dX8_isStory_38 ki_1 ?_
            refine V_goto 43 dX8_isStory_39 (by decide) ?_
            refine V_zret rfl dX8_isStory_43 rfl ⟨_, rfl, ?_⟩
            exact qcast hq (by simp [stO, b2i, h1, h2, h3, h6, Int32.not_le.mp h6])
theorem c_X8_weight {G : GX} {d : Nat} {S : ST} {s c o : Int32} {n m : Nat} {Q : Int64 → ST → Prop} (hn : S.1 10 = nI n) (h12 : n ≤ 12) (hD : DTm S m) (hq : Q (wgtM S n m s c o) S) : Cn G (d + 3) mX8_weight [.ref (G.2.1 29), .int s, .int c, .int o] S (ql Q) := by
  refine Cn.intro (lv := [(0, .ref (G.2.1 29)), (1, .int s), (2, .int c), (3, .int o)]) (by decide) (Nat.le_of_ble_eq_true rfl) rfl ?_
  refine V_iload_n dX8_weight_0 rfl 1 rfl ?_
  refine V_iconst (v := 0) dX8_weight_1 ki_0 ?_
  refine V_iconst (v := 2) dX8_weight_2 ki_2 ?_
  refine V_cSi (P := pM G (d + 3) mX8_weight _) (d := d + 2) (r := []) (As := [.int s, .int 0, .int 2]) (K := mX8_in) ok_X8_in tw_721 rfl (rmOk (Nat.le_of_ble_eq_true rfl)) (Nat.le_of_ble_eq_true rfl) dX8_weight_3 rfl (c_X8_in ?_)
  refine V_ifb_ne 13 dX8_weight_6 (by decide) (fun h1 => ?_) (fun h1 => ?_)
  · refine V_aload_n dX8_weight_13 rfl 0 rfl ?_
    refine V_iload_n dX8_weight_14 rfl 1 rfl ?_
    refine V_iload_n dX8_weight_15 rfl 2 rfl ?_
    refine V_iload_n dX8_weight_16 rfl 3 rfl ?_
    refine V_cVi (P := pM G (d + 3) mX8_weight _) (d := d + 2) 29 (r := []) (As := [.int s, .int c, .int o]) (K := mX8_isStory) ok_X8_isStory tw_760 (ob_29 _) rfl (rmOk (Nat.le_of_ble_eq_true rfl)) (Nat.le_of_ble_eq_true rfl) dX8_weight_17 rfl (c_X8_isStory hn h12 ?_)
    refine V_ifb_eq 33 dX8_weight_20 (by decide) (fun h2 => ?_) (fun h2 => ?_)
    · refine V_ldc2 dX8_weight_33 tw_779 ?_
      refine V_lret rfl dX8_weight_36 ⟨_, rfl, ?_⟩
      exact qcast hq (by simp [wgtM, h1, h2])
    · obtain ⟨s2, c2, hs2, hc2, rfl, rfl, hoo⟩ := stO_ex h1 h2 h12
      rcases (show s2 = 0 ∨ s2 = 1 ∨ s2 = 2 by omega) with rfl | rfl | rfl
      · refine V_aload_n dX8_weight_23 rfl 0 rfl ?_
        refine V_iload_n dX8_weight_24 rfl 1 rfl ?_
        refine V_iload_n dX8_weight_25 rfl 2 rfl ?_
        refine V_iload_n dX8_weight_26 rfl 3 rfl ?_
        refine V_cVl (P := pM G (d + 3) mX8_weight _) (d := d + 2) 29 (r := []) (As := [.int 0, .int (nI c2), .int o]) (K := mX8_weightOf) ok_X8_weightOf tw_764 (ob_29 _) rfl (rmOk (Nat.le_of_ble_eq_true rfl)) (Nat.le_of_ble_eq_true rfl) dX8_weight_27 rfl (c_X8_weightOf0 c2 hD (by omega) (by omega) ?_)
        refine V_goto 36 dX8_weight_30 (by decide) ?_
        refine V_lret rfl dX8_weight_36 ⟨_, rfl, ?_⟩
        exact qcast hq (by simp only [wgtM, h1, h2, if_true, nI_clamp (show c2 < 2 ^ 31 by omega), nI_clamp (show 0 < 2 ^ 31 by omega)]; rw [wM0 S m c2 c2 o.toNatClampNeg])
      · obtain ⟨e, he, rfl⟩ := hoo.resolve_left (by decide)
        refine V_aload_n dX8_weight_23 rfl 0 rfl ?_
        refine V_iload_n dX8_weight_24 rfl 1 rfl ?_
        refine V_iload_n dX8_weight_25 rfl 2 rfl ?_
        refine V_iload_n dX8_weight_26 rfl 3 rfl ?_
        refine V_cVl (P := pM G (d + 3) mX8_weight _) (d := d + 2) 29 (r := []) (As := [.int 1, .int (nI c2), .int (nI e)]) (K := mX8_weightOf) ok_X8_weightOf tw_764 (ob_29 _) rfl (rmOk (Nat.le_of_ble_eq_true rfl)) (Nat.le_of_ble_eq_true rfl) dX8_weight_27 rfl (c_X8_weightOf1 hD (by omega) (by omega) ?_)
        refine V_goto 36 dX8_weight_30 (by decide) ?_
        refine V_lret rfl dX8_weight_36 ⟨_, rfl, ?_⟩
        exact qcast hq (by simp only [wgtM, h1, h2, if_true, nI_clamp (show c2 < 2 ^ 31 by omega), nI_clamp (show 1 < 2 ^ 31 by omega), nI_clamp (show e < 2 ^ 31 by omega)])
      · obtain ⟨e, he, rfl⟩ := hoo.resolve_left (by decide)
        refine V_aload_n dX8_weight_23 rfl 0 rfl ?_
        refine V_iload_n dX8_weight_24 rfl 1 rfl ?_
        refine V_iload_n dX8_weight_25 rfl 2 rfl ?_
        refine V_iload_n dX8_weight_26 rfl 3 rfl ?_
        refine V_cVl (P := pM G (d + 3) mX8_weight _) (d := d + 2) 29 (r := []) (As := [.int 2, .int (nI c2), .int (nI e)]) (K := mX8_weightOf) ok_X8_weightOf tw_764 (ob_29 _) rfl (rmOk (Nat.le_of_ble_eq_true rfl)) (Nat.le_of_ble_eq_true rfl) dX8_weight_27 rfl (c_X8_weightOf2 hD (by omega) (by omega) ?_)
        refine V_goto 36 dX8_weight_30 (by decide) ?_
        refine V_lret rfl dX8_weight_36 ⟨_, rfl, ?_⟩
        exact qcast hq (by simp only [wgtM, h1, h2, if_true, nI_clamp (show c2 < 2 ^ 31 by omega), nI_clamp (show 2 < 2 ^ 31 by omega), nI_clamp (show e < 2 ^ 31 by omega)])
  · refine V_ldc2 dX8_weight_9 tw_759 ?_
    refine V_lret rfl dX8_weight_12 ⟨_, rfl, ?_⟩
    exact qcast hq (by simp [wgtM, h1])
theorem c_X8_odds {G : GX} {d : Nat} {S : ST} {s c o q : Int32} {n m : Nat} {Q : Int64 → ST → Prop} (hn : S.1 10 = nI n) (h12 : n ≤ 12) (hD : DTm S m) (hR : RG (S.2.2.1 37) (S.2.2.1 31) n) (hq : ∀ S2, FrM S S2 → Q (oddM S n m s c o q) S2) : Cn G (d + 5) mX8_odds [.ref (G.2.1 29), .int s, .int c, .int o, .int q] S (ql Q) := by
  refine Cn.intro (lv := [(0, .ref (G.2.1 29)), (1, .int s), (2, .int c), (3, .int o), (4, .int q)]) (by decide) (Nat.le_of_ble_eq_true rfl) rfl ?_
  refine V_iload_n dX8_odds_0 rfl 1 rfl ?_
  refine V_iconst (v := 0) dX8_odds_1 ki_0 ?_
  refine V_iconst (v := 2) dX8_odds_2 ki_2 ?_
  refine V_cSi (P := pM G (d + 5) mX8_odds _) (d := d + 4) (r := []) (As := [.int s, .int 0, .int 2]) (K := mX8_in) ok_X8_in tw_721 rfl (rmOk (Nat.le_of_ble_eq_true rfl)) (Nat.le_of_ble_eq_true rfl) dX8_odds_3 rfl (c_X8_in ?_)
  refine V_ifb_ne 13 dX8_odds_6 (by decide) (fun h1 => ?_) (fun h1 => ?_)
  · refine V_aload_n dX8_odds_13 rfl 0 rfl ?_
    refine V_iload_n dX8_odds_14 rfl 1 rfl ?_
    refine V_iload_n dX8_odds_15 rfl 2 rfl ?_
    refine V_iload_n dX8_odds_16 rfl 3 rfl ?_
    refine V_cVi (P := pM G (d + 5) mX8_odds _) (d := d + 4) 29 (r := []) (As := [.int s, .int c, .int o]) (K := mX8_isStory) ok_X8_isStory tw_760 (ob_29 _) rfl (rmOk (Nat.le_of_ble_eq_true rfl)) (Nat.le_of_ble_eq_true rfl) dX8_odds_17 rfl (c_X8_isStory hn h12 ?_)
    refine V_ifb_ne 27 dX8_odds_20 (by decide) (fun h2 => ?_) (fun h2 => ?_)
    · refine V_iload dX8_odds_27 4 rfl ?_
      refine V_cSi (P := pM G (d + 5) mX8_odds _) (d := d + 4) (r := []) (As := [.int q]) (K := mX8_isPart) ok_X8_isPart tw_732 rfl (rmOk (Nat.le_of_ble_eq_true rfl)) (Nat.le_of_ble_eq_true rfl) dX8_odds_29 rfl (c_X8_isPart ?_)
      refine V_ifb_ne 39 dX8_odds_32 (by decide) (fun h3 => ?_) (fun h3 => ?_)
      · refine V_aload_n dX8_odds_39 rfl 0 rfl ?_
        refine V_cVv (P := pM G (d + 5) mX8_odds _) (d := d + 4) 29 (r := []) (As := []) (K := mX8_layStories) ok_X8_layStories tw_784 (ob_29 _) rfl (rmOk (Nat.le_of_ble_eq_true rfl)) (Nat.le_of_ble_eq_true rfl) dX8_odds_40 rfl (c_X8_layStories hn hD h12 (fun S2 hM2 => ?_))
        obtain ⟨s2, c2, hs2, hc2, rfl, rfl, hoo⟩ := stO_ex h1 h2 h12
        rcases (show s2 = 0 ∨ s2 = 1 ∨ s2 = 2 by omega) with rfl | rfl | rfl
        · refine V_aload_n dX8_odds_43 rfl 0 rfl ?_
          refine V_iload_n dX8_odds_44 rfl 1 rfl ?_
          refine V_iload_n dX8_odds_45 rfl 2 rfl ?_
          refine V_iload_n dX8_odds_46 rfl 3 rfl ?_
          refine V_cVl (P := pM G (d + 5) mX8_odds _) (d := d + 4) 29 (r := []) (As := [.int 0, .int (nI c2), .int o]) (K := mX8_weightOf) ok_X8_weightOf tw_764 (ob_29 _) rfl (rmOk (Nat.le_of_ble_eq_true rfl)) (Nat.le_of_ble_eq_true rfl) dX8_odds_47 rfl (c_X8_weightOf0 c2 (hM2.1.DTm hD) (by omega) (by omega) ?_)
          refine V_topl (v := wM S m 0 c2 c2) (hM2.1.wM _ _ _ _) ?_
          refine V_aload_n dX8_odds_50 rfl 0 rfl ?_
          refine g_29_19 tw_647 dX8_odds_51 ?_
          refine V_topl (v := lsum (wMX S m) (stl n)) (id hM2.2.2.2) ?_
          refine V_iload dX8_odds_54 4 rfl ?_
          refine V_cSl (P := pM G (d + 5) mX8_odds _) (d := d + 4) (r := []) (As := [.long (wM S m 0 c2 c2), .long (lsum (wMX S m) (stl n)), .int q]) (K := mX8_term) ok_X8_term tw_792 rfl (rmOk (Nat.le_of_ble_eq_true rfl)) (Nat.le_of_ble_eq_true rfl) dX8_odds_56 rfl (c_X8_frc (ba := 729000000000000) (bb := 153090000000000000) (wM_nat hR hD.2.1 (Nat.le_of_ble_eq_true rfl) hc2 hc2) (all_ub (S := S) (m := m) h12 (wM_ub hR hD.2.1)) (by decide) (by decide) h3 ?_)
          refine V_lret rfl dX8_odds_59 ⟨_, rfl, ?_⟩
          exact qcast (hq S2 hM2.1) (by simp only [oddM, h1, h2, h3, if_true, nI_clamp (show c2 < 2 ^ 31 by omega), nI_clamp (show 0 < 2 ^ 31 by omega)]; rw [wM0 S m c2 c2 o.toNatClampNeg])
        · obtain ⟨e, he, rfl⟩ := hoo.resolve_left (by decide)
          refine V_aload_n dX8_odds_43 rfl 0 rfl ?_
          refine V_iload_n dX8_odds_44 rfl 1 rfl ?_
          refine V_iload_n dX8_odds_45 rfl 2 rfl ?_
          refine V_iload_n dX8_odds_46 rfl 3 rfl ?_
          refine V_cVl (P := pM G (d + 5) mX8_odds _) (d := d + 4) 29 (r := []) (As := [.int 1, .int (nI c2), .int (nI e)]) (K := mX8_weightOf) ok_X8_weightOf tw_764 (ob_29 _) rfl (rmOk (Nat.le_of_ble_eq_true rfl)) (Nat.le_of_ble_eq_true rfl) dX8_odds_47 rfl (c_X8_weightOf1 (hM2.1.DTm hD) (by omega) (by omega) ?_)
          refine V_topl (v := wM S m 1 c2 e) (hM2.1.wM _ _ _ _) ?_
          refine V_aload_n dX8_odds_50 rfl 0 rfl ?_
          refine g_29_19 tw_647 dX8_odds_51 ?_
          refine V_topl (v := lsum (wMX S m) (stl n)) (id hM2.2.2.2) ?_
          refine V_iload dX8_odds_54 4 rfl ?_
          refine V_cSl (P := pM G (d + 5) mX8_odds _) (d := d + 4) (r := []) (As := [.long (wM S m 1 c2 e), .long (lsum (wMX S m) (stl n)), .int q]) (K := mX8_term) ok_X8_term tw_792 rfl (rmOk (Nat.le_of_ble_eq_true rfl)) (Nat.le_of_ble_eq_true rfl) dX8_odds_56 rfl (c_X8_frc (ba := 729000000000000) (bb := 153090000000000000) (wM_nat hR hD.2.1 (Nat.le_of_ble_eq_true rfl) hc2 he) (all_ub (S := S) (m := m) h12 (wM_ub hR hD.2.1)) (by decide) (by decide) h3 ?_)
          refine V_lret rfl dX8_odds_59 ⟨_, rfl, ?_⟩
          exact qcast (hq S2 hM2.1) (by simp only [oddM, h1, h2, h3, if_true, nI_clamp (show c2 < 2 ^ 31 by omega), nI_clamp (show 1 < 2 ^ 31 by omega), nI_clamp (show e < 2 ^ 31 by omega)])
        · obtain ⟨e, he, rfl⟩ := hoo.resolve_left (by decide)
          refine V_aload_n dX8_odds_43 rfl 0 rfl ?_
          refine V_iload_n dX8_odds_44 rfl 1 rfl ?_
          refine V_iload_n dX8_odds_45 rfl 2 rfl ?_
          refine V_iload_n dX8_odds_46 rfl 3 rfl ?_
          refine V_cVl (P := pM G (d + 5) mX8_odds _) (d := d + 4) 29 (r := []) (As := [.int 2, .int (nI c2), .int (nI e)]) (K := mX8_weightOf) ok_X8_weightOf tw_764 (ob_29 _) rfl (rmOk (Nat.le_of_ble_eq_true rfl)) (Nat.le_of_ble_eq_true rfl) dX8_odds_47 rfl (c_X8_weightOf2 (hM2.1.DTm hD) (by omega) (by omega) ?_)
          refine V_topl (v := wM S m 2 c2 e) (hM2.1.wM _ _ _ _) ?_
          refine V_aload_n dX8_odds_50 rfl 0 rfl ?_
          refine g_29_19 tw_647 dX8_odds_51 ?_
          refine V_topl (v := lsum (wMX S m) (stl n)) (id hM2.2.2.2) ?_
          refine V_iload dX8_odds_54 4 rfl ?_
          refine V_cSl (P := pM G (d + 5) mX8_odds _) (d := d + 4) (r := []) (As := [.long (wM S m 2 c2 e), .long (lsum (wMX S m) (stl n)), .int q]) (K := mX8_term) ok_X8_term tw_792 rfl (rmOk (Nat.le_of_ble_eq_true rfl)) (Nat.le_of_ble_eq_true rfl) dX8_odds_56 rfl (c_X8_frc (ba := 729000000000000) (bb := 153090000000000000) (wM_nat hR hD.2.1 (Nat.le_of_ble_eq_true rfl) hc2 he) (all_ub (S := S) (m := m) h12 (wM_ub hR hD.2.1)) (by decide) (by decide) h3 ?_)
          refine V_lret rfl dX8_odds_59 ⟨_, rfl, ?_⟩
          exact qcast (hq S2 hM2.1) (by simp only [oddM, h1, h2, h3, if_true, nI_clamp (show c2 < 2 ^ 31 by omega), nI_clamp (show 2 < 2 ^ 31 by omega), nI_clamp (show e < 2 ^ 31 by omega)])
      · refine V_ldc2 dX8_odds_35 tw_759 ?_
        refine V_lret rfl dX8_odds_38 ⟨_, rfl, ?_⟩
        exact qcast (hq S (FrM.rf S)) (by simp [oddM, h1, h2, h3])
    · refine V_ldc2 dX8_odds_23 tw_779 ?_
      refine V_lret rfl dX8_odds_26 ⟨_, rfl, ?_⟩
      exact qcast (hq S (FrM.rf S)) (by simp [oddM, h1, h2])
  · refine V_ldc2 dX8_odds_9 tw_759 ?_
    refine V_lret rfl dX8_odds_12 ⟨_, rfl, ?_⟩
    exact qcast (hq S (FrM.rf S)) (by simp [oddM, h1])
theorem c_X8_hope {G : GX} {d : Nat} {S : ST} {v q : Int32} {n m : Nat} {Q : Int64 → ST → Prop} (hn : S.1 10 = nI n) (h12 : n ≤ 12) (hD : DTm S m) (hR : RG (S.2.2.1 37) (S.2.2.1 31) n) (hq : ∀ S2, FrM S S2 → Q (hopM S n m v q) S2) : Cn G (d + 5) mX8_hope [.ref (G.2.1 29), .int v, .int q] S (ql Q) := by
  refine Cn.intro (lv := [(0, .ref (G.2.1 29)), (1, .int v), (2, .int q)]) (by decide) (Nat.le_of_ble_eq_true rfl) rfl ?_
  refine V_aload_n dX8_hope_0 rfl 0 rfl ?_
  refine V_iload_n dX8_hope_1 rfl 1 rfl ?_
  refine V_cVi (P := pM G (d + 5) mX8_hope _) (d := d + 4) 29 (r := []) (As := [.int v]) (K := mX8_canTest) ok_X8_canTest tw_815 (ob_29 _) rfl (rmOk (Nat.le_of_ble_eq_true rfl)) (Nat.le_of_ble_eq_true rfl) dX8_hope_2 rfl (c_X8_canTest hn h12 ?_)
  refine V_ifb_ne 12 dX8_hope_5 (by decide) (fun h1 => ?_) (fun h1 => ?_)
  · refine V_iload_n dX8_hope_12 rfl 2 rfl ?_
    refine V_cSi (P := pM G (d + 5) mX8_hope _) (d := d + 4) (r := []) (As := [.int q]) (K := mX8_isPart) ok_X8_isPart tw_732 rfl (rmOk (Nat.le_of_ble_eq_true rfl)) (Nat.le_of_ble_eq_true rfl) dX8_hope_13 rfl (c_X8_isPart ?_)
    refine V_ifb_ne 23 dX8_hope_16 (by decide) (fun h2 => ?_) (fun h2 => ?_)
    · refine V_aload_n dX8_hope_23 rfl 0 rfl ?_
      refine V_cVv (P := pM G (d + 5) mX8_hope _) (d := d + 4) 29 (r := []) (As := []) (K := mX8_layStories) ok_X8_layStories tw_784 (ob_29 _) rfl (rmOk (Nat.le_of_ble_eq_true rfl)) (Nat.le_of_ble_eq_true rfl) dX8_hope_24 rfl (c_X8_layStories hn hD h12 (fun S2 hM2 => ?_))
      obtain ⟨v2, hv2, rfl⟩ := hrs_ex h1 h12
      refine V_aload_n dX8_hope_27 rfl 0 rfl ?_
      refine V_iload_n dX8_hope_28 rfl 1 rfl ?_
      refine V_cVl (P := pM G (d + 5) mX8_hope _) (d := d + 4) 29 (r := []) (As := [.int (nI v2)]) (K := mX8_hopeOf) ok_X8_hopeOf tw_819 (ob_29 _) rfl (rmOk (Nat.le_of_ble_eq_true rfl)) (Nat.le_of_ble_eq_true rfl) dX8_hope_29 rfl (c_X8_hopeOf hM2 h12 (by omega) ?_)
      refine V_ldc2 dX8_hope_32 tw_823 ?_
      refine V_aload_n dX8_hope_35 rfl 0 rfl ?_
      refine g_29_19 tw_647 dX8_hope_36 ?_
      refine V_topl (v := lsum (wMX S m) (stl n)) (id hM2.2.2.2) ?_
      refine V_lmul dX8_hope_39 ?_
      refine V_iload_n dX8_hope_40 rfl 2 rfl ?_
      refine V_cSl (P := pM G (d + 5) mX8_hope _) (d := d + 4) (r := []) (As := [.long (hpM S m n v2), .long (10 * (lsum (wMX S m) (stl n))), .int q]) (K := mX8_term) ok_X8_term tw_792 rfl (rmOk (Nat.le_of_ble_eq_true rfl)) (Nat.le_of_ble_eq_true rfl) dX8_hope_41 rfl (c_X8_frc (ba := 14580000000000000) (bb := 1530900000000000000) (hpM_ub hR hD.2.1) (ub_mul (a := 10) (b := 153090000000000000) ⟨10, Nat.le_refl 10, rfl⟩ (all_ub (S := S) (m := m) h12 (wM_ub hR hD.2.1))) (by decide) (by decide) h2 ?_)
      refine V_lret rfl dX8_hope_44 ⟨_, rfl, ?_⟩
      exact qcast (hq S2 hM2.1) (by simp [hopM, h1, h2, nI_clamp (show v2 < 2 ^ 31 by omega)])
    · refine V_ldc2 dX8_hope_19 tw_759 ?_
      refine V_lret rfl dX8_hope_22 ⟨_, rfl, ?_⟩
      exact qcast (hq S (FrM.rf S)) (by simp [hopM, h1, h2])
  · refine V_ldc2 dX8_hope_8 tw_779 ?_
    refine V_lret rfl dX8_hope_11 ⟨_, rfl, ?_⟩
    exact qcast (hq S (FrM.rf S)) (by simp [hopM, h1])
theorem c_X8_next {G : GX} {d : Nat} {S : ST} {w : Int32} {n m : Nat} {Q : Int32 → ST → Prop} (hn : S.1 10 = nI n) (h12 : n ≤ 12) (hD : DTm S m) (hq : ∀ S2, FrM S S2 → Q (nexM S n m w) S2) : Cn G (d + 5) mX8_next [.ref (G.2.1 29), .int w] S (qi Q) := by
  refine Cn.intro (lv := [(0, .ref (G.2.1 29)), (1, .int w)]) (by decide) (Nat.le_of_ble_eq_true rfl) rfl ?_
  refine V_iload_n dX8_next_0 rfl 1 rfl ?_
  refine V_cSi (P := pM G (d + 5) mX8_next _) (d := d + 4) (r := []) (As := [.int w]) (K := mX8_isPart) ok_X8_isPart tw_732 rfl (rmOk (Nat.le_of_ble_eq_true rfl)) (Nat.le_of_ble_eq_true rfl) dX8_next_1 rfl (c_X8_isPart ?_)
  refine V_ifb_ne 10 dX8_next_4 (by decide) (fun h1 => ?_) (fun h1 => ?_)
  · refine V_aload_n dX8_next_10 rfl 0 rfl ?_
    refine V_cVv (P := pM G (d + 5) mX8_next _) (d := d + 4) 29 (r := []) (As := []) (K := mX8_layStories) ok_X8_layStories tw_784 (ob_29 _) rfl (rmOk (Nat.le_of_ble_eq_true rfl)) (Nat.le_of_ble_eq_true rfl) dX8_next_11 rfl (c_X8_layStories hn hD h12 (fun S2 hM2 => ?_))
    obtain ⟨w2, -, hw2, rfl⟩ := fr_ex (a := 0) (b := 1) rfl rfl h1 (by omega)
    rcases (show w2 = 0 ∨ w2 = 1 by omega) with rfl | rfl
    · refine V_aload_n dX8_next_14 rfl 0 rfl ?_
      refine V_iload_n dX8_next_15 rfl 1 rfl ?_
      refine V_cVi (P := pM G (d + 5) mX8_next _) (d := d + 4) 29 (r := []) (As := [.int 0]) (K := mX8_nextOf) ok_X8_nextOf tw_828 (ob_29 _) rfl (rmOk (Nat.le_of_ble_eq_true rfl)) (Nat.le_of_ble_eq_true rfl) dX8_next_16 rfl (c_X8_nextOf0 hM2 hn h12 ?_)
      refine V_iret rfl dX8_next_19 ⟨_, rfl, ?_⟩
      exact qcast (hq S2 hM2.1) (by simp only [nexM, h1, if_true, nI_clamp (show 0 < 2 ^ 31 by omega)])
    · refine V_aload_n dX8_next_14 rfl 0 rfl ?_
      refine V_iload_n dX8_next_15 rfl 1 rfl ?_
      refine V_cVi (P := pM G (d + 5) mX8_next _) (d := d + 4) 29 (r := []) (As := [.int 1]) (K := mX8_nextOf) ok_X8_nextOf tw_828 (ob_29 _) rfl (rmOk (Nat.le_of_ble_eq_true rfl)) (Nat.le_of_ble_eq_true rfl) dX8_next_16 rfl (c_X8_nextOf1 hM2 hn h12 ?_)
      refine V_iret rfl dX8_next_19 ⟨_, rfl, ?_⟩
      exact qcast (hq S2 hM2.1) (by simp only [nexM, h1, if_true, nI_clamp (show 1 < 2 ^ 31 by omega)])
  · refine V_bipush (v := -2) dX8_next_7 kb_m2 ?_
    refine V_iret rfl dX8_next_9 ⟨_, rfl, ?_⟩
    exact qcast (hq S (FrM.rf S)) (by simp [nexM, h1])
