def sfB (h : Nat → Int32) (v s c e : Nat) : Bool := bt (h v) c && (decide (s = 0) || (decide (s = 1) == bt (h v) e))
def w0m (tr sz : Nat → Int32) (s c e : Nat) : Int64 := (tr (2 + s)).toInt64 * (sz c).toInt64 * (if s = 0 then 1 else (sz e).toInt64)
def tenm (S : ST) (s c e : Nat) (k : Nat) : Int64 := (ten (S.2.2.1 37) (sfB (S.2.2.1 30) (S.2.2.1 35 k).toNatClampNeg s c e) (decide (S.2.2.1 36 k ≠ 0))).toInt64
def wM (S : ST) (m s c e : Nat) : Int64 := wprod (w0m (S.2.2.1 37) (S.2.2.1 31) s c e) (tenm S s c e) m
def wMX (S : ST) (m : Nat) (x : XT) : Int64 := wM S m x.1 x.2.1 x.2.2
def DTm (S : ST) (m : Nat) : Prop := S.1 11 = nI m ∧ m ≤ 12 ∧ (∀ k, k < m → S.2.2.1 35 k = nI (S.2.2.1 35 k).toNatClampNeg ∧ (S.2.2.1 35 k).toNatClampNeg < 12) ∧ ∀ k, k < m → S.2.2.1 36 k = b2i (decide (S.2.2.1 36 k ≠ 0))
def FrM (S0 S : ST) : Prop := (∀ k, k ≠ 14 → S.1 k = S0.1 k) ∧ (∀ k, k ≠ 2 → S.2.1 k = S0.2.1 k) ∧ (∀ c, c ≠ 40 → c ≠ 41 → c ≠ 42 → S.2.2.1 c = S0.2.2.1 c) ∧ ∀ c, c ≠ 43 → S.2.2.2 c = S0.2.2.2 c
def tw (x : XT) : Int32 := if x.1 = 0 then -6 else nI x.2.2
def MS (S0 : ST) (m : Nat) (L : List XT) (S : ST) : Prop := FrM S0 S ∧ S.1 14 = nI L.length ∧ (∀ k x, L[k]? = some x → S.2.2.1 40 k = nI x.1 ∧ S.2.2.1 41 k = nI x.2.1 ∧ S.2.2.1 42 k = tw x ∧ S.2.2.2 43 k = wMX S0 m x) ∧ S.2.1 2 = lsum (wMX S0 m) L
theorem FrM.wM {S0 S : ST} (h : FrM S0 S) (m s c e : Nat) : wM S m s c e = wM S0 m s c e := by
  unfold _root_.Jvm.Pilot.@@N@@.wM tenm
  rw [h.2.2.1 37 (by decide) (by decide) (by decide), h.2.2.1 31 (by decide) (by decide) (by decide), h.2.2.1 30 (by decide) (by decide) (by decide), h.2.2.1 35 (by decide) (by decide) (by decide), h.2.2.1 36 (by decide) (by decide) (by decide)]
theorem FrM.DTm {S0 S : ST} (h : FrM S0 S) {m : Nat} (hD : DTm S0 m) : DTm S m := by
  unfold _root_.Jvm.Pilot.@@N@@.DTm at *
  rw [h.1 11 (by decide), h.2.2.1 35 (by decide) (by decide) (by decide), h.2.2.1 36 (by decide) (by decide) (by decide)]
  exact hD
theorem MS_push {S0 S S2 : ST} {m : Nat} {L : List XT} {x : XT} (h : MS S0 m L S) (hF : FrM S S2) (g1 : S2.1 14 = nI (L.length + 1)) (g2 : S2.2.2.1 40 = upd (S.2.2.1 40) L.length (nI x.1)) (g3 : S2.2.2.1 41 = upd (S.2.2.1 41) L.length (nI x.2.1)) (g4 : S2.2.2.1 42 = upd (S.2.2.1 42) L.length (tw x)) (g5 : S2.2.2.2 43 = vp_updL (S.2.2.2 43) L.length (wMX S0 m x)) (g6 : S2.2.1 2 = S.2.1 2 + wMX S0 m x) : MS S0 m (L ++ [x]) S2 := by
  obtain ⟨h1, h2, h3, h4⟩ := h
  refine ⟨⟨fun k a => by rw [hF.1 k a, h1.1 k a], fun k a => by rw [hF.2.1 k a, h1.2.1 k a], fun k a b c => by rw [hF.2.2.1 k a b c, h1.2.2.1 k a b c], fun k a => by rw [hF.2.2.2 k a, h1.2.2.2 k a]⟩, by rw [g1, List.length_append]; rfl, ?_, by rw [g6, lsum_app, h4]⟩
  intro k y hk
  by_cases hl : k < L.length
  · rw [List.getElem?_append_left hl] at hk
    obtain ⟨e1, e2, e3, e4⟩ := h3 k y hk
    rw [g2, g3, g4, g5, pk_un (by omega), pk_un (by omega), pk_un (by omega), pk_uLn (by omega)]
    exact ⟨e1, e2, e3, e4⟩
  · rw [List.getElem?_append_right (by omega)] at hk
    have hz : k - L.length < 1 := (List.getElem?_eq_some_iff.mp hk).1
    have hk0 : k = L.length := by omega
    subst hk0
    rw [Nat.sub_self] at hk
    cases hk
    rw [g2, g3, g4, g5, pk_us, pk_us, pk_us, pk_uLs]
    exact ⟨rfl, rfl, rfl, rfl⟩
theorem c_X8_tenths {G : GX} {d : Nat} {S : ST} {f q : Bool} {Q : Int32 → ST → Prop}  (hq : Q (ten (S.2.2.1 37) f q) S) : Cn G d mX8_tenths [.ref (G.2.1 29), .int (b2i f), .int (b2i q)] S (qi Q) := by
  refine Cn.intro (lv := [(0, .ref (G.2.1 29)), (1, .int (b2i f)), (2, .int (b2i q))]) (by decide) (Nat.le_of_ble_eq_true rfl) rfl ?_
  refine V_iload_n dX8_tenths_0 rfl 1 rfl ?_
  refine V_ifb_eq 13 dX8_tenths_1 (by decide) (fun h1 => ?_) (fun h1 => ?_)
  · refine V_aload_n dX8_tenths_13 rfl 0 rfl ?_
    refine g_29_9 tw_637 dX8_tenths_14 ?_
    refine V_iconst (v := 1) dX8_tenths_17 ki_1 ?_
    refine l_37n (i := 1) (by decide) dX8_tenths_18 ?_
    refine V_istore_n [(3, .int (S.2.2.1 37 1)), (0, .ref (G.2.1 29)), (1, .int (b2i f)), (2, .int (b2i q))] dX8_tenths_19 rfl (Nat.le_of_ble_eq_true rfl) rfl ?_
    refine V_iload_n dX8_tenths_20 rfl 2 rfl ?_
    refine V_iload_n dX8_tenths_21 rfl 3 rfl ?_
    refine V_icmp_ne 29 dX8_tenths_22 (by decide) (fun h2 => ?_) (fun h2 => ?_)
    · refine V_bipush (v := 10) dX8_tenths_29 kb_10 ?_
      refine V_iload_n dX8_tenths_31 rfl 0 rfl ?_
      refine V_isub dX8_tenths_32 ?_
      refine V_iret rfl dX8_tenths_33 ⟨_, rfl, ?_⟩
      exact qcast hq (by cases f <;> cases q <;> simp_all [ten, b2i])
    · refine V_iload_n dX8_tenths_25 rfl 0 rfl ?_
      refine V_goto 33 dX8_tenths_26 (by decide) ?_
      refine V_iret rfl dX8_tenths_33 ⟨_, rfl, ?_⟩
      exact qcast hq (by cases f <;> cases q <;> simp_all [ten, b2i])
  · refine V_aload_n dX8_tenths_4 rfl 0 rfl ?_
    refine g_29_9 tw_637 dX8_tenths_5 ?_
    refine V_iconst (v := 0) dX8_tenths_8 ki_0 ?_
    refine l_37n (i := 0) (by decide) dX8_tenths_9 ?_
    refine V_goto 19 dX8_tenths_10 (by decide) ?_
    refine V_istore_n [(3, .int (S.2.2.1 37 0)), (0, .ref (G.2.1 29)), (1, .int (b2i f)), (2, .int (b2i q))] dX8_tenths_19 rfl (Nat.le_of_ble_eq_true rfl) rfl ?_
    refine V_iload_n dX8_tenths_20 rfl 2 rfl ?_
    refine V_iload_n dX8_tenths_21 rfl 3 rfl ?_
    refine V_icmp_ne 29 dX8_tenths_22 (by decide) (fun h3 => ?_) (fun h3 => ?_)
    · refine V_bipush (v := 10) dX8_tenths_29 kb_10 ?_
      refine V_iload_n dX8_tenths_31 rfl 0 rfl ?_
      refine V_isub dX8_tenths_32 ?_
      refine V_iret rfl dX8_tenths_33 ⟨_, rfl, ?_⟩
      exact qcast hq (by cases f <;> cases q <;> simp_all [ten, b2i])
    · refine V_iload_n dX8_tenths_25 rfl 0 rfl ?_
      refine V_goto 33 dX8_tenths_26 (by decide) ?_
      refine V_iret rfl dX8_tenths_33 ⟨_, rfl, ?_⟩
      exact qcast hq (by cases f <;> cases q <;> simp_all [ten, b2i])
theorem c_X8_shouldFail0 {G : GX} {d : Nat} {S : ST} {v c : Nat} {dd : Int32} (e : Nat) {Q : Int32 → ST → Prop} (hv : v < 12) (hc : c < 12) (hq : Q (b2i (sfB (S.2.2.1 30) v 0 c e)) S) : Cn G (d + 1) mX8_shouldFail [.ref (G.2.1 29), .int (nI v), .int 0, .int (nI c), .int dd] S (qi Q) := by
  refine Cn.intro (lv := [(0, .ref (G.2.1 29)), (1, .int (nI v)), (2, .int 0), (3, .int (nI c)), (4, .int dd)]) (by decide) (Nat.le_of_ble_eq_true rfl) rfl ?_
  refine V_aload_n dX8_shouldFail_0 rfl 0 rfl ?_
  refine g_29_1 tw_629 dX8_shouldFail_1 ?_
  refine V_iload_n dX8_shouldFail_4 rfl 1 rfl ?_
  refine l_30n (by omega) dX8_shouldFail_5 ?_
  refine V_iload_n dX8_shouldFail_6 rfl 3 rfl ?_
  refine V_cSi (P := pM G (d + 1) mX8_shouldFail _) (d := d) (r := []) (As := [.int (S.2.2.1 30 v), .int (nI c)]) (K := mX8_hasBit) ok_X8_hasBit tw_772 rfl (rmOk (Nat.le_of_ble_eq_true rfl)) (Nat.le_of_ble_eq_true rfl) dX8_shouldFail_7 rfl (c_X8_hasBit (by omega) ?_)
  refine V_istore [(5, .int (b2i (bt (S.2.2.1 30 v) c))), (0, .ref (G.2.1 29)), (1, .int (nI v)), (2, .int 0), (3, .int (nI c)), (4, .int dd)] dX8_shouldFail_10 (Nat.le_of_ble_eq_true rfl) rfl ?_
  refine V_iload_n dX8_shouldFail_12 rfl 3 rfl ?_
  refine V_if_le 34 dX8_shouldFail_13 (by decide) (fun _ => ?_) (fun hz => absurd hz (by decide))
  refine V_iconst (v := 0) dX8_shouldFail_34 ki_0 ?_
  refine V_istore [(6, .int 0), (5, .int (b2i (bt (S.2.2.1 30 v) c))), (0, .ref (G.2.1 29)), (1, .int (nI v)), (2, .int 0), (3, .int (nI c)), (4, .int dd)] dX8_shouldFail_35 (Nat.le_of_ble_eq_true rfl) rfl ?_
  refine V_iload dX8_shouldFail_37 1 rfl ?_
  refine V_ifb_eq 65 dX8_shouldFail_39 (by decide) (fun h1 => ?_) (fun h1 => ?_)
  · refine V_iconst (v := 0) dX8_shouldFail_65 ki_0 ?_
    refine V_zret rfl dX8_shouldFail_66 rfl ⟨_, rfl, ?_⟩
    exact qcast hq (by simp [sfB, b2i, h1])
  · refine V_iload_n dX8_shouldFail_42 rfl 4 rfl ?_
    refine V_if_eq 61 dX8_shouldFail_43 (by decide) (fun _ => ?_) (fun hz => absurd hz (by decide))
    refine V_iconst (v := 1) dX8_shouldFail_61 ki_1 ?_
    refine V_goto 66 dX8_shouldFail_62 (by decide) ?_
    refine V_zret rfl dX8_shouldFail_66 rfl ⟨_, rfl, ?_⟩
    exact qcast hq (by simp [sfB, b2i, h1])
theorem c_X8_shouldFail1 {G : GX} {d : Nat} {S : ST} {v c e : Nat} {Q : Int32 → ST → Prop} (hv : v < 12) (hc : c < 12) (he : e < 12) (hq : Q (b2i (sfB (S.2.2.1 30) v 1 c e)) S) : Cn G (d + 1) mX8_shouldFail [.ref (G.2.1 29), .int (nI v), .int 1, .int (nI c), .int (nI e)] S (qi Q) := by
  refine Cn.intro (lv := [(0, .ref (G.2.1 29)), (1, .int (nI v)), (2, .int 1), (3, .int (nI c)), (4, .int (nI e))]) (by decide) (Nat.le_of_ble_eq_true rfl) rfl ?_
  refine V_aload_n dX8_shouldFail_0 rfl 0 rfl ?_
  refine g_29_1 tw_629 dX8_shouldFail_1 ?_
  refine V_iload_n dX8_shouldFail_4 rfl 1 rfl ?_
  refine l_30n (by omega) dX8_shouldFail_5 ?_
  refine V_iload_n dX8_shouldFail_6 rfl 3 rfl ?_
  refine V_cSi (P := pM G (d + 1) mX8_shouldFail _) (d := d) (r := []) (As := [.int (S.2.2.1 30 v), .int (nI c)]) (K := mX8_hasBit) ok_X8_hasBit tw_772 rfl (rmOk (Nat.le_of_ble_eq_true rfl)) (Nat.le_of_ble_eq_true rfl) dX8_shouldFail_7 rfl (c_X8_hasBit (by omega) ?_)
  refine V_istore [(5, .int (b2i (bt (S.2.2.1 30 v) c))), (0, .ref (G.2.1 29)), (1, .int (nI v)), (2, .int 1), (3, .int (nI c)), (4, .int (nI e))] dX8_shouldFail_10 (Nat.le_of_ble_eq_true rfl) rfl ?_
  refine V_iload_n dX8_shouldFail_12 rfl 3 rfl ?_
  refine V_if_le 34 dX8_shouldFail_13 (by decide) (fun hz => absurd hz (by decide)) (fun _ => ?_)
  refine V_aload_n dX8_shouldFail_16 rfl 1 rfl ?_
  refine g_29_1 tw_629 dX8_shouldFail_17 ?_
  refine V_iload_n dX8_shouldFail_20 rfl 2 rfl ?_
  refine l_30n (by omega) dX8_shouldFail_21 ?_
  refine V_iload dX8_shouldFail_22 5 rfl ?_
  refine V_cSi (P := pM G (d + 1) mX8_shouldFail _) (d := d) (r := []) (As := [.int (S.2.2.1 30 v), .int (nI e)]) (K := mX8_hasBit) ok_X8_hasBit tw_772 rfl (rmOk (Nat.le_of_ble_eq_true rfl)) (Nat.le_of_ble_eq_true rfl) dX8_shouldFail_24 rfl (c_X8_hasBit (by omega) ?_)
  refine V_ifb_eq 34 dX8_shouldFail_27 (by decide) (fun h1 => ?_) (fun h1 => ?_)
  · refine V_iconst (v := 0) dX8_shouldFail_34 ki_0 ?_
    refine V_istore [(6, .int 0), (5, .int (b2i (bt (S.2.2.1 30 v) c))), (0, .ref (G.2.1 29)), (1, .int (nI v)), (2, .int 1), (3, .int (nI c)), (4, .int (nI e))] dX8_shouldFail_35 (Nat.le_of_ble_eq_true rfl) rfl ?_
    refine V_iload dX8_shouldFail_37 1 rfl ?_
    refine V_ifb_eq 65 dX8_shouldFail_39 (by decide) (fun h2 => ?_) (fun h2 => ?_)
    · refine V_iconst (v := 0) dX8_shouldFail_65 ki_0 ?_
      refine V_zret rfl dX8_shouldFail_66 rfl ⟨_, rfl, ?_⟩
      exact qcast hq (by simp [sfB, b2i, h1, h2])
    · refine V_iload_n dX8_shouldFail_42 rfl 4 rfl ?_
      refine V_if_eq 61 dX8_shouldFail_43 (by decide) (fun hz => absurd hz (by decide)) (fun _ => ?_)
      refine V_iload_n dX8_shouldFail_46 rfl 4 rfl ?_
      refine V_iconst (v := 1) dX8_shouldFail_47 ki_1 ?_
      refine V_icmp_ne 55 dX8_shouldFail_48 (by decide) (fun hz => absurd hz (by decide)) (fun _ => ?_)
      refine V_iconst (v := 1) dX8_shouldFail_51 ki_1 ?_
      refine V_goto 56 dX8_shouldFail_52 (by decide) ?_
      refine V_iload dX8_shouldFail_56 0 rfl ?_
      refine V_icmp_ne 65 dX8_shouldFail_58 (by decide) (fun _ => ?_) (fun hz => absurd hz (by decide))
      refine V_iconst (v := 0) dX8_shouldFail_65 ki_0 ?_
      refine V_zret rfl dX8_shouldFail_66 rfl ⟨_, rfl, ?_⟩
      exact qcast hq (by simp [sfB, b2i, h1, h2])
  · refine V_iconst (v := 1) dX8_shouldFail_30 ki_1 ?_
    refine V_goto 35 dX8_shouldFail_31 (by decide) ?_
    refine V_istore [(6, .int 1), (5, .int (b2i (bt (S.2.2.1 30 v) c))), (0, .ref (G.2.1 29)), (1, .int (nI v)), (2, .int 1), (3, .int (nI c)), (4, .int (nI e))] dX8_shouldFail_35 (Nat.le_of_ble_eq_true rfl) rfl ?_
    refine V_iload dX8_shouldFail_37 1 rfl ?_
    refine V_ifb_eq 65 dX8_shouldFail_39 (by decide) (fun h3 => ?_) (fun h3 => ?_)
    · refine V_iconst (v := 0) dX8_shouldFail_65 ki_0 ?_
      refine V_zret rfl dX8_shouldFail_66 rfl ⟨_, rfl, ?_⟩
      exact qcast hq (by simp [sfB, b2i, h1, h3])
    · refine V_iload_n dX8_shouldFail_42 rfl 4 rfl ?_
      refine V_if_eq 61 dX8_shouldFail_43 (by decide) (fun hz => absurd hz (by decide)) (fun _ => ?_)
      refine V_iload_n dX8_shouldFail_46 rfl 4 rfl ?_
      refine V_iconst (v := 1) dX8_shouldFail_47 ki_1 ?_
      refine V_icmp_ne 55 dX8_shouldFail_48 (by decide) (fun hz => absurd hz (by decide)) (fun _ => ?_)
      refine V_iconst (v := 1) dX8_shouldFail_51 ki_1 ?_
      refine V_goto 56 dX8_shouldFail_52 (by decide) ?_
      refine V_iload dX8_shouldFail_56 0 rfl ?_
      refine V_icmp_ne 65 dX8_shouldFail_58 (by decide) (fun hz => absurd hz (by decide)) (fun _ => ?_)
      refine V_iconst (v := 1) dX8_shouldFail_61 ki_1 ?_
      refine V_goto 66 dX8_shouldFail_62 (by decide) ?_
      refine V_zret rfl dX8_shouldFail_66 rfl ⟨_, rfl, ?_⟩
      exact qcast hq (by simp [sfB, b2i, h1, h3])
theorem c_X8_shouldFail2 {G : GX} {d : Nat} {S : ST} {v c e : Nat} {Q : Int32 → ST → Prop} (hv : v < 12) (hc : c < 12) (he : e < 12) (hq : Q (b2i (sfB (S.2.2.1 30) v 2 c e)) S) : Cn G (d + 1) mX8_shouldFail [.ref (G.2.1 29), .int (nI v), .int 2, .int (nI c), .int (nI e)] S (qi Q) := by
  refine Cn.intro (lv := [(0, .ref (G.2.1 29)), (1, .int (nI v)), (2, .int 2), (3, .int (nI c)), (4, .int (nI e))]) (by decide) (Nat.le_of_ble_eq_true rfl) rfl ?_
  refine V_aload_n dX8_shouldFail_0 rfl 0 rfl ?_
  refine g_29_1 tw_629 dX8_shouldFail_1 ?_
  refine V_iload_n dX8_shouldFail_4 rfl 1 rfl ?_
  refine l_30n (by omega) dX8_shouldFail_5 ?_
  refine V_iload_n dX8_shouldFail_6 rfl 3 rfl ?_
  refine V_cSi (P := pM G (d + 1) mX8_shouldFail _) (d := d) (r := []) (As := [.int (S.2.2.1 30 v), .int (nI c)]) (K := mX8_hasBit) ok_X8_hasBit tw_772 rfl (rmOk (Nat.le_of_ble_eq_true rfl)) (Nat.le_of_ble_eq_true rfl) dX8_shouldFail_7 rfl (c_X8_hasBit (by omega) ?_)
  refine V_istore [(5, .int (b2i (bt (S.2.2.1 30 v) c))), (0, .ref (G.2.1 29)), (1, .int (nI v)), (2, .int 2), (3, .int (nI c)), (4, .int (nI e))] dX8_shouldFail_10 (Nat.le_of_ble_eq_true rfl) rfl ?_
  refine V_iload_n dX8_shouldFail_12 rfl 3 rfl ?_
  refine V_if_le 34 dX8_shouldFail_13 (by decide) (fun hz => absurd hz (by decide)) (fun _ => ?_)
  refine V_aload_n dX8_shouldFail_16 rfl 1 rfl ?_
  refine g_29_1 tw_629 dX8_shouldFail_17 ?_
  refine V_iload_n dX8_shouldFail_20 rfl 2 rfl ?_
  refine l_30n (by omega) dX8_shouldFail_21 ?_
  refine V_iload dX8_shouldFail_22 5 rfl ?_
  refine V_cSi (P := pM G (d + 1) mX8_shouldFail _) (d := d) (r := []) (As := [.int (S.2.2.1 30 v), .int (nI e)]) (K := mX8_hasBit) ok_X8_hasBit tw_772 rfl (rmOk (Nat.le_of_ble_eq_true rfl)) (Nat.le_of_ble_eq_true rfl) dX8_shouldFail_24 rfl (c_X8_hasBit (by omega) ?_)
  refine V_ifb_eq 34 dX8_shouldFail_27 (by decide) (fun h1 => ?_) (fun h1 => ?_)
  · refine V_iconst (v := 0) dX8_shouldFail_34 ki_0 ?_
    refine V_istore [(6, .int 0), (5, .int (b2i (bt (S.2.2.1 30 v) c))), (0, .ref (G.2.1 29)), (1, .int (nI v)), (2, .int 2), (3, .int (nI c)), (4, .int (nI e))] dX8_shouldFail_35 (Nat.le_of_ble_eq_true rfl) rfl ?_
    refine V_iload dX8_shouldFail_37 1 rfl ?_
    refine V_ifb_eq 65 dX8_shouldFail_39 (by decide) (fun h2 => ?_) (fun h2 => ?_)
    · refine V_iconst (v := 0) dX8_shouldFail_65 ki_0 ?_
      refine V_zret rfl dX8_shouldFail_66 rfl ⟨_, rfl, ?_⟩
      exact qcast hq (by simp [sfB, b2i, h1, h2])
    · refine V_iload_n dX8_shouldFail_42 rfl 4 rfl ?_
      refine V_if_eq 61 dX8_shouldFail_43 (by decide) (fun hz => absurd hz (by decide)) (fun _ => ?_)
      refine V_iload_n dX8_shouldFail_46 rfl 4 rfl ?_
      refine V_iconst (v := 1) dX8_shouldFail_47 ki_1 ?_
      refine V_icmp_ne 55 dX8_shouldFail_48 (by decide) (fun _ => ?_) (fun hz => absurd hz (by decide))
      refine V_iconst (v := 0) dX8_shouldFail_55 ki_0 ?_
      refine V_iload dX8_shouldFail_56 0 rfl ?_
      refine V_icmp_ne 65 dX8_shouldFail_58 (by decide) (fun hz => absurd hz (by decide)) (fun _ => ?_)
      refine V_iconst (v := 1) dX8_shouldFail_61 ki_1 ?_
      refine V_goto 66 dX8_shouldFail_62 (by decide) ?_
      refine V_zret rfl dX8_shouldFail_66 rfl ⟨_, rfl, ?_⟩
      exact qcast hq (by simp [sfB, b2i, h1, h2])
  · refine V_iconst (v := 1) dX8_shouldFail_30 ki_1 ?_
    refine V_goto 35 dX8_shouldFail_31 (by decide) ?_
    refine V_istore [(6, .int 1), (5, .int (b2i (bt (S.2.2.1 30 v) c))), (0, .ref (G.2.1 29)), (1, .int (nI v)), (2, .int 2), (3, .int (nI c)), (4, .int (nI e))] dX8_shouldFail_35 (Nat.le_of_ble_eq_true rfl) rfl ?_
    refine V_iload dX8_shouldFail_37 1 rfl ?_
    refine V_ifb_eq 65 dX8_shouldFail_39 (by decide) (fun h3 => ?_) (fun h3 => ?_)
    · refine V_iconst (v := 0) dX8_shouldFail_65 ki_0 ?_
      refine V_zret rfl dX8_shouldFail_66 rfl ⟨_, rfl, ?_⟩
      exact qcast hq (by simp [sfB, b2i, h1, h3])
    · refine V_iload_n dX8_shouldFail_42 rfl 4 rfl ?_
      refine V_if_eq 61 dX8_shouldFail_43 (by decide) (fun hz => absurd hz (by decide)) (fun _ => ?_)
      refine V_iload_n dX8_shouldFail_46 rfl 4 rfl ?_
      refine V_iconst (v := 1) dX8_shouldFail_47 ki_1 ?_
      refine V_icmp_ne 55 dX8_shouldFail_48 (by decide) (fun _ => ?_) (fun hz => absurd hz (by decide))
      refine V_iconst (v := 0) dX8_shouldFail_55 ki_0 ?_
      refine V_iload dX8_shouldFail_56 0 rfl ?_
      refine V_icmp_ne 65 dX8_shouldFail_58 (by decide) (fun _ => ?_) (fun hz => absurd hz (by decide))
      refine V_iconst (v := 0) dX8_shouldFail_65 ki_0 ?_
      refine V_zret rfl dX8_shouldFail_66 rfl ⟨_, rfl, ?_⟩
      exact qcast hq (by simp [sfB, b2i, h1, h3])
theorem lp_mw0 {G : GX} {d m c : Nat} {dd : Int32} {e : Nat} {w : Int64} {S : ST} {Q : Int64 → ST → Prop} (hD : DTm S m) (hc : c < 12) (he : e < 12) (hq : Q (wprod w (tenm S 0 c e) m) S) : ∀ (k i : Nat), i ≤ m → m - i < k → V (pM G (d + 2) mX8_weightOf (ql Q)) 46 [(6, .int (nI i)), (4, .long (wprod w (tenm S 0 c e) i)), (0, .ref (G.2.1 29)), (1, .int 0), (2, .int (nI c)), (3, .int dd)] [] S := by
  intro k
  induction k with
  | zero => intro i hi hk; exact absurd hk (Nat.not_lt_zero _)
  | succ k ih =>
    intro i hi hk
    obtain ⟨hm, hm12, hv, hp⟩ := id hD
    refine V_iload dX8_weightOf_46 0 rfl ?_
    refine V_aload_n dX8_weightOf_48 rfl 2 rfl ?_
    refine g_29_6 tw_634 dX8_weightOf_49 ?_
    refine V_topi (v := nI m) (id (hm)) ?_
    refine V_icmp_gen 92 (a := i) (b := m) dX8_weightOf_52 (by decide) (by omega) (by omega) (fun h1 => ?_) (fun h1 => ?_)
    · refine V_lload dX8_weightOf_92 1 rfl ?_
      have hin : i = m := by omega
      subst hin
      exact V_lret rfl dX8_weightOf_94 ⟨_, rfl, hq⟩
    · refine V_lload dX8_weightOf_55 1 rfl ?_
      refine V_aload_n dX8_weightOf_57 rfl 2 rfl ?_
      refine V_aload_n dX8_weightOf_58 rfl 2 rfl ?_
      refine V_aload_n dX8_weightOf_59 rfl 2 rfl ?_
      refine g_29_7 tw_635 dX8_weightOf_60 ?_
      refine V_iload dX8_weightOf_63 0 rfl ?_
      refine l_35n (by omega) dX8_weightOf_65 ?_
      refine V_topi (v := nI ((S.2.2.1 35 i).toNatClampNeg)) ((hv i h1).1) ?_
      refine V_iload_n dX8_weightOf_66 rfl 3 rfl ?_
      refine V_iload_n dX8_weightOf_67 rfl 4 rfl ?_
      refine V_iload_n dX8_weightOf_68 rfl 5 rfl ?_
      refine V_cVi (P := pM G (d + 2) mX8_weightOf _) (d := d + 1) 29 (r := [.ref (G.2.1 29), .long (wprod w (tenm S 0 c e) i)]) (As := [.int (nI ((S.2.2.1 35 i).toNatClampNeg)), .int 0, .int (nI c), .int dd]) (K := mX8_shouldFail) ok_X8_shouldFail tw_768 (ob_29 _) rfl (rmOk (Nat.le_of_ble_eq_true rfl)) (Nat.le_of_ble_eq_true rfl) dX8_weightOf_69 rfl (c_X8_shouldFail0 e (hv i h1).2 (by omega) ?_)
      refine V_aload_n dX8_weightOf_72 rfl 2 rfl ?_
      refine g_29_8 tw_636 dX8_weightOf_73 ?_
      refine V_iload dX8_weightOf_76 0 rfl ?_
      refine l_36n (by omega) dX8_weightOf_78 ?_
      refine V_topi (v := b2i (decide (S.2.2.1 36 i ≠ 0))) (hp i h1) ?_
      refine V_cVi (P := pM G (d + 2) mX8_weightOf _) (d := d + 1) 29 (r := [.long (wprod w (tenm S 0 c e) i)]) (As := [.int (b2i (sfB (S.2.2.1 30) ((S.2.2.1 35 i).toNatClampNeg) 0 c e)), .int (b2i (decide (S.2.2.1 36 i ≠ 0)))]) (K := mX8_tenths) ok_X8_tenths tw_775 (ob_29 _) rfl (rmOk (Nat.le_of_ble_eq_true rfl)) (Nat.le_of_ble_eq_true rfl) dX8_weightOf_79 rfl (c_X8_tenths (f := (sfB (S.2.2.1 30) ((S.2.2.1 35 i).toNatClampNeg) 0 c e)) (q := (decide (S.2.2.1 36 i ≠ 0))) ?_)
      refine V_i2l dX8_weightOf_82 ?_
      refine V_lmul dX8_weightOf_83 ?_
      refine V_lstore [(4, .long ((wprod w (tenm S 0 c e) i) * (Int32.toInt64 (ten (S.2.2.1 37) (sfB (S.2.2.1 30) ((S.2.2.1 35 i).toNatClampNeg) 0 c e) (decide (S.2.2.1 36 i ≠ 0)))))), (6, .int (nI i)), (0, .ref (G.2.1 29)), (1, .int 0), (2, .int (nI c)), (3, .int dd)] dX8_weightOf_84 (Nat.le_of_ble_eq_true rfl) rfl ?_
      refine V_iinc [(6, .int (nI (i + 1))), (4, .long ((wprod w (tenm S 0 c e) i) * (Int32.toInt64 (ten (S.2.2.1 37) (sfB (S.2.2.1 30) ((S.2.2.1 35 i).toNatClampNeg) 0 c e) (decide (S.2.2.1 36 i ≠ 0)))))), (0, .ref (G.2.1 29)), (1, .int 0), (2, .int (nI c)), (3, .int dd)] dX8_weightOf_86 1 rfl (nI_1 _) (Nat.le_of_ble_eq_true rfl) rfl ?_
      refine V_goto 46 dX8_weightOf_89 (by decide) ?_
      refine V_lv [(6, .int (nI (i + 1))), (4, .long ((wprod w (tenm S 0 c e) i) * (Int32.toInt64 (ten (S.2.2.1 37) (sfB (S.2.2.1 30) ((S.2.2.1 35 i).toNatClampNeg) 0 c e) (decide (S.2.2.1 36 i ≠ 0)))))), (0, .ref (G.2.1 29)), (1, .int 0), (2, .int (nI c)), (3, .int dd)] [0, 1, 2, 3, 4, 5] rfl ?_
      refine V_lveq [(6, .int (nI (i + 1))), (4, .long (wprod w (tenm S 0 c e) (i + 1))), (0, .ref (G.2.1 29)), (1, .int 0), (2, .int (nI c)), (3, .int dd)] (by rfl) ?_
      exact ih (i + 1) (by omega) (by omega)
theorem c_X8_weightOf0 {G : GX} {d : Nat} {S : ST} {m c : Nat} {dd : Int32} (e : Nat) {Q : Int64 → ST → Prop} (hD : DTm S m) (hc : c < 12) (he : e < 12) (hq : Q (wM S m 0 c e) S) : Cn G (d + 2) mX8_weightOf [.ref (G.2.1 29), .int 0, .int (nI c), .int dd] S (ql Q) := by
  refine Cn.intro (lv := [(0, .ref (G.2.1 29)), (1, .int 0), (2, .int (nI c)), (3, .int dd)]) (by decide) (Nat.le_of_ble_eq_true rfl) rfl ?_
  refine V_aload_n dX8_weightOf_0 rfl 0 rfl ?_
  refine g_29_9 tw_637 dX8_weightOf_1 ?_
  refine V_iconst (v := 2) dX8_weightOf_4 ki_2 ?_
  refine V_iload_n dX8_weightOf_5 rfl 1 rfl ?_
  refine V_iadd dX8_weightOf_6 ?_
  refine V_topi (v := 2) (by decide +kernel) ?_
  refine l_37n (i := 2) (by decide) dX8_weightOf_7 ?_
  refine V_i2l dX8_weightOf_8 ?_
  refine V_lstore [(4, .long (Int32.toInt64 (S.2.2.1 37 2))), (0, .ref (G.2.1 29)), (1, .int 0), (2, .int (nI c)), (3, .int dd)] dX8_weightOf_9 (Nat.le_of_ble_eq_true rfl) rfl ?_
  refine V_lload dX8_weightOf_11 0 rfl ?_
  refine V_aload_n dX8_weightOf_13 rfl 1 rfl ?_
  refine g_29_2 tw_630 dX8_weightOf_14 ?_
  refine V_iload_n dX8_weightOf_17 rfl 3 rfl ?_
  refine l_31n (by omega) dX8_weightOf_18 ?_
  refine V_i2l dX8_weightOf_19 ?_
  refine V_lmul dX8_weightOf_20 ?_
  refine V_lstore [(4, .long ((Int32.toInt64 (S.2.2.1 37 2)) * (Int32.toInt64 (S.2.2.1 31 c)))), (0, .ref (G.2.1 29)), (1, .int 0), (2, .int (nI c)), (3, .int dd)] dX8_weightOf_21 (Nat.le_of_ble_eq_true rfl) rfl ?_
  refine V_lload dX8_weightOf_23 0 rfl ?_
  refine V_iload_n dX8_weightOf_25 rfl 2 rfl ?_
  refine V_if_ne 33 dX8_weightOf_26 (by decide) (fun hz => absurd hz (by decide)) (fun _ => ?_)
  refine V_lconst (v := 1) dX8_weightOf_29 rfl ?_
  refine V_goto 40 dX8_weightOf_30 (by decide) ?_
  refine V_lmul dX8_weightOf_40 ?_
  refine V_lstore [(4, .long (((Int32.toInt64 (S.2.2.1 37 2)) * (Int32.toInt64 (S.2.2.1 31 c))) * 1)), (0, .ref (G.2.1 29)), (1, .int 0), (2, .int (nI c)), (3, .int dd)] dX8_weightOf_41 (Nat.le_of_ble_eq_true rfl) rfl ?_
  refine V_iconst (v := 0) dX8_weightOf_43 ki_0 ?_
  refine V_istore [(6, .int 0), (4, .long (((Int32.toInt64 (S.2.2.1 37 2)) * (Int32.toInt64 (S.2.2.1 31 c))) * 1)), (0, .ref (G.2.1 29)), (1, .int 0), (2, .int (nI c)), (3, .int dd)] dX8_weightOf_44 (Nat.le_of_ble_eq_true rfl) rfl ?_
  refine V_lv [(6, .int 0), (4, .long (((Int32.toInt64 (S.2.2.1 37 2)) * (Int32.toInt64 (S.2.2.1 31 c))) * 1)), (0, .ref (G.2.1 29)), (1, .int 0), (2, .int (nI c)), (3, .int dd)] [0, 1, 2, 3, 4, 5] rfl ?_
  refine V_lveq [(6, .int 0), (4, .long (wprod (w0m (S.2.2.1 37) (S.2.2.1 31) 0 c e) (tenm S 0 c e) 0)), (0, .ref (G.2.1 29)), (1, .int 0), (2, .int (nI c)), (3, .int dd)] (by rfl) ?_
  exact lp_mw0 hD hc he hq (m + 1) 0 (by omega) (by omega)
theorem c_X8_add0 {G : GX} {d : Nat} {S : ST} {S0 : ST} {m c : Nat} {L : List XT} {Q : ST → Prop} (hM : MS S0 m L S) (hD : DTm S0 m) (hc : c < 12) (hL : L.length < 210) (hq : ∀ S2, MS S0 m (L ++ [(0, c, c)]) S2 → Q S2) : Cn G (d + 3) mX8_add [.ref (G.2.1 29), .int 0, .int (nI c), .int (-6)] S (qv Q) := by
  refine Cn.intro (lv := [(0, .ref (G.2.1 29)), (1, .int 0), (2, .int (nI c)), (3, .int (-6))]) (by decide) (Nat.le_of_ble_eq_true rfl) rfl ?_
  refine V_aload_n dX8_add_0 rfl 0 rfl ?_
  refine g_29_15 tw_643 dX8_add_1 ?_
  refine V_aload_n dX8_add_4 rfl 0 rfl ?_
  refine g_29_14 tw_642 dX8_add_5 ?_
  refine V_topi (v := nI (L.length)) (id hM.2.1) ?_
  refine V_iload_n dX8_add_8 rfl 1 rfl ?_
  refine s_40n (by omega) dX8_add_9 ?_
  refine V_aload_n dX8_add_10 rfl 0 rfl ?_
  refine g_29_16 tw_644 dX8_add_11 ?_
  refine V_aload_n dX8_add_14 rfl 0 rfl ?_
  refine g_29_14 tw_642 dX8_add_15 ?_
  refine V_topi (v := S.1 14) rfl ?_
  refine V_topi (v := nI (L.length)) (id hM.2.1) ?_
  refine V_iload_n dX8_add_18 rfl 2 rfl ?_
  refine s_41n (by omega) dX8_add_19 ?_
  refine V_aload_n dX8_add_20 rfl 0 rfl ?_
  refine g_29_17 tw_645 dX8_add_21 ?_
  refine V_aload_n dX8_add_24 rfl 0 rfl ?_
  refine g_29_14 tw_642 dX8_add_25 ?_
  refine V_topi (v := S.1 14) rfl ?_
  refine V_topi (v := nI (L.length)) (id hM.2.1) ?_
  refine V_iload_n dX8_add_28 rfl 3 rfl ?_
  refine s_42n (by omega) dX8_add_29 ?_
  refine V_aload_n dX8_add_30 rfl 0 rfl ?_
  refine g_29_18 tw_646 dX8_add_31 ?_
  refine V_aload_n dX8_add_34 rfl 0 rfl ?_
  refine g_29_14 tw_642 dX8_add_35 ?_
  refine V_topi (v := S.1 14) rfl ?_
  refine V_topi (v := nI (L.length)) (id hM.2.1) ?_
  refine V_aload_n dX8_add_38 rfl 0 rfl ?_
  refine V_iload_n dX8_add_39 rfl 1 rfl ?_
  refine V_iload_n dX8_add_40 rfl 2 rfl ?_
  refine V_iload_n dX8_add_41 rfl 3 rfl ?_
  refine V_cVl (P := pM G (d + 3) mX8_add _) (d := d + 2) 29 (r := [.int (nI (L.length)), .ref (G.2.1 43)]) (As := [.int 0, .int (nI c), .int (-6)]) (K := mX8_weightOf) ok_X8_weightOf tw_764 (ob_29 _) rfl (rmOk (Nat.le_of_ble_eq_true rfl)) (Nat.le_of_ble_eq_true rfl) dX8_add_42 rfl (c_X8_weightOf0 c (FrM.DTm (S0 := S0) (S := S) hM.1 hD) hc hc ?_)
  refine V_topl (v := wMX S0 m (0, c, c)) (by show wM S m 0 c c = _; rw [hM.1.wM]; rfl) ?_
  refine s_43n (by omega) dX8_add_45 ?_
  refine V_aload_n dX8_add_46 rfl 0 rfl ?_
  refine V_dup dX8_add_47 rfl ?_
  refine g_29_19 tw_647 dX8_add_48 ?_
  refine V_topl (v := S.2.1 2) rfl ?_
  refine V_aload_n dX8_add_51 rfl 0 rfl ?_
  refine g_29_18 tw_646 dX8_add_52 ?_
  refine V_aload_n dX8_add_55 rfl 0 rfl ?_
  refine g_29_14 tw_642 dX8_add_56 ?_
  refine V_topi (v := S.1 14) rfl ?_
  refine V_topi (v := nI (L.length)) (id hM.2.1) ?_
  refine l_43n (by omega) dX8_add_59 ?_
  refine V_topl (v := (vp_updL (S.2.2.2 43) (L.length) (wMX S0 m (0, c, c))) (L.length)) rfl ?_
  refine V_topl (v := wMX S0 m (0, c, c)) ((pk_uLs)) ?_
  refine V_ladd dX8_add_60 ?_
  refine p_29_19 tw_647 dX8_add_61 ?_
  refine V_aload_n dX8_add_64 rfl 0 rfl ?_
  refine V_dup dX8_add_65 rfl ?_
  refine g_29_14 tw_642 dX8_add_66 ?_
  refine V_topi (v := S.1 14) rfl ?_
  refine V_topi (v := nI (L.length)) (id hM.2.1) ?_
  refine V_iconst (v := 1) dX8_add_69 ki_1 ?_
  refine V_iadd dX8_add_70 ?_
  refine V_topi (v := nI ((L.length) + 1)) (nI_1 _) ?_
  refine p_29_14 tw_642 dX8_add_71 ?_
  refine V_vret rfl dX8_add_74 ⟨rfl, hq _ (MS_push hM ⟨?_, ?_, ?_, ?_⟩ rfl rfl rfl rfl rfl rfl)⟩
  · intro k a; simp [setI, setL, setA, setJ, va_up, a]
  · intro k a; simp [setI, setL, setA, setJ, va_up, a]
  · intro k a b c; simp [setI, setL, setA, setJ, va_up, a, b, c]
  · intro k a; simp [setI, setL, setA, setJ, va_up, a]
theorem lp_mw1 {G : GX} {d m c : Nat} {e : Nat} {w : Int64} {S : ST} {Q : Int64 → ST → Prop} (hD : DTm S m) (hc : c < 12) (he : e < 12) (hq : Q (wprod w (tenm S 1 c e) m) S) : ∀ (k i : Nat), i ≤ m → m - i < k → V (pM G (d + 2) mX8_weightOf (ql Q)) 46 [(6, .int (nI i)), (4, .long (wprod w (tenm S 1 c e) i)), (0, .ref (G.2.1 29)), (1, .int 1), (2, .int (nI c)), (3, .int (nI e))] [] S := by
  intro k
  induction k with
  | zero => intro i hi hk; exact absurd hk (Nat.not_lt_zero _)
  | succ k ih =>
    intro i hi hk
    obtain ⟨hm, hm12, hv, hp⟩ := id hD
    refine V_iload dX8_weightOf_46 0 rfl ?_
    refine V_aload_n dX8_weightOf_48 rfl 2 rfl ?_
    refine g_29_6 tw_634 dX8_weightOf_49 ?_
    refine V_topi (v := nI m) (id (hm)) ?_
    refine V_icmp_gen 92 (a := i) (b := m) dX8_weightOf_52 (by decide) (by omega) (by omega) (fun h1 => ?_) (fun h1 => ?_)
    · refine V_lload dX8_weightOf_92 1 rfl ?_
      have hin : i = m := by omega
      subst hin
      exact V_lret rfl dX8_weightOf_94 ⟨_, rfl, hq⟩
    · refine V_lload dX8_weightOf_55 1 rfl ?_
      refine V_aload_n dX8_weightOf_57 rfl 2 rfl ?_
      refine V_aload_n dX8_weightOf_58 rfl 2 rfl ?_
      refine V_aload_n dX8_weightOf_59 rfl 2 rfl ?_
      refine g_29_7 tw_635 dX8_weightOf_60 ?_
      refine V_iload dX8_weightOf_63 0 rfl ?_
      refine l_35n (by omega) dX8_weightOf_65 ?_
      refine V_topi (v := nI ((S.2.2.1 35 i).toNatClampNeg)) ((hv i h1).1) ?_
      refine V_iload_n dX8_weightOf_66 rfl 3 rfl ?_
      refine V_iload_n dX8_weightOf_67 rfl 4 rfl ?_
      refine V_iload_n dX8_weightOf_68 rfl 5 rfl ?_
      refine V_cVi (P := pM G (d + 2) mX8_weightOf _) (d := d + 1) 29 (r := [.ref (G.2.1 29), .long (wprod w (tenm S 1 c e) i)]) (As := [.int (nI ((S.2.2.1 35 i).toNatClampNeg)), .int 1, .int (nI c), .int (nI e)]) (K := mX8_shouldFail) ok_X8_shouldFail tw_768 (ob_29 _) rfl (rmOk (Nat.le_of_ble_eq_true rfl)) (Nat.le_of_ble_eq_true rfl) dX8_weightOf_69 rfl (c_X8_shouldFail1 (hv i h1).2 (by omega) (by omega) ?_)
      refine V_aload_n dX8_weightOf_72 rfl 2 rfl ?_
      refine g_29_8 tw_636 dX8_weightOf_73 ?_
      refine V_iload dX8_weightOf_76 0 rfl ?_
      refine l_36n (by omega) dX8_weightOf_78 ?_
      refine V_topi (v := b2i (decide (S.2.2.1 36 i ≠ 0))) (hp i h1) ?_
      refine V_cVi (P := pM G (d + 2) mX8_weightOf _) (d := d + 1) 29 (r := [.long (wprod w (tenm S 1 c e) i)]) (As := [.int (b2i (sfB (S.2.2.1 30) ((S.2.2.1 35 i).toNatClampNeg) 1 c e)), .int (b2i (decide (S.2.2.1 36 i ≠ 0)))]) (K := mX8_tenths) ok_X8_tenths tw_775 (ob_29 _) rfl (rmOk (Nat.le_of_ble_eq_true rfl)) (Nat.le_of_ble_eq_true rfl) dX8_weightOf_79 rfl (c_X8_tenths (f := (sfB (S.2.2.1 30) ((S.2.2.1 35 i).toNatClampNeg) 1 c e)) (q := (decide (S.2.2.1 36 i ≠ 0))) ?_)
      refine V_i2l dX8_weightOf_82 ?_
      refine V_lmul dX8_weightOf_83 ?_
      refine V_lstore [(4, .long ((wprod w (tenm S 1 c e) i) * (Int32.toInt64 (ten (S.2.2.1 37) (sfB (S.2.2.1 30) ((S.2.2.1 35 i).toNatClampNeg) 1 c e) (decide (S.2.2.1 36 i ≠ 0)))))), (6, .int (nI i)), (0, .ref (G.2.1 29)), (1, .int 1), (2, .int (nI c)), (3, .int (nI e))] dX8_weightOf_84 (Nat.le_of_ble_eq_true rfl) rfl ?_
      refine V_iinc [(6, .int (nI (i + 1))), (4, .long ((wprod w (tenm S 1 c e) i) * (Int32.toInt64 (ten (S.2.2.1 37) (sfB (S.2.2.1 30) ((S.2.2.1 35 i).toNatClampNeg) 1 c e) (decide (S.2.2.1 36 i ≠ 0)))))), (0, .ref (G.2.1 29)), (1, .int 1), (2, .int (nI c)), (3, .int (nI e))] dX8_weightOf_86 1 rfl (nI_1 _) (Nat.le_of_ble_eq_true rfl) rfl ?_
      refine V_goto 46 dX8_weightOf_89 (by decide) ?_
      refine V_lv [(6, .int (nI (i + 1))), (4, .long ((wprod w (tenm S 1 c e) i) * (Int32.toInt64 (ten (S.2.2.1 37) (sfB (S.2.2.1 30) ((S.2.2.1 35 i).toNatClampNeg) 1 c e) (decide (S.2.2.1 36 i ≠ 0)))))), (0, .ref (G.2.1 29)), (1, .int 1), (2, .int (nI c)), (3, .int (nI e))] [0, 1, 2, 3, 4, 5] rfl ?_
      refine V_lveq [(6, .int (nI (i + 1))), (4, .long (wprod w (tenm S 1 c e) (i + 1))), (0, .ref (G.2.1 29)), (1, .int 1), (2, .int (nI c)), (3, .int (nI e))] (by rfl) ?_
      exact ih (i + 1) (by omega) (by omega)
theorem c_X8_weightOf1 {G : GX} {d : Nat} {S : ST} {m c : Nat} {e : Nat} {Q : Int64 → ST → Prop} (hD : DTm S m) (hc : c < 12) (he : e < 12) (hq : Q (wM S m 1 c e) S) : Cn G (d + 2) mX8_weightOf [.ref (G.2.1 29), .int 1, .int (nI c), .int (nI e)] S (ql Q) := by
  refine Cn.intro (lv := [(0, .ref (G.2.1 29)), (1, .int 1), (2, .int (nI c)), (3, .int (nI e))]) (by decide) (Nat.le_of_ble_eq_true rfl) rfl ?_
  refine V_aload_n dX8_weightOf_0 rfl 0 rfl ?_
  refine g_29_9 tw_637 dX8_weightOf_1 ?_
  refine V_iconst (v := 2) dX8_weightOf_4 ki_2 ?_
  refine V_iload_n dX8_weightOf_5 rfl 1 rfl ?_
  refine V_iadd dX8_weightOf_6 ?_
  refine V_topi (v := 3) (by decide +kernel) ?_
  refine l_37n (i := 3) (by decide) dX8_weightOf_7 ?_
  refine V_i2l dX8_weightOf_8 ?_
  refine V_lstore [(4, .long (Int32.toInt64 (S.2.2.1 37 3))), (0, .ref (G.2.1 29)), (1, .int 1), (2, .int (nI c)), (3, .int (nI e))] dX8_weightOf_9 (Nat.le_of_ble_eq_true rfl) rfl ?_
  refine V_lload dX8_weightOf_11 0 rfl ?_
  refine V_aload_n dX8_weightOf_13 rfl 1 rfl ?_
  refine g_29_2 tw_630 dX8_weightOf_14 ?_
  refine V_iload_n dX8_weightOf_17 rfl 3 rfl ?_
  refine l_31n (by omega) dX8_weightOf_18 ?_
  refine V_i2l dX8_weightOf_19 ?_
  refine V_lmul dX8_weightOf_20 ?_
  refine V_lstore [(4, .long ((Int32.toInt64 (S.2.2.1 37 3)) * (Int32.toInt64 (S.2.2.1 31 c)))), (0, .ref (G.2.1 29)), (1, .int 1), (2, .int (nI c)), (3, .int (nI e))] dX8_weightOf_21 (Nat.le_of_ble_eq_true rfl) rfl ?_
  refine V_lload dX8_weightOf_23 0 rfl ?_
  refine V_iload_n dX8_weightOf_25 rfl 2 rfl ?_
  refine V_if_ne 33 dX8_weightOf_26 (by decide) (fun _ => ?_) (fun hz => absurd hz (by decide))
  refine V_aload_n dX8_weightOf_33 rfl 1 rfl ?_
  refine g_29_2 tw_630 dX8_weightOf_34 ?_
  refine V_iload_n dX8_weightOf_37 rfl 4 rfl ?_
  refine l_31n (by omega) dX8_weightOf_38 ?_
  refine V_i2l dX8_weightOf_39 ?_
  refine V_lmul dX8_weightOf_40 ?_
  refine V_lstore [(4, .long (((Int32.toInt64 (S.2.2.1 37 3)) * (Int32.toInt64 (S.2.2.1 31 c))) * (Int32.toInt64 (S.2.2.1 31 e)))), (0, .ref (G.2.1 29)), (1, .int 1), (2, .int (nI c)), (3, .int (nI e))] dX8_weightOf_41 (Nat.le_of_ble_eq_true rfl) rfl ?_
  refine V_iconst (v := 0) dX8_weightOf_43 ki_0 ?_
  refine V_istore [(6, .int 0), (4, .long (((Int32.toInt64 (S.2.2.1 37 3)) * (Int32.toInt64 (S.2.2.1 31 c))) * (Int32.toInt64 (S.2.2.1 31 e)))), (0, .ref (G.2.1 29)), (1, .int 1), (2, .int (nI c)), (3, .int (nI e))] dX8_weightOf_44 (Nat.le_of_ble_eq_true rfl) rfl ?_
  refine V_lv [(6, .int 0), (4, .long (((Int32.toInt64 (S.2.2.1 37 3)) * (Int32.toInt64 (S.2.2.1 31 c))) * (Int32.toInt64 (S.2.2.1 31 e)))), (0, .ref (G.2.1 29)), (1, .int 1), (2, .int (nI c)), (3, .int (nI e))] [0, 1, 2, 3, 4, 5] rfl ?_
  refine V_lveq [(6, .int 0), (4, .long (wprod (w0m (S.2.2.1 37) (S.2.2.1 31) 1 c e) (tenm S 1 c e) 0)), (0, .ref (G.2.1 29)), (1, .int 1), (2, .int (nI c)), (3, .int (nI e))] (by rfl) ?_
  exact lp_mw1 hD hc he hq (m + 1) 0 (by omega) (by omega)
theorem c_X8_add1 {G : GX} {d : Nat} {S : ST} {S0 : ST} {m c e : Nat} {L : List XT} {Q : ST → Prop} (hM : MS S0 m L S) (hD : DTm S0 m) (hc : c < 12) (he : e < 12) (hL : L.length < 210) (hq : ∀ S2, MS S0 m (L ++ [(1, c, e)]) S2 → Q S2) : Cn G (d + 3) mX8_add [.ref (G.2.1 29), .int 1, .int (nI c), .int (nI e)] S (qv Q) := by
  refine Cn.intro (lv := [(0, .ref (G.2.1 29)), (1, .int 1), (2, .int (nI c)), (3, .int (nI e))]) (by decide) (Nat.le_of_ble_eq_true rfl) rfl ?_
  refine V_aload_n dX8_add_0 rfl 0 rfl ?_
  refine g_29_15 tw_643 dX8_add_1 ?_
  refine V_aload_n dX8_add_4 rfl 0 rfl ?_
  refine g_29_14 tw_642 dX8_add_5 ?_
  refine V_topi (v := nI (L.length)) (id hM.2.1) ?_
  refine V_iload_n dX8_add_8 rfl 1 rfl ?_
  refine s_40n (by omega) dX8_add_9 ?_
  refine V_aload_n dX8_add_10 rfl 0 rfl ?_
  refine g_29_16 tw_644 dX8_add_11 ?_
  refine V_aload_n dX8_add_14 rfl 0 rfl ?_
  refine g_29_14 tw_642 dX8_add_15 ?_
  refine V_topi (v := S.1 14) rfl ?_
  refine V_topi (v := nI (L.length)) (id hM.2.1) ?_
  refine V_iload_n dX8_add_18 rfl 2 rfl ?_
  refine s_41n (by omega) dX8_add_19 ?_
  refine V_aload_n dX8_add_20 rfl 0 rfl ?_
  refine g_29_17 tw_645 dX8_add_21 ?_
  refine V_aload_n dX8_add_24 rfl 0 rfl ?_
  refine g_29_14 tw_642 dX8_add_25 ?_
  refine V_topi (v := S.1 14) rfl ?_
  refine V_topi (v := nI (L.length)) (id hM.2.1) ?_
  refine V_iload_n dX8_add_28 rfl 3 rfl ?_
  refine s_42n (by omega) dX8_add_29 ?_
  refine V_aload_n dX8_add_30 rfl 0 rfl ?_
  refine g_29_18 tw_646 dX8_add_31 ?_
  refine V_aload_n dX8_add_34 rfl 0 rfl ?_
  refine g_29_14 tw_642 dX8_add_35 ?_
  refine V_topi (v := S.1 14) rfl ?_
  refine V_topi (v := nI (L.length)) (id hM.2.1) ?_
  refine V_aload_n dX8_add_38 rfl 0 rfl ?_
  refine V_iload_n dX8_add_39 rfl 1 rfl ?_
  refine V_iload_n dX8_add_40 rfl 2 rfl ?_
  refine V_iload_n dX8_add_41 rfl 3 rfl ?_
  refine V_cVl (P := pM G (d + 3) mX8_add _) (d := d + 2) 29 (r := [.int (nI (L.length)), .ref (G.2.1 43)]) (As := [.int 1, .int (nI c), .int (nI e)]) (K := mX8_weightOf) ok_X8_weightOf tw_764 (ob_29 _) rfl (rmOk (Nat.le_of_ble_eq_true rfl)) (Nat.le_of_ble_eq_true rfl) dX8_add_42 rfl (c_X8_weightOf1 (FrM.DTm (S0 := S0) (S := S) hM.1 hD) hc he ?_)
  refine V_topl (v := wMX S0 m (1, c, e)) (by show wM S m 1 c e = _; rw [hM.1.wM]; rfl) ?_
  refine s_43n (by omega) dX8_add_45 ?_
  refine V_aload_n dX8_add_46 rfl 0 rfl ?_
  refine V_dup dX8_add_47 rfl ?_
  refine g_29_19 tw_647 dX8_add_48 ?_
  refine V_topl (v := S.2.1 2) rfl ?_
  refine V_aload_n dX8_add_51 rfl 0 rfl ?_
  refine g_29_18 tw_646 dX8_add_52 ?_
  refine V_aload_n dX8_add_55 rfl 0 rfl ?_
  refine g_29_14 tw_642 dX8_add_56 ?_
  refine V_topi (v := S.1 14) rfl ?_
  refine V_topi (v := nI (L.length)) (id hM.2.1) ?_
  refine l_43n (by omega) dX8_add_59 ?_
  refine V_topl (v := (vp_updL (S.2.2.2 43) (L.length) (wMX S0 m (1, c, e))) (L.length)) rfl ?_
  refine V_topl (v := wMX S0 m (1, c, e)) ((pk_uLs)) ?_
  refine V_ladd dX8_add_60 ?_
  refine p_29_19 tw_647 dX8_add_61 ?_
  refine V_aload_n dX8_add_64 rfl 0 rfl ?_
  refine V_dup dX8_add_65 rfl ?_
  refine g_29_14 tw_642 dX8_add_66 ?_
  refine V_topi (v := S.1 14) rfl ?_
  refine V_topi (v := nI (L.length)) (id hM.2.1) ?_
  refine V_iconst (v := 1) dX8_add_69 ki_1 ?_
  refine V_iadd dX8_add_70 ?_
  refine V_topi (v := nI ((L.length) + 1)) (nI_1 _) ?_
  refine p_29_14 tw_642 dX8_add_71 ?_
  refine V_vret rfl dX8_add_74 ⟨rfl, hq _ (MS_push hM ⟨?_, ?_, ?_, ?_⟩ rfl rfl rfl rfl rfl rfl)⟩
  · intro k a; simp [setI, setL, setA, setJ, va_up, a]
  · intro k a; simp [setI, setL, setA, setJ, va_up, a]
  · intro k a b c; simp [setI, setL, setA, setJ, va_up, a, b, c]
  · intro k a; simp [setI, setL, setA, setJ, va_up, a]
theorem lp_mw2 {G : GX} {d m c : Nat} {e : Nat} {w : Int64} {S : ST} {Q : Int64 → ST → Prop} (hD : DTm S m) (hc : c < 12) (he : e < 12) (hq : Q (wprod w (tenm S 2 c e) m) S) : ∀ (k i : Nat), i ≤ m → m - i < k → V (pM G (d + 2) mX8_weightOf (ql Q)) 46 [(6, .int (nI i)), (4, .long (wprod w (tenm S 2 c e) i)), (0, .ref (G.2.1 29)), (1, .int 2), (2, .int (nI c)), (3, .int (nI e))] [] S := by
  intro k
  induction k with
  | zero => intro i hi hk; exact absurd hk (Nat.not_lt_zero _)
  | succ k ih =>
    intro i hi hk
    obtain ⟨hm, hm12, hv, hp⟩ := id hD
    refine V_iload dX8_weightOf_46 0 rfl ?_
    refine V_aload_n dX8_weightOf_48 rfl 2 rfl ?_
    refine g_29_6 tw_634 dX8_weightOf_49 ?_
    refine V_topi (v := nI m) (id (hm)) ?_
    refine V_icmp_gen 92 (a := i) (b := m) dX8_weightOf_52 (by decide) (by omega) (by omega) (fun h1 => ?_) (fun h1 => ?_)
    · refine V_lload dX8_weightOf_92 1 rfl ?_
      have hin : i = m := by omega
      subst hin
      exact V_lret rfl dX8_weightOf_94 ⟨_, rfl, hq⟩
    · refine V_lload dX8_weightOf_55 1 rfl ?_
      refine V_aload_n dX8_weightOf_57 rfl 2 rfl ?_
      refine V_aload_n dX8_weightOf_58 rfl 2 rfl ?_
      refine V_aload_n dX8_weightOf_59 rfl 2 rfl ?_
      refine g_29_7 tw_635 dX8_weightOf_60 ?_
      refine V_iload dX8_weightOf_63 0 rfl ?_
      refine l_35n (by omega) dX8_weightOf_65 ?_
      refine V_topi (v := nI ((S.2.2.1 35 i).toNatClampNeg)) ((hv i h1).1) ?_
      refine V_iload_n dX8_weightOf_66 rfl 3 rfl ?_
      refine V_iload_n dX8_weightOf_67 rfl 4 rfl ?_
      refine V_iload_n dX8_weightOf_68 rfl 5 rfl ?_
      refine V_cVi (P := pM G (d + 2) mX8_weightOf _) (d := d + 1) 29 (r := [.ref (G.2.1 29), .long (wprod w (tenm S 2 c e) i)]) (As := [.int (nI ((S.2.2.1 35 i).toNatClampNeg)), .int 2, .int (nI c), .int (nI e)]) (K := mX8_shouldFail) ok_X8_shouldFail tw_768 (ob_29 _) rfl (rmOk (Nat.le_of_ble_eq_true rfl)) (Nat.le_of_ble_eq_true rfl) dX8_weightOf_69 rfl (c_X8_shouldFail2 (hv i h1).2 (by omega) (by omega) ?_)
      refine V_aload_n dX8_weightOf_72 rfl 2 rfl ?_
      refine g_29_8 tw_636 dX8_weightOf_73 ?_
      refine V_iload dX8_weightOf_76 0 rfl ?_
      refine l_36n (by omega) dX8_weightOf_78 ?_
      refine V_topi (v := b2i (decide (S.2.2.1 36 i ≠ 0))) (hp i h1) ?_
      refine V_cVi (P := pM G (d + 2) mX8_weightOf _) (d := d + 1) 29 (r := [.long (wprod w (tenm S 2 c e) i)]) (As := [.int (b2i (sfB (S.2.2.1 30) ((S.2.2.1 35 i).toNatClampNeg) 2 c e)), .int (b2i (decide (S.2.2.1 36 i ≠ 0)))]) (K := mX8_tenths) ok_X8_tenths tw_775 (ob_29 _) rfl (rmOk (Nat.le_of_ble_eq_true rfl)) (Nat.le_of_ble_eq_true rfl) dX8_weightOf_79 rfl (c_X8_tenths (f := (sfB (S.2.2.1 30) ((S.2.2.1 35 i).toNatClampNeg) 2 c e)) (q := (decide (S.2.2.1 36 i ≠ 0))) ?_)
      refine V_i2l dX8_weightOf_82 ?_
      refine V_lmul dX8_weightOf_83 ?_
      refine V_lstore [(4, .long ((wprod w (tenm S 2 c e) i) * (Int32.toInt64 (ten (S.2.2.1 37) (sfB (S.2.2.1 30) ((S.2.2.1 35 i).toNatClampNeg) 2 c e) (decide (S.2.2.1 36 i ≠ 0)))))), (6, .int (nI i)), (0, .ref (G.2.1 29)), (1, .int 2), (2, .int (nI c)), (3, .int (nI e))] dX8_weightOf_84 (Nat.le_of_ble_eq_true rfl) rfl ?_
      refine V_iinc [(6, .int (nI (i + 1))), (4, .long ((wprod w (tenm S 2 c e) i) * (Int32.toInt64 (ten (S.2.2.1 37) (sfB (S.2.2.1 30) ((S.2.2.1 35 i).toNatClampNeg) 2 c e) (decide (S.2.2.1 36 i ≠ 0)))))), (0, .ref (G.2.1 29)), (1, .int 2), (2, .int (nI c)), (3, .int (nI e))] dX8_weightOf_86 1 rfl (nI_1 _) (Nat.le_of_ble_eq_true rfl) rfl ?_
      refine V_goto 46 dX8_weightOf_89 (by decide) ?_
      refine V_lv [(6, .int (nI (i + 1))), (4, .long ((wprod w (tenm S 2 c e) i) * (Int32.toInt64 (ten (S.2.2.1 37) (sfB (S.2.2.1 30) ((S.2.2.1 35 i).toNatClampNeg) 2 c e) (decide (S.2.2.1 36 i ≠ 0)))))), (0, .ref (G.2.1 29)), (1, .int 2), (2, .int (nI c)), (3, .int (nI e))] [0, 1, 2, 3, 4, 5] rfl ?_
      refine V_lveq [(6, .int (nI (i + 1))), (4, .long (wprod w (tenm S 2 c e) (i + 1))), (0, .ref (G.2.1 29)), (1, .int 2), (2, .int (nI c)), (3, .int (nI e))] (by rfl) ?_
      exact ih (i + 1) (by omega) (by omega)
theorem c_X8_weightOf2 {G : GX} {d : Nat} {S : ST} {m c : Nat} {e : Nat} {Q : Int64 → ST → Prop} (hD : DTm S m) (hc : c < 12) (he : e < 12) (hq : Q (wM S m 2 c e) S) : Cn G (d + 2) mX8_weightOf [.ref (G.2.1 29), .int 2, .int (nI c), .int (nI e)] S (ql Q) := by
  refine Cn.intro (lv := [(0, .ref (G.2.1 29)), (1, .int 2), (2, .int (nI c)), (3, .int (nI e))]) (by decide) (Nat.le_of_ble_eq_true rfl) rfl ?_
  refine V_aload_n dX8_weightOf_0 rfl 0 rfl ?_
  refine g_29_9 tw_637 dX8_weightOf_1 ?_
  refine V_iconst (v := 2) dX8_weightOf_4 ki_2 ?_
  refine V_iload_n dX8_weightOf_5 rfl 1 rfl ?_
  refine V_iadd dX8_weightOf_6 ?_
  refine V_topi (v := 4) (by decide +kernel) ?_
  refine l_37n (i := 4) (by decide) dX8_weightOf_7 ?_
  refine V_i2l dX8_weightOf_8 ?_
  refine V_lstore [(4, .long (Int32.toInt64 (S.2.2.1 37 4))), (0, .ref (G.2.1 29)), (1, .int 2), (2, .int (nI c)), (3, .int (nI e))] dX8_weightOf_9 (Nat.le_of_ble_eq_true rfl) rfl ?_
  refine V_lload dX8_weightOf_11 0 rfl ?_
  refine V_aload_n dX8_weightOf_13 rfl 1 rfl ?_
  refine g_29_2 tw_630 dX8_weightOf_14 ?_
  refine V_iload_n dX8_weightOf_17 rfl 3 rfl ?_
  refine l_31n (by omega) dX8_weightOf_18 ?_
  refine V_i2l dX8_weightOf_19 ?_
  refine V_lmul dX8_weightOf_20 ?_
  refine V_lstore [(4, .long ((Int32.toInt64 (S.2.2.1 37 4)) * (Int32.toInt64 (S.2.2.1 31 c)))), (0, .ref (G.2.1 29)), (1, .int 2), (2, .int (nI c)), (3, .int (nI e))] dX8_weightOf_21 (Nat.le_of_ble_eq_true rfl) rfl ?_
  refine V_lload dX8_weightOf_23 0 rfl ?_
  refine V_iload_n dX8_weightOf_25 rfl 2 rfl ?_
  refine V_if_ne 33 dX8_weightOf_26 (by decide) (fun _ => ?_) (fun hz => absurd hz (by decide))
  refine V_aload_n dX8_weightOf_33 rfl 1 rfl ?_
  refine g_29_2 tw_630 dX8_weightOf_34 ?_
  refine V_iload_n dX8_weightOf_37 rfl 4 rfl ?_
  refine l_31n (by omega) dX8_weightOf_38 ?_
  refine V_i2l dX8_weightOf_39 ?_
  refine V_lmul dX8_weightOf_40 ?_
  refine V_lstore [(4, .long (((Int32.toInt64 (S.2.2.1 37 4)) * (Int32.toInt64 (S.2.2.1 31 c))) * (Int32.toInt64 (S.2.2.1 31 e)))), (0, .ref (G.2.1 29)), (1, .int 2), (2, .int (nI c)), (3, .int (nI e))] dX8_weightOf_41 (Nat.le_of_ble_eq_true rfl) rfl ?_
  refine V_iconst (v := 0) dX8_weightOf_43 ki_0 ?_
  refine V_istore [(6, .int 0), (4, .long (((Int32.toInt64 (S.2.2.1 37 4)) * (Int32.toInt64 (S.2.2.1 31 c))) * (Int32.toInt64 (S.2.2.1 31 e)))), (0, .ref (G.2.1 29)), (1, .int 2), (2, .int (nI c)), (3, .int (nI e))] dX8_weightOf_44 (Nat.le_of_ble_eq_true rfl) rfl ?_
  refine V_lv [(6, .int 0), (4, .long (((Int32.toInt64 (S.2.2.1 37 4)) * (Int32.toInt64 (S.2.2.1 31 c))) * (Int32.toInt64 (S.2.2.1 31 e)))), (0, .ref (G.2.1 29)), (1, .int 2), (2, .int (nI c)), (3, .int (nI e))] [0, 1, 2, 3, 4, 5] rfl ?_
  refine V_lveq [(6, .int 0), (4, .long (wprod (w0m (S.2.2.1 37) (S.2.2.1 31) 2 c e) (tenm S 2 c e) 0)), (0, .ref (G.2.1 29)), (1, .int 2), (2, .int (nI c)), (3, .int (nI e))] (by rfl) ?_
  exact lp_mw2 hD hc he hq (m + 1) 0 (by omega) (by omega)
theorem c_X8_add2 {G : GX} {d : Nat} {S : ST} {S0 : ST} {m c e : Nat} {L : List XT} {Q : ST → Prop} (hM : MS S0 m L S) (hD : DTm S0 m) (hc : c < 12) (he : e < 12) (hL : L.length < 210) (hq : ∀ S2, MS S0 m (L ++ [(2, c, e)]) S2 → Q S2) : Cn G (d + 3) mX8_add [.ref (G.2.1 29), .int 2, .int (nI c), .int (nI e)] S (qv Q) := by
  refine Cn.intro (lv := [(0, .ref (G.2.1 29)), (1, .int 2), (2, .int (nI c)), (3, .int (nI e))]) (by decide) (Nat.le_of_ble_eq_true rfl) rfl ?_
  refine V_aload_n dX8_add_0 rfl 0 rfl ?_
  refine g_29_15 tw_643 dX8_add_1 ?_
  refine V_aload_n dX8_add_4 rfl 0 rfl ?_
  refine g_29_14 tw_642 dX8_add_5 ?_
  refine V_topi (v := nI (L.length)) (id hM.2.1) ?_
  refine V_iload_n dX8_add_8 rfl 1 rfl ?_
  refine s_40n (by omega) dX8_add_9 ?_
  refine V_aload_n dX8_add_10 rfl 0 rfl ?_
  refine g_29_16 tw_644 dX8_add_11 ?_
  refine V_aload_n dX8_add_14 rfl 0 rfl ?_
  refine g_29_14 tw_642 dX8_add_15 ?_
  refine V_topi (v := S.1 14) rfl ?_
  refine V_topi (v := nI (L.length)) (id hM.2.1) ?_
  refine V_iload_n dX8_add_18 rfl 2 rfl ?_
  refine s_41n (by omega) dX8_add_19 ?_
  refine V_aload_n dX8_add_20 rfl 0 rfl ?_
  refine g_29_17 tw_645 dX8_add_21 ?_
  refine V_aload_n dX8_add_24 rfl 0 rfl ?_
  refine g_29_14 tw_642 dX8_add_25 ?_
  refine V_topi (v := S.1 14) rfl ?_
  refine V_topi (v := nI (L.length)) (id hM.2.1) ?_
  refine V_iload_n dX8_add_28 rfl 3 rfl ?_
  refine s_42n (by omega) dX8_add_29 ?_
  refine V_aload_n dX8_add_30 rfl 0 rfl ?_
  refine g_29_18 tw_646 dX8_add_31 ?_
  refine V_aload_n dX8_add_34 rfl 0 rfl ?_
  refine g_29_14 tw_642 dX8_add_35 ?_
  refine V_topi (v := S.1 14) rfl ?_
  refine V_topi (v := nI (L.length)) (id hM.2.1) ?_
  refine V_aload_n dX8_add_38 rfl 0 rfl ?_
  refine V_iload_n dX8_add_39 rfl 1 rfl ?_
  refine V_iload_n dX8_add_40 rfl 2 rfl ?_
  refine V_iload_n dX8_add_41 rfl 3 rfl ?_
  refine V_cVl (P := pM G (d + 3) mX8_add _) (d := d + 2) 29 (r := [.int (nI (L.length)), .ref (G.2.1 43)]) (As := [.int 2, .int (nI c), .int (nI e)]) (K := mX8_weightOf) ok_X8_weightOf tw_764 (ob_29 _) rfl (rmOk (Nat.le_of_ble_eq_true rfl)) (Nat.le_of_ble_eq_true rfl) dX8_add_42 rfl (c_X8_weightOf2 (FrM.DTm (S0 := S0) (S := S) hM.1 hD) hc he ?_)
  refine V_topl (v := wMX S0 m (2, c, e)) (by show wM S m 2 c e = _; rw [hM.1.wM]; rfl) ?_
  refine s_43n (by omega) dX8_add_45 ?_
  refine V_aload_n dX8_add_46 rfl 0 rfl ?_
  refine V_dup dX8_add_47 rfl ?_
  refine g_29_19 tw_647 dX8_add_48 ?_
  refine V_topl (v := S.2.1 2) rfl ?_
  refine V_aload_n dX8_add_51 rfl 0 rfl ?_
  refine g_29_18 tw_646 dX8_add_52 ?_
  refine V_aload_n dX8_add_55 rfl 0 rfl ?_
  refine g_29_14 tw_642 dX8_add_56 ?_
  refine V_topi (v := S.1 14) rfl ?_
  refine V_topi (v := nI (L.length)) (id hM.2.1) ?_
  refine l_43n (by omega) dX8_add_59 ?_
  refine V_topl (v := (vp_updL (S.2.2.2 43) (L.length) (wMX S0 m (2, c, e))) (L.length)) rfl ?_
  refine V_topl (v := wMX S0 m (2, c, e)) ((pk_uLs)) ?_
  refine V_ladd dX8_add_60 ?_
  refine p_29_19 tw_647 dX8_add_61 ?_
  refine V_aload_n dX8_add_64 rfl 0 rfl ?_
  refine V_dup dX8_add_65 rfl ?_
  refine g_29_14 tw_642 dX8_add_66 ?_
  refine V_topi (v := S.1 14) rfl ?_
  refine V_topi (v := nI (L.length)) (id hM.2.1) ?_
  refine V_iconst (v := 1) dX8_add_69 ki_1 ?_
  refine V_iadd dX8_add_70 ?_
  refine V_topi (v := nI ((L.length) + 1)) (nI_1 _) ?_
  refine p_29_14 tw_642 dX8_add_71 ?_
  refine V_vret rfl dX8_add_74 ⟨rfl, hq _ (MS_push hM ⟨?_, ?_, ?_, ?_⟩ rfl rfl rfl rfl rfl rfl)⟩
  · intro k a; simp [setI, setL, setA, setJ, va_up, a]
  · intro k a; simp [setI, setL, setA, setJ, va_up, a]
  · intro k a b c; simp [setI, setL, setA, setJ, va_up, a, b, c]
  · intro k a; simp [setI, setL, setA, setJ, va_up, a]
