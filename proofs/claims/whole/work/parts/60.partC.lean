theorem hrs_j {n v : Nat} {df : Nat → Int32} (hv : v < n) (hn : n ≤ 12) : hrs n df (nI v) = decide (df v = 0) := by
  unfold hrs
  rw [kn_nI (by omega) (by omega), nI_clamp (by omega), decide_eq_true hv, Bool.true_and]
theorem fr_4095 {t : Nat} (h : t < 4096) : fr (nI t) 0 4095 = true := by
  rw [fr_t]
  exact ⟨nI_pos' (by omega), (nI_leI (b := 4095) (by omega) (by decide)).mpr (by omega)⟩
def FrK (r : Nat) (S0 S : ST) : Prop := S.1 = S0.1 ∧ S.2.1 = S0.2.1 ∧ (∀ c, c ≠ r → S.2.2.1 c = S0.2.2.1 c) ∧ S.2.2.2 = S0.2.2.2
theorem FrK.rf (r : Nat) (S : ST) : FrK r S S := ⟨rfl, rfl, fun _ _ => rfl, rfl⟩
theorem FrK.a {r : Nat} {A B : ST} (h : FrK r A B) (i : Nat) (x : Int32) : FrK r A (setA B r i x) := by
  refine ⟨h.1, h.2.1, fun c a => ?_, h.2.2.2⟩
  show va_up _ _ _ c = _
  rw [va_up_ne _ _ a]
  exact h.2.2.1 c a
def PK (bc : Bool) (S0 : ST) (n : Nat) (f : Nat → Int32) : Prop := ∀ t, t < 4096 → f t = 0 ∨ f t = nI (pz (PR bc (S0.2.2.1 9) (S0.2.2.1 14) (S0.2.2.1 12) (S0.2.2.1 11) n t) + 1)
theorem PK.s {bc : Bool} {S0 : ST} {n t : Nat} {f : Nat → Int32} {x : Int32} (h : PK bc S0 n f) (hx : x = nI (pz (PR bc (S0.2.2.1 9) (S0.2.2.1 14) (S0.2.2.1 12) (S0.2.2.1 11) n t) + 1)) : PK bc S0 n (upd f t x) := fun s hs => by
  by_cases e : s = t
  · rw [e, pk_us, hx]; exact Or.inr rfl
  · rw [pk_un e]; exact h s hs
/-- the ranges of what versions have -/
def EV (S : ST) (n : Nat) : Prop := HS n S ∧ R9 (S.2.2.1 12) n ∧ R9 (S.2.2.1 11) n
def lem (b : Option (Nat × Nat)) : Int32 := match b with
  | none => -1
  | some q => nI q.1
theorem le_mst {ok : Nat → Bool} {f : Nat → Nat} {q : Nat × Nat} {v : Nat} (h : ok v = true) (h1 : f v ≤ 10692) (h2 : q.1 ≤ 10692) : (if nI (f v) < nI q.1 then nI (f v) else nI q.1) = lem (mst ok f (some q) v) := by
  by_cases z : f v < q.1
  · rw [mst_l h z, if_pos ((nI_ltI (by omega) (by omega)).mpr z)]; rfl
  · rw [mst_k z, if_neg (fun y => z ((nI_ltI (by omega) (by omega)).mp y))]; rfl
theorem le_max {b : Option (Nat × Nat)} (h : pz b ≤ 10692) : (if (0 : Int32) < lem b then lem b else 0) = nI (pz b) := by
  rcases b with _ | q
  · rfl
  · have h2 : q.1 ≤ 10692 := h
    show (if (0 : Int32) < nI q.1 then nI q.1 else 0) = nI q.1
    by_cases z : q.1 = 0
    · rw [z]; rfl
    · have y : (0 : Int32) < nI q.1 := (nI_ltI (a := 0) (b := q.1) (by decide) (by omega)).mpr (by omega)
      rw [if_pos y]
theorem mx_nI {a b : Nat} (ha : a ≤ 10692) (hb : b ≤ 10692) : (if nI a < nI b then nI b else nI a) = nI (max a b) := by
  by_cases z : a < b
  · rw [if_pos ((nI_ltI (by omega) (by omega)).mpr z), show max a b = b by omega]
  · rw [if_neg (fun y => z ((nI_ltI (by omega) (by omega)).mp y)), show max a b = a by omega]
theorem c_X3_parts_4 {G : GX} {d : Nat} {S : ST} {n v t : Nat} {Q : Int32 → ST → Prop} (hH : HS n S) (h12 : n ≤ 12) (hv : v < n) (ht : t < 4096) (hq : Q (b2i (pts (S.2.2.1 9) (S.2.2.1 14) t v)) S) : Cn G (d + 2) mX3_parts [.ref (G.2.1 4), .int (nI v), .int (nI t)] S (qi Q) := by
  refine Cn.intro (lv := [(0, .ref (G.2.1 4)), (1, .int (nI v)), (2, .int (nI t))]) (by decide) (Nat.le_of_ble_eq_true rfl) rfl ?_
  obtain ⟨h, hh, eh⟩ := hH.2 v hv
  have hNv : hN (S.2.2.1 9) v = h := by unfold hN; rw [eh, nI_clamp (by omega)]
  have hal : t &&& h ≤ t := Nat.and_le_left
  refine V_iload_n dX3_parts_0 rfl 2 rfl ?_
  refine V_aload_n dX3_parts_1 rfl 0 rfl ?_
  refine g_4_0 tw_132 dX3_parts_2 ?_
  refine g_1_1 tw_35 dX3_parts_5 ?_
  refine V_iload_n dX3_parts_8 rfl 1 rfl ?_
  refine l_9n (by omega) dX3_parts_9 ?_
  refine V_topi (v := nI h) (id eh) ?_
  refine V_iand dX3_parts_10 ?_
  refine V_topi (v := nI (t &&& h)) (nI_and _ _) ?_
  refine V_istore_n [(3, .int (nI (t &&& h))), (0, .ref (G.2.1 4)), (1, .int (nI v)), (2, .int (nI t))] dX3_parts_11 rfl (Nat.le_of_ble_eq_true rfl) rfl ?_
  refine V_aload_n dX3_parts_12 rfl 1 rfl ?_
  refine g_4_0 tw_132 dX3_parts_13 ?_
  refine V_iload_n dX3_parts_16 rfl 2 rfl ?_
  refine V_cVi (P := pM G (d + 2) mX3_parts _) (d := d + 1) 1 (r := []) (As := [.int (nI v)]) (K := mX1_hears) ok_X1_hears tw_451 (ob_1 _) rfl (rmOk (Nat.le_of_ble_eq_true rfl)) (Nat.le_of_ble_eq_true rfl) dX3_parts_17 rfl (c_X1_hears hH.1 h12 ?_)
  refine V_topi (v := b2i (decide (S.2.2.1 14 v = 0))) (by rw [hrs_j hv h12]) ?_
  refine V_ifb_eq 36 dX3_parts_20 (by decide) (fun h1 => ?_) (fun h1 => ?_)
  · refine V_iconst (v := 0) dX3_parts_36 ki_0 ?_
    refine V_zret rfl dX3_parts_37 rfl ⟨_, rfl, ?_⟩
    exact qcast hq (by unfold pts; rw [h1]; rfl)
  · refine V_iload_n dX3_parts_23 rfl 0 rfl ?_
    refine V_if_eqn 36 (a := (t &&& h)) dX3_parts_24 (by decide) (by omega) (fun h2 => ?_) (fun h2 => ?_)
    · refine V_iconst (v := 0) dX3_parts_36 ki_0 ?_
      refine V_zret rfl dX3_parts_37 rfl ⟨_, rfl, ?_⟩
      exact qcast hq (by unfold pts; rw [h1, hNv, decide_eq_false (fun z => z h2)]; rfl)
    · refine V_iload_n dX3_parts_27 rfl 0 rfl ?_
      refine V_iload_n dX3_parts_28 rfl 3 rfl ?_
      refine V_icmp_eqn 36 (a := (t &&& h)) (b := t) dX3_parts_29 (by decide) (by omega) (by omega) (fun h3 => ?_) (fun h3 => ?_)
      · refine V_iconst (v := 0) dX3_parts_36 ki_0 ?_
        refine V_zret rfl dX3_parts_37 rfl ⟨_, rfl, ?_⟩
        exact qcast hq (by unfold pts; rw [h1, hNv, decide_eq_true (show ¬ t &&& h = 0 by omega), decide_eq_false (fun z => z (of_decide_eq_true ((sub_and ht).mpr h3)))]; rfl)
      · refine V_iconst (v := 1) dX3_parts_32 ki_1 ?_
        refine V_goto 37 dX3_parts_33 (by decide) ?_
        refine V_zret rfl dX3_parts_37 rfl ⟨_, rfl, ?_⟩
        exact qcast hq (by unfold pts; rw [h1, hNv, decide_eq_true (show ¬ t &&& h = 0 by omega), decide_eq_true (show ¬ nd t h = 0 from fun z => h3 ((sub_and ht).mp (decide_eq_true z)))]; rfl)
theorem c_X3_parts_5 {G : GX} {d : Nat} {S : ST} {n v t : Nat} {Q : Int32 → ST → Prop} (hH : HS n S) (h12 : n ≤ 12) (hv : v < n) (ht : t < 4096) (hq : Q (b2i (pts (S.2.2.1 9) (S.2.2.1 14) t v)) S) : Cn G (d + 2) mX3_parts [.ref (G.2.1 5), .int (nI v), .int (nI t)] S (qi Q) := by
  refine Cn.intro (lv := [(0, .ref (G.2.1 5)), (1, .int (nI v)), (2, .int (nI t))]) (by decide) (Nat.le_of_ble_eq_true rfl) rfl ?_
  obtain ⟨h, hh, eh⟩ := hH.2 v hv
  have hNv : hN (S.2.2.1 9) v = h := by unfold hN; rw [eh, nI_clamp (by omega)]
  have hal : t &&& h ≤ t := Nat.and_le_left
  refine V_iload_n dX3_parts_0 rfl 2 rfl ?_
  refine V_aload_n dX3_parts_1 rfl 0 rfl ?_
  refine g_5_0 tw_132 dX3_parts_2 ?_
  refine g_1_1 tw_35 dX3_parts_5 ?_
  refine V_iload_n dX3_parts_8 rfl 1 rfl ?_
  refine l_9n (by omega) dX3_parts_9 ?_
  refine V_topi (v := nI h) (id eh) ?_
  refine V_iand dX3_parts_10 ?_
  refine V_topi (v := nI (t &&& h)) (nI_and _ _) ?_
  refine V_istore_n [(3, .int (nI (t &&& h))), (0, .ref (G.2.1 5)), (1, .int (nI v)), (2, .int (nI t))] dX3_parts_11 rfl (Nat.le_of_ble_eq_true rfl) rfl ?_
  refine V_aload_n dX3_parts_12 rfl 1 rfl ?_
  refine g_5_0 tw_132 dX3_parts_13 ?_
  refine V_iload_n dX3_parts_16 rfl 2 rfl ?_
  refine V_cVi (P := pM G (d + 2) mX3_parts _) (d := d + 1) 1 (r := []) (As := [.int (nI v)]) (K := mX1_hears) ok_X1_hears tw_451 (ob_1 _) rfl (rmOk (Nat.le_of_ble_eq_true rfl)) (Nat.le_of_ble_eq_true rfl) dX3_parts_17 rfl (c_X1_hears hH.1 h12 ?_)
  refine V_topi (v := b2i (decide (S.2.2.1 14 v = 0))) (by rw [hrs_j hv h12]) ?_
  refine V_ifb_eq 36 dX3_parts_20 (by decide) (fun h1 => ?_) (fun h1 => ?_)
  · refine V_iconst (v := 0) dX3_parts_36 ki_0 ?_
    refine V_zret rfl dX3_parts_37 rfl ⟨_, rfl, ?_⟩
    exact qcast hq (by unfold pts; rw [h1]; rfl)
  · refine V_iload_n dX3_parts_23 rfl 0 rfl ?_
    refine V_if_eqn 36 (a := (t &&& h)) dX3_parts_24 (by decide) (by omega) (fun h2 => ?_) (fun h2 => ?_)
    · refine V_iconst (v := 0) dX3_parts_36 ki_0 ?_
      refine V_zret rfl dX3_parts_37 rfl ⟨_, rfl, ?_⟩
      exact qcast hq (by unfold pts; rw [h1, hNv, decide_eq_false (fun z => z h2)]; rfl)
    · refine V_iload_n dX3_parts_27 rfl 0 rfl ?_
      refine V_iload_n dX3_parts_28 rfl 3 rfl ?_
      refine V_icmp_eqn 36 (a := (t &&& h)) (b := t) dX3_parts_29 (by decide) (by omega) (by omega) (fun h3 => ?_) (fun h3 => ?_)
      · refine V_iconst (v := 0) dX3_parts_36 ki_0 ?_
        refine V_zret rfl dX3_parts_37 rfl ⟨_, rfl, ?_⟩
        exact qcast hq (by unfold pts; rw [h1, hNv, decide_eq_true (show ¬ t &&& h = 0 by omega), decide_eq_false (fun z => z (of_decide_eq_true ((sub_and ht).mpr h3)))]; rfl)
      · refine V_iconst (v := 1) dX3_parts_32 ki_1 ?_
        refine V_goto 37 dX3_parts_33 (by decide) ?_
        refine V_zret rfl dX3_parts_37 rfl ⟨_, rfl, ?_⟩
        exact qcast hq (by unfold pts; rw [h1, hNv, decide_eq_true (show ¬ t &&& h = 0 by omega), decide_eq_true (show ¬ nd t h = 0 from fun z => h3 ((sub_and ht).mp (decide_eq_true z)))]; rfl)
