def frs (o : Option (Nat × Nat)) : Int32 := match o with
  | none => -6
  | some q => nI q.2
def FrR (k r : Nat) (S0 S : ST) : Prop := (∀ i, i ≠ k → S.1 i = S0.1 i) ∧ S.2.1 = S0.2.1 ∧ (∀ c, c ≠ r → S.2.2.1 c = S0.2.2.1 c) ∧ S.2.2.2 = S0.2.2.2
theorem FrR.k {k r : Nat} {A B C : ST} (h : FrR k r A B) (g : FrK r B C) : FrR k r A C := ⟨fun i hi => by rw [g.1]; exact h.1 i hi, g.2.1.trans h.2.1, fun c a => (g.2.2.1 c a).trans (h.2.2.1 c a), g.2.2.2.trans h.2.2.2⟩
theorem FrR.rf (k r : Nat) (S : ST) : FrR k r S S := ⟨fun _ _ => rfl, rfl, fun _ _ => rfl, rfl⟩
theorem PK.base {bc : Bool} {A B : ST} {n : Nat} {f : Nat → Int32} (h : PK bc A n f) (h1 : B.2.2.1 9 = A.2.2.1 9) (h2 : B.2.2.1 14 = A.2.2.1 14) (h3 : B.2.2.1 12 = A.2.2.1 12) (h4 : B.2.2.1 11 = A.2.2.1 11) : PK bc B n f := by
  unfold PK at *
  rw [h1, h2, h3, h4]
  exact h
theorem EV.mv {A B : ST} {n : Nat} (h : EV A n) (h0 : B.1 0 = A.1 0) (h1 : B.2.2.1 9 = A.2.2.1 9) (h3 : B.2.2.1 12 = A.2.2.1 12) (h4 : B.2.2.1 11 = A.2.2.1 11) : EV B n := by
  unfold EV HS at *
  rw [h0, h1, h3, h4]
  exact h
/-- a set of no other changes, asked in two ways -/
theorem set_ok {n : Nat} (hn : n ≤ 12) {s : Int32} : (s &&& ((((1 : Int32) <<< (nI n &&& 31)) - 1) ^^^ (-1))) = 0 ↔ fr s 0 ((1 : Int32) <<< (nI n &&& 31) - 1) = true := by
  have e : ((1 : Int32) <<< (nI n &&& 31)) - 1 = nI (2 ^ n - 1) := by
    rw [sh1n n hn]
    exact pk_sub (b := 1) (Nat.one_le_two_pow)
  have h2 := p2_le hn
  have hp : 1 ≤ 2 ^ n := Nat.one_le_two_pow
  rw [e]
  constructor
  · intro h
    have hb : ∀ i, i < 32 → n ≤ i → bt s i = false := by
      intro i hi hni
      have z := congrArg (fun x => bt x i) h
      simp only [b_and, b_xor, b_m1 i hi, bt_eq hi, b_0] at z
      rw [Nat.testBit_two_pow_sub_one, decide_eq_false (by omega)] at z
      simpa using z
    have hs : s = nI (s.toBitVec.toNat) := by
      apply Int32.toBitVec_inj.mp
      show _ = BitVec.ofNat 32 _
      simp
    have hl : s.toBitVec.toNat < 2 ^ n := by
      refine nt_lt (fun i hi => ?_)
      rcases Nat.lt_or_ge i 32 with z | z
      · exact hb i z hi
      · exact Nat.testBit_lt_two_pow (Nat.lt_of_lt_of_le s.toBitVec.isLt (Nat.pow_le_pow_right (n := 2) (by decide) z))
    rw [hs, fr_t]
    exact ⟨nI_pos' (by omega), (nI_leI (by omega) (by omega)).mpr (by omega)⟩
  · intro h
    obtain ⟨h3, h4⟩ := fr_t.mp h
    obtain ⟨j, hj, rfl⟩ := nI_of (Int32.not_lt.mpr h3)
    have h5 := (nI_leI hj (by omega)).mp h4
    rw [nI_nd _ (by omega)]
    have : nd j (2 ^ n - 1) = 0 := by
      apply Nat.eq_of_testBit_eq
      intro i
      rw [nd_tb _ i (by omega), Nat.testBit_two_pow_sub_one, Nat.zero_testBit]
      by_cases hi : i < n
      · simp [hi]
      · rw [Nat.testBit_lt_two_pow (Nat.lt_of_lt_of_le (show j < 2 ^ n by omega) (Nat.pow_le_pow_right (n := 2) (by decide) (show n ≤ i by omega)))]
        rfl
    rw [this]; rfl
theorem set_ex {n : Nat} (hn : n ≤ 12) {s : Int32} (h : fr s 0 ((1 : Int32) <<< (nI n &&& 31) - 1) = true) : ∃ t, t < 2 ^ n ∧ s = nI t := by
  have h2 := p2_le hn
  have hp : 1 ≤ 2 ^ n := Nat.one_le_two_pow
  have e : ((1 : Int32) <<< (nI n &&& 31)) - 1 = nI (2 ^ n - 1) := by
    rw [sh1n n hn]
    exact pk_sub (b := 1) (Nat.one_le_two_pow)
  rw [e] at h
  obtain ⟨h3, h4⟩ := fr_t.mp h
  obtain ⟨j, hj, rfl⟩ := nI_of (Int32.not_lt.mpr h3)
  exact ⟨j, by have := (nI_leI hj (by omega)).mp h4; omega, rfl⟩
def parR (n : Nat) (s w : Int32) (f : Nat → Option (Nat × Nat)) : Int32 := if fr s 0 ((1 : Int32) <<< (nI n &&& 31) - 1) = true ∧ fr w 0 1 = true then (if w = 0 then nI (pz (f s.toNatClampNeg)) else frs (f s.toNatClampNeg)) else -2
theorem fl_0_21 (S : ST) (x : Int32) : setAr S 21 (fun j => if j < 0 then x else S.2.2.1 21 j) = S := by
  rw [show (fun j => if j < 0 then x else S.2.2.1 21 j) = S.2.2.1 21 from funext (fun j => if_neg (Nat.not_lt_zero j))]
  exact setAr_id S 21
theorem fl_s_21 (S : ST) (x : Int32) (i : Nat) : setA (setAr S 21 (fun j => if j < i then x else S.2.2.1 21 j)) 21 i x = setAr S 21 (fun j => if j < i + 1 then x else S.2.2.1 21 j) := by
  rw [setA_Ar]
  congr 1
  funext j
  unfold upd
  by_cases e : j = i
  · subst e; rw [if_pos rfl, if_pos (Nat.lt_succ_self j)]
  · rw [if_neg e]
    by_cases h : j < i
    · show (if j < i then _ else _) = _
      rw [if_pos h, if_pos (by omega)]
    · show (if j < i then _ else _) = _
      rw [if_neg h, if_neg (by omega)]
theorem lp_fill_21 {G : GX} {d : Nat} {x : Int32} {S : ST} {Q : ST → Prop} (hq : Q (setAr S 21 (fun j => if j < 4096 then x else S.2.2.1 21 j))) : ∀ (k i : Nat), i ≤ 4096 → 4096 - i < k → V (pM G d mJ7_fill_53178 (qv Q)) 5 [(2, .int (nI i)), (3, .int 4096), (0, .ref (G.2.1 21)), (1, .int x)] [] (setAr S 21 (fun j => if j < i then x else S.2.2.1 21 j)) := by
  intro k
  induction k with
  | zero => intro i hi hk; exact absurd hk (Nat.not_lt_zero _)
  | succ k ih =>
    intro i hi hk
    refine V_iload_n dJ7_fill_53178_5 rfl 0 rfl ?_
    refine V_iload_n dJ7_fill_53178_6 rfl 1 rfl ?_
    refine V_icmp_gen 20 (a := i) (b := 4096) dJ7_fill_53178_7 (by decide) (by omega) (by omega) (fun h1 => ?_) (fun h1 => ?_)
    · have hin : i = 4096 := by omega
      subst hin
      exact V_vret rfl dJ7_fill_53178_20 ⟨rfl, hq⟩
    · refine V_aload_n dJ7_fill_53178_10 rfl 2 rfl ?_
      refine V_iload_n dJ7_fill_53178_11 rfl 0 rfl ?_
      refine V_iload_n dJ7_fill_53178_12 rfl 3 rfl ?_
      refine s_21n (by omega) dJ7_fill_53178_13 ?_
      refine V_iinc [(2, .int (nI (i + 1))), (3, .int 4096), (0, .ref (G.2.1 21)), (1, .int x)] dJ7_fill_53178_14 0 rfl (nI_1 _) (Nat.le_of_ble_eq_true rfl) rfl ?_
      refine V_goto 5 dJ7_fill_53178_17 (by decide) ?_
      refine V_lv [(2, .int (nI (i + 1))), (3, .int 4096), (0, .ref (G.2.1 21)), (1, .int x)] [0, 1, 2, 3] rfl ?_
      refine V_S (S2 := setAr S 21 (fun j => if j < (i + 1) then x else S.2.2.1 21 j)) (fl_s_21 S x i) ?_
      exact ih (i + 1) (by omega) (by omega)
theorem c_fill_21 {G : GX} {d : Nat} {S : ST} {x : Int32} {Q : ST → Prop}  (hq : Q (setAr S 21 (fun j => if j < 4096 then x else S.2.2.1 21 j))) : Cn G d mJ7_fill_53178 [.ref (G.2.1 21), .int x] S (qv Q) := by
  refine Cn.intro (lv := [(0, .ref (G.2.1 21)), (1, .int x)]) (by decide) (Nat.le_of_ble_eq_true rfl) rfl ?_
  refine V_iconst (v := 0) dJ7_fill_53178_0 ki_0 ?_
  refine V_istore_n [(2, .int 0), (0, .ref (G.2.1 21)), (1, .int x)] dJ7_fill_53178_1 rfl (Nat.le_of_ble_eq_true rfl) rfl ?_
  refine V_aload_n dJ7_fill_53178_2 rfl 1 rfl ?_
  refine n_21 dJ7_fill_53178_3 ?_
  refine V_istore_n [(3, .int 4096), (2, .int 0), (0, .ref (G.2.1 21)), (1, .int x)] dJ7_fill_53178_4 rfl (Nat.le_of_ble_eq_true rfl) rfl ?_
  refine V_lv [(2, .int 0), (3, .int 4096), (0, .ref (G.2.1 21)), (1, .int x)] [1, 0, 2, 3] rfl ?_
  refine V_lveq [(2, .int (nI 0)), (3, .int 4096), (0, .ref (G.2.1 21)), (1, .int x)] (by rfl) ?_
  refine V_S (S2 := setAr S 21 (fun j => if j < 0 then x else S.2.2.1 21 j)) ((fl_0_21 S x).symm) ?_
  exact lp_fill_21 hq 4097 0 (by omega) (by omega)
theorem c_X3_refresh_4 {G : GX} {d : Nat} {S : ST} {n : Nat} {Q : ST → Prop} (hK : S.1 3 = 0 → PK false S n (S.2.2.1 21)) (hq : ∀ S2, FrR 3 21 S S2 → S2.1 3 = 0 → PK false S2 n (S2.2.2.1 21) → Q S2) : Cn G (d + 1) mX3_refresh [.ref (G.2.1 4)] S (qv Q) := by
  refine Cn.intro (lv := [(0, .ref (G.2.1 4))]) (by decide) (Nat.le_of_ble_eq_true rfl) rfl ?_
  refine V_aload_n dX3_refresh_0 rfl 0 rfl ?_
  refine g_4_3 tw_135 dX3_refresh_1 ?_
  refine V_if_eq 20 dX3_refresh_4 (by decide) (fun h1 => ?_) (fun h1 => ?_)
  · exact V_vret rfl dX3_refresh_20 ⟨rfl, hq S (FrR.rf _ _ S) h1 (hK h1)⟩
  · refine V_aload_n dX3_refresh_7 rfl 0 rfl ?_
    refine g_4_2 tw_134 dX3_refresh_8 ?_
    refine V_iconst (v := 0) dX3_refresh_11 ki_0 ?_
    refine V_cSv (P := pM G (d + 1) mX3_refresh _) (d := d) (r := []) (As := [.ref (G.2.1 21), .int 0]) (K := mJ7_fill_53178) ok_J7_fill_53178 tw_439 rfl (rmOk (Nat.le_of_ble_eq_true rfl)) (Nat.le_of_ble_eq_true rfl) dX3_refresh_12 rfl (c_fill_21 ?_)
    refine V_aload_n dX3_refresh_15 rfl 0 rfl ?_
    refine V_iconst (v := 0) dX3_refresh_16 ki_0 ?_
    refine p_4_3 (by decide) tw_135 dX3_refresh_17 ?_
    exact V_vret rfl dX3_refresh_20 ⟨rfl, hq _ ⟨fun i hi => by simp [setI, setAr, va_up, hi], rfl, fun c hc => by simp [setI, setAr, va_up, hc], rfl⟩ rfl (fun t ht => Or.inl (if_pos ht))⟩
theorem pa_12_4 {G : GX} {d n t : Nat} {S0 S : ST} {Q : Int32 → ST → Prop} (hE : EV S0 n) (h12 : n ≤ 12) (ht : t < 4096) (hF : FrK 21 S0 S) (hK : PK false S0 n (S.2.2.1 21)) (hq : ∀ S2, FrK 21 S0 S2 → PK false S0 n (S2.2.2.1 21) → Q (nI (pz (PR false (S0.2.2.1 9) (S0.2.2.1 14) (S0.2.2.1 12) (S0.2.2.1 11) n t))) S2) : Cn G (d + 27) mX3_priceAt [.ref (G.2.1 4), .int (nI t), .int (nI 0)] S (qi Q) := pa_all_4 (d := d) hE h12 12 t 0 S Q ht (pop_le t) (pop_le t) hF hK hq
theorem pb_12_4 {G : GX} {d n t v : Nat} {S0 S : ST} {Q : Int32 → ST → Prop} (hE : EV S0 n) (h12 : n ≤ 12) (ht : t < 4096) (hv : v < n) (hp : pts (S0.2.2.1 9) (S0.2.2.1 14) t v = true) (hF : FrK 21 S0 S) (hK : PK false S0 n (S.2.2.1 21)) (hq : ∀ S2, FrK 21 S0 S2 → PK false S0 n (S2.2.2.1 21) → Q (nI (gvv false (S0.2.2.1 9) (S0.2.2.1 14) (S0.2.2.1 12) (S0.2.2.1 11) n t v)) S2) : Cn G (d + 28) mX3_priceBy [.ref (G.2.1 4), .int (nI v), .int (nI t), .int (nI 0)] S (qi Q) := c_pb_4 (d := d + 24) hE h12 ht hv hp (by omega) hF hK (fun t2 S Q2 h1 h2 h3 h4 h5 => pa_all_4 (d := d) hE h12 12 t2 1 S Q2 h1 (pop_le t2) (by have := pop_le t; omega) h3 h4 h5) hq
theorem c_X3_price_4 {G : GX} {d : Nat} {S : ST} {n t : Nat} {Q : Int32 → ST → Prop} (hE : EV S n) (h12 : n ≤ 12) (ht : t < 4096) (hK : S.1 3 = 0 → PK false S n (S.2.2.1 21)) (hq : ∀ S2, FrR 3 21 S S2 → S2.1 3 = 0 → PK false S2 n (S2.2.2.1 21) → Q (nI (pz (PR false (S.2.2.1 9) (S.2.2.1 14) (S.2.2.1 12) (S.2.2.1 11) n t))) S2) : Cn G (d + 29) mX3_price [.ref (G.2.1 4), .int (nI t)] S (qi Q) := by
  refine Cn.intro (lv := [(0, .ref (G.2.1 4)), (1, .int (nI t))]) (by decide) (Nat.le_of_ble_eq_true rfl) rfl ?_
  refine V_aload_n dX3_price_0 rfl 0 rfl ?_
  refine V_cVv (P := pM G (d + 29) mX3_price _) (d := d + 28) 4 (r := []) (As := []) (K := mX3_refresh) ok_X3_refresh tw_435 (ob_4 _) rfl (rmOk (Nat.le_of_ble_eq_true rfl)) (Nat.le_of_ble_eq_true rfl) dX3_price_1 rfl (c_X3_refresh_4 (n := n) hK (fun S2 hR hz hK2 => ?_))
  have hE2 : EV S2 n := hE.mv (hR.1 0 (by decide)) (hR.2.2.1 9 (by decide)) (hR.2.2.1 12 (by decide)) (hR.2.2.1 11 (by decide))
  have eR : ∀ x, PR false (S2.2.2.1 9) (S2.2.2.1 14) (S2.2.2.1 12) (S2.2.2.1 11) n x = PR false (S.2.2.1 9) (S.2.2.1 14) (S.2.2.1 12) (S.2.2.1 11) n x := fun x => by rw [hR.2.2.1 9 (by decide), hR.2.2.1 14 (by decide), hR.2.2.1 12 (by decide), hR.2.2.1 11 (by decide)]
  refine V_aload_n dX3_price_4 rfl 0 rfl ?_
  refine V_iload_n dX3_price_5 rfl 1 rfl ?_
  refine V_iconst (v := 0) dX3_price_6 ki_0 ?_
  refine V_topi (v := nI 0) rfl ?_
  refine V_cVi (P := pM G (d + 29) mX3_price _) (d := d + 28) 4 (r := []) (As := [.int (nI t), .int (nI 0)]) (K := mX3_priceAt) ok_X3_priceAt tw_442 (ob_4 _) rfl (rmOk (Nat.le_of_ble_eq_true rfl)) (Nat.le_of_ble_eq_true rfl) dX3_price_7 rfl (pa_12_4 (d := d + 1) hE2 h12 ht (FrK.rf _ S2) hK2 (fun S3 hF3 hK3 => ?_))
  refine V_topi (v := nI (pz (PR false (S.2.2.1 9) (S.2.2.1 14) (S.2.2.1 12) (S.2.2.1 11) n t))) (by rw [eR]) ?_
  exact V_iret rfl dX3_price_10 ⟨_, rfl, hq S3 (hR.k hF3) (by rw [hF3.1]; exact hz) (hK3.base (hF3.2.2.1 9 (by decide)) (hF3.2.2.1 14 (by decide)) (hF3.2.2.1 12 (by decide)) (hF3.2.2.1 11 (by decide)))⟩
theorem lp_st_4 {G : GX} {d n t : Nat} {S0 : ST} {Q : Int32 → ST → Prop} (hE : EV S0 n) (h12 : n ≤ 12) (ht : t < 4096) (hq : ∀ S2, FrK 21 S0 S2 → PK false S0 n (S2.2.2.1 21) → Q (frs (PR false (S0.2.2.1 9) (S0.2.2.1 14) (S0.2.2.1 12) (S0.2.2.1 11) n t)) S2) : ∀ (k v : Nat) (S : ST), v ≤ n → n - v < k → FrK 21 S0 S → PK false S0 n (S.2.2.1 21) → (∀ u, u < v → pts (S0.2.2.1 9) (S0.2.2.1 14) t u = true → gvv false (S0.2.2.1 9) (S0.2.2.1 14) (S0.2.2.1 12) (S0.2.2.1 11) n t u ≠ pz (PR false (S0.2.2.1 9) (S0.2.2.1 14) (S0.2.2.1 12) (S0.2.2.1 11) n t)) → V (pM G (d + 29) mX3_start (qi Q)) 13 [(3, .int (nI v)), (2, .int (nI (pz (PR false (S0.2.2.1 9) (S0.2.2.1 14) (S0.2.2.1 12) (S0.2.2.1 11) n t)))), (0, .ref (G.2.1 4)), (1, .int (nI t))] [] S := by
  intro k
  induction k with
  | zero => intro v S hv hk; exact absurd hk (Nat.not_lt_zero _)
  | succ k ih =>
    intro v S hv hk hF hK hI
    have hn : S.1 0 = nI n := by rw [hF.1]; exact hE.1.1
    have hpb := PR_b2 (bc := false) (ho := S0.2.2.1 9) (df := S0.2.2.1 14) hE.2.1 hE.2.2 h12 ht
    refine V_iload_n dX3_start_13 rfl 0 rfl ?_
    refine V_aload_n dX3_start_14 rfl 2 rfl ?_
    refine g_4_0 tw_132 dX3_start_15 ?_
    refine g_1_0 tw_31 dX3_start_18 ?_
    refine V_topi (v := nI n) (id hn) ?_
    refine V_icmp_gen 52 (a := v) (b := n) dX3_start_21 (by decide) (by omega) (by omega) (fun h1 => ?_) (fun h1 => ?_)
    · refine V_bipush (v := -6) dX3_start_52 kb_m6 ?_
      have hin : v = n := by omega
      subst hin
      refine V_iret rfl dX3_start_54 ⟨_, rfl, qcast (hq S hF hK) ?_⟩
      rcases hm : PR false (S0.2.2.1 9) (S0.2.2.1 14) (S0.2.2.1 12) (S0.2.2.1 11) v t with _ | q
      · rfl
      · have hb := mf_b (by rw [PR_eq ht] at hm; exact hm)
        refine absurd ?_ (hI q.2 hb.1 hb.2.1)
        rw [hm]; exact hb.2.2.1.symm
    · refine V_aload_n dX3_start_24 rfl 2 rfl ?_
      refine V_iload_n dX3_start_25 rfl 0 rfl ?_
      refine V_iload_n dX3_start_26 rfl 3 rfl ?_
      refine V_cVi (P := pM G (d + 29) mX3_start _) (d := d + 28) 4 (r := []) (As := [.int (nI v), .int (nI t)]) (K := mX3_parts) ok_X3_parts tw_447 (ob_4 _) rfl (rmOk (Nat.le_of_ble_eq_true rfl)) (Nat.le_of_ble_eq_true rfl) dX3_start_27 rfl (c_X3_parts_4 (n := n) (by unfold HS; rw [hF.1, hF.2.2.1 9 (by decide)]; exact hE.1) h12 (by omega) ht ?_)
      refine V_topi (v := b2i (pts (S0.2.2.1 9) (S0.2.2.1 14) t v)) (by rw [hF.2.2.1 9 (by decide), hF.2.2.1 14 (by decide)]) ?_
      refine V_ifb_eq 46 dX3_start_30 (by decide) (fun h2 => ?_) (fun h2 => ?_)
      · refine V_iinc [(3, .int (nI (v + 1))), (2, .int (nI (pz (PR false (S0.2.2.1 9) (S0.2.2.1 14) (S0.2.2.1 12) (S0.2.2.1 11) n t)))), (0, .ref (G.2.1 4)), (1, .int (nI t))] dX3_start_46 0 rfl (nI_1 _) (Nat.le_of_ble_eq_true rfl) rfl ?_
        refine V_goto 13 dX3_start_49 (by decide) ?_
        refine V_lv [(3, .int (nI (v + 1))), (2, .int (nI (pz (PR false (S0.2.2.1 9) (S0.2.2.1 14) (S0.2.2.1 12) (S0.2.2.1 11) n t)))), (0, .ref (G.2.1 4)), (1, .int (nI t))] [0, 1, 2, 3] rfl ?_
        exact ih (v + 1) S (by omega) (by omega) hF hK (fun u hu hu2 => by rcases (show u < v ∨ u = v by omega) with z | z; exact hI u z hu2; rw [z, h2] at hu2; cases hu2)
      · refine V_aload_n dX3_start_33 rfl 2 rfl ?_
        refine V_iload_n dX3_start_34 rfl 0 rfl ?_
        refine V_iload_n dX3_start_35 rfl 3 rfl ?_
        refine V_iconst (v := 0) dX3_start_36 ki_0 ?_
        refine V_topi (v := nI 0) rfl ?_
        refine V_cVi (P := pM G (d + 29) mX3_start _) (d := d + 28) 4 (r := []) (As := [.int (nI v), .int (nI t), .int (nI 0)]) (K := mX3_priceBy) ok_X3_priceBy tw_452 (ob_4 _) rfl (rmOk (Nat.le_of_ble_eq_true rfl)) (Nat.le_of_ble_eq_true rfl) dX3_start_37 rfl (pb_12_4 hE h12 ht h1 h2 hF hK (fun S2 hF2 hK2 => ?_))
        have hgb := gvv_b (bc := false) hE.2.1 hE.2.2 h12 ht h1 h2
        refine V_iload_n dX3_start_40 rfl 1 rfl ?_
        refine V_icmp_nen 46 (a := (gvv false (S0.2.2.1 9) (S0.2.2.1 14) (S0.2.2.1 12) (S0.2.2.1 11) n t v)) (b := (pz (PR false (S0.2.2.1 9) (S0.2.2.1 14) (S0.2.2.1 12) (S0.2.2.1 11) n t))) dX3_start_41 (by decide) (by omega) (by omega) (fun h3 => ?_) (fun h3 => ?_)
        · refine V_iinc [(3, .int (nI (v + 1))), (2, .int (nI (pz (PR false (S0.2.2.1 9) (S0.2.2.1 14) (S0.2.2.1 12) (S0.2.2.1 11) n t)))), (0, .ref (G.2.1 4)), (1, .int (nI t))] dX3_start_46 0 rfl (nI_1 _) (Nat.le_of_ble_eq_true rfl) rfl ?_
          refine V_goto 13 dX3_start_49 (by decide) ?_
          refine V_lv [(3, .int (nI (v + 1))), (2, .int (nI (pz (PR false (S0.2.2.1 9) (S0.2.2.1 14) (S0.2.2.1 12) (S0.2.2.1 11) n t)))), (0, .ref (G.2.1 4)), (1, .int (nI t))] [0, 1, 2, 3] rfl ?_
          exact ih (v + 1) S2 (by omega) (by omega) hF2 hK2 (fun u hu hu2 => by rcases (show u < v ∨ u = v by omega) with z | z; exact hI u z hu2; rw [z]; exact h3)
        · refine V_iload_n dX3_start_44 rfl 0 rfl ?_
          refine V_iret rfl dX3_start_45 ⟨_, rfl, qcast (hq S2 hF2 hK2) ?_⟩
          rcases hm : PR false (S0.2.2.1 9) (S0.2.2.1 14) (S0.2.2.1 12) (S0.2.2.1 11) n t with _ | q
          · rw [PR_eq ht] at hm
            have := mf_no hm v h1
            rw [h2] at this; cases this
          · have hb := mf_b (by rw [PR_eq ht] at hm; exact hm)
            rw [hm] at hI h3
            have hp1 : pz (some q) = q.1 := rfl
            rw [hp1] at hI h3
            rcases (show v < q.2 ∨ v = q.2 ∨ q.2 < v by omega) with z | z | z
            · have := hb.2.2.2.2 v z h2
              omega
            · rw [z]; rfl
            · exact absurd hb.2.2.1.symm (hI q.2 z hb.2.1)
theorem c_X3_start_4 {G : GX} {d : Nat} {S : ST} {n t : Nat} {Q : Int32 → ST → Prop} (hE : EV S n) (h12 : n ≤ 12) (ht : t < 4096) (hK : S.1 3 = 0 → PK false S n (S.2.2.1 21)) (hq : ∀ S2, FrR 3 21 S S2 → S2.1 3 = 0 → PK false S2 n (S2.2.2.1 21) → Q (frs (PR false (S.2.2.1 9) (S.2.2.1 14) (S.2.2.1 12) (S.2.2.1 11) n t)) S2) : Cn G (d + 29) mX3_start [.ref (G.2.1 4), .int (nI t)] S (qi Q) := by
  refine Cn.intro (lv := [(0, .ref (G.2.1 4)), (1, .int (nI t))]) (by decide) (Nat.le_of_ble_eq_true rfl) rfl ?_
  refine V_aload_n dX3_start_0 rfl 0 rfl ?_
  refine V_cVv (P := pM G (d + 29) mX3_start _) (d := d + 28) 4 (r := []) (As := []) (K := mX3_refresh) ok_X3_refresh tw_435 (ob_4 _) rfl (rmOk (Nat.le_of_ble_eq_true rfl)) (Nat.le_of_ble_eq_true rfl) dX3_start_1 rfl (c_X3_refresh_4 (n := n) hK (fun S2 hR hz hK2 => ?_))
  have hE2 : EV S2 n := hE.mv (hR.1 0 (by decide)) (hR.2.2.1 9 (by decide)) (hR.2.2.1 12 (by decide)) (hR.2.2.1 11 (by decide))
  have eR : ∀ x, PR false (S2.2.2.1 9) (S2.2.2.1 14) (S2.2.2.1 12) (S2.2.2.1 11) n x = PR false (S.2.2.1 9) (S.2.2.1 14) (S.2.2.1 12) (S.2.2.1 11) n x := fun x => by rw [hR.2.2.1 9 (by decide), hR.2.2.1 14 (by decide), hR.2.2.1 12 (by decide), hR.2.2.1 11 (by decide)]
  refine V_aload_n dX3_start_4 rfl 0 rfl ?_
  refine V_iload_n dX3_start_5 rfl 1 rfl ?_
  refine V_iconst (v := 0) dX3_start_6 ki_0 ?_
  refine V_topi (v := nI 0) rfl ?_
  refine V_cVi (P := pM G (d + 29) mX3_start _) (d := d + 28) 4 (r := []) (As := [.int (nI t), .int (nI 0)]) (K := mX3_priceAt) ok_X3_priceAt tw_442 (ob_4 _) rfl (rmOk (Nat.le_of_ble_eq_true rfl)) (Nat.le_of_ble_eq_true rfl) dX3_start_7 rfl (pa_12_4 (d := d + 1) hE2 h12 ht (FrK.rf _ S2) hK2 (fun S3 hF3 hK3 => ?_))
  refine V_topi (v := nI (pz (PR false (S.2.2.1 9) (S.2.2.1 14) (S.2.2.1 12) (S.2.2.1 11) n t))) (by rw [eR]) ?_
  refine V_istore_n [(2, .int (nI (pz (PR false (S.2.2.1 9) (S.2.2.1 14) (S.2.2.1 12) (S.2.2.1 11) n t)))), (0, .ref (G.2.1 4)), (1, .int (nI t))] dX3_start_10 rfl (Nat.le_of_ble_eq_true rfl) rfl ?_
  refine V_iconst (v := 0) dX3_start_11 ki_0 ?_
  refine V_istore_n [(3, .int 0), (2, .int (nI (pz (PR false (S.2.2.1 9) (S.2.2.1 14) (S.2.2.1 12) (S.2.2.1 11) n t)))), (0, .ref (G.2.1 4)), (1, .int (nI t))] dX3_start_12 rfl (Nat.le_of_ble_eq_true rfl) rfl ?_
  refine V_lv [(3, .int 0), (2, .int (nI (pz (PR false (S.2.2.1 9) (S.2.2.1 14) (S.2.2.1 12) (S.2.2.1 11) n t)))), (0, .ref (G.2.1 4)), (1, .int (nI t))] [0, 1, 2, 3] rfl ?_
  refine V_lveq [(3, .int (nI 0)), (2, .int (nI (pz (PR false (S2.2.2.1 9) (S2.2.2.1 14) (S2.2.2.1 12) (S2.2.2.1 11) n t)))), (0, .ref (G.2.1 4)), (1, .int (nI t))] (by rw [eR]; rfl) ?_
  exact lp_st_4 hE2 h12 ht (fun S4 hF4 hK4 => qcast (hq S4 (hR.k hF4) (by rw [hF4.1]; exact hz) (hK4.base (hF4.2.2.1 9 (by decide)) (hF4.2.2.1 14 (by decide)) (hF4.2.2.1 12 (by decide)) (hF4.2.2.1 11 (by decide)))) (by rw [eR])) (n + 1) 0 S3 (by omega) (by omega) hF3 hK3 (fun u hu => absurd hu (Nat.not_lt_zero _))
theorem c_X7_parting_4 {G : GX} {d : Nat} {S : ST} {n : Nat} {s w : Int32} {Q : Int32 → ST → Prop} (hE : EV S n) (h12 : n ≤ 12) (hK : S.1 3 = 0 → PK false S n (S.2.2.1 21)) (hq : (¬ (fr s 0 ((1 : Int32) <<< (nI n &&& 31) - 1) = true ∧ fr w 0 1 = true) → Q (-2) S) ∧ ((fr s 0 ((1 : Int32) <<< (nI n &&& 31) - 1) = true ∧ fr w 0 1 = true) → ∀ S2, FrR 3 21 S S2 → S2.1 3 = 0 → PK false S2 n (S2.2.2.1 21) → Q (parR n s w (PR false (S.2.2.1 9) (S.2.2.1 14) (S.2.2.1 12) (S.2.2.1 11) n)) S2)) : Cn G (d + 30) mX7_parting [.ref (G.2.1 0), .ref (G.2.1 4), .int s, .int w] S (qi Q) := by
  refine Cn.intro (lv := [(0, .ref (G.2.1 0)), (1, .ref (G.2.1 4)), (2, .int s), (3, .int w)]) (by decide) (Nat.le_of_ble_eq_true rfl) rfl ?_
  refine V_iload_n dX7_parting_0 rfl 2 rfl ?_
  refine V_aload_n dX7_parting_1 rfl 0 rfl ?_
  refine g_0_0 tw_203 dX7_parting_2 ?_
  refine V_cVi (P := pM G (d + 30) mX7_parting _) (d := d + 29) 1 (r := [.int s]) (As := []) (K := mX1_everyVersion) ok_X1_everyVersion tw_427 (ob_1 _) rfl (rmOk (Nat.le_of_ble_eq_true rfl)) (Nat.le_of_ble_eq_true rfl) dX7_parting_5 rfl (c_X1_everyVersion hE.1.1 ?_)
  refine V_iconst (v := -1) dX7_parting_8 ki_m1 ?_
  refine V_ixor dX7_parting_9 ?_
  refine V_iand dX7_parting_10 ?_
  refine V_if_ne 23 dX7_parting_11 (by decide) (fun h1 => ?_) (fun h1 => ?_)
  · refine V_bipush (v := -2) dX7_parting_23 kb_m2 ?_
    exact V_iret rfl dX7_parting_25 ⟨_, rfl, (hq.1 (fun z => h1 ((set_ok h12).mpr z.1)))⟩
  · refine V_iload_n dX7_parting_14 rfl 3 rfl ?_
    refine V_iconst (v := 0) dX7_parting_15 ki_0 ?_
    refine V_iconst (v := 1) dX7_parting_16 ki_1 ?_
    refine V_cSi (P := pM G (d + 30) mX7_parting _) (d := d + 29) (r := []) (As := [.int w, .int 0, .int 1]) (K := mX7_isFrom) ok_X7_isFrom tw_240 rfl (rmOk (Nat.le_of_ble_eq_true rfl)) (Nat.le_of_ble_eq_true rfl) dX7_parting_17 rfl (c_X7_isFrom ?_)
    refine V_ifb_ne 26 dX7_parting_20 (by decide) (fun h2 => ?_) (fun h2 => ?_)
    · obtain ⟨t, ht2, rfl⟩ := set_ex h12 ((set_ok h12).mp h1)
      have ht : t < 4096 := Nat.lt_of_lt_of_le ht2 (p2_le h12)
      refine V_iload_n dX7_parting_26 rfl 3 rfl ?_
      refine V_if_ne 38 dX7_parting_27 (by decide) (fun h3 => ?_) (fun h3 => ?_)
      · refine V_aload_n dX7_parting_38 rfl 1 rfl ?_
        refine V_iload_n dX7_parting_39 rfl 2 rfl ?_
        refine V_cVi (P := pM G (d + 30) mX7_parting _) (d := d + 29) 4 (r := []) (As := [.int (nI t)]) (K := mX3_start) ok_X3_start tw_466 (ob_4 _) rfl (rmOk (Nat.le_of_ble_eq_true rfl)) (Nat.le_of_ble_eq_true rfl) dX7_parting_40 rfl (c_X3_start_4 hE h12 ht hK (fun S2 hR hz hK2 => ?_))
        exact V_iret rfl dX7_parting_43 ⟨_, rfl, qcast (hq.2 ⟨(set_ok h12).mp h1, h2⟩ S2 hR hz hK2) (by unfold parR; rw [if_pos ⟨(set_ok h12).mp h1, h2⟩, if_neg h3, nI_clamp (by omega)])⟩
      · refine V_aload_n dX7_parting_30 rfl 1 rfl ?_
        refine V_iload_n dX7_parting_31 rfl 2 rfl ?_
        refine V_cVi (P := pM G (d + 30) mX7_parting _) (d := d + 29) 4 (r := []) (As := [.int (nI t)]) (K := mX3_price) ok_X3_price tw_431 (ob_4 _) rfl (rmOk (Nat.le_of_ble_eq_true rfl)) (Nat.le_of_ble_eq_true rfl) dX7_parting_32 rfl (c_X3_price_4 hE h12 ht hK (fun S2 hR hz hK2 => ?_))
        refine V_goto 43 dX7_parting_35 (by decide) ?_
        exact V_iret rfl dX7_parting_43 ⟨_, rfl, qcast (hq.2 ⟨(set_ok h12).mp h1, h2⟩ S2 hR hz hK2) (by unfold parR; rw [if_pos ⟨(set_ok h12).mp h1, h2⟩, if_pos h3, nI_clamp (by omega)])⟩
    · refine V_bipush (v := -2) dX7_parting_23 kb_m2 ?_
      exact V_iret rfl dX7_parting_25 ⟨_, rfl, (hq.1 (fun z => by rw [h2] at z; exact absurd z.2 (by decide)))⟩
theorem c_X7_worst {G : GX} {d n : Nat} {S : ST} {s w : Int32} {Q : Int32 → ST → Prop} (hE : EV S n) (h12 : n ≤ 12) (hK : S.1 3 = 0 → PK false S n (S.2.2.1 21)) (hq : ∀ S2, (S2 = S ∨ (FrR 3 21 S S2 ∧ S2.1 3 = 0 ∧ PK false S2 n (S2.2.2.1 21))) → Q (parR n s w (PR false (S.2.2.1 9) (S.2.2.1 14) (S.2.2.1 12) (S.2.2.1 11) n)) S2) : Cn G (d + 31) mX7_worst [.ref (G.2.1 0), .int s, .int w] S (qi Q) := by
  refine Cn.intro (lv := [(0, .ref (G.2.1 0)), (1, .int s), (2, .int w)]) (by decide) (Nat.le_of_ble_eq_true rfl) rfl ?_
  refine V_aload_n dX7_worst_0 rfl 0 rfl ?_
  refine V_aload_n dX7_worst_1 rfl 0 rfl ?_
  refine g_0_3 tw_206 dX7_worst_2 ?_
  refine V_iload_n dX7_worst_5 rfl 1 rfl ?_
  refine V_iload_n dX7_worst_6 rfl 2 rfl ?_
  refine V_cVi (P := pM G (d + 31) mX7_worst _) (d := d + 30) 0 (r := []) (As := [.ref (G.2.1 4), .int s, .int w]) (K := mX7_parting) ok_X7_parting tw_423 (ob_0 _) rfl (rmOk (Nat.le_of_ble_eq_true rfl)) (Nat.le_of_ble_eq_true rfl) dX7_worst_7 rfl (c_X7_parting_4 hE h12 hK ⟨fun hn => ?_, fun hy S2 hR hz hK2 => ?_⟩)
  · exact V_iret rfl dX7_worst_10 ⟨_, rfl, qcast (hq S (Or.inl rfl)) (by unfold parR; rw [if_neg hn])⟩
  · exact V_iret rfl dX7_worst_10 ⟨_, rfl, hq S2 (Or.inr ⟨hR, hz, hK2⟩)⟩
theorem fl_0_22 (S : ST) (x : Int32) : setAr S 22 (fun j => if j < 0 then x else S.2.2.1 22 j) = S := by
  rw [show (fun j => if j < 0 then x else S.2.2.1 22 j) = S.2.2.1 22 from funext (fun j => if_neg (Nat.not_lt_zero j))]
  exact setAr_id S 22
theorem fl_s_22 (S : ST) (x : Int32) (i : Nat) : setA (setAr S 22 (fun j => if j < i then x else S.2.2.1 22 j)) 22 i x = setAr S 22 (fun j => if j < i + 1 then x else S.2.2.1 22 j) := by
  rw [setA_Ar]
  congr 1
  funext j
  unfold upd
  by_cases e : j = i
  · subst e; rw [if_pos rfl, if_pos (Nat.lt_succ_self j)]
  · rw [if_neg e]
    by_cases h : j < i
    · show (if j < i then _ else _) = _
      rw [if_pos h, if_pos (by omega)]
    · show (if j < i then _ else _) = _
      rw [if_neg h, if_neg (by omega)]
theorem lp_fill_22 {G : GX} {d : Nat} {x : Int32} {S : ST} {Q : ST → Prop} (hq : Q (setAr S 22 (fun j => if j < 4096 then x else S.2.2.1 22 j))) : ∀ (k i : Nat), i ≤ 4096 → 4096 - i < k → V (pM G d mJ7_fill_53178 (qv Q)) 5 [(2, .int (nI i)), (3, .int 4096), (0, .ref (G.2.1 22)), (1, .int x)] [] (setAr S 22 (fun j => if j < i then x else S.2.2.1 22 j)) := by
  intro k
  induction k with
  | zero => intro i hi hk; exact absurd hk (Nat.not_lt_zero _)
  | succ k ih =>
    intro i hi hk
    refine V_iload_n dJ7_fill_53178_5 rfl 0 rfl ?_
    refine V_iload_n dJ7_fill_53178_6 rfl 1 rfl ?_
    refine V_icmp_gen 20 (a := i) (b := 4096) dJ7_fill_53178_7 (by decide) (by omega) (by omega) (fun h1 => ?_) (fun h1 => ?_)
    · have hin : i = 4096 := by omega
      subst hin
      exact V_vret rfl dJ7_fill_53178_20 ⟨rfl, hq⟩
    · refine V_aload_n dJ7_fill_53178_10 rfl 2 rfl ?_
      refine V_iload_n dJ7_fill_53178_11 rfl 0 rfl ?_
      refine V_iload_n dJ7_fill_53178_12 rfl 3 rfl ?_
      refine s_22n (by omega) dJ7_fill_53178_13 ?_
      refine V_iinc [(2, .int (nI (i + 1))), (3, .int 4096), (0, .ref (G.2.1 22)), (1, .int x)] dJ7_fill_53178_14 0 rfl (nI_1 _) (Nat.le_of_ble_eq_true rfl) rfl ?_
      refine V_goto 5 dJ7_fill_53178_17 (by decide) ?_
      refine V_lv [(2, .int (nI (i + 1))), (3, .int 4096), (0, .ref (G.2.1 22)), (1, .int x)] [0, 1, 2, 3] rfl ?_
      refine V_S (S2 := setAr S 22 (fun j => if j < (i + 1) then x else S.2.2.1 22 j)) (fl_s_22 S x i) ?_
      exact ih (i + 1) (by omega) (by omega)
theorem c_fill_22 {G : GX} {d : Nat} {S : ST} {x : Int32} {Q : ST → Prop}  (hq : Q (setAr S 22 (fun j => if j < 4096 then x else S.2.2.1 22 j))) : Cn G d mJ7_fill_53178 [.ref (G.2.1 22), .int x] S (qv Q) := by
  refine Cn.intro (lv := [(0, .ref (G.2.1 22)), (1, .int x)]) (by decide) (Nat.le_of_ble_eq_true rfl) rfl ?_
  refine V_iconst (v := 0) dJ7_fill_53178_0 ki_0 ?_
  refine V_istore_n [(2, .int 0), (0, .ref (G.2.1 22)), (1, .int x)] dJ7_fill_53178_1 rfl (Nat.le_of_ble_eq_true rfl) rfl ?_
  refine V_aload_n dJ7_fill_53178_2 rfl 1 rfl ?_
  refine n_22 dJ7_fill_53178_3 ?_
  refine V_istore_n [(3, .int 4096), (2, .int 0), (0, .ref (G.2.1 22)), (1, .int x)] dJ7_fill_53178_4 rfl (Nat.le_of_ble_eq_true rfl) rfl ?_
  refine V_lv [(2, .int 0), (3, .int 4096), (0, .ref (G.2.1 22)), (1, .int x)] [1, 0, 2, 3] rfl ?_
  refine V_lveq [(2, .int (nI 0)), (3, .int 4096), (0, .ref (G.2.1 22)), (1, .int x)] (by rfl) ?_
  refine V_S (S2 := setAr S 22 (fun j => if j < 0 then x else S.2.2.1 22 j)) ((fl_0_22 S x).symm) ?_
  exact lp_fill_22 hq 4097 0 (by omega) (by omega)
theorem c_X3_refresh_5 {G : GX} {d : Nat} {S : ST} {n : Nat} {Q : ST → Prop} (hK : S.1 5 = 0 → PK true S n (S.2.2.1 22)) (hq : ∀ S2, FrR 5 22 S S2 → S2.1 5 = 0 → PK true S2 n (S2.2.2.1 22) → Q S2) : Cn G (d + 1) mX3_refresh [.ref (G.2.1 5)] S (qv Q) := by
  refine Cn.intro (lv := [(0, .ref (G.2.1 5))]) (by decide) (Nat.le_of_ble_eq_true rfl) rfl ?_
  refine V_aload_n dX3_refresh_0 rfl 0 rfl ?_
  refine g_5_3 tw_135 dX3_refresh_1 ?_
  refine V_if_eq 20 dX3_refresh_4 (by decide) (fun h1 => ?_) (fun h1 => ?_)
  · exact V_vret rfl dX3_refresh_20 ⟨rfl, hq S (FrR.rf _ _ S) h1 (hK h1)⟩
  · refine V_aload_n dX3_refresh_7 rfl 0 rfl ?_
    refine g_5_2 tw_134 dX3_refresh_8 ?_
    refine V_iconst (v := 0) dX3_refresh_11 ki_0 ?_
    refine V_cSv (P := pM G (d + 1) mX3_refresh _) (d := d) (r := []) (As := [.ref (G.2.1 22), .int 0]) (K := mJ7_fill_53178) ok_J7_fill_53178 tw_439 rfl (rmOk (Nat.le_of_ble_eq_true rfl)) (Nat.le_of_ble_eq_true rfl) dX3_refresh_12 rfl (c_fill_22 ?_)
    refine V_aload_n dX3_refresh_15 rfl 0 rfl ?_
    refine V_iconst (v := 0) dX3_refresh_16 ki_0 ?_
    refine p_5_3 (by decide) tw_135 dX3_refresh_17 ?_
    exact V_vret rfl dX3_refresh_20 ⟨rfl, hq _ ⟨fun i hi => by simp [setI, setAr, va_up, hi], rfl, fun c hc => by simp [setI, setAr, va_up, hc], rfl⟩ rfl (fun t ht => Or.inl (if_pos ht))⟩
theorem pa_12_5 {G : GX} {d n t : Nat} {S0 S : ST} {Q : Int32 → ST → Prop} (hE : EV S0 n) (h12 : n ≤ 12) (ht : t < 4096) (hF : FrK 22 S0 S) (hK : PK true S0 n (S.2.2.1 22)) (hq : ∀ S2, FrK 22 S0 S2 → PK true S0 n (S2.2.2.1 22) → Q (nI (pz (PR true (S0.2.2.1 9) (S0.2.2.1 14) (S0.2.2.1 12) (S0.2.2.1 11) n t))) S2) : Cn G (d + 27) mX3_priceAt [.ref (G.2.1 5), .int (nI t), .int (nI 0)] S (qi Q) := pa_all_5 (d := d) hE h12 12 t 0 S Q ht (pop_le t) (pop_le t) hF hK hq
theorem pb_12_5 {G : GX} {d n t v : Nat} {S0 S : ST} {Q : Int32 → ST → Prop} (hE : EV S0 n) (h12 : n ≤ 12) (ht : t < 4096) (hv : v < n) (hp : pts (S0.2.2.1 9) (S0.2.2.1 14) t v = true) (hF : FrK 22 S0 S) (hK : PK true S0 n (S.2.2.1 22)) (hq : ∀ S2, FrK 22 S0 S2 → PK true S0 n (S2.2.2.1 22) → Q (nI (gvv true (S0.2.2.1 9) (S0.2.2.1 14) (S0.2.2.1 12) (S0.2.2.1 11) n t v)) S2) : Cn G (d + 28) mX3_priceBy [.ref (G.2.1 5), .int (nI v), .int (nI t), .int (nI 0)] S (qi Q) := c_pb_5 (d := d + 24) hE h12 ht hv hp (by omega) hF hK (fun t2 S Q2 h1 h2 h3 h4 h5 => pa_all_5 (d := d) hE h12 12 t2 1 S Q2 h1 (pop_le t2) (by have := pop_le t; omega) h3 h4 h5) hq
theorem c_X3_price_5 {G : GX} {d : Nat} {S : ST} {n t : Nat} {Q : Int32 → ST → Prop} (hE : EV S n) (h12 : n ≤ 12) (ht : t < 4096) (hK : S.1 5 = 0 → PK true S n (S.2.2.1 22)) (hq : ∀ S2, FrR 5 22 S S2 → S2.1 5 = 0 → PK true S2 n (S2.2.2.1 22) → Q (nI (pz (PR true (S.2.2.1 9) (S.2.2.1 14) (S.2.2.1 12) (S.2.2.1 11) n t))) S2) : Cn G (d + 29) mX3_price [.ref (G.2.1 5), .int (nI t)] S (qi Q) := by
  refine Cn.intro (lv := [(0, .ref (G.2.1 5)), (1, .int (nI t))]) (by decide) (Nat.le_of_ble_eq_true rfl) rfl ?_
  refine V_aload_n dX3_price_0 rfl 0 rfl ?_
  refine V_cVv (P := pM G (d + 29) mX3_price _) (d := d + 28) 5 (r := []) (As := []) (K := mX3_refresh) ok_X3_refresh tw_435 (ob_5 _) rfl (rmOk (Nat.le_of_ble_eq_true rfl)) (Nat.le_of_ble_eq_true rfl) dX3_price_1 rfl (c_X3_refresh_5 (n := n) hK (fun S2 hR hz hK2 => ?_))
  have hE2 : EV S2 n := hE.mv (hR.1 0 (by decide)) (hR.2.2.1 9 (by decide)) (hR.2.2.1 12 (by decide)) (hR.2.2.1 11 (by decide))
  have eR : ∀ x, PR true (S2.2.2.1 9) (S2.2.2.1 14) (S2.2.2.1 12) (S2.2.2.1 11) n x = PR true (S.2.2.1 9) (S.2.2.1 14) (S.2.2.1 12) (S.2.2.1 11) n x := fun x => by rw [hR.2.2.1 9 (by decide), hR.2.2.1 14 (by decide), hR.2.2.1 12 (by decide), hR.2.2.1 11 (by decide)]
  refine V_aload_n dX3_price_4 rfl 0 rfl ?_
  refine V_iload_n dX3_price_5 rfl 1 rfl ?_
  refine V_iconst (v := 0) dX3_price_6 ki_0 ?_
  refine V_topi (v := nI 0) rfl ?_
  refine V_cVi (P := pM G (d + 29) mX3_price _) (d := d + 28) 5 (r := []) (As := [.int (nI t), .int (nI 0)]) (K := mX3_priceAt) ok_X3_priceAt tw_442 (ob_5 _) rfl (rmOk (Nat.le_of_ble_eq_true rfl)) (Nat.le_of_ble_eq_true rfl) dX3_price_7 rfl (pa_12_5 (d := d + 1) hE2 h12 ht (FrK.rf _ S2) hK2 (fun S3 hF3 hK3 => ?_))
  refine V_topi (v := nI (pz (PR true (S.2.2.1 9) (S.2.2.1 14) (S.2.2.1 12) (S.2.2.1 11) n t))) (by rw [eR]) ?_
  exact V_iret rfl dX3_price_10 ⟨_, rfl, hq S3 (hR.k hF3) (by rw [hF3.1]; exact hz) (hK3.base (hF3.2.2.1 9 (by decide)) (hF3.2.2.1 14 (by decide)) (hF3.2.2.1 12 (by decide)) (hF3.2.2.1 11 (by decide)))⟩
theorem lp_st_5 {G : GX} {d n t : Nat} {S0 : ST} {Q : Int32 → ST → Prop} (hE : EV S0 n) (h12 : n ≤ 12) (ht : t < 4096) (hq : ∀ S2, FrK 22 S0 S2 → PK true S0 n (S2.2.2.1 22) → Q (frs (PR true (S0.2.2.1 9) (S0.2.2.1 14) (S0.2.2.1 12) (S0.2.2.1 11) n t)) S2) : ∀ (k v : Nat) (S : ST), v ≤ n → n - v < k → FrK 22 S0 S → PK true S0 n (S.2.2.1 22) → (∀ u, u < v → pts (S0.2.2.1 9) (S0.2.2.1 14) t u = true → gvv true (S0.2.2.1 9) (S0.2.2.1 14) (S0.2.2.1 12) (S0.2.2.1 11) n t u ≠ pz (PR true (S0.2.2.1 9) (S0.2.2.1 14) (S0.2.2.1 12) (S0.2.2.1 11) n t)) → V (pM G (d + 29) mX3_start (qi Q)) 13 [(3, .int (nI v)), (2, .int (nI (pz (PR true (S0.2.2.1 9) (S0.2.2.1 14) (S0.2.2.1 12) (S0.2.2.1 11) n t)))), (0, .ref (G.2.1 5)), (1, .int (nI t))] [] S := by
  intro k
  induction k with
  | zero => intro v S hv hk; exact absurd hk (Nat.not_lt_zero _)
  | succ k ih =>
    intro v S hv hk hF hK hI
    have hn : S.1 0 = nI n := by rw [hF.1]; exact hE.1.1
    have hpb := PR_b2 (bc := true) (ho := S0.2.2.1 9) (df := S0.2.2.1 14) hE.2.1 hE.2.2 h12 ht
    refine V_iload_n dX3_start_13 rfl 0 rfl ?_
    refine V_aload_n dX3_start_14 rfl 2 rfl ?_
    refine g_5_0 tw_132 dX3_start_15 ?_
    refine g_1_0 tw_31 dX3_start_18 ?_
    refine V_topi (v := nI n) (id hn) ?_
    refine V_icmp_gen 52 (a := v) (b := n) dX3_start_21 (by decide) (by omega) (by omega) (fun h1 => ?_) (fun h1 => ?_)
    · refine V_bipush (v := -6) dX3_start_52 kb_m6 ?_
      have hin : v = n := by omega
      subst hin
      refine V_iret rfl dX3_start_54 ⟨_, rfl, qcast (hq S hF hK) ?_⟩
      rcases hm : PR true (S0.2.2.1 9) (S0.2.2.1 14) (S0.2.2.1 12) (S0.2.2.1 11) v t with _ | q
      · rfl
      · have hb := mf_b (by rw [PR_eq ht] at hm; exact hm)
        refine absurd ?_ (hI q.2 hb.1 hb.2.1)
        rw [hm]; exact hb.2.2.1.symm
    · refine V_aload_n dX3_start_24 rfl 2 rfl ?_
      refine V_iload_n dX3_start_25 rfl 0 rfl ?_
      refine V_iload_n dX3_start_26 rfl 3 rfl ?_
      refine V_cVi (P := pM G (d + 29) mX3_start _) (d := d + 28) 5 (r := []) (As := [.int (nI v), .int (nI t)]) (K := mX3_parts) ok_X3_parts tw_447 (ob_5 _) rfl (rmOk (Nat.le_of_ble_eq_true rfl)) (Nat.le_of_ble_eq_true rfl) dX3_start_27 rfl (c_X3_parts_5 (n := n) (by unfold HS; rw [hF.1, hF.2.2.1 9 (by decide)]; exact hE.1) h12 (by omega) ht ?_)
      refine V_topi (v := b2i (pts (S0.2.2.1 9) (S0.2.2.1 14) t v)) (by rw [hF.2.2.1 9 (by decide), hF.2.2.1 14 (by decide)]) ?_
      refine V_ifb_eq 46 dX3_start_30 (by decide) (fun h2 => ?_) (fun h2 => ?_)
      · refine V_iinc [(3, .int (nI (v + 1))), (2, .int (nI (pz (PR true (S0.2.2.1 9) (S0.2.2.1 14) (S0.2.2.1 12) (S0.2.2.1 11) n t)))), (0, .ref (G.2.1 5)), (1, .int (nI t))] dX3_start_46 0 rfl (nI_1 _) (Nat.le_of_ble_eq_true rfl) rfl ?_
        refine V_goto 13 dX3_start_49 (by decide) ?_
        refine V_lv [(3, .int (nI (v + 1))), (2, .int (nI (pz (PR true (S0.2.2.1 9) (S0.2.2.1 14) (S0.2.2.1 12) (S0.2.2.1 11) n t)))), (0, .ref (G.2.1 5)), (1, .int (nI t))] [0, 1, 2, 3] rfl ?_
        exact ih (v + 1) S (by omega) (by omega) hF hK (fun u hu hu2 => by rcases (show u < v ∨ u = v by omega) with z | z; exact hI u z hu2; rw [z, h2] at hu2; cases hu2)
      · refine V_aload_n dX3_start_33 rfl 2 rfl ?_
        refine V_iload_n dX3_start_34 rfl 0 rfl ?_
        refine V_iload_n dX3_start_35 rfl 3 rfl ?_
        refine V_iconst (v := 0) dX3_start_36 ki_0 ?_
        refine V_topi (v := nI 0) rfl ?_
        refine V_cVi (P := pM G (d + 29) mX3_start _) (d := d + 28) 5 (r := []) (As := [.int (nI v), .int (nI t), .int (nI 0)]) (K := mX3_priceBy) ok_X3_priceBy tw_452 (ob_5 _) rfl (rmOk (Nat.le_of_ble_eq_true rfl)) (Nat.le_of_ble_eq_true rfl) dX3_start_37 rfl (pb_12_5 hE h12 ht h1 h2 hF hK (fun S2 hF2 hK2 => ?_))
        have hgb := gvv_b (bc := true) hE.2.1 hE.2.2 h12 ht h1 h2
        refine V_iload_n dX3_start_40 rfl 1 rfl ?_
        refine V_icmp_nen 46 (a := (gvv true (S0.2.2.1 9) (S0.2.2.1 14) (S0.2.2.1 12) (S0.2.2.1 11) n t v)) (b := (pz (PR true (S0.2.2.1 9) (S0.2.2.1 14) (S0.2.2.1 12) (S0.2.2.1 11) n t))) dX3_start_41 (by decide) (by omega) (by omega) (fun h3 => ?_) (fun h3 => ?_)
        · refine V_iinc [(3, .int (nI (v + 1))), (2, .int (nI (pz (PR true (S0.2.2.1 9) (S0.2.2.1 14) (S0.2.2.1 12) (S0.2.2.1 11) n t)))), (0, .ref (G.2.1 5)), (1, .int (nI t))] dX3_start_46 0 rfl (nI_1 _) (Nat.le_of_ble_eq_true rfl) rfl ?_
          refine V_goto 13 dX3_start_49 (by decide) ?_
          refine V_lv [(3, .int (nI (v + 1))), (2, .int (nI (pz (PR true (S0.2.2.1 9) (S0.2.2.1 14) (S0.2.2.1 12) (S0.2.2.1 11) n t)))), (0, .ref (G.2.1 5)), (1, .int (nI t))] [0, 1, 2, 3] rfl ?_
          exact ih (v + 1) S2 (by omega) (by omega) hF2 hK2 (fun u hu hu2 => by rcases (show u < v ∨ u = v by omega) with z | z; exact hI u z hu2; rw [z]; exact h3)
        · refine V_iload_n dX3_start_44 rfl 0 rfl ?_
          refine V_iret rfl dX3_start_45 ⟨_, rfl, qcast (hq S2 hF2 hK2) ?_⟩
          rcases hm : PR true (S0.2.2.1 9) (S0.2.2.1 14) (S0.2.2.1 12) (S0.2.2.1 11) n t with _ | q
          · rw [PR_eq ht] at hm
            have := mf_no hm v h1
            rw [h2] at this; cases this
          · have hb := mf_b (by rw [PR_eq ht] at hm; exact hm)
            rw [hm] at hI h3
            have hp1 : pz (some q) = q.1 := rfl
            rw [hp1] at hI h3
            rcases (show v < q.2 ∨ v = q.2 ∨ q.2 < v by omega) with z | z | z
            · have := hb.2.2.2.2 v z h2
              omega
            · rw [z]; rfl
            · exact absurd hb.2.2.1.symm (hI q.2 z hb.2.1)
theorem c_X3_start_5 {G : GX} {d : Nat} {S : ST} {n t : Nat} {Q : Int32 → ST → Prop} (hE : EV S n) (h12 : n ≤ 12) (ht : t < 4096) (hK : S.1 5 = 0 → PK true S n (S.2.2.1 22)) (hq : ∀ S2, FrR 5 22 S S2 → S2.1 5 = 0 → PK true S2 n (S2.2.2.1 22) → Q (frs (PR true (S.2.2.1 9) (S.2.2.1 14) (S.2.2.1 12) (S.2.2.1 11) n t)) S2) : Cn G (d + 29) mX3_start [.ref (G.2.1 5), .int (nI t)] S (qi Q) := by
  refine Cn.intro (lv := [(0, .ref (G.2.1 5)), (1, .int (nI t))]) (by decide) (Nat.le_of_ble_eq_true rfl) rfl ?_
  refine V_aload_n dX3_start_0 rfl 0 rfl ?_
  refine V_cVv (P := pM G (d + 29) mX3_start _) (d := d + 28) 5 (r := []) (As := []) (K := mX3_refresh) ok_X3_refresh tw_435 (ob_5 _) rfl (rmOk (Nat.le_of_ble_eq_true rfl)) (Nat.le_of_ble_eq_true rfl) dX3_start_1 rfl (c_X3_refresh_5 (n := n) hK (fun S2 hR hz hK2 => ?_))
  have hE2 : EV S2 n := hE.mv (hR.1 0 (by decide)) (hR.2.2.1 9 (by decide)) (hR.2.2.1 12 (by decide)) (hR.2.2.1 11 (by decide))
  have eR : ∀ x, PR true (S2.2.2.1 9) (S2.2.2.1 14) (S2.2.2.1 12) (S2.2.2.1 11) n x = PR true (S.2.2.1 9) (S.2.2.1 14) (S.2.2.1 12) (S.2.2.1 11) n x := fun x => by rw [hR.2.2.1 9 (by decide), hR.2.2.1 14 (by decide), hR.2.2.1 12 (by decide), hR.2.2.1 11 (by decide)]
  refine V_aload_n dX3_start_4 rfl 0 rfl ?_
  refine V_iload_n dX3_start_5 rfl 1 rfl ?_
  refine V_iconst (v := 0) dX3_start_6 ki_0 ?_
  refine V_topi (v := nI 0) rfl ?_
  refine V_cVi (P := pM G (d + 29) mX3_start _) (d := d + 28) 5 (r := []) (As := [.int (nI t), .int (nI 0)]) (K := mX3_priceAt) ok_X3_priceAt tw_442 (ob_5 _) rfl (rmOk (Nat.le_of_ble_eq_true rfl)) (Nat.le_of_ble_eq_true rfl) dX3_start_7 rfl (pa_12_5 (d := d + 1) hE2 h12 ht (FrK.rf _ S2) hK2 (fun S3 hF3 hK3 => ?_))
  refine V_topi (v := nI (pz (PR true (S.2.2.1 9) (S.2.2.1 14) (S.2.2.1 12) (S.2.2.1 11) n t))) (by rw [eR]) ?_
  refine V_istore_n [(2, .int (nI (pz (PR true (S.2.2.1 9) (S.2.2.1 14) (S.2.2.1 12) (S.2.2.1 11) n t)))), (0, .ref (G.2.1 5)), (1, .int (nI t))] dX3_start_10 rfl (Nat.le_of_ble_eq_true rfl) rfl ?_
  refine V_iconst (v := 0) dX3_start_11 ki_0 ?_
  refine V_istore_n [(3, .int 0), (2, .int (nI (pz (PR true (S.2.2.1 9) (S.2.2.1 14) (S.2.2.1 12) (S.2.2.1 11) n t)))), (0, .ref (G.2.1 5)), (1, .int (nI t))] dX3_start_12 rfl (Nat.le_of_ble_eq_true rfl) rfl ?_
  refine V_lv [(3, .int 0), (2, .int (nI (pz (PR true (S.2.2.1 9) (S.2.2.1 14) (S.2.2.1 12) (S.2.2.1 11) n t)))), (0, .ref (G.2.1 5)), (1, .int (nI t))] [0, 1, 2, 3] rfl ?_
  refine V_lveq [(3, .int (nI 0)), (2, .int (nI (pz (PR true (S2.2.2.1 9) (S2.2.2.1 14) (S2.2.2.1 12) (S2.2.2.1 11) n t)))), (0, .ref (G.2.1 5)), (1, .int (nI t))] (by rw [eR]; rfl) ?_
  exact lp_st_5 hE2 h12 ht (fun S4 hF4 hK4 => qcast (hq S4 (hR.k hF4) (by rw [hF4.1]; exact hz) (hK4.base (hF4.2.2.1 9 (by decide)) (hF4.2.2.1 14 (by decide)) (hF4.2.2.1 12 (by decide)) (hF4.2.2.1 11 (by decide)))) (by rw [eR])) (n + 1) 0 S3 (by omega) (by omega) hF3 hK3 (fun u hu => absurd hu (Nat.not_lt_zero _))
theorem c_X7_parting_5 {G : GX} {d : Nat} {S : ST} {n : Nat} {s w : Int32} {Q : Int32 → ST → Prop} (hE : EV S n) (h12 : n ≤ 12) (hK : S.1 5 = 0 → PK true S n (S.2.2.1 22)) (hq : (¬ (fr s 0 ((1 : Int32) <<< (nI n &&& 31) - 1) = true ∧ fr w 0 1 = true) → Q (-2) S) ∧ ((fr s 0 ((1 : Int32) <<< (nI n &&& 31) - 1) = true ∧ fr w 0 1 = true) → ∀ S2, FrR 5 22 S S2 → S2.1 5 = 0 → PK true S2 n (S2.2.2.1 22) → Q (parR n s w (PR true (S.2.2.1 9) (S.2.2.1 14) (S.2.2.1 12) (S.2.2.1 11) n)) S2)) : Cn G (d + 30) mX7_parting [.ref (G.2.1 0), .ref (G.2.1 5), .int s, .int w] S (qi Q) := by
  refine Cn.intro (lv := [(0, .ref (G.2.1 0)), (1, .ref (G.2.1 5)), (2, .int s), (3, .int w)]) (by decide) (Nat.le_of_ble_eq_true rfl) rfl ?_
  refine V_iload_n dX7_parting_0 rfl 2 rfl ?_
  refine V_aload_n dX7_parting_1 rfl 0 rfl ?_
  refine g_0_0 tw_203 dX7_parting_2 ?_
  refine V_cVi (P := pM G (d + 30) mX7_parting _) (d := d + 29) 1 (r := [.int s]) (As := []) (K := mX1_everyVersion) ok_X1_everyVersion tw_427 (ob_1 _) rfl (rmOk (Nat.le_of_ble_eq_true rfl)) (Nat.le_of_ble_eq_true rfl) dX7_parting_5 rfl (c_X1_everyVersion hE.1.1 ?_)
  refine V_iconst (v := -1) dX7_parting_8 ki_m1 ?_
  refine V_ixor dX7_parting_9 ?_
  refine V_iand dX7_parting_10 ?_
  refine V_if_ne 23 dX7_parting_11 (by decide) (fun h1 => ?_) (fun h1 => ?_)
  · refine V_bipush (v := -2) dX7_parting_23 kb_m2 ?_
    exact V_iret rfl dX7_parting_25 ⟨_, rfl, (hq.1 (fun z => h1 ((set_ok h12).mpr z.1)))⟩
  · refine V_iload_n dX7_parting_14 rfl 3 rfl ?_
    refine V_iconst (v := 0) dX7_parting_15 ki_0 ?_
    refine V_iconst (v := 1) dX7_parting_16 ki_1 ?_
    refine V_cSi (P := pM G (d + 30) mX7_parting _) (d := d + 29) (r := []) (As := [.int w, .int 0, .int 1]) (K := mX7_isFrom) ok_X7_isFrom tw_240 rfl (rmOk (Nat.le_of_ble_eq_true rfl)) (Nat.le_of_ble_eq_true rfl) dX7_parting_17 rfl (c_X7_isFrom ?_)
    refine V_ifb_ne 26 dX7_parting_20 (by decide) (fun h2 => ?_) (fun h2 => ?_)
    · obtain ⟨t, ht2, rfl⟩ := set_ex h12 ((set_ok h12).mp h1)
      have ht : t < 4096 := Nat.lt_of_lt_of_le ht2 (p2_le h12)
      refine V_iload_n dX7_parting_26 rfl 3 rfl ?_
      refine V_if_ne 38 dX7_parting_27 (by decide) (fun h3 => ?_) (fun h3 => ?_)
      · refine V_aload_n dX7_parting_38 rfl 1 rfl ?_
        refine V_iload_n dX7_parting_39 rfl 2 rfl ?_
        refine V_cVi (P := pM G (d + 30) mX7_parting _) (d := d + 29) 5 (r := []) (As := [.int (nI t)]) (K := mX3_start) ok_X3_start tw_466 (ob_5 _) rfl (rmOk (Nat.le_of_ble_eq_true rfl)) (Nat.le_of_ble_eq_true rfl) dX7_parting_40 rfl (c_X3_start_5 hE h12 ht hK (fun S2 hR hz hK2 => ?_))
        exact V_iret rfl dX7_parting_43 ⟨_, rfl, qcast (hq.2 ⟨(set_ok h12).mp h1, h2⟩ S2 hR hz hK2) (by unfold parR; rw [if_pos ⟨(set_ok h12).mp h1, h2⟩, if_neg h3, nI_clamp (by omega)])⟩
      · refine V_aload_n dX7_parting_30 rfl 1 rfl ?_
        refine V_iload_n dX7_parting_31 rfl 2 rfl ?_
        refine V_cVi (P := pM G (d + 30) mX7_parting _) (d := d + 29) 5 (r := []) (As := [.int (nI t)]) (K := mX3_price) ok_X3_price tw_431 (ob_5 _) rfl (rmOk (Nat.le_of_ble_eq_true rfl)) (Nat.le_of_ble_eq_true rfl) dX7_parting_32 rfl (c_X3_price_5 hE h12 ht hK (fun S2 hR hz hK2 => ?_))
        refine V_goto 43 dX7_parting_35 (by decide) ?_
        exact V_iret rfl dX7_parting_43 ⟨_, rfl, qcast (hq.2 ⟨(set_ok h12).mp h1, h2⟩ S2 hR hz hK2) (by unfold parR; rw [if_pos ⟨(set_ok h12).mp h1, h2⟩, if_pos h3, nI_clamp (by omega)])⟩
    · refine V_bipush (v := -2) dX7_parting_23 kb_m2 ?_
      exact V_iret rfl dX7_parting_25 ⟨_, rfl, (hq.1 (fun z => by rw [h2] at z; exact absurd z.2 (by decide)))⟩
theorem c_X7_mean {G : GX} {d n : Nat} {S : ST} {s w : Int32} {Q : Int32 → ST → Prop} (hE : EV S n) (h12 : n ≤ 12) (hK : S.1 5 = 0 → PK true S n (S.2.2.1 22)) (hq : ∀ S2, (S2 = S ∨ (FrR 5 22 S S2 ∧ S2.1 5 = 0 ∧ PK true S2 n (S2.2.2.1 22))) → Q (parR n s w (PR true (S.2.2.1 9) (S.2.2.1 14) (S.2.2.1 12) (S.2.2.1 11) n)) S2) : Cn G (d + 31) mX7_mean [.ref (G.2.1 0), .int s, .int w] S (qi Q) := by
  refine Cn.intro (lv := [(0, .ref (G.2.1 0)), (1, .int s), (2, .int w)]) (by decide) (Nat.le_of_ble_eq_true rfl) rfl ?_
  refine V_aload_n dX7_mean_0 rfl 0 rfl ?_
  refine V_aload_n dX7_mean_1 rfl 0 rfl ?_
  refine g_0_4 tw_207 dX7_mean_2 ?_
  refine V_iload_n dX7_mean_5 rfl 1 rfl ?_
  refine V_iload_n dX7_mean_6 rfl 2 rfl ?_
  refine V_cVi (P := pM G (d + 31) mX7_mean _) (d := d + 30) 0 (r := []) (As := [.ref (G.2.1 5), .int s, .int w]) (K := mX7_parting) ok_X7_parting tw_423 (ob_0 _) rfl (rmOk (Nat.le_of_ble_eq_true rfl)) (Nat.le_of_ble_eq_true rfl) dX7_mean_7 rfl (c_X7_parting_5 hE h12 hK ⟨fun hn => ?_, fun hy S2 hR hz hK2 => ?_⟩)
  · exact V_iret rfl dX7_mean_10 ⟨_, rfl, qcast (hq S (Or.inl rfl)) (by unfold parR; rw [if_neg hn])⟩
  · exact V_iret rfl dX7_mean_10 ⟨_, rfl, hq S2 (Or.inr ⟨hR, hz, hK2⟩)⟩
