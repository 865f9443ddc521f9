theorem b_nf {b : Bool} (h : ¬ b = false) : b = true := by cases b with
  | false => exact absurd rfl h
  | true => rfl
theorem ts_bit {w : Int64} {s : UInt64} {j : Nat} (hj : j < 64) (hs : s.toNat = j) : ((w.toUInt64 >>> s).toInt64 &&& 1) = 0 ↔ w.toBitVec.getLsbD j = false := by
  have e : (w.toUInt64 >>> s).toInt64.toBitVec = w.toBitVec >>> j := by
    apply BitVec.eq_of_toNat_eq
    show (w.toUInt64 >>> s).toNat = _
    rw [UInt64.toNat_shiftRight, hs, Nat.mod_eq_of_lt hj, BitVec.toNat_ushiftRight]
    rfl
  rw [← Int64.toBitVec_inj, Int64.toBitVec_and, e]
  show w.toBitVec >>> j &&& 1#64 = 0#64 ↔ _
  constructor
  · intro h
    have t := congrArg (fun x => x.getLsbD 0) h
    simpa using t
  · intro h
    apply BitVec.eq_of_getLsbD_eq
    intro i hi
    cases i with
    | zero => simp [h]
    | succ i => simp
theorem wb_cu : ∀ k, k < 64 → ((nI k).toInt64.toUInt64 &&& Int64.toUInt64 63) = UInt64.ofNat k := by decide +kernel
theorem nI_63 {t : Nat} (h : t < 2 ^ 31) : nI t &&& 63 = nI (t % 64) := pk_andN (by omega) 6 rfl
theorem nI_sh6 {t : Nat} (h : t < 2 ^ 31) : nI t >>> ((6 : Int32) &&& 31) = nI (t / 64) := by
  have := pk_shrN h ((6 : Int32) &&& 31) 6 (by decide)
  rw [this]
theorem ask_bl (x : Int64) {t : Nat} (h : t < 2 ^ 31) : ((x.toUInt64 >>> ((nI t &&& 63).toInt64.toUInt64 &&& Int64.toUInt64 63)).toInt64 &&& 1) = 0 ↔ bl x (t % 64) = false := by
  rw [nI_63 h, wb_cu (t % 64) (by omega)]
  exact ts_bit (by omega) (by show t % 64 % 2 ^ 64 = t % 64; omega)
/-- the sets of a word that have all of some changes; none but some changes; the sound ones -/
def swA (ch : Int32) (w : Nat) : Nat → Int64
  | 0 => -1
  | k + 1 => if bt ch k then swA ch w k &&& sW k w else swA ch w k
def swI (ch : Int32) (w : Nat) : Nat → Int64
  | 0 => -1
  | k + 1 => if bt ch k then swI ch w k else swI ch w k &&& (sW k w ^^^ -1)
def sSe (ne : Nat → Int32) (w : Nat) : Nat → Int64
  | 0 => -1
  | k + 1 => if ne k = 0 then sSe ne w k else sSe ne w k &&& ((sW k w ^^^ -1) ||| swA (ne k) w 12)
theorem swA_s (ch : Int32) (w k : Nat) : swA ch w (k + 1) = if bt ch k then swA ch w k &&& sW k w else swA ch w k := rfl
theorem swI_s (ch : Int32) (w k : Nat) : swI ch w (k + 1) = if bt ch k then swI ch w k else swI ch w k &&& (sW k w ^^^ -1) := rfl
theorem sSe_s (ne : Nat → Int32) (w k : Nat) : sSe ne w (k + 1) = if ne k = 0 then sSe ne w k else sSe ne w k &&& ((sW k w ^^^ -1) ||| swA (ne k) w 12) := rfl
theorem c_X7_isOfWord {G : GX} {d : Nat} {S : ST} {x : Int64} {t : Nat} {Q : Int32 → ST → Prop} (ht : t < 2 ^ 31) (hq : Q (b2i (bl x (t % 64))) S) : Cn G d mX7_isOfWord [.long x, .int (nI t)] S (qi Q) := by
  refine Cn.intro (lv := [(0, .long x), (2, .int (nI t))]) (by decide) (Nat.le_of_ble_eq_true rfl) rfl ?_
  refine V_lload_n dX7_isOfWord_0 rfl 0 rfl ?_
  refine V_iload_n dX7_isOfWord_1 rfl 1 rfl ?_
  refine V_bipush (v := 63) dX7_isOfWord_2 kb_63 ?_
  refine V_iand dX7_isOfWord_4 ?_
  refine V_lushr dX7_isOfWord_5 ?_
  refine V_lconst (v := 1) dX7_isOfWord_6 rfl ?_
  refine V_land dX7_isOfWord_7 ?_
  refine V_lconst (v := 0) dX7_isOfWord_8 rfl ?_
  refine V_lcmp dX7_isOfWord_9 ?_
  refine V_if_eq 17 dX7_isOfWord_10 (by decide) (fun h1 => ?_) (fun h1 => ?_)
  · refine V_iconst (v := 0) dX7_isOfWord_17 ki_0 ?_
    refine V_zret rfl dX7_isOfWord_18 rfl ⟨_, rfl, ?_⟩
    exact qcast hq (by rw [(ask_bl x ht).mp (lg0.mp h1)]; rfl)
  · refine V_iconst (v := 1) dX7_isOfWord_13 ki_1 ?_
    refine V_goto 18 dX7_isOfWord_14 (by decide) ?_
    refine V_zret rfl dX7_isOfWord_18 rfl ⟨_, rfl, ?_⟩
    exact qcast hq (by rw [show bl x (t % 64) = true from b_nf (fun z => h1 (lg0.mpr ((ask_bl x ht).mpr z)))]; rfl)
theorem c_X7_isAmong_25 {G : GX} {d : Nat} {S : ST} {t : Nat} {Q : Int32 → ST → Prop} (ht : t < 4096) (hq : Q (b2i (bl (S.2.2.2 25 (t / 64)) (t % 64))) S) : Cn G (d + 1) mX7_isAmong [.ref (G.2.1 25), .int (nI t)] S (qi Q) := by
  refine Cn.intro (lv := [(0, .ref (G.2.1 25)), (1, .int (nI t))]) (by decide) (Nat.le_of_ble_eq_true rfl) rfl ?_
  refine V_aload_n dX7_isAmong_0 rfl 0 rfl ?_
  refine V_iload_n dX7_isAmong_1 rfl 1 rfl ?_
  refine V_bipush (v := 6) dX7_isAmong_2 kb_6 ?_
  refine V_ishr dX7_isAmong_4 ?_
  refine V_topi (v := nI (t / 64)) (nI_sh6 (by omega)) ?_
  refine l_25n (by omega) dX7_isAmong_5 ?_
  refine V_iload_n dX7_isAmong_6 rfl 1 rfl ?_
  refine V_cSi (P := pM G (d + 1) mX7_isAmong _) (d := d) (r := []) (As := [.long (S.2.2.2 25 (t / 64)), .int (nI t)]) (K := mX7_isOfWord) ok_X7_isOfWord tw_554 rfl (rmOk (Nat.le_of_ble_eq_true rfl)) (Nat.le_of_ble_eq_true rfl) dX7_isAmong_7 rfl (c_X7_isOfWord (by omega) ?_)
  refine V_zret rfl dX7_isAmong_10 (b2i_nar _) ⟨_, rfl, ?_⟩
  exact hq
theorem c_X7_isAmong_27 {G : GX} {d : Nat} {S : ST} {t : Nat} {Q : Int32 → ST → Prop} (ht : t < 4096) (hq : Q (b2i (bl (S.2.2.2 27 (t / 64)) (t % 64))) S) : Cn G (d + 1) mX7_isAmong [.ref (G.2.1 27), .int (nI t)] S (qi Q) := by
  refine Cn.intro (lv := [(0, .ref (G.2.1 27)), (1, .int (nI t))]) (by decide) (Nat.le_of_ble_eq_true rfl) rfl ?_
  refine V_aload_n dX7_isAmong_0 rfl 0 rfl ?_
  refine V_iload_n dX7_isAmong_1 rfl 1 rfl ?_
  refine V_bipush (v := 6) dX7_isAmong_2 kb_6 ?_
  refine V_ishr dX7_isAmong_4 ?_
  refine V_topi (v := nI (t / 64)) (nI_sh6 (by omega)) ?_
  refine l_27n (by omega) dX7_isAmong_5 ?_
  refine V_iload_n dX7_isAmong_6 rfl 1 rfl ?_
  refine V_cSi (P := pM G (d + 1) mX7_isAmong _) (d := d) (r := []) (As := [.long (S.2.2.2 27 (t / 64)), .int (nI t)]) (K := mX7_isOfWord) ok_X7_isOfWord tw_554 rfl (rmOk (Nat.le_of_ble_eq_true rfl)) (Nat.le_of_ble_eq_true rfl) dX7_isAmong_7 rfl (c_X7_isOfWord (by omega) ?_)
  refine V_zret rfl dX7_isAmong_10 (b2i_nar _) ⟨_, rfl, ?_⟩
  exact hq
theorem lp_swA {G : GX} {d w : Nat} {ch : Int32} {S : ST} {Q : Int64 → ST → Prop} (hq : Q (swA ch w 12) S) : ∀ (k i : Nat), i ≤ 12 → 12 - i < k → V (pM G (d + 2) mX7_setsWithAll (ql Q)) 7 [(4, .int (nI i)), (2, .long (swA ch w i)), (0, .int ch), (1, .int (nI w))] [] S := by
  intro k
  induction k with
  | zero => intro i hi hk; exact absurd hk (Nat.not_lt_zero _)
  | succ k ih =>
    intro i hi hk
    refine V_iload dX7_setsWithAll_7 0 rfl ?_
    refine V_bipush (v := 12) dX7_setsWithAll_9 kb_12 ?_
    refine V_icmp_gen 38 (a := i) (b := 12) dX7_setsWithAll_11 (by decide) (by omega) (by omega) (fun h1 => ?_) (fun h1 => ?_)
    · refine V_lload_n dX7_setsWithAll_38 rfl 1 rfl ?_
      have hin : i = 12 := by omega
      subst hin
      exact V_lret rfl dX7_setsWithAll_39 ⟨_, rfl, hq⟩
    · refine V_iload_n dX7_setsWithAll_14 rfl 2 rfl ?_
      refine V_iload dX7_setsWithAll_15 0 rfl ?_
      refine V_cSi (P := pM G (d + 2) mX7_setsWithAll _) (d := d + 1) (r := []) (As := [.int ch, .int (nI i)]) (K := mX7_isBit) ok_X7_isBit tw_527 rfl (rmOk (Nat.le_of_ble_eq_true rfl)) (Nat.le_of_ble_eq_true rfl) dX7_setsWithAll_17 rfl (c_X7_isBit (by omega) ?_)
      refine V_ifb_eq 32 dX7_setsWithAll_20 (by decide) (fun h2 => ?_) (fun h2 => ?_)
      · refine V_iinc [(4, .int (nI (i + 1))), (2, .long (swA ch w i)), (0, .int ch), (1, .int (nI w))] dX7_setsWithAll_32 0 rfl (nI_1 _) (Nat.le_of_ble_eq_true rfl) rfl ?_
        refine V_goto 7 dX7_setsWithAll_35 (by decide) ?_
        refine V_lv [(4, .int (nI (i + 1))), (2, .long (swA ch w i)), (0, .int ch), (1, .int (nI w))] [0, 1, 2, 3] rfl ?_
        refine V_lveq [(4, .int (nI (i + 1))), (2, .long (swA ch w (i + 1))), (0, .int ch), (1, .int (nI w))] (by rw [swA_s, if_neg (by rw [h2]; exact Bool.false_ne_true)]) ?_
        exact ih (i + 1) (by omega) (by omega)
      · refine V_lload_n dX7_setsWithAll_23 rfl 1 rfl ?_
        refine V_iload dX7_setsWithAll_24 0 rfl ?_
        refine V_iload_n dX7_setsWithAll_26 rfl 3 rfl ?_
        refine V_cSl (P := pM G (d + 2) mX7_setsWithAll _) (d := d + 1) (r := [.long (swA ch w i)]) (As := [.int (nI i), .int (nI w)]) (K := mX7_setsWith) ok_X7_setsWith tw_547 rfl (rmOk (Nat.le_of_ble_eq_true rfl)) (Nat.le_of_ble_eq_true rfl) dX7_setsWithAll_27 rfl (c_X7_setsWith (by omega) ?_)
        refine V_land dX7_setsWithAll_30 ?_
        refine V_lstore_n [(2, .long ((swA ch w i) &&& (sW i w))), (4, .int (nI i)), (0, .int ch), (1, .int (nI w))] dX7_setsWithAll_31 rfl (Nat.le_of_ble_eq_true rfl) rfl ?_
        refine V_iinc [(4, .int (nI (i + 1))), (2, .long ((swA ch w i) &&& (sW i w))), (0, .int ch), (1, .int (nI w))] dX7_setsWithAll_32 1 rfl (nI_1 _) (Nat.le_of_ble_eq_true rfl) rfl ?_
        refine V_goto 7 dX7_setsWithAll_35 (by decide) ?_
        refine V_lv [(4, .int (nI (i + 1))), (2, .long ((swA ch w i) &&& (sW i w))), (0, .int ch), (1, .int (nI w))] [0, 1, 2, 3] rfl ?_
        refine V_lveq [(4, .int (nI (i + 1))), (2, .long (swA ch w (i + 1))), (0, .int ch), (1, .int (nI w))] (by rw [swA_s, if_pos h2]) ?_
        exact ih (i + 1) (by omega) (by omega)
theorem c_X7_setsWithAll {G : GX} {d : Nat} {S : ST} {w : Nat} {ch : Int32} {Q : Int64 → ST → Prop}  (hq : Q (swA ch w 12) S) : Cn G (d + 2) mX7_setsWithAll [.int ch, .int (nI w)] S (ql Q) := by
  refine Cn.intro (lv := [(0, .int ch), (1, .int (nI w))]) (by decide) (Nat.le_of_ble_eq_true rfl) rfl ?_
  refine V_ldc2 dX7_setsWithAll_0 tw_528 ?_
  refine V_lstore_n [(2, .long (-1)), (0, .int ch), (1, .int (nI w))] dX7_setsWithAll_3 rfl (Nat.le_of_ble_eq_true rfl) rfl ?_
  refine V_iconst (v := 0) dX7_setsWithAll_4 ki_0 ?_
  refine V_istore [(4, .int 0), (2, .long (-1)), (0, .int ch), (1, .int (nI w))] dX7_setsWithAll_5 (Nat.le_of_ble_eq_true rfl) rfl ?_
  refine V_lv [(4, .int 0), (2, .long (-1)), (0, .int ch), (1, .int (nI w))] [0, 1, 2, 3] rfl ?_
  refine V_lveq [(4, .int 0), (2, .long (swA ch w 0)), (0, .int ch), (1, .int (nI w))] (by rfl) ?_
  exact lp_swA hq 13 0 (by omega) (by omega)
theorem lp_swI {G : GX} {d w : Nat} {ch : Int32} {S : ST} {Q : Int64 → ST → Prop} (hq : Q (swI ch w 12) S) : ∀ (k i : Nat), i ≤ 12 → 12 - i < k → V (pM G (d + 2) mX7_setsWithin (ql Q)) 7 [(4, .int (nI i)), (2, .long (swI ch w i)), (0, .int ch), (1, .int (nI w))] [] S := by
  intro k
  induction k with
  | zero => intro i hi hk; exact absurd hk (Nat.not_lt_zero _)
  | succ k ih =>
    intro i hi hk
    refine V_iload dX7_setsWithin_7 0 rfl ?_
    refine V_bipush (v := 12) dX7_setsWithin_9 kb_12 ?_
    refine V_icmp_gen 42 (a := i) (b := 12) dX7_setsWithin_11 (by decide) (by omega) (by omega) (fun h1 => ?_) (fun h1 => ?_)
    · refine V_lload_n dX7_setsWithin_42 rfl 1 rfl ?_
      have hin : i = 12 := by omega
      subst hin
      exact V_lret rfl dX7_setsWithin_43 ⟨_, rfl, hq⟩
    · refine V_iload_n dX7_setsWithin_14 rfl 2 rfl ?_
      refine V_iload dX7_setsWithin_15 0 rfl ?_
      refine V_cSi (P := pM G (d + 2) mX7_setsWithin _) (d := d + 1) (r := []) (As := [.int ch, .int (nI i)]) (K := mX7_isBit) ok_X7_isBit tw_527 rfl (rmOk (Nat.le_of_ble_eq_true rfl)) (Nat.le_of_ble_eq_true rfl) dX7_setsWithin_17 rfl (c_X7_isBit (by omega) ?_)
      refine V_ifb_ne 36 dX7_setsWithin_20 (by decide) (fun h2 => ?_) (fun h2 => ?_)
      · refine V_iinc [(4, .int (nI (i + 1))), (2, .long (swI ch w i)), (0, .int ch), (1, .int (nI w))] dX7_setsWithin_36 0 rfl (nI_1 _) (Nat.le_of_ble_eq_true rfl) rfl ?_
        refine V_goto 7 dX7_setsWithin_39 (by decide) ?_
        refine V_lv [(4, .int (nI (i + 1))), (2, .long (swI ch w i)), (0, .int ch), (1, .int (nI w))] [0, 1, 2, 3] rfl ?_
        refine V_lveq [(4, .int (nI (i + 1))), (2, .long (swI ch w (i + 1))), (0, .int ch), (1, .int (nI w))] (by rw [swI_s, if_pos h2]) ?_
        exact ih (i + 1) (by omega) (by omega)
      · refine V_lload_n dX7_setsWithin_23 rfl 1 rfl ?_
        refine V_iload dX7_setsWithin_24 0 rfl ?_
        refine V_iload_n dX7_setsWithin_26 rfl 3 rfl ?_
        refine V_cSl (P := pM G (d + 2) mX7_setsWithin _) (d := d + 1) (r := [.long (swI ch w i)]) (As := [.int (nI i), .int (nI w)]) (K := mX7_setsWith) ok_X7_setsWith tw_547 rfl (rmOk (Nat.le_of_ble_eq_true rfl)) (Nat.le_of_ble_eq_true rfl) dX7_setsWithin_27 rfl (c_X7_setsWith (by omega) ?_)
        refine V_ldc2 dX7_setsWithin_30 tw_528 ?_
        refine V_lxor dX7_setsWithin_33 ?_
        refine V_land dX7_setsWithin_34 ?_
        refine V_lstore_n [(2, .long ((swI ch w i) &&& ((sW i w) ^^^ (-1)))), (4, .int (nI i)), (0, .int ch), (1, .int (nI w))] dX7_setsWithin_35 rfl (Nat.le_of_ble_eq_true rfl) rfl ?_
        refine V_iinc [(4, .int (nI (i + 1))), (2, .long ((swI ch w i) &&& ((sW i w) ^^^ (-1)))), (0, .int ch), (1, .int (nI w))] dX7_setsWithin_36 1 rfl (nI_1 _) (Nat.le_of_ble_eq_true rfl) rfl ?_
        refine V_goto 7 dX7_setsWithin_39 (by decide) ?_
        refine V_lv [(4, .int (nI (i + 1))), (2, .long ((swI ch w i) &&& ((sW i w) ^^^ (-1)))), (0, .int ch), (1, .int (nI w))] [0, 1, 2, 3] rfl ?_
        refine V_lveq [(4, .int (nI (i + 1))), (2, .long (swI ch w (i + 1))), (0, .int ch), (1, .int (nI w))] (by rw [swI_s, if_neg (by rw [h2]; exact Bool.false_ne_true)]) ?_
        exact ih (i + 1) (by omega) (by omega)
theorem c_X7_setsWithin {G : GX} {d : Nat} {S : ST} {w : Nat} {ch : Int32} {Q : Int64 → ST → Prop}  (hq : Q (swI ch w 12) S) : Cn G (d + 2) mX7_setsWithin [.int ch, .int (nI w)] S (ql Q) := by
  refine Cn.intro (lv := [(0, .int ch), (1, .int (nI w))]) (by decide) (Nat.le_of_ble_eq_true rfl) rfl ?_
  refine V_ldc2 dX7_setsWithin_0 tw_528 ?_
  refine V_lstore_n [(2, .long (-1)), (0, .int ch), (1, .int (nI w))] dX7_setsWithin_3 rfl (Nat.le_of_ble_eq_true rfl) rfl ?_
  refine V_iconst (v := 0) dX7_setsWithin_4 ki_0 ?_
  refine V_istore [(4, .int 0), (2, .long (-1)), (0, .int ch), (1, .int (nI w))] dX7_setsWithin_5 (Nat.le_of_ble_eq_true rfl) rfl ?_
  refine V_lv [(4, .int 0), (2, .long (-1)), (0, .int ch), (1, .int (nI w))] [0, 1, 2, 3] rfl ?_
  refine V_lveq [(4, .int 0), (2, .long (swI ch w 0)), (0, .int ch), (1, .int (nI w))] (by rfl) ?_
  exact lp_swI hq 13 0 (by omega) (by omega)
theorem lp_sse {G : GX} {d n w : Nat} {S : ST} {Q : Int64 → ST → Prop} (hn : S.1 0 = nI n) (h12 : n ≤ 12) (hq : Q (sSe (S.2.2.1 13) w n) S) : ∀ (k i : Nat), i ≤ n → n - i < k → V (pM G (d + 3) mX0_soundSets (ql Q)) 7 [(4, .int (nI i)), (2, .long (sSe (S.2.2.1 13) w i)), (0, .ref (G.2.1 8)), (1, .int (nI w))] [] S := by
  intro k
  induction k with
  | zero => intro i hi hk; exact absurd hk (Nat.not_lt_zero _)
  | succ k ih =>
    intro i hi hk
    refine V_iload dX0_soundSets_7 0 rfl ?_
    refine V_aload_n dX0_soundSets_9 rfl 2 rfl ?_
    refine g_8_0 tw_190 dX0_soundSets_10 ?_
    refine g_1_0 tw_29 dX0_soundSets_13 ?_
    refine V_topi (v := nI n) (hn) ?_
    refine V_icmp_gen 66 (a := i) (b := n) dX0_soundSets_16 (by decide) (by omega) (by omega) (fun h1 => ?_) (fun h1 => ?_)
    · refine V_lload_n dX0_soundSets_66 rfl 1 rfl ?_
      have hin : i = n := by omega
      subst hin
      exact V_lret rfl dX0_soundSets_67 ⟨_, rfl, hq⟩
    · refine V_aload_n dX0_soundSets_19 rfl 2 rfl ?_
      refine g_8_0 tw_190 dX0_soundSets_20 ?_
      refine g_1_5 tw_44 dX0_soundSets_23 ?_
      refine V_iload dX0_soundSets_26 0 rfl ?_
      refine l_13n (by omega) dX0_soundSets_28 ?_
      refine V_if_eq 60 dX0_soundSets_29 (by decide) (fun h2 => ?_) (fun h2 => ?_)
      · refine V_iinc [(4, .int (nI (i + 1))), (2, .long (sSe (S.2.2.1 13) w i)), (0, .ref (G.2.1 8)), (1, .int (nI w))] dX0_soundSets_60 0 rfl (nI_1 _) (Nat.le_of_ble_eq_true rfl) rfl ?_
        refine V_goto 7 dX0_soundSets_63 (by decide) ?_
        refine V_lv [(4, .int (nI (i + 1))), (2, .long (sSe (S.2.2.1 13) w i)), (0, .ref (G.2.1 8)), (1, .int (nI w))] [0, 1, 2, 3] rfl ?_
        refine V_lveq [(4, .int (nI (i + 1))), (2, .long (sSe (S.2.2.1 13) w (i + 1))), (0, .ref (G.2.1 8)), (1, .int (nI w))] (by rw [sSe_s, if_pos h2]) ?_
        exact ih (i + 1) (by omega) (by omega)
      · refine V_lload_n dX0_soundSets_32 rfl 1 rfl ?_
        refine V_iload dX0_soundSets_33 0 rfl ?_
        refine V_iload_n dX0_soundSets_35 rfl 3 rfl ?_
        refine V_cNl (P := pM G (d + 3) mX0_soundSets _) (d := d + 2) (r := [.long (sSe (S.2.2.1 13) w i)]) (As := [.int (nI i), .int (nI w)]) (K := mX7_setsWith) ok_X7_setsWith nl_543 rfl (rmOk (Nat.le_of_ble_eq_true rfl)) (Nat.le_of_ble_eq_true rfl) dX0_soundSets_36 rfl (c_X7_setsWith (by omega) ?_)
        refine V_ldc2 dX0_soundSets_39 tw_542 ?_
        refine V_lxor dX0_soundSets_42 ?_
        refine V_aload_n dX0_soundSets_43 rfl 2 rfl ?_
        refine g_8_0 tw_190 dX0_soundSets_44 ?_
        refine g_1_5 tw_44 dX0_soundSets_47 ?_
        refine V_iload dX0_soundSets_50 0 rfl ?_
        refine l_13n (by omega) dX0_soundSets_52 ?_
        refine V_iload_n dX0_soundSets_53 rfl 3 rfl ?_
        refine V_cNl (P := pM G (d + 3) mX0_soundSets _) (d := d + 2) (r := [.long ((sW i w) ^^^ (-1)), .long (sSe (S.2.2.1 13) w i)]) (As := [.int (S.2.2.1 13 i), .int (nI w)]) (K := mX7_setsWithAll) ok_X7_setsWithAll nl_544 rfl (rmOk (Nat.le_of_ble_eq_true rfl)) (Nat.le_of_ble_eq_true rfl) dX0_soundSets_54 rfl (c_X7_setsWithAll ?_)
        refine V_lor dX0_soundSets_57 ?_
        refine V_land dX0_soundSets_58 ?_
        refine V_lstore_n [(2, .long ((sSe (S.2.2.1 13) w i) &&& (((sW i w) ^^^ (-1)) ||| (swA (S.2.2.1 13 i) w 12)))), (4, .int (nI i)), (0, .ref (G.2.1 8)), (1, .int (nI w))] dX0_soundSets_59 rfl (Nat.le_of_ble_eq_true rfl) rfl ?_
        refine V_iinc [(4, .int (nI (i + 1))), (2, .long ((sSe (S.2.2.1 13) w i) &&& (((sW i w) ^^^ (-1)) ||| (swA (S.2.2.1 13 i) w 12)))), (0, .ref (G.2.1 8)), (1, .int (nI w))] dX0_soundSets_60 1 rfl (nI_1 _) (Nat.le_of_ble_eq_true rfl) rfl ?_
        refine V_goto 7 dX0_soundSets_63 (by decide) ?_
        refine V_lv [(4, .int (nI (i + 1))), (2, .long ((sSe (S.2.2.1 13) w i) &&& (((sW i w) ^^^ (-1)) ||| (swA (S.2.2.1 13 i) w 12)))), (0, .ref (G.2.1 8)), (1, .int (nI w))] [0, 1, 2, 3] rfl ?_
        refine V_lveq [(4, .int (nI (i + 1))), (2, .long (sSe (S.2.2.1 13) w (i + 1))), (0, .ref (G.2.1 8)), (1, .int (nI w))] (by rw [sSe_s, if_neg h2]) ?_
        exact ih (i + 1) (by omega) (by omega)
theorem c_X0_soundSets {G : GX} {d : Nat} {S : ST} {n w : Nat} {Q : Int64 → ST → Prop} (hn : S.1 0 = nI n) (h12 : n ≤ 12) (hq : Q (sSe (S.2.2.1 13) w n) S) : Cn G (d + 3) mX0_soundSets [.ref (G.2.1 8), .int (nI w)] S (ql Q) := by
  refine Cn.intro (lv := [(0, .ref (G.2.1 8)), (1, .int (nI w))]) (by decide) (Nat.le_of_ble_eq_true rfl) rfl ?_
  refine V_ldc2 dX0_soundSets_0 tw_542 ?_
  refine V_lstore_n [(2, .long (-1)), (0, .ref (G.2.1 8)), (1, .int (nI w))] dX0_soundSets_3 rfl (Nat.le_of_ble_eq_true rfl) rfl ?_
  refine V_iconst (v := 0) dX0_soundSets_4 ki_0 ?_
  refine V_istore [(4, .int 0), (2, .long (-1)), (0, .ref (G.2.1 8)), (1, .int (nI w))] dX0_soundSets_5 (Nat.le_of_ble_eq_true rfl) rfl ?_
  refine V_lv [(4, .int 0), (2, .long (-1)), (0, .ref (G.2.1 8)), (1, .int (nI w))] [0, 1, 2, 3] rfl ?_
  refine V_lveq [(4, .int 0), (2, .long (sSe (S.2.2.1 13) w 0)), (0, .ref (G.2.1 8)), (1, .int (nI w))] (by rfl) ?_
  exact lp_sse hn h12 hq (n + 1) 0 (by omega) (by omega)
theorem c_X0_isSound {G : GX} {d : Nat} {S : ST} {n t : Nat} {Q : Int32 → ST → Prop} (hn : S.1 0 = nI n) (h12 : n ≤ 12) (ht : t < 4096) (hq : Q (b2i (bl (sSe (S.2.2.1 13) (t / 64) n) (t % 64))) S) : Cn G (d + 4) mX0_isSound [.ref (G.2.1 8), .int (nI t)] S (qi Q) := by
  refine Cn.intro (lv := [(0, .ref (G.2.1 8)), (1, .int (nI t))]) (by decide) (Nat.le_of_ble_eq_true rfl) rfl ?_
  refine V_aload_n dX0_isSound_0 rfl 0 rfl ?_
  refine V_iload_n dX0_isSound_1 rfl 1 rfl ?_
  refine V_bipush (v := 6) dX0_isSound_2 kb_6 ?_
  refine V_ishr dX0_isSound_4 ?_
  refine V_topi (v := nI (t / 64)) (nI_sh6 (by omega)) ?_
  refine V_cVl (P := pM G (d + 4) mX0_isSound _) (d := d + 3) 8 (r := []) (As := [.int (nI (t / 64))]) (K := mX0_soundSets) ok_X0_soundSets tw_538 (ob_8 _) rfl (rmOk (Nat.le_of_ble_eq_true rfl)) (Nat.le_of_ble_eq_true rfl) dX0_isSound_5 rfl (c_X0_soundSets hn h12 ?_)
  refine V_iload_n dX0_isSound_8 rfl 1 rfl ?_
  refine V_cNi (P := pM G (d + 4) mX0_isSound _) (d := d + 3) (r := []) (As := [.long (sSe (S.2.2.1 13) (t / 64) n), .int (nI t)]) (K := mX7_isOfWord) ok_X7_isOfWord nl_548 rfl (rmOk (Nat.le_of_ble_eq_true rfl)) (Nat.le_of_ble_eq_true rfl) dX0_isSound_9 rfl (c_X7_isOfWord (by omega) ?_)
  refine V_zret rfl dX0_isSound_12 (b2i_nar _) ⟨_, rfl, ?_⟩
  exact hq
