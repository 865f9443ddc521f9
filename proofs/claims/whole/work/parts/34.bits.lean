theorem gxo_val {w : XT → Int64} {L : List XT} {x : XT} (h : (gxo w L).2 = some x) : (gxo w L).1 = w x := by
  rcases gxo_sp w L with ⟨z1, -⟩ | ⟨y, z1, z2, -⟩
  · rw [h] at z1; cases z1
  · rw [h] at z1; cases z1; exact z2
theorem c_X8_isSure {G : GX} {d : Nat} {S : ST} {q : Int32} {S0 : ST} {n m : Nat} {Q : Int32 → ST → Prop} (hM : MS S0 m (stl n) S) (h12 : n ≤ 12) (hq : Q (b2i (isu (wMX S0 m) (stl n) q)) S) : Cn G (d + 1) mX8_isSure [.ref (G.2.1 29), .int q] S (qi Q) := by
  refine Cn.intro (lv := [(0, .ref (G.2.1 29)), (1, .int q)]) (by decide) (Nat.le_of_ble_eq_true rfl) rfl ?_
  refine V_aload_n dX8_isSure_0 rfl 0 rfl ?_
  refine V_cVi (P := pM G (d + 1) mX8_isSure _) (d := d) 29 (r := []) (As := []) (K := mX8_guessOf) ok_X8_guessOf tw_807 (ob_29 _) rfl (rmOk (Nat.le_of_ble_eq_true rfl)) (Nat.le_of_ble_eq_true rfl) dX8_isSure_1 rfl (c_X8_guessOf hM.2.1 (stl_len n (by omega)) ?_)
  refine V_istore_n [(2, .int ((gm (S.2.2.2 43) ((stl n).length)).1)), (0, .ref (G.2.1 29)), (1, .int q)] dX8_isSure_4 rfl (Nat.le_of_ble_eq_true rfl) rfl ?_
  have hl2 := stl_len n (by omega)
  rcases gm_end (w := wMX S0 m) (f := S.2.2.2 43) (fun k x hx => (hM.2.2.1 k x hx).2.2.2) with ⟨g1, g2⟩ | ⟨x, j, g1, hj, g2, hx⟩
  · refine V_lveq [(2, .int (-6)), (0, .ref (G.2.1 29)), (1, .int q)] (by rw [g2]) ?_
    refine V_iload_n dX8_isSure_5 rfl 0 rfl ?_
    refine V_if_lt 34 dX8_isSure_6 (by decide) (fun _ => ?_) (fun hz => absurd hz (by decide))
    refine V_iconst (v := 0) dX8_isSure_34 ki_0 ?_
    refine V_zret rfl dX8_isSure_35 rfl ⟨_, rfl, ?_⟩
    exact qcast hq (by rw [isu, g1]; rfl)
  · refine V_lveq [(2, .int (nI j)), (0, .ref (G.2.1 29)), (1, .int q)] (by rw [g2]) ?_
    obtain ⟨x1, x2, x3, x4⟩ := hM.2.2.1 j x hx
    have gv : (gxo (wMX S0 m) (stl n)).1 = wMX S0 m x := gxo_val g1
    refine V_iload_n dX8_isSure_5 rfl 0 rfl ?_
    refine V_if_ltn 34 (a := j) dX8_isSure_6 (by decide) (by omega) (fun hz => hz.elim) (fun _ => ?_)
    refine V_aload_n dX8_isSure_9 rfl 1 rfl ?_
    refine g_29_18 tw_646 dX8_isSure_10 ?_
    refine V_iload_n dX8_isSure_13 rfl 0 rfl ?_
    refine l_43n (by omega) dX8_isSure_14 ?_
    refine V_topl (v := wMX S0 m x) (id x4) ?_
    refine V_ldc2 dX8_isSure_15 tw_823 ?_
    refine V_lmul dX8_isSure_18 ?_
    refine V_aload_n dX8_isSure_19 rfl 1 rfl ?_
    refine g_29_19 tw_647 dX8_isSure_20 ?_
    refine V_topl (v := lsum (wMX S0 m) (stl n)) (id hM.2.2.2) ?_
    refine V_iload_n dX8_isSure_23 rfl 2 rfl ?_
    refine V_i2l dX8_isSure_24 ?_
    refine V_lmul dX8_isSure_25 ?_
    refine V_lcmp dX8_isSure_26 ?_
    refine V_if_lt 34 dX8_isSure_27 (by decide) (fun h1 => ?_) (fun h1 => ?_)
    · refine V_iconst (v := 0) dX8_isSure_34 ki_0 ?_
      refine V_zret rfl dX8_isSure_35 rfl ⟨_, rfl, ?_⟩
      exact qcast hq (by rw [isu, g1]; show _ = b2i (decide _); rw [gv, decide_eq_false (fun z => Int64.not_le.mpr (lg_lt.mp h1) z)]; rfl)
    · refine V_iconst (v := 1) dX8_isSure_30 ki_1 ?_
      refine V_goto 35 dX8_isSure_31 (by decide) ?_
      refine V_zret rfl dX8_isSure_35 rfl ⟨_, rfl, ?_⟩
      exact qcast hq (by rw [isu, g1]; show _ = b2i (decide _); rw [gv, decide_eq_true (lg_ge.mp (Int32.not_lt.mp h1))]; rfl)
def twm (h df : Nat → Int32) (c : Nat) (x0 : Int32) : Nat → Int32
  | 0 => x0
  | k + 1 => if df k = 0 then twm h df c x0 k &&& (if bt (h k) c then h k else h k ^^^ -1) else twm h df c x0 k
theorem twm_s (h df : Nat → Int32) (c : Nat) (x0 : Int32) (k : Nat) : twm h df c x0 (k + 1) = if df k = 0 then twm h df c x0 k &&& (if bt (h k) c then h k else h k ^^^ -1) else twm h df c x0 k := rfl
theorem lp_mtwins {G : GX} {d n ch : Nat} {S : ST} {Q : Int32 → ST → Prop} (hn : S.1 10 = nI n) (h12 : n ≤ 12) (hc : ch < 12) (hq : Q (twm (S.2.2.1 30) (S.2.2.1 34) ch ((1 : Int32) <<< (nI n &&& 31) - 1) n) S) : ∀ (k i : Nat), i ≤ n → n - i < k → V (pM G (d + 2) mX8_twins (qi Q)) 21 [(3, .int (nI i)), (2, .int (twm (S.2.2.1 30) (S.2.2.1 34) ch ((1 : Int32) <<< (nI n &&& 31) - 1) i)), (0, .ref (G.2.1 29)), (1, .int (nI ch))] [] S := by
  intro k
  induction k with
  | zero => intro i hi hk; exact absurd hk (Nat.not_lt_zero _)
  | succ k ih =>
    intro i hi hk
    refine V_iload_n dX8_twins_21 rfl 0 rfl ?_
    refine V_aload_n dX8_twins_22 rfl 2 rfl ?_
    refine g_29_0 tw_628 dX8_twins_23 ?_
    refine V_topi (v := nI n) (hn) ?_
    refine V_icmp_gen 77 (a := i) (b := n) dX8_twins_26 (by decide) (by omega) (by omega) (fun h1 => ?_) (fun h1 => ?_)
    · refine V_iload_n dX8_twins_77 rfl 1 rfl ?_
      have hin : i = n := by omega
      subst hin
      exact V_iret rfl dX8_twins_78 ⟨_, rfl, hq⟩
    · refine V_aload_n dX8_twins_29 rfl 2 rfl ?_
      refine g_29_5 tw_633 dX8_twins_30 ?_
      refine V_iload_n dX8_twins_33 rfl 0 rfl ?_
      refine l_34n (by omega) dX8_twins_34 ?_
      refine V_if_ne 71 dX8_twins_35 (by decide) (fun h2 => ?_) (fun h2 => ?_)
      · refine V_iinc [(3, .int (nI (i + 1))), (2, .int (twm (S.2.2.1 30) (S.2.2.1 34) ch ((1 : Int32) <<< (nI n &&& 31) - 1) i)), (0, .ref (G.2.1 29)), (1, .int (nI ch))] dX8_twins_71 0 rfl (nI_1 _) (Nat.le_of_ble_eq_true rfl) rfl ?_
        refine V_goto 21 dX8_twins_74 (by decide) ?_
        refine V_lv [(3, .int (nI (i + 1))), (2, .int (twm (S.2.2.1 30) (S.2.2.1 34) ch ((1 : Int32) <<< (nI n &&& 31) - 1) i)), (0, .ref (G.2.1 29)), (1, .int (nI ch))] [0, 1, 2, 3] rfl ?_
        refine V_lveq [(3, .int (nI (i + 1))), (2, .int (twm (S.2.2.1 30) (S.2.2.1 34) ch ((1 : Int32) <<< (nI n &&& 31) - 1) (i + 1))), (0, .ref (G.2.1 29)), (1, .int (nI ch))] (by rw [twm_s, if_neg h2]) ?_
        exact ih (i + 1) (by omega) (by omega)
      · refine V_iload_n dX8_twins_38 rfl 1 rfl ?_
        refine V_aload_n dX8_twins_39 rfl 2 rfl ?_
        refine g_29_1 tw_629 dX8_twins_40 ?_
        refine V_iload_n dX8_twins_43 rfl 0 rfl ?_
        refine l_30n (by omega) dX8_twins_44 ?_
        refine V_iload_n dX8_twins_45 rfl 3 rfl ?_
        refine V_cSi (P := pM G (d + 2) mX8_twins _) (d := d + 1) (r := [.int (twm (S.2.2.1 30) (S.2.2.1 34) ch ((1 : Int32) <<< (nI n &&& 31) - 1) i)]) (As := [.int (S.2.2.1 30 i), .int (nI ch)]) (K := mX8_hasBit) ok_X8_hasBit tw_772 rfl (rmOk (Nat.le_of_ble_eq_true rfl)) (Nat.le_of_ble_eq_true rfl) dX8_twins_46 rfl (c_X8_hasBit (by omega) ?_)
        refine V_ifb_eq 61 dX8_twins_49 (by decide) (fun h3 => ?_) (fun h3 => ?_)
        · refine V_aload_n dX8_twins_61 rfl 2 rfl ?_
          refine g_29_1 tw_629 dX8_twins_62 ?_
          refine V_iload_n dX8_twins_65 rfl 0 rfl ?_
          refine l_30n (by omega) dX8_twins_66 ?_
          refine V_iconst (v := -1) dX8_twins_67 ki_m1 ?_
          refine V_ixor dX8_twins_68 ?_
          refine V_iand dX8_twins_69 ?_
          refine V_istore_n [(2, .int ((twm (S.2.2.1 30) (S.2.2.1 34) ch ((1 : Int32) <<< (nI n &&& 31) - 1) i) &&& ((S.2.2.1 30 i) ^^^ (-1)))), (3, .int (nI i)), (0, .ref (G.2.1 29)), (1, .int (nI ch))] dX8_twins_70 rfl (Nat.le_of_ble_eq_true rfl) rfl ?_
          refine V_iinc [(3, .int (nI (i + 1))), (2, .int ((twm (S.2.2.1 30) (S.2.2.1 34) ch ((1 : Int32) <<< (nI n &&& 31) - 1) i) &&& ((S.2.2.1 30 i) ^^^ (-1)))), (0, .ref (G.2.1 29)), (1, .int (nI ch))] dX8_twins_71 1 rfl (nI_1 _) (Nat.le_of_ble_eq_true rfl) rfl ?_
          refine V_goto 21 dX8_twins_74 (by decide) ?_
          refine V_lv [(3, .int (nI (i + 1))), (2, .int ((twm (S.2.2.1 30) (S.2.2.1 34) ch ((1 : Int32) <<< (nI n &&& 31) - 1) i) &&& ((S.2.2.1 30 i) ^^^ (-1)))), (0, .ref (G.2.1 29)), (1, .int (nI ch))] [0, 1, 2, 3] rfl ?_
          refine V_lveq [(3, .int (nI (i + 1))), (2, .int (twm (S.2.2.1 30) (S.2.2.1 34) ch ((1 : Int32) <<< (nI n &&& 31) - 1) (i + 1))), (0, .ref (G.2.1 29)), (1, .int (nI ch))] (by rw [twm_s, if_pos h2, if_neg (by rw [h3]; exact Bool.false_ne_true)]) ?_
          exact ih (i + 1) (by omega) (by omega)
        · refine V_aload_n dX8_twins_52 rfl 2 rfl ?_
          refine g_29_1 tw_629 dX8_twins_53 ?_
          refine V_iload_n dX8_twins_56 rfl 0 rfl ?_
          refine l_30n (by omega) dX8_twins_57 ?_
          refine V_goto 69 dX8_twins_58 (by decide) ?_
          refine V_iand dX8_twins_69 ?_
          refine V_istore_n [(2, .int ((twm (S.2.2.1 30) (S.2.2.1 34) ch ((1 : Int32) <<< (nI n &&& 31) - 1) i) &&& (S.2.2.1 30 i))), (3, .int (nI i)), (0, .ref (G.2.1 29)), (1, .int (nI ch))] dX8_twins_70 rfl (Nat.le_of_ble_eq_true rfl) rfl ?_
          refine V_iinc [(3, .int (nI (i + 1))), (2, .int ((twm (S.2.2.1 30) (S.2.2.1 34) ch ((1 : Int32) <<< (nI n &&& 31) - 1) i) &&& (S.2.2.1 30 i))), (0, .ref (G.2.1 29)), (1, .int (nI ch))] dX8_twins_71 1 rfl (nI_1 _) (Nat.le_of_ble_eq_true rfl) rfl ?_
          refine V_goto 21 dX8_twins_74 (by decide) ?_
          refine V_lv [(3, .int (nI (i + 1))), (2, .int ((twm (S.2.2.1 30) (S.2.2.1 34) ch ((1 : Int32) <<< (nI n &&& 31) - 1) i) &&& (S.2.2.1 30 i))), (0, .ref (G.2.1 29)), (1, .int (nI ch))] [0, 1, 2, 3] rfl ?_
          refine V_lveq [(3, .int (nI (i + 1))), (2, .int (twm (S.2.2.1 30) (S.2.2.1 34) ch ((1 : Int32) <<< (nI n &&& 31) - 1) (i + 1))), (0, .ref (G.2.1 29)), (1, .int (nI ch))] (by rw [twm_s, if_pos h2, if_pos h3]) ?_
          exact ih (i + 1) (by omega) (by omega)
theorem c_X8_twins {G : GX} {d : Nat} {S : ST} {v : Int32} {n : Nat} {Q : Int32 → ST → Prop} (hn : S.1 10 = nI n) (h12 : n ≤ 12) (hq : Q (if kn n v then twm (S.2.2.1 30) (S.2.2.1 34) v.toNatClampNeg ((1 : Int32) <<< (nI n &&& 31) - 1) n else -1) S) : Cn G (d + 2) mX8_twins [.ref (G.2.1 29), .int v] S (qi Q) := by
  refine Cn.intro (lv := [(0, .ref (G.2.1 29)), (1, .int v)]) (by decide) (Nat.le_of_ble_eq_true rfl) rfl ?_
  refine V_aload_n dX8_twins_0 rfl 0 rfl ?_
  refine V_iload_n dX8_twins_1 rfl 1 rfl ?_
  refine V_cVi (P := pM G (d + 2) mX8_twins _) (d := d + 1) 29 (r := []) (As := [.int v]) (K := mX8_isVersion) ok_X8_isVersion tw_717 (ob_29 _) rfl (rmOk (Nat.le_of_ble_eq_true rfl)) (Nat.le_of_ble_eq_true rfl) dX8_twins_2 rfl (c_X8_isVersion hn h12 ?_)
  refine V_ifb_ne 10 dX8_twins_5 (by decide) (fun h1 => ?_) (fun h1 => ?_)
  · refine V_iconst (v := 1) dX8_twins_10 ki_1 ?_
    refine V_aload_n dX8_twins_11 rfl 0 rfl ?_
    refine g_29_0 tw_628 dX8_twins_12 ?_
    refine V_topi (v := nI n) (hn) ?_
    refine V_ishl dX8_twins_15 ?_
    refine V_iconst (v := 1) dX8_twins_16 ki_1 ?_
    refine V_isub dX8_twins_17 ?_
    refine V_istore_n [(2, .int (((1 : Int32) <<< ((nI n) &&& 31)) - 1)), (0, .ref (G.2.1 29)), (1, .int v)] dX8_twins_18 rfl (Nat.le_of_ble_eq_true rfl) rfl ?_
    refine V_iconst (v := 0) dX8_twins_19 ki_0 ?_
    refine V_istore_n [(3, .int 0), (2, .int (((1 : Int32) <<< ((nI n) &&& 31)) - 1)), (0, .ref (G.2.1 29)), (1, .int v)] dX8_twins_20 rfl (Nat.le_of_ble_eq_true rfl) rfl ?_
    obtain ⟨j, hj, rfl⟩ := kn_ex h1 (by omega)
    rw [nI_clamp (show j < 2 ^ 31 by omega), if_pos h1] at hq
    refine V_lv [(3, .int 0), (2, .int (((1 : Int32) <<< ((nI n) &&& 31)) - 1)), (0, .ref (G.2.1 29)), (1, .int (nI j))] [0, 1, 2, 3] rfl ?_
    refine V_lveq [(3, .int 0), (2, .int (twm (S.2.2.1 30) (S.2.2.1 34) j ((1 : Int32) <<< (nI n &&& 31) - 1) 0)), (0, .ref (G.2.1 29)), (1, .int (nI j))] (by rfl) ?_
    exact lp_mtwins hn h12 (by omega) hq (n + 1) 0 (by omega) (by omega)
  · refine V_iconst (v := -1) dX8_twins_8 ki_m1 ?_
    refine V_iret rfl dX8_twins_9 ⟨_, rfl, ?_⟩
    exact qcast hq (by simp [h1])
def bl (x : Int64) (i : Nat) : Bool := x.toBitVec.getLsbD i
theorem bl_ext {x y : Int64} (h : ∀ i, i < 64 → bl x i = bl y i) : x = y := Int64.toBitVec_inj.mp (BitVec.eq_of_getLsbD_eq (fun i hi => h i hi))
theorem bl_or (x y : Int64) (i : Nat) : bl (x ||| y) i = (bl x i || bl y i) := by unfold bl; rw [Int64.toBitVec_or, BitVec.getLsbD_or]
theorem bl_and (x y : Int64) (i : Nat) : bl (x &&& y) i = (bl x i && bl y i) := by unfold bl; rw [Int64.toBitVec_and, BitVec.getLsbD_and]
theorem bl_xor (x y : Int64) (i : Nat) : bl (x ^^^ y) i = (bl x i ^^ bl y i) := by unfold bl; rw [Int64.toBitVec_xor, BitVec.getLsbD_xor]
theorem bl_m1 : ∀ i, i < 64 → bl (-1) i = true := by decide +kernel
theorem bl_0 (i : Nat) : bl 0 i = false := BitVec.getLsbD_zero
theorem bl_low : ∀ c, c < 6 → ∀ i, i < 64 → bl (lowF c) i = i.testBit c := by decide +kernel
def sW (c w : Nat) : Int64 := if c < 6 then lowF c else if bt (nI w) (c - 6) then -1 else 0
theorem bt_nI {w k : Nat} (hk : k < 32) : bt (nI w) k = w.testBit k := by
  unfold bt nI
  show (BitVec.ofNat 32 w).getLsbD k = _
  rw [BitVec.getLsbD_ofNat]
  simp [hk]
/-- bit j of a word: the set 64 w + j has the change -/
theorem bl_sW {c w j : Nat} (hc : c < 12) (hj : j < 64) : bl (sW c w) j = (64 * w + j).testBit c := by
  have key : (64 * w + j).testBit c = if c < 6 then j.testBit c else w.testBit (c - 6) := by
    rw [show 64 * w + j = 2 ^ 6 * w + j by omega, Nat.testBit_two_pow_mul_add w (by omega)]
  rw [key]
  unfold sW
  by_cases h : c < 6
  · rw [if_pos h, if_pos h, bl_low c h j hj]
  · rw [if_neg h, if_neg h, bt_nI (by omega)]
    cases w.testBit (c - 6)
    · exact bl_0 j
    · exact bl_m1 j hj
theorem c_X7_setsWith {G : GX} {d : Nat} {S : ST} {c w : Nat} {Q : Int64 → ST → Prop} (hc : c < 12) (hq : Q (sW c w) S) : Cn G (d + 1) mX7_setsWith [.int (nI c), .int (nI w)] S (ql Q) := by
  refine Cn.intro (lv := [(0, .int (nI c)), (1, .int (nI w))]) (by decide) (Nat.le_of_ble_eq_true rfl) rfl ?_
  refine V_iload_n dX7_setsWith_0 rfl 0 rfl ?_
  refine V_bipush (v := 6) dX7_setsWith_1 kb_6 ?_
  refine V_icmp_gen 12 (a := c) (b := 6) dX7_setsWith_3 (by decide) (by omega) (by omega) (fun h1 => ?_) (fun h1 => ?_)
  · refine V_iload_n dX7_setsWith_12 rfl 1 rfl ?_
    refine V_iload_n dX7_setsWith_13 rfl 0 rfl ?_
    refine V_bipush (v := 6) dX7_setsWith_14 kb_6 ?_
    refine V_isub dX7_setsWith_16 ?_
    refine V_topi (v := nI (c - 6)) (pk_sub (b := 6) h1) ?_
    refine V_cSi (P := pM G (d + 1) mX7_setsWith _) (d := d) (r := []) (As := [.int (nI w), .int (nI (c - 6))]) (K := mX7_isBit) ok_X7_isBit tw_527 rfl (rmOk (Nat.le_of_ble_eq_true rfl)) (Nat.le_of_ble_eq_true rfl) dX7_setsWith_17 rfl (c_X7_isBit (by omega) ?_)
    refine V_ifb_eq 29 dX7_setsWith_20 (by decide) (fun h2 => ?_) (fun h2 => ?_)
    · refine V_lconst (v := 0) dX7_setsWith_29 rfl ?_
      refine V_lret rfl dX7_setsWith_30 ⟨_, rfl, ?_⟩
      exact qcast hq (by rw [sW, if_neg (by omega), if_neg (by rw [h2]; exact Bool.false_ne_true)])
    · refine V_ldc2 dX7_setsWith_23 tw_528 ?_
      refine V_goto 30 dX7_setsWith_26 (by decide) ?_
      refine V_lret rfl dX7_setsWith_30 ⟨_, rfl, ?_⟩
      exact qcast hq (by rw [sW, if_neg (by omega), if_pos h2])
  · refine V_low tw_525 dX7_setsWith_6 ?_
    refine V_iload_n dX7_setsWith_9 rfl 0 rfl ?_
    refine l_lown (by omega) dX7_setsWith_10 ?_
    refine V_lret rfl dX7_setsWith_11 ⟨_, rfl, ?_⟩
    exact qcast hq (by rw [sW, if_pos h1])
