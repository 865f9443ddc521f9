theorem qcast {α : Type} {Q : α → ST → Prop} {a b : α} {S : ST} (h : Q a S) (e : b = a) : Q b S := e ▸ h
def bt (x : Int32) (i : Nat) : Bool := x.toBitVec.getLsbD i
theorem b_ext {x y : Int32} (h : ∀ i, i < 32 → bt x i = bt y i) : x = y := Int32.toBitVec_inj.mp (BitVec.eq_of_getLsbD_eq (fun i hi => h i hi))
theorem b_or (x y : Int32) (i : Nat) : bt (x ||| y) i = (bt x i || bt y i) := by unfold bt; rw [Int32.toBitVec_or, BitVec.getLsbD_or]
theorem b_and (x y : Int32) (i : Nat) : bt (x &&& y) i = (bt x i && bt y i) := by unfold bt; rw [Int32.toBitVec_and, BitVec.getLsbD_and]
theorem b_xor (x y : Int32) (i : Nat) : bt (x ^^^ y) i = (bt x i ^^ bt y i) := by unfold bt; rw [Int32.toBitVec_xor, BitVec.getLsbD_xor]
theorem b_big {x : Int32} {i : Nat} (h : 32 ≤ i) : bt x i = false := BitVec.getLsbD_of_ge _ _ h
theorem b_m1 : ∀ i, i < 32 → bt (-1) i = true := by decide +kernel
theorem b_0 (i : Nat) : bt 0 i = false := BitVec.getLsbD_zero
theorem s_l : ∀ n, n < 32 → ((nI n &&& 31).toBitVec.smod 32).toNat = n := by decide +kernel
theorem b_shl (n : Nat) (hn : n < 32) (x : Int32) {i : Nat} (hi : i < 32) : bt (x <<< (nI n &&& 31)) i = (decide (n ≤ i) && bt x (i - n)) := by
  unfold bt
  rw [Int32.toBitVec_shiftLeft]
  show (x.toBitVec <<< ((nI n &&& 31).toBitVec.smod 32).toNat).getLsbD i = _
  rw [s_l n hn, BitVec.getLsbD_shiftLeft]
  rcases Nat.lt_or_ge i n with h | h
  · simp [h, Nat.not_le.mpr h]
  · simp [hi, h, Nat.not_lt.mpr h]
theorem b_sshr (n : Nat) (hn : n < 32) (x : Int32) {i : Nat} (hi : i < 32) : bt (x >>> (nI n &&& 31)) i = if n + i < 32 then bt x (n + i) else bt x 31 := by
  unfold bt
  rw [Int32.toBitVec_shiftRight]
  show (x.toBitVec.sshiftRight ((nI n &&& 31).toBitVec.smod 32).toNat).getLsbD i = _
  rw [s_l n hn, BitVec.getLsbD_sshiftRight, BitVec.msb_eq_getLsbD_last]
  simp [hi]
theorem b_1 : ∀ i, i < 32 → bt 1 i = decide (i = 0) := by decide +kernel
theorem b_sh1 {k : Nat} (hk : k < 32) {i : Nat} (hi : i < 32) : bt (1 <<< (nI k &&& 31)) i = decide (i = k) := by
  rw [b_shl k hk 1 hi]
  rcases Nat.lt_or_ge i k with h | h
  · simp [Nat.not_le.mpr h, Nat.ne_of_lt h]
  · rw [b_1 (i - k) (by omega)]
    simp only [h, decide_true, Bool.true_and]
    congr 1
    apply propext
    omega
/-- one bit of an int, as both programs ask for it -/
theorem b_ask (x : Int32) {k : Nat} (hk : k < 32) : (x >>> (nI k &&& 31)) &&& 1 = b2i (bt x k) := by
  apply b_ext
  intro i hi
  rw [b_and, b_1 i hi]
  cases hb : bt x k
  · rw [b2i_f rfl, b_0]
    by_cases h0 : i = 0
    · subst h0
      rw [b_sshr k hk x (by omega)]
      simp [hk, hb]
    · simp [h0]
  · rw [b2i_t rfl, b_1 i hi]
    by_cases h0 : i = 0
    · subst h0
      rw [b_sshr k hk x (by omega)]
      simp [hk, hb]
    · simp [h0]
theorem c_X7_isFrom {G : GX} {d : Nat} {S : ST} {v lo hi : Int32} {Q : Int32 → ST → Prop}  (hq : Q (b2i (decide (lo ≤ v ∧ v ≤ hi))) S) : Cn G d mX7_isFrom [.int v, .int lo, .int hi] S (qi Q) := by
  refine Cn.intro (lv := [(0, .int v), (1, .int lo), (2, .int hi)]) (by decide) (Nat.le_of_ble_eq_true rfl) rfl ?_
  refine V_iload_n dX7_isFrom_0 rfl 0 rfl ?_
  refine V_iload_n dX7_isFrom_1 rfl 1 rfl ?_
  refine V_icmp_lt 14 dX7_isFrom_2 (by decide) (fun h1 => ?_) (fun h1 => ?_)
  · refine V_iconst (v := 0) dX7_isFrom_14 rfl ?_
    refine V_zret rfl dX7_isFrom_15 rfl ⟨_, rfl, ?_⟩
    exact qcast hq (b2i_f (decide_eq_false (by simp only [Int32.lt_iff_toInt_lt, Int32.le_iff_toInt_le, Int32.not_lt, Int32.not_le] at *; omega))).symm
  · refine V_iload_n dX7_isFrom_5 rfl 0 rfl ?_
    refine V_iload_n dX7_isFrom_6 rfl 2 rfl ?_
    refine V_icmp_gt 14 dX7_isFrom_7 (by decide) (fun h2 => ?_) (fun h2 => ?_)
    · refine V_iconst (v := 0) dX7_isFrom_14 rfl ?_
      refine V_zret rfl dX7_isFrom_15 rfl ⟨_, rfl, ?_⟩
      exact qcast hq (b2i_f (decide_eq_false (by simp only [Int32.lt_iff_toInt_lt, Int32.le_iff_toInt_le, Int32.not_lt, Int32.not_le] at *; omega))).symm
    · refine V_iconst (v := 1) dX7_isFrom_10 rfl ?_
      refine V_goto 15 dX7_isFrom_11 (by decide) ?_
      refine V_zret rfl dX7_isFrom_15 rfl ⟨_, rfl, ?_⟩
      exact qcast hq (b2i_t (decide_eq_true (by simp only [Int32.lt_iff_toInt_lt, Int32.le_iff_toInt_le, Int32.not_lt, Int32.not_le] at *; omega))).symm
theorem c_X7_asNumber {G : GX} {d : Nat} {S : ST} {b : Bool} {Q : Int32 → ST → Prop}  (hq : Q (b2i b) S) : Cn G d mX7_asNumber [.int (b2i b)] S (qi Q) := by
  refine Cn.intro (lv := [(0, .int (b2i b))]) (by decide) (Nat.le_of_ble_eq_true rfl) rfl ?_
  refine V_iload_n dX7_asNumber_0 rfl 0 rfl ?_
  refine V_ifb_eq 8 dX7_asNumber_1 (by decide) (fun h1 => ?_) (fun h1 => ?_)
  · refine V_iconst (v := 0) dX7_asNumber_8 rfl ?_
    refine V_iret rfl dX7_asNumber_9 ⟨_, rfl, ?_⟩
    exact qcast hq (by rw [h1]; rfl)
  · refine V_iconst (v := 1) dX7_asNumber_4 rfl ?_
    refine V_goto 9 dX7_asNumber_5 (by decide) ?_
    refine V_iret rfl dX7_asNumber_9 ⟨_, rfl, ?_⟩
    exact qcast hq (by rw [h1]; rfl)
theorem c_X7_isBit {G : GX} {d : Nat} {S : ST} {x : Int32} {k : Nat} {Q : Int32 → ST → Prop} (hk : k < 32) (hq : Q (b2i (bt x k)) S) : Cn G d mX7_isBit [.int x, .int (nI k)] S (qi Q) := by
  refine Cn.intro (lv := [(0, .int x), (1, .int (nI k))]) (by decide) (Nat.le_of_ble_eq_true rfl) rfl ?_
  refine V_iload_n dX7_isBit_0 rfl 0 rfl ?_
  refine V_iload_n dX7_isBit_1 rfl 1 rfl ?_
  refine V_ishr dX7_isBit_2 ?_
  refine V_iconst (v := 1) dX7_isBit_3 rfl ?_
  refine V_iand dX7_isBit_4 ?_
  refine V_topi (v := b2i (bt x k)) (b_ask x hk) ?_
  refine V_ifb_eq 12 dX7_isBit_5 (by decide) (fun h1 => ?_) (fun h1 => ?_)
  · refine V_iconst (v := 0) dX7_isBit_12 rfl ?_
    refine V_zret rfl dX7_isBit_13 rfl ⟨_, rfl, ?_⟩
    exact qcast hq (by rw [h1]; rfl)
  · refine V_iconst (v := 1) dX7_isBit_8 rfl ?_
    refine V_goto 13 dX7_isBit_9 (by decide) ?_
    refine V_zret rfl dX7_isBit_13 rfl ⟨_, rfl, ?_⟩
    exact qcast hq (by rw [h1]; rfl)
theorem c_X8_in {G : GX} {d : Nat} {S : ST} {v lo hi : Int32} {Q : Int32 → ST → Prop}  (hq : Q (b2i (decide (lo ≤ v ∧ v ≤ hi))) S) : Cn G d mX8_in [.int v, .int lo, .int hi] S (qi Q) := by
  refine Cn.intro (lv := [(0, .int v), (1, .int lo), (2, .int hi)]) (by decide) (Nat.le_of_ble_eq_true rfl) rfl ?_
  refine V_iload_n dX8_in_0 rfl 0 rfl ?_
  refine V_iload_n dX8_in_1 rfl 1 rfl ?_
  refine V_icmp_lt 14 dX8_in_2 (by decide) (fun h1 => ?_) (fun h1 => ?_)
  · refine V_iconst (v := 0) dX8_in_14 rfl ?_
    refine V_zret rfl dX8_in_15 rfl ⟨_, rfl, ?_⟩
    exact qcast hq (b2i_f (decide_eq_false (by simp only [Int32.lt_iff_toInt_lt, Int32.le_iff_toInt_le, Int32.not_lt, Int32.not_le] at *; omega))).symm
  · refine V_iload_n dX8_in_5 rfl 0 rfl ?_
    refine V_iload_n dX8_in_6 rfl 2 rfl ?_
    refine V_icmp_gt 14 dX8_in_7 (by decide) (fun h2 => ?_) (fun h2 => ?_)
    · refine V_iconst (v := 0) dX8_in_14 rfl ?_
      refine V_zret rfl dX8_in_15 rfl ⟨_, rfl, ?_⟩
      exact qcast hq (b2i_f (decide_eq_false (by simp only [Int32.lt_iff_toInt_lt, Int32.le_iff_toInt_le, Int32.not_lt, Int32.not_le] at *; omega))).symm
    · refine V_iconst (v := 1) dX8_in_10 rfl ?_
      refine V_goto 15 dX8_in_11 (by decide) ?_
      refine V_zret rfl dX8_in_15 rfl ⟨_, rfl, ?_⟩
      exact qcast hq (b2i_t (decide_eq_true (by simp only [Int32.lt_iff_toInt_lt, Int32.le_iff_toInt_le, Int32.not_lt, Int32.not_le] at *; omega))).symm
theorem c_X8_isPart {G : GX} {d : Nat} {S : ST} {v : Int32} {Q : Int32 → ST → Prop}  (hq : Q (b2i (decide (0 ≤ v ∧ v ≤ 1))) S) : Cn G (d + 1) mX8_isPart [.int v] S (qi Q) := by
  refine Cn.intro (lv := [(0, .int v)]) (by decide) (Nat.le_of_ble_eq_true rfl) rfl ?_
  refine V_iload_n dX8_isPart_0 rfl 0 rfl ?_
  refine V_iconst (v := 0) dX8_isPart_1 rfl ?_
  refine V_iconst (v := 1) dX8_isPart_2 rfl ?_
  refine V_cSi (As := [.int v, .int 0, .int 1]) (K := mX8_in) ok_X8_in tw_721 rfl (rmOk (Nat.le_of_ble_eq_true rfl)) (Nat.le_of_ble_eq_true rfl) dX8_isPart_3 rfl (c_X8_in ?_)
  refine V_zret rfl dX8_isPart_6 (b2i_nar _) ⟨_, rfl, ?_⟩
  exact hq
theorem c_X8_hasBit {G : GX} {d : Nat} {S : ST} {x : Int32} {k : Nat} {Q : Int32 → ST → Prop} (hk : k < 32) (hq : Q (b2i (bt x k)) S) : Cn G d mX8_hasBit [.int x, .int (nI k)] S (qi Q) := by
  refine Cn.intro (lv := [(0, .int x), (1, .int (nI k))]) (by decide) (Nat.le_of_ble_eq_true rfl) rfl ?_
  refine V_iload_n dX8_hasBit_0 rfl 0 rfl ?_
  refine V_iload_n dX8_hasBit_1 rfl 1 rfl ?_
  refine V_ishr dX8_hasBit_2 ?_
  refine V_iconst (v := 1) dX8_hasBit_3 rfl ?_
  refine V_iand dX8_hasBit_4 ?_
  refine V_topi (v := b2i (bt x k)) (b_ask x hk) ?_
  refine V_iconst (v := 1) dX8_hasBit_5 rfl ?_
  refine V_icmp_ne 13 dX8_hasBit_6 (by decide) (fun h1 => ?_) (fun h1 => ?_)
  · refine V_iconst (v := 0) dX8_hasBit_13 rfl ?_
    refine V_zret rfl dX8_hasBit_14 rfl ⟨_, rfl, ?_⟩
    exact qcast hq (by sorry)
  · refine V_iconst (v := 1) dX8_hasBit_9 rfl ?_
    refine V_goto 14 dX8_hasBit_10 (by decide) ?_
    refine V_zret rfl dX8_hasBit_14 rfl ⟨_, rfl, ?_⟩
    exact qcast hq (by sorry)
