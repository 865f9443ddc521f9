theorem qcast {α : Type} {Q : α → ST → Prop} {a b : α} {S : ST} (h : Q a S) (e : b = a) : Q b S := e ▸ h
def bt (x : Int32) (i : Nat) : Bool := x.toBitVec.getLsbD i
theorem b_ext {x y : Int32} (h : ∀ i, i < 32 → bt x i = bt y i) : x = y := Int32.toBitVec_inj.mp (BitVec.eq_of_getLsbD_eq (fun i hi => h i hi))
theorem b_or (x y : Int32) (i : Nat) : bt (x ||| y) i = (bt x i || bt y i) := by unfold bt; rw [Int32.toBitVec_or, BitVec.getLsbD_or]
theorem b_and (x y : Int32) (i : Nat) : bt (x &&& y) i = (bt x i && bt y i) := by unfold bt; rw [Int32.toBitVec_and, BitVec.getLsbD_and]
theorem b_xor (x y : Int32) (i : Nat) : bt (x ^^^ y) i = (bt x i ^^ bt y i) := by unfold bt; rw [Int32.toBitVec_xor, BitVec.getLsbD_xor]
theorem b_big {x : Int32} {i : Nat} (h : 32 ≤ i) : bt x i = false := BitVec.getLsbD_of_ge _ _ h
theorem b_m1 : ∀ i, i < 32 → bt (-1) i = true := by decide +kernel
theorem b_0 (i : Nat) : bt 0 i = false := BitVec.getLsbD_zero
theorem s_l : ∀ n, n < 32 → ((nI n &&& 31).toBitVec.smod 32).toNat = n := by decide +kernel
theorem b_shl (n : Nat) (hn : n < 32) (x : Int32) {i : Nat} (hi : i < 32) : bt (x <<< (nI n &&& 31)) i = (decide (n ≤ i) && bt x (i - n)) := by
  unfold bt
  rw [Int32.toBitVec_shiftLeft]
  show (x.toBitVec <<< ((nI n &&& 31).toBitVec.smod 32).toNat).getLsbD i = _
  rw [s_l n hn, BitVec.getLsbD_shiftLeft]
  rcases Nat.lt_or_ge i n with h | h
  · simp [h, Nat.not_le.mpr h]
  · simp [hi, h, Nat.not_lt.mpr h]
theorem b_sshr (n : Nat) (hn : n < 32) (x : Int32) {i : Nat} (hi : i < 32) : bt (x >>> (nI n &&& 31)) i = if n + i < 32 then bt x (n + i) else bt x 31 := by
  unfold bt
  rw [Int32.toBitVec_shiftRight]
  show (x.toBitVec.sshiftRight ((nI n &&& 31).toBitVec.smod 32).toNat).getLsbD i = _
  rw [s_l n hn, BitVec.getLsbD_sshiftRight, BitVec.msb_eq_getLsbD_last]
  simp [hi]
theorem b_1 : ∀ i, i < 32 → bt 1 i = decide (i = 0) := by decide +kernel
theorem b_sh1 {k : Nat} (hk : k < 32) {i : Nat} (hi : i < 32) : bt (1 <<< (nI k &&& 31)) i = decide (i = k) := by
  rw [b_shl k hk 1 hi]
  rcases Nat.lt_or_ge i k with h | h
  · simp [Nat.not_le.mpr h, Nat.ne_of_lt h]
  · rw [b_1 (i - k) (by omega)]
    simp only [h, decide_true, Bool.true_and]
    congr 1
    apply propext
    omega
/-- one bit of an int, as both programs ask for it -/
theorem b_ask (x : Int32) {k : Nat} (hk : k < 32) : (x >>> (nI k &&& 31)) &&& 1 = b2i (bt x k) := by
  apply b_ext
  intro i hi
  rw [b_and, b_1 i hi]
  cases hb : bt x k
  · rw [b2i_f rfl, b_0]
    by_cases h0 : i = 0
    · subst h0
      rw [b_sshr k hk x (by omega)]
      simp [hk, hb]
    · simp [h0]
  · rw [b2i_t rfl, b_1 i hi]
    by_cases h0 : i = 0
    · subst h0
      rw [b_sshr k hk x (by omega)]
      simp [hk, hb]
    · simp [h0]
theorem V_lv {P : PX} {pc : Nat} {lv : LV} {st0 : List Value} {S : ST} (lv2 : LV) (ks : List Nat) (h : lv_pick lv ks = lv2) (k : V P pc lv2 st0 S) : V P pc lv st0 S := fun p l e s m args below meth c A H locs ls C hP hS hl => k p l e s m args below meth c A H locs ls C hP hS (lv_sub hl ks h)
theorem V_lveq {P : PX} {pc : Nat} {lv : LV} {st0 : List Value} {S : ST} (lv2 : LV) (h : lv = lv2) (k : V P pc lv2 st0 S) : V P pc lv st0 S := h ▸ k
theorem qcast2 {α : Type} {Q : α → ST → Prop} {a b : α} {S S2 : ST} (h : Q a S) (e : b = a) (e2 : S2 = S) : Q b S2 := e ▸ e2 ▸ h
def fr (v lo hi : Int32) : Bool := decide (lo ≤ v ∧ v ≤ hi)
def kn (n : Nat) (v : Int32) : Bool := decide (0 ≤ v ∧ v < nI n)
theorem fr_t {v lo hi : Int32} : fr v lo hi = true ↔ lo ≤ v ∧ v ≤ hi := decide_eq_true_iff
theorem fr_f {v lo hi : Int32} : fr v lo hi = false ↔ ¬ (lo ≤ v ∧ v ≤ hi) := decide_eq_false_iff_not
theorem kn_t {n : Nat} {v : Int32} : kn n v = true ↔ 0 ≤ v ∧ v < nI n := decide_eq_true_iff
theorem kn_f {n : Nat} {v : Int32} : kn n v = false ↔ ¬ (0 ≤ v ∧ v < nI n) := decide_eq_false_iff_not
theorem nI_T {n : Nat} (h : n < 2 ^ 31) : (nI n).toInt = (n : Int) := nI_toInt h
theorem kn_fr {n : Nat} (h : n ≤ 12) (v : Int32) : fr v 0 (nI n - 1) = kn n v := by
  unfold fr kn
  congr 1
  apply propext
  have h1 : (nI n - 1).toInt = (n : Int) - 1 := pk_sub_toInt (a := n) (b := 1) (by omega) (by omega)
  have h2 : (nI n).toInt = (n : Int) := nI_toInt (by omega)
  simp only [Int32.lt_iff_toInt_lt, Int32.le_iff_toInt_le]
  rw [h1, h2]
  have h3 : (0 : Int32).toInt = 0 := rfl
  omega
theorem kn_ex {n : Nat} {v : Int32} (h : kn n v = true) (hn : n < 2 ^ 31) : ∃ k, k < n ∧ v = nI k := by
  obtain ⟨h1, h2⟩ := kn_t.mp h
  obtain ⟨j, hj, rfl⟩ := nI_of (x := v) (Int32.not_lt.mpr h1)
  exact ⟨j, (nI_ltI hj hn).mp h2, rfl⟩
theorem kn_nI {n k : Nat} (hk : k < 2 ^ 31) (hn : n < 2 ^ 31) : kn n (nI k) = decide (k < n) := by
  unfold kn
  congr 1
  apply propext
  rw [nI_ltI hk hn]
  exact ⟨fun h => h.2, fun h => ⟨nI_pos' hk, h⟩⟩
/-- the bits below n where p holds -/
def bitsOf (p : Nat → Bool) : Nat → Int32
  | 0 => 0
  | k + 1 => if p k then bitsOf p k ||| 1 <<< (nI k &&& 31) else bitsOf p k
theorem bits_t {p : Nat → Bool} {k : Nat} (h : p k = true) : bitsOf p (k + 1) = bitsOf p k ||| 1 <<< (nI k &&& 31) := by rw [bitsOf, if_pos h]
theorem bits_f {p : Nat → Bool} {k : Nat} (h : p k = false) : bitsOf p (k + 1) = bitsOf p k := by rw [bitsOf, if_neg (by rw [h]; exact Bool.false_ne_true)]
theorem bt_bits (p : Nat → Bool) : ∀ {n : Nat}, n ≤ 32 → ∀ {i : Nat}, i < 32 → bt (bitsOf p n) i = (decide (i < n) && p i)
  | 0, _, i, _ => by simp [bitsOf, b_0]
  | n + 1, hn, i, hi => by
    have ih := bt_bits p (n := n) (by omega) hi
    unfold bitsOf
    split
    · rename_i hp
      rw [b_or, ih, b_sh1 (by omega) hi]
      by_cases h : i = n
      · subst h; simp [hp]
      · have : decide (i < n + 1) = decide (i < n) := by congr 1; apply propext; omega
        simp [h, this]
    · rename_i hp
      rw [ih]
      by_cases h : i = n
      · subst h; simp [hp]
      · have : decide (i < n + 1) = decide (i < n) := by congr 1; apply propext; omega
        simp [this]
theorem bits_cong {p q : Nat → Bool} {n : Nat} (h : ∀ k, k < n → p k = q k) : bitsOf p n = bitsOf q n := by
  induction n with
  | zero => rfl
  | succ n ih =>
    unfold bitsOf
    rw [ih (fun k hk => h k (by omega)), h n (by omega)]
/-- the sum of f over the bits of a set -/
def szs (f : Nat → Int32) (s : Int32) : Nat → Int32
  | 0 => 0
  | k + 1 => if bt s k then szs f s k + f k else szs f s k
theorem szs_t {f : Nat → Int32} {s : Int32} {k : Nat} (h : bt s k = true) : szs f s (k + 1) = szs f s k + f k := by rw [szs, if_pos h]
theorem szs_f {f : Nat → Int32} {s : Int32} {k : Nat} (h : bt s k = false) : szs f s (k + 1) = szs f s k := by rw [szs, if_neg (by rw [h]; exact Bool.false_ne_true)]
theorem szs_cong {f g : Nat → Int32} {s : Int32} {n : Nat} (h : ∀ k, k < n → f k = g k) : szs f s n = szs g s n := by
  induction n with
  | zero => rfl
  | succ n ih =>
    unfold szs
    rw [ih (fun k hk => h k (by omega)), h n (by omega)]
theorem c_X7_isFrom {G : GX} {d : Nat} {S : ST} {v lo hi : Int32} {Q : Int32 → ST → Prop}  (hq : Q (b2i (fr v lo hi)) S) : Cn G d mX7_isFrom [.int v, .int lo, .int hi] S (qi Q) := by
  refine Cn.intro (lv := [(0, .int v), (1, .int lo), (2, .int hi)]) (by decide) (Nat.le_of_ble_eq_true rfl) rfl ?_
  refine V_iload_n dX7_isFrom_0 rfl 0 rfl ?_
  refine V_iload_n dX7_isFrom_1 rfl 1 rfl ?_
  refine V_icmp_lt 14 dX7_isFrom_2 (by decide) (fun h1 => ?_) (fun h1 => ?_)
  · refine V_iconst (v := 0) dX7_isFrom_14 ki_0 ?_
    refine V_zret rfl dX7_isFrom_15 rfl ⟨_, rfl, ?_⟩
    exact qcast hq (b2i_f (decide_eq_false (by simp only [Int32.lt_iff_toInt_lt, Int32.le_iff_toInt_le, Int32.not_lt, Int32.not_le] at *; omega))).symm
  · refine V_iload_n dX7_isFrom_5 rfl 0 rfl ?_
    refine V_iload_n dX7_isFrom_6 rfl 2 rfl ?_
    refine V_icmp_gt 14 dX7_isFrom_7 (by decide) (fun h2 => ?_) (fun h2 => ?_)
    · refine V_iconst (v := 0) dX7_isFrom_14 ki_0 ?_
      refine V_zret rfl dX7_isFrom_15 rfl ⟨_, rfl, ?_⟩
      exact qcast hq (b2i_f (decide_eq_false (by simp only [Int32.lt_iff_toInt_lt, Int32.le_iff_toInt_le, Int32.not_lt, Int32.not_le] at *; omega))).symm
    · refine V_iconst (v := 1) dX7_isFrom_10 ki_1 ?_
      refine V_goto 15 dX7_isFrom_11 (by decide) ?_
      refine V_zret rfl dX7_isFrom_15 rfl ⟨_, rfl, ?_⟩
      exact qcast hq (b2i_t (decide_eq_true (by simp only [Int32.lt_iff_toInt_lt, Int32.le_iff_toInt_le, Int32.not_lt, Int32.not_le] at *; omega))).symm
theorem c_X7_asNumber {G : GX} {d : Nat} {S : ST} {b : Bool} {Q : Int32 → ST → Prop}  (hq : Q (b2i b) S) : Cn G d mX7_asNumber [.int (b2i b)] S (qi Q) := by
  refine Cn.intro (lv := [(0, .int (b2i b))]) (by decide) (Nat.le_of_ble_eq_true rfl) rfl ?_
  refine V_iload_n dX7_asNumber_0 rfl 0 rfl ?_
  refine V_ifb_eq 8 dX7_asNumber_1 (by decide) (fun h1 => ?_) (fun h1 => ?_)
  · refine V_iconst (v := 0) dX7_asNumber_8 ki_0 ?_
    refine V_iret rfl dX7_asNumber_9 ⟨_, rfl, ?_⟩
    exact qcast hq (by rw [h1]; rfl)
  · refine V_iconst (v := 1) dX7_asNumber_4 ki_1 ?_
    refine V_goto 9 dX7_asNumber_5 (by decide) ?_
    refine V_iret rfl dX7_asNumber_9 ⟨_, rfl, ?_⟩
    exact qcast hq (by rw [h1]; rfl)
theorem c_X7_isBit {G : GX} {d : Nat} {S : ST} {x : Int32} {k : Nat} {Q : Int32 → ST → Prop} (hk : k < 32) (hq : Q (b2i (bt x k)) S) : Cn G d mX7_isBit [.int x, .int (nI k)] S (qi Q) := by
  refine Cn.intro (lv := [(0, .int x), (1, .int (nI k))]) (by decide) (Nat.le_of_ble_eq_true rfl) rfl ?_
  refine V_iload_n dX7_isBit_0 rfl 0 rfl ?_
  refine V_iload_n dX7_isBit_1 rfl 1 rfl ?_
  refine V_ishr dX7_isBit_2 ?_
  refine V_iconst (v := 1) dX7_isBit_3 ki_1 ?_
  refine V_iand dX7_isBit_4 ?_
  refine V_topi (v := b2i (bt x k)) (b_ask x hk) ?_
  refine V_ifb_eq 12 dX7_isBit_5 (by decide) (fun h1 => ?_) (fun h1 => ?_)
  · refine V_iconst (v := 0) dX7_isBit_12 ki_0 ?_
    refine V_zret rfl dX7_isBit_13 rfl ⟨_, rfl, ?_⟩
    exact qcast hq (by rw [h1]; rfl)
  · refine V_iconst (v := 1) dX7_isBit_8 ki_1 ?_
    refine V_goto 13 dX7_isBit_9 (by decide) ?_
    refine V_zret rfl dX7_isBit_13 rfl ⟨_, rfl, ?_⟩
    exact qcast hq (by rw [h1]; rfl)
theorem c_X8_in {G : GX} {d : Nat} {S : ST} {v lo hi : Int32} {Q : Int32 → ST → Prop}  (hq : Q (b2i (fr v lo hi)) S) : Cn G d mX8_in [.int v, .int lo, .int hi] S (qi Q) := by
  refine Cn.intro (lv := [(0, .int v), (1, .int lo), (2, .int hi)]) (by decide) (Nat.le_of_ble_eq_true rfl) rfl ?_
  refine V_iload_n dX8_in_0 rfl 0 rfl ?_
  refine V_iload_n dX8_in_1 rfl 1 rfl ?_
  refine V_icmp_lt 14 dX8_in_2 (by decide) (fun h1 => ?_) (fun h1 => ?_)
  · refine V_iconst (v := 0) dX8_in_14 ki_0 ?_
    refine V_zret rfl dX8_in_15 rfl ⟨_, rfl, ?_⟩
    exact qcast hq (b2i_f (decide_eq_false (by simp only [Int32.lt_iff_toInt_lt, Int32.le_iff_toInt_le, Int32.not_lt, Int32.not_le] at *; omega))).symm
  · refine V_iload_n dX8_in_5 rfl 0 rfl ?_
    refine V_iload_n dX8_in_6 rfl 2 rfl ?_
    refine V_icmp_gt 14 dX8_in_7 (by decide) (fun h2 => ?_) (fun h2 => ?_)
    · refine V_iconst (v := 0) dX8_in_14 ki_0 ?_
      refine V_zret rfl dX8_in_15 rfl ⟨_, rfl, ?_⟩
      exact qcast hq (b2i_f (decide_eq_false (by simp only [Int32.lt_iff_toInt_lt, Int32.le_iff_toInt_le, Int32.not_lt, Int32.not_le] at *; omega))).symm
    · refine V_iconst (v := 1) dX8_in_10 ki_1 ?_
      refine V_goto 15 dX8_in_11 (by decide) ?_
      refine V_zret rfl dX8_in_15 rfl ⟨_, rfl, ?_⟩
      exact qcast hq (b2i_t (decide_eq_true (by simp only [Int32.lt_iff_toInt_lt, Int32.le_iff_toInt_le, Int32.not_lt, Int32.not_le] at *; omega))).symm
theorem c_X8_isPart {G : GX} {d : Nat} {S : ST} {v : Int32} {Q : Int32 → ST → Prop}  (hq : Q (b2i (fr v 0 1)) S) : Cn G (d + 1) mX8_isPart [.int v] S (qi Q) := by
  refine Cn.intro (lv := [(0, .int v)]) (by decide) (Nat.le_of_ble_eq_true rfl) rfl ?_
  refine V_iload_n dX8_isPart_0 rfl 0 rfl ?_
  refine V_iconst (v := 0) dX8_isPart_1 ki_0 ?_
  refine V_iconst (v := 1) dX8_isPart_2 ki_1 ?_
  refine V_cSi (P := pM G (d + 1) mX8_isPart _) (d := d) (r := []) (As := [.int v, .int 0, .int 1]) (K := mX8_in) ok_X8_in tw_721 rfl (rmOk (Nat.le_of_ble_eq_true rfl)) (Nat.le_of_ble_eq_true rfl) dX8_isPart_3 rfl (c_X8_in ?_)
  refine V_zret rfl dX8_isPart_6 (b2i_nar _) ⟨_, rfl, ?_⟩
  exact hq
theorem c_X8_hasBit {G : GX} {d : Nat} {S : ST} {x : Int32} {k : Nat} {Q : Int32 → ST → Prop} (hk : k < 32) (hq : Q (b2i (bt x k)) S) : Cn G d mX8_hasBit [.int x, .int (nI k)] S (qi Q) := by
  refine Cn.intro (lv := [(0, .int x), (1, .int (nI k))]) (by decide) (Nat.le_of_ble_eq_true rfl) rfl ?_
  refine V_iload_n dX8_hasBit_0 rfl 0 rfl ?_
  refine V_iload_n dX8_hasBit_1 rfl 1 rfl ?_
  refine V_ishr dX8_hasBit_2 ?_
  refine V_iconst (v := 1) dX8_hasBit_3 ki_1 ?_
  refine V_iand dX8_hasBit_4 ?_
  refine V_topi (v := b2i (bt x k)) (b_ask x hk) ?_
  refine V_iconst (v := 1) dX8_hasBit_5 ki_1 ?_
  refine V_icmp_ne 13 dX8_hasBit_6 (by decide) (fun h1 => ?_) (fun h1 => ?_)
  · refine V_iconst (v := 0) dX8_hasBit_13 ki_0 ?_
    refine V_zret rfl dX8_hasBit_14 rfl ⟨_, rfl, ?_⟩
    exact qcast hq (by cases hb : bt x k <;> simp [hb, b2i] at h1 ⊢)
  · refine V_iconst (v := 1) dX8_hasBit_9 ki_1 ?_
    refine V_goto 14 dX8_hasBit_10 (by decide) ?_
    refine V_zret rfl dX8_hasBit_14 rfl ⟨_, rfl, ?_⟩
    exact qcast hq (by cases hb : bt x k <;> simp [hb, b2i] at h1 ⊢)
theorem c_X8_isVersion {G : GX} {d : Nat} {S : ST} {v : Int32} {n : Nat} {Q : Int32 → ST → Prop} (hn : S.1 10 = nI n) (h12 : n ≤ 12) (hq : Q (b2i (kn n v)) S) : Cn G (d + 1) mX8_isVersion [.ref (G.2.1 29), .int v] S (qi Q) := by
  refine Cn.intro (lv := [(0, .ref (G.2.1 29)), (1, .int v)]) (by decide) (Nat.le_of_ble_eq_true rfl) rfl ?_
  refine V_iload_n dX8_isVersion_0 rfl 1 rfl ?_
  refine V_iconst (v := 0) dX8_isVersion_1 ki_0 ?_
  refine V_aload_n dX8_isVersion_2 rfl 0 rfl ?_
  refine g_29_0 tw_628 dX8_isVersion_3 ?_
  refine V_topi (v := nI n) (hn) ?_
  refine V_iconst (v := 1) dX8_isVersion_6 ki_1 ?_
  refine V_isub dX8_isVersion_7 ?_
  refine V_cSi (P := pM G (d + 1) mX8_isVersion _) (d := d) (r := []) (As := [.int v, .int 0, .int ((nI n) - 1)]) (K := mX8_in) ok_X8_in tw_721 rfl (rmOk (Nat.le_of_ble_eq_true rfl)) (Nat.le_of_ble_eq_true rfl) dX8_isVersion_8 rfl (c_X8_in ?_)
  refine V_zret rfl dX8_isVersion_11 (b2i_nar _) ⟨_, rfl, ?_⟩
  exact qcast hq (by rw [kn_fr h12])
theorem c_X1_knows {G : GX} {d : Nat} {S : ST} {v : Int32} {n : Nat} {Q : Int32 → ST → Prop} (hn : S.1 0 = nI n) (hq : Q (b2i (kn n v)) S) : Cn G d mX1_knows [.ref (G.2.1 1), .int v] S (qi Q) := by
  refine Cn.intro (lv := [(0, .ref (G.2.1 1)), (1, .int v)]) (by decide) (Nat.le_of_ble_eq_true rfl) rfl ?_
  refine V_iload_n dX1_knows_0 rfl 1 rfl ?_
  refine V_if_lt 16 dX1_knows_1 (by decide) (fun h1 => ?_) (fun h1 => ?_)
  · refine V_iconst (v := 0) dX1_knows_16 ki_0 ?_
    refine V_zret rfl dX1_knows_17 rfl ⟨_, rfl, ?_⟩
    exact qcast hq (b2i_f (decide_eq_false (by simp only [Int32.lt_iff_toInt_lt, Int32.le_iff_toInt_le, Int32.not_lt, Int32.not_le] at *; omega))).symm
  · refine V_iload_n dX1_knows_4 rfl 1 rfl ?_
    refine V_aload_n dX1_knows_5 rfl 0 rfl ?_
    refine g_1_0 tw_28 dX1_knows_6 ?_
    refine V_topi (v := nI n) (hn) ?_
    refine V_icmp_ge 16 dX1_knows_9 (by decide) (fun h2 => ?_) (fun h2 => ?_)
    · refine V_iconst (v := 0) dX1_knows_16 ki_0 ?_
      refine V_zret rfl dX1_knows_17 rfl ⟨_, rfl, ?_⟩
      exact qcast hq (b2i_f (decide_eq_false (by simp only [Int32.lt_iff_toInt_lt, Int32.le_iff_toInt_le, Int32.not_lt, Int32.not_le] at *; omega))).symm
    · refine V_iconst (v := 1) dX1_knows_12 ki_1 ?_
      refine V_goto 17 dX1_knows_13 (by decide) ?_
      refine V_zret rfl dX1_knows_17 rfl ⟨_, rfl, ?_⟩
      exact qcast hq (b2i_t (decide_eq_true (by simp only [Int32.lt_iff_toInt_lt, Int32.le_iff_toInt_le, Int32.not_lt, Int32.not_le] at *; omega))).symm
