/-! of a long -/
def ul (x : Int64) (y : Int32) : Int64 := (x.toUInt64 >>> (y.toInt64.toUInt64 &&& Int64.toUInt64 63)).toInt64
def bj1 (x : Int64) : Int64 := x - (ul x 1 &&& 6148914691236517205)
def bj2 (x : Int64) : Int64 := (x &&& 3689348814741910323) + (ul x 2 &&& 3689348814741910323)
def bj3 (x : Int64) : Int64 := (x + ul x 4) &&& 1085102592571150095
def bj4 (x : Int64) : Int64 := x + ul x 8
def bj5 (x : Int64) : Int64 := x + ul x 16
def bj6 (x : Int64) : Int64 := x + ul x 32
def bcL (x : Int64) : Int32 := Int64.toInt32 (bj6 (bj5 (bj4 (bj3 (bj2 (bj1 x)))))) &&& 127
theorem land_byte {a b c e : Nat} (hb : b < 256) (he : e < 256) : (256 * a + b) &&& (256 * c + e) = 256 * (a &&& c) + (b &&& e) := by
  apply Nat.eq_of_testBit_eq
  intro i
  have h1 := Nat.testBit_two_pow_mul_add a (i := 8) (b := b) hb i
  have h2 := Nat.testBit_two_pow_mul_add c (i := 8) (b := e) he i
  have h3 := Nat.testBit_two_pow_mul_add (a &&& c) (i := 8) (b := b &&& e) (Nat.and_lt_two_pow b he) i
  rw [Nat.testBit_and]
  rw [show (256 : Nat) = 2 ^ 8 from rfl, h1, h2, h3]
  by_cases h : i < 8
  · rw [if_pos h, if_pos h, if_pos h, Nat.testBit_and]
  · rw [if_neg h, if_neg h, if_neg h, Nat.testBit_and]
def mp (f : Nat → Nat) : Nat → Nat → Nat
  | 0, _ => 0
  | n + 1, X => 256 * mp f n (X / 256) + f (X % 256)
def rpt (m : Nat) : Nat → Nat
  | 0 => 0
  | n + 1 => 256 * rpt m n + m
theorem mp_s (f : Nat → Nat) (n X : Nat) : mp f (n + 1) X = 256 * mp f n (X / 256) + f (X % 256) := rfl
theorem rpt_s (m n : Nat) : rpt m (n + 1) = 256 * rpt m n + m := rfl
theorem mp_id : ∀ (n X : Nat), X < 256 ^ n → mp (fun b => b) n X = X
  | 0, X, h => by
    have h2 : X < 1 := h
    show 0 = X
    omega
  | n + 1, X, h => by
    rw [mp_s, mp_id n (X / 256) (by rw [Nat.pow_succ] at h; omega)]
    omega
theorem mp_cong {f g : Nat → Nat} (h : ∀ b, b < 256 → f b = g b) : ∀ (n X : Nat), mp f n X = mp g n X
  | 0, X => rfl
  | n + 1, X => by rw [mp_s, mp_s, mp_cong h n, h _ (Nat.mod_lt _ (by decide))]
theorem mp_add (f g : Nat → Nat) : ∀ (n X : Nat), mp f n X + mp g n X = mp (fun b => f b + g b) n X
  | 0, X => rfl
  | n + 1, X => by
    rw [mp_s, mp_s, mp_s, ← mp_add f g n]
    omega
theorem mp_comp {f g : Nat → Nat} (h : ∀ b, b < 256 → f b < 256) : ∀ (n X : Nat), mp g n (mp f n X) = mp (fun b => g (f b)) n X
  | 0, X => rfl
  | n + 1, X => by
    have h1 := h (X % 256) (Nat.mod_lt _ (by decide))
    rw [mp_s g, mp_s f, mp_s (fun b => g (f b)), ← mp_comp h n, show (256 * mp f n (X / 256) + f (X % 256)) / 256 = mp f n (X / 256) by omega, show (256 * mp f n (X / 256) + f (X % 256)) % 256 = f (X % 256) by omega]
theorem mp_and {m : Nat} (hm : m < 256) : ∀ (n X : Nat), X &&& rpt m n = mp (fun b => b &&& m) n X
  | 0, X => Nat.and_zero X
  | n + 1, X => by
    rw [mp_s, rpt_s, ← mp_and hm n, ← land_byte (Nat.mod_lt _ (by decide)) hm, show 256 * (X / 256) + X % 256 = X by omega]
theorem by_1 : ∀ b, b < 256 → ∀ c, c < 2 → (b / 2 + 128 * c) &&& 85 = b / 2 &&& 85 := by decide +kernel
theorem by_2 : ∀ b, b < 256 → ∀ c, c < 4 → (b / 4 + 64 * c) &&& 51 = b / 4 &&& 51 := by decide +kernel
theorem mp_sh1 : ∀ (n X : Nat), X / 2 &&& rpt 85 n = mp (fun b => b / 2 &&& 85) n X
  | 0, X => Nat.and_zero _
  | n + 1, X => by
    rw [mp_s, rpt_s, ← mp_sh1 n, ← by_1 (X % 256) (Nat.mod_lt _ (by decide)) (X / 256 % 2) (Nat.mod_lt _ (by decide)), ← land_byte (by omega) (by decide)]
    congr 1
    omega
theorem mp_sh2 : ∀ (n X : Nat), X / 4 &&& rpt 51 n = mp (fun b => b / 4 &&& 51) n X
  | 0, X => Nat.and_zero _
  | n + 1, X => by
    rw [mp_s, rpt_s, ← mp_sh2 n, ← by_2 (X % 256) (Nat.mod_lt _ (by decide)) (X / 256 % 4) (Nat.mod_lt _ (by decide)), ← land_byte (by omega) (by decide)]
    congr 1
    omega
theorem mp_lo {f : Nat → Nat} (h : ∀ b, b < 256 → f b % 16 ≤ 4) : ∀ (n X : Nat), mp f n X % 16 ≤ 4
  | 0, X => by show 0 % 16 ≤ 4; omega
  | n + 1, X => by
    have := h (X % 256) (Nat.mod_lt _ (by decide))
    rw [mp_s]
    omega
theorem mp_sh4 {f : Nat → Nat} (h : ∀ b, b < 256 → f b % 16 ≤ 4 ∧ f b / 16 ≤ 4) : ∀ (n X : Nat), (mp f n X + mp f n X / 16) &&& rpt 15 n = mp (fun b => (f b + f b / 16) % 16) n X
  | 0, X => Nat.and_zero _
  | n + 1, X => by
    have h1 := h (X % 256) (Nat.mod_lt _ (by decide))
    have h2 := mp_lo (fun b hb => (h b hb).1) n (X / 256)
    have ih := mp_sh4 h n (X / 256)
    rw [mp_s f, mp_s (fun b => (f b + f b / 16) % 16), rpt_s, ← ih]
    generalize f (X % 256) = z at *
    generalize mp f n (X / 256) = Z at *
    rw [show 256 * Z + z + (256 * Z + z) / 16 = 256 * (Z + Z / 16) + (z + z / 16 + 16 * (Z % 16)) by omega, land_byte (by omega) (by decide)]
    congr 1
    have := Nat.and_two_pow_sub_one_eq_mod (z + z / 16 + 16 * (Z % 16)) 4
    rw [show (2 : Nat) ^ 4 - 1 = 15 from rfl, show (2 : Nat) ^ 4 = 16 from rfl] at this
    rw [this]
    omega
def tn (x : Int64) : Nat := x.toBitVec.toNat
theorem tn_lt (x : Int64) : tn x < 18446744073709551616 := x.toBitVec.isLt
theorem tn_and (x y : Int64) : tn (x &&& y) = tn x &&& tn y := by
  unfold tn
  rw [Int64.toBitVec_and, BitVec.toNat_and]
theorem tn_add (x y : Int64) : tn (x + y) = (tn x + tn y) % 18446744073709551616 := by
  unfold tn
  rw [Int64.toBitVec_add, BitVec.toNat_add]
theorem tn_sub (x y : Int64) : tn (x - y) = (18446744073709551616 - tn y + tn x) % 18446744073709551616 := by
  unfold tn
  rw [Int64.toBitVec_sub, BitVec.toNat_sub]
theorem tn_ul {x : Int64} {y : Int32} {k : Nat} (hk : k < 64) (hy : (y.toInt64.toUInt64 &&& Int64.toUInt64 63).toNat = k) : tn (ul x y) = tn x / 2 ^ k := by
  unfold tn ul
  show (x.toUInt64 >>> (y.toInt64.toUInt64 &&& Int64.toUInt64 63)).toNat = _
  rw [UInt64.toNat_shiftRight, hy, Nat.mod_eq_of_lt hk, Nat.shiftRight_eq_div_pow]
  rfl
def pc8 (b : Nat) : Nat := (b.testBit 0).toNat + (b.testBit 1).toNat + (b.testBit 2).toNat + (b.testBit 3).toNat + (b.testBit 4).toNat + (b.testBit 5).toNat + (b.testBit 6).toNat + (b.testBit 7).toNat
def q1 (b : Nat) : Nat := b - (b / 2 &&& 85)
def q2 (b : Nat) : Nat := (q1 b &&& 51) + (q1 b / 4 &&& 51)
theorem q_1 : ∀ b, b < 256 → (b / 2 &&& 85) + q1 b = b := by decide +kernel
theorem q_1l : ∀ b, b < 256 → q1 b < 256 := by decide +kernel
theorem q_2 : ∀ b, b < 256 → q2 b % 16 ≤ 4 ∧ q2 b / 16 ≤ 4 := by decide +kernel
theorem q_3 : ∀ b, b < 256 → (q2 b + q2 b / 16) % 16 = pc8 b := by decide +kernel
theorem pc8_le : ∀ b, b < 256 → pc8 b ≤ 8 := by decide +kernel
theorem q_2b : ∀ b, b < 256 → q2 b < 256 := by decide +kernel
theorem q_2c : ∀ b, b < 256 → q2 b ≤ 68 := by decide +kernel
theorem mp_bd {f : Nat → Nat} (h : ∀ b, b < 256 → f b < 256) : ∀ (n X : Nat), mp f n X < 256 ^ n
  | 0, X => by show 0 < 1; omega
  | n + 1, X => by
    have h1 := h (X % 256) (Nat.mod_lt _ (by decide))
    have h2 := mp_bd h n (X / 256)
    rw [mp_s, Nat.pow_succ]
    omega
theorem mp_b7 {f : Nat → Nat} (h : ∀ b, b < 256 → f b ≤ 68) : ∀ (n X : Nat), 3 * mp f n X < 256 ^ n
  | 0, X => by show 3 * 0 < 1; omega
  | n + 1, X => by
    have h1 := h (X % 256) (Nat.mod_lt _ (by decide))
    have h2 := mp_b7 h n (X / 256)
    rw [mp_s, Nat.pow_succ]
    omega
theorem bj1_tn (x : Int64) : tn (bj1 x) = mp q1 8 (tn x) := by
  have hx := tn_lt x
  unfold bj1
  have e1 : tn (ul x 1 &&& 6148914691236517205) = mp (fun b => b / 2 &&& 85) 8 (tn x) := by
    rw [tn_and, tn_ul (k := 1) (by decide) (by decide +kernel), show tn 6148914691236517205 = rpt 85 8 by decide +kernel, show (2 : Nat) ^ 1 = 2 from rfl, mp_sh1]
  have e2 := mp_add (fun b => b / 2 &&& 85) q1 8 (tn x)
  rw [mp_cong q_1, mp_id 8 (tn x) hx] at e2
  rw [tn_sub, e1]
  omega
theorem bj2_tn {x : Int64} {X : Nat} (h : tn x = mp q1 8 X) : tn (bj2 x) = mp q2 8 X := by
  unfold bj2
  have e1 : tn (x &&& 3689348814741910323) = mp (fun b => q1 b &&& 51) 8 X := by
    rw [tn_and, show tn 3689348814741910323 = rpt 51 8 by decide +kernel, mp_and (by decide), h, mp_comp q_1l]
  have e2 : tn (ul x 2 &&& 3689348814741910323) = mp (fun b => q1 b / 4 &&& 51) 8 X := by
    rw [tn_and, tn_ul (k := 2) (by decide) (by decide +kernel), show tn 3689348814741910323 = rpt 51 8 by decide +kernel, show (2 : Nat) ^ 2 = 4 from rfl, mp_sh2, h, mp_comp q_1l]
  rw [tn_add, e1, e2, mp_add]
  have e3 : mp (fun b => (q1 b &&& 51) + (q1 b / 4 &&& 51)) 8 X = mp q2 8 X := rfl
  rw [e3]
  have l := mp_bd q_2b 8 X
  rw [show (256 : Nat) ^ 8 = 18446744073709551616 by decide +kernel] at l
  omega
theorem bj3_tn {x : Int64} {X : Nat} (h : tn x = mp q2 8 X) : tn (bj3 x) = mp pc8 8 X := by
  unfold bj3
  have l := mp_b7 q_2c 8 X
  rw [show (256 : Nat) ^ 8 = 18446744073709551616 by decide +kernel] at l
  rw [tn_and, tn_add, tn_ul (k := 4) (by decide) (by decide +kernel), show tn 1085102592571150095 = rpt 15 8 by decide +kernel, h, show (2 : Nat) ^ 4 = 16 from rfl, Nat.mod_eq_of_lt (by omega), mp_sh4 q_2]
  exact mp_cong q_3 8 X
theorem dv2 {k2 k3 r0 r1 : Nat} (h0 : r0 ≤ 2056) (h1 : r1 ≤ 2056) : (65536 * k2 + r0 + (65536 * k3 + r1)) / 65536 = k2 + k3 := by omega
theorem dv4 {k4 k5 k6 k7 s0 s1 s2 s3 : Nat} (h0 : s0 ≤ 134744072) (h1 : s1 ≤ 134744072) (h2 : s2 ≤ 134744072) (h3 : s3 ≤ 134744072) : (4294967296 * k4 + s0 + (4294967296 * k5 + s1) + (4294967296 * k6 + s2) + (4294967296 * k7 + s3)) / 4294967296 = k4 + k5 + k6 + k7 := by omega
theorem md7 {t z : Nat} (h : z ≤ 64) : (256 * t + z) % 128 = z := by omega
theorem hb_ {a k q m : Nat} (e : a = 256 * k + q) (h : k ≤ m) (hp : q ≤ 8) : a ≤ 256 * m + 8 := by omega
theorem tw_o {a k l q r : Nat} (e : a = 256 * k + q) (f : k = 256 * l + r) : a = 65536 * l + (256 * r + q) := by omega
theorem fo_r {a k l q r : Nat} (e : a = 65536 * k + q) (f : k = 65536 * l + r) : a = 4294967296 * l + (65536 * r + q) := by omega
theorem dv_1 {a k q : Nat} (e : a = 256 * k + q) (hp : q ≤ 8) : a / 256 = k := by omega
theorem r_2 {q r : Nat} (h : q ≤ 8) (g : r ≤ 8) : 256 * r + q ≤ 2056 := by omega
theorem r_4 {q r : Nat} (h : q ≤ 2056) (g : r ≤ 2056) : 65536 * r + q ≤ 134744072 := by omega
theorem sm_ {A k1 k2 k3 k4 k5 k6 p0 p1 p2 p3 p4 p5 p6 p7 : Nat} (e0 : A = 256 * k1 + p0) (e1 : k1 = 256 * k2 + p1) (e2 : k2 = 256 * k3 + p2) (e3 : k3 = 256 * k4 + p3) (e4 : k4 = 256 * k5 + p4) (e5 : k5 = 256 * k6 + p5) (e6 : k6 = 256 * p7 + p6) : A + k1 + (k2 + k3) + (k4 + k5 + k6 + p7) = 256 * (k1 + k2 + k3 + k4 + k5 + k6 + p7) + (p0 + p1 + p2 + p3 + p4 + p5 + p6 + p7) := by omega
theorem lt_a {a b : Nat} (h : a ≤ 578721382704613384) (g : b ≤ 578721382704613384) : a + b < 18446744073709551616 := by omega
theorem lt_b {a b : Nat} (h : a < 1157442765409226769) (g : b ≤ 578721382704613384) : a + b < 18446744073709551616 := by omega
theorem bj4_tn {x : Int64} {A k1 k2 k3 k4 k5 k6 p0 p1 p2 p3 p4 p5 p6 p7 : Nat} (h : tn x = A) (e0 : A = 256 * k1 + p0) (e1 : k1 = 256 * k2 + p1) (e2 : k2 = 256 * k3 + p2) (e3 : k3 = 256 * k4 + p3) (e4 : k4 = 256 * k5 + p4) (e5 : k5 = 256 * k6 + p5) (e6 : k6 = 256 * p7 + p6) (b0 : p0 ≤ 8) (b1 : p1 ≤ 8) (b2 : p2 ≤ 8) (b3 : p3 ≤ 8) (b4 : p4 ≤ 8) (b5 : p5 ≤ 8) (b6 : p6 ≤ 8) (b7 : p7 ≤ 8) : tn (bj6 (bj5 (bj4 x))) % 128 = p0 + p1 + p2 + p3 + p4 + p5 + p6 + p7 := by
  have l6 := hb_ e6 b7 b6
  have l5 := hb_ e5 l6 b5
  have l4 := hb_ e4 l5 b4
  have l3 := hb_ e3 l4 b3
  have l2 := hb_ e2 l3 b2
  have l1 := hb_ e1 l2 b1
  have l0 := hb_ e0 l1 b0
  have t0 := tw_o e0 e1
  have t1 := tw_o e1 e2
  have t2 := tw_o e2 e3
  have t3 := tw_o e3 e4
  have t4 := tw_o e4 e5
  have t5 := tw_o e5 e6
  have f4 : tn (bj4 x) = A + k1 := by
    unfold bj4
    rw [tn_add, tn_ul (k := 8) (by decide) (by decide +kernel), h, show (2 : Nat) ^ 8 = 256 from rfl, dv_1 e0 b0]
    clear e0 e1 e2 e3 e4 e5 e6 t0 t1 t2 t3 t4 t5 b0 b1 b2 b3 b4 b5 b6 b7 h
    exact Nat.mod_eq_of_lt (by omega)
  have g2 : (A + k1) / 65536 = k2 + k3 := by
    have z := dv2 (k2 := k2) (k3 := k3) (r_2 b0 b1) (r_2 b1 b2)
    rw [← t0, ← t1] at z
    exact z
  have f5 : tn (bj5 (bj4 x)) = A + k1 + (k2 + k3) := by
    unfold bj5
    rw [tn_add, tn_ul (k := 16) (by decide) (by decide +kernel), f4, show (2 : Nat) ^ 16 = 65536 from rfl, g2]
    clear e0 e1 e2 e3 e4 e5 e6 t0 t1 t2 t3 t4 t5 b0 b1 b2 b3 b4 b5 b6 b7 h g2 f4
    exact Nat.mod_eq_of_lt (by omega)
  have g4 : (A + k1 + (k2 + k3)) / 4294967296 = k4 + k5 + k6 + p7 := by
    have u0 := fo_r t0 t2
    have u1 := fo_r t1 t3
    have u2 := fo_r t2 t4
    have u3 := fo_r t3 t5
    have z := dv4 (k4 := k4) (k5 := k5) (k6 := k6) (k7 := p7) (r_4 (r_2 b0 b1) (r_2 b2 b3)) (r_4 (r_2 b1 b2) (r_2 b3 b4)) (r_4 (r_2 b2 b3) (r_2 b4 b5)) (r_4 (r_2 b3 b4) (r_2 b5 b6))
    rw [← u0, ← u1, ← u2, ← u3] at z
    rw [← z]
    congr 1
    exact (Nat.add_assoc _ _ _).symm
  have hs := sm_ e0 e1 e2 e3 e4 e5 e6
  unfold bj6
  rw [tn_add, tn_ul (k := 32) (by decide) (by decide +kernel), f5, show (2 : Nat) ^ 32 = 4294967296 from rfl, g4]
  have hlt : A + k1 + (k2 + k3) + (k4 + k5 + k6 + p7) < 18446744073709551616 := by
    clear e0 e1 e2 e3 e4 e5 e6 t0 t1 t2 t3 t4 t5 b0 b1 b2 b3 b4 b5 b6 h g2 f4 f5 g4 hs
    omega
  rw [Nat.mod_eq_of_lt hlt, hs]
  clear e0 e1 e2 e3 e4 e5 e6 t0 t1 t2 t3 t4 t5 h g2 f4 f5 g4 hs l0 l1 l2 l3 l4 l5 l6 hlt
  exact md7 (by omega)
theorem toI_127 (x : Int64) : Int64.toInt32 x &&& 127 = nI (tn x % 128) := by
  rw [pk_and (Int64.toInt32 x) 7 (by decide +kernel)]
  have e : (Int64.toInt32 x).toBitVec.toNat = tn x % 4294967296 := by
    show (x.toBitVec.signExtend 32).toNat = _
    rw [BitVec.signExtend_eq_setWidth_of_le _ (by decide), BitVec.toNat_setWidth]
    rfl
  rw [e, show (2 : Nat) ^ 7 = 128 from rfl]
  congr 1
  omega
/-- how many of the first k hold -/
def cn (f : Nat → Bool) : Nat → Nat
  | 0 => 0
  | k + 1 => cn f k + (f k).toNat
theorem cn_s (f : Nat → Bool) (k : Nat) : cn f (k + 1) = cn f k + (f k).toNat := rfl
theorem cn_add (f : Nat → Bool) (a : Nat) : ∀ b, cn f (a + b) = cn f a + cn (fun j => f (a + j)) b
  | 0 => rfl
  | b + 1 => by
    rw [show a + (b + 1) = (a + b) + 1 by omega, cn_s, cn_add f a b, cn_s]
    omega
theorem cn_cong {f g : Nat → Bool} : ∀ {k : Nat}, (∀ j, j < k → f j = g j) → cn f k = cn g k
  | 0, _ => rfl
  | k + 1, h => by rw [cn_s, cn_s, cn_cong (fun j hj => h j (by omega)), h k (by omega)]
theorem cn_le (f : Nat → Bool) : ∀ k, cn f k ≤ k
  | 0 => Nat.le_refl 0
  | k + 1 => by
    have := cn_le f k
    rw [cn_s]
    cases f k
    · exact Nat.le_succ_of_le this
    · exact Nat.succ_le_succ this
theorem cn_8 (f : Nat → Bool) (b : Nat) (h : ∀ j, j < 8 → f j = b.testBit j) : cn f 8 = pc8 b := by
  show 0 + (f 0).toNat + (f 1).toNat + (f 2).toNat + (f 3).toNat + (f 4).toNat + (f 5).toNat + (f 6).toNat + (f 7).toNat = _
  rw [h 0 (by decide), h 1 (by decide), h 2 (by decide), h 3 (by decide), h 4 (by decide), h 5 (by decide), h 6 (by decide), h 7 (by decide), Nat.zero_add]
  rfl
theorem tb_byte (X j : Nat) (hj : j < 8) : (X % 256).testBit j = X.testBit j := by
  have := Nat.testBit_mod_two_pow X 8 j
  rw [show (2 : Nat) ^ 8 = 256 from rfl] at this
  rw [this]
  simp [hj]
theorem tb_div (X k j : Nat) : (X / 2 ^ k).testBit j = X.testBit (k + j) := by rw [Nat.testBit_div_two_pow, Nat.add_comm]
theorem cn_byte (X k : Nat) : cn (fun j => X.testBit (k + j)) 8 = pc8 (X / 2 ^ k % 256) := cn_8 _ _ (fun j hj => by rw [tb_byte _ _ hj, tb_div])
theorem bcL_cn (x : Int64) : bcL x = nI (cn (fun j => bl x j) 64) := by
  unfold bcL
  rw [toI_127]
  congr 1
  have h3 := bj3_tn (bj2_tn (bj1_tn x))
  have hp : ∀ y, pc8 (y % 256) ≤ 8 := fun y => pc8_le _ (Nat.mod_lt _ (by decide))
  have c0 := cn_byte (tn x) 0
  have c1 := cn_byte (tn x) 8
  have c2 := cn_byte (tn x) 16
  have c3 := cn_byte (tn x) 24
  have c4 := cn_byte (tn x) 32
  have c5 := cn_byte (tn x) 40
  have c6 := cn_byte (tn x) 48
  have c7 := cn_byte (tn x) 56
  have e1 : tn x / 2 ^ 8 = tn x / 256 := rfl
  have e2 : tn x / 2 ^ 16 = tn x / 256 / 256 := by rw [Nat.div_div_eq_div_mul]
  have e3 : tn x / 2 ^ 24 = tn x / 256 / 256 / 256 := by rw [Nat.div_div_eq_div_mul, Nat.div_div_eq_div_mul]
  have e4 : tn x / 2 ^ 32 = tn x / 256 / 256 / 256 / 256 := by rw [Nat.div_div_eq_div_mul, Nat.div_div_eq_div_mul, Nat.div_div_eq_div_mul]
  have e5 : tn x / 2 ^ 40 = tn x / 256 / 256 / 256 / 256 / 256 := by rw [Nat.div_div_eq_div_mul, Nat.div_div_eq_div_mul, Nat.div_div_eq_div_mul, Nat.div_div_eq_div_mul]
  have e6 : tn x / 2 ^ 48 = tn x / 256 / 256 / 256 / 256 / 256 / 256 := by rw [Nat.div_div_eq_div_mul, Nat.div_div_eq_div_mul, Nat.div_div_eq_div_mul, Nat.div_div_eq_div_mul, Nat.div_div_eq_div_mul]
  have e7 : tn x / 2 ^ 56 = tn x / 256 / 256 / 256 / 256 / 256 / 256 / 256 := by rw [Nat.div_div_eq_div_mul, Nat.div_div_eq_div_mul, Nat.div_div_eq_div_mul, Nat.div_div_eq_div_mul, Nat.div_div_eq_div_mul, Nat.div_div_eq_div_mul]
  rw [show (2 : Nat) ^ 0 = 1 from rfl, Nat.div_one] at c0
  rw [e1] at c1
  rw [e2] at c2
  rw [e3] at c3
  rw [e4] at c4
  rw [e5] at c5
  rw [e6] at c6
  rw [e7] at c7
  rw [bj4_tn h3 (mp_s pc8 7 _) (mp_s pc8 6 _) (mp_s pc8 5 _) (mp_s pc8 4 _) (mp_s pc8 3 _) (mp_s pc8 2 _) (show mp pc8 2 (tn x / 256 / 256 / 256 / 256 / 256 / 256) = 256 * pc8 (tn x / 256 / 256 / 256 / 256 / 256 / 256 / 256 % 256) + pc8 (tn x / 256 / 256 / 256 / 256 / 256 / 256 % 256) by rw [mp_s, mp_s]; rw [show mp pc8 0 (tn x / 256 / 256 / 256 / 256 / 256 / 256 / 256 / 256) = 0 from rfl]; omega) (hp _) (hp _) (hp _) (hp _) (hp _) (hp _) (hp _) (hp _)]
  rw [← c0, ← c1, ← c2, ← c3, ← c4, ← c5, ← c6, ← c7]
  show _ = cn (fun j => (tn x).testBit j) (8 + 8 + 8 + 8 + 8 + 8 + 8 + 8)
  rw [cn_add, cn_add, cn_add, cn_add, cn_add, cn_add, cn_add]
  simp only [Nat.zero_add]
theorem c_bcL {G : GX} {d : Nat} {S : ST} {x : Int64} {Q : Int32 → ST → Prop}  (hq : Q (nI (cn (fun j => bl x j) 64)) S) : Cn G d mJ13_bitCount_95d88 [.long x] S (qi Q) := by
  refine Cn.intro (lv := [(0, .long x)]) (by decide) (Nat.le_of_ble_eq_true rfl) rfl ?_
  refine V_lload_n dJ13_bitCount_95d88_0 rfl 0 rfl ?_
  refine V_lload_n dJ13_bitCount_95d88_1 rfl 0 rfl ?_
  refine V_iconst (v := 1) dJ13_bitCount_95d88_2 ki_1 ?_
  refine V_lushr dJ13_bitCount_95d88_3 ?_
  refine V_ldc2 dJ13_bitCount_95d88_4 tw_607 ?_
  refine V_land dJ13_bitCount_95d88_7 ?_
  refine V_lsub dJ13_bitCount_95d88_8 ?_
  refine V_topl (v := bj1 x) (rfl) ?_
  refine V_lstore_n [(0, .long (bj1 x))] dJ13_bitCount_95d88_9 rfl (Nat.le_of_ble_eq_true rfl) rfl ?_
  refine V_lload_n dJ13_bitCount_95d88_10 rfl 0 rfl ?_
  refine V_ldc2 dJ13_bitCount_95d88_11 tw_608 ?_
  refine V_land dJ13_bitCount_95d88_14 ?_
  refine V_lload_n dJ13_bitCount_95d88_15 rfl 0 rfl ?_
  refine V_iconst (v := 2) dJ13_bitCount_95d88_16 ki_2 ?_
  refine V_lushr dJ13_bitCount_95d88_17 ?_
  refine V_ldc2 dJ13_bitCount_95d88_18 tw_608 ?_
  refine V_land dJ13_bitCount_95d88_21 ?_
  refine V_ladd dJ13_bitCount_95d88_22 ?_
  refine V_topl (v := bj2 (bj1 x)) (rfl) ?_
  refine V_lstore_n [(0, .long (bj2 (bj1 x)))] dJ13_bitCount_95d88_23 rfl (Nat.le_of_ble_eq_true rfl) rfl ?_
  refine V_lload_n dJ13_bitCount_95d88_24 rfl 0 rfl ?_
  refine V_lload_n dJ13_bitCount_95d88_25 rfl 0 rfl ?_
  refine V_iconst (v := 4) dJ13_bitCount_95d88_26 ki_4 ?_
  refine V_lushr dJ13_bitCount_95d88_27 ?_
  refine V_ladd dJ13_bitCount_95d88_28 ?_
  refine V_ldc2 dJ13_bitCount_95d88_29 tw_609 ?_
  refine V_land dJ13_bitCount_95d88_32 ?_
  refine V_topl (v := bj3 (bj2 (bj1 x))) (rfl) ?_
  refine V_lstore_n [(0, .long (bj3 (bj2 (bj1 x))))] dJ13_bitCount_95d88_33 rfl (Nat.le_of_ble_eq_true rfl) rfl ?_
  refine V_lload_n dJ13_bitCount_95d88_34 rfl 0 rfl ?_
  refine V_lload_n dJ13_bitCount_95d88_35 rfl 0 rfl ?_
  refine V_bipush (v := 8) dJ13_bitCount_95d88_36 kb_8 ?_
  refine V_lushr dJ13_bitCount_95d88_38 ?_
  refine V_ladd dJ13_bitCount_95d88_39 ?_
  refine V_topl (v := bj4 (bj3 (bj2 (bj1 x)))) (rfl) ?_
  refine V_lstore_n [(0, .long (bj4 (bj3 (bj2 (bj1 x)))))] dJ13_bitCount_95d88_40 rfl (Nat.le_of_ble_eq_true rfl) rfl ?_
  refine V_lload_n dJ13_bitCount_95d88_41 rfl 0 rfl ?_
  refine V_lload_n dJ13_bitCount_95d88_42 rfl 0 rfl ?_
  refine V_bipush (v := 16) dJ13_bitCount_95d88_43 kb_16 ?_
  refine V_lushr dJ13_bitCount_95d88_45 ?_
  refine V_ladd dJ13_bitCount_95d88_46 ?_
  refine V_topl (v := bj5 (bj4 (bj3 (bj2 (bj1 x))))) (rfl) ?_
  refine V_lstore_n [(0, .long (bj5 (bj4 (bj3 (bj2 (bj1 x))))))] dJ13_bitCount_95d88_47 rfl (Nat.le_of_ble_eq_true rfl) rfl ?_
  refine V_lload_n dJ13_bitCount_95d88_48 rfl 0 rfl ?_
  refine V_lload_n dJ13_bitCount_95d88_49 rfl 0 rfl ?_
  refine V_bipush (v := 32) dJ13_bitCount_95d88_50 kb_32 ?_
  refine V_lushr dJ13_bitCount_95d88_52 ?_
  refine V_ladd dJ13_bitCount_95d88_53 ?_
  refine V_topl (v := bj6 (bj5 (bj4 (bj3 (bj2 (bj1 x)))))) (rfl) ?_
  refine V_lstore_n [(0, .long (bj6 (bj5 (bj4 (bj3 (bj2 (bj1 x)))))))] dJ13_bitCount_95d88_54 rfl (Nat.le_of_ble_eq_true rfl) rfl ?_
  refine V_lload_n dJ13_bitCount_95d88_55 rfl 0 rfl ?_
  refine V_l2i dJ13_bitCount_95d88_56 ?_
  refine V_bipush (v := 127) dJ13_bitCount_95d88_57 kb_127 ?_
  refine V_iand dJ13_bitCount_95d88_59 ?_
  refine V_iret rfl dJ13_bitCount_95d88_60 ⟨_, rfl, ?_⟩
  exact qcast hq (bcL_cn x)
