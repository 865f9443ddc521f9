/-- a text read from its end: a pile and its height; over any values -/
def stp {α : Type} (lt : Nat → α) (ng : α → α) (an og : α → α → α) (s : Int32) (a : (Nat → α) × Nat) : (Nat → α) × Nat := if fr s 97 108 then (va_up a.1 a.2 (lt (s - 97).toNatClampNeg), a.2 + 1) else if s = 33 then (va_up a.1 (a.2 - 1) (ng (a.1 (a.2 - 1))), a.2) else (va_up a.1 (a.2 - 2) (if s = 38 then an (a.1 (a.2 - 1)) (a.1 (a.2 - 2)) else og (a.1 (a.2 - 1)) (a.1 (a.2 - 2))), a.2 - 1)
def evl {α : Type} (lt : Nat → α) (ng : α → α) (an og : α → α → α) (f0 : Nat → α) (sg : Nat → Int32) (y : Nat) : Nat → (Nat → α) × Nat
  | 0 => (f0, 0)
  | m + 1 => stp lt ng an og (sg (y - 1 - m)) (evl lt ng an og f0 sg y m)
def tps (s : Int32) (t : Nat) : Nat := if fr s 97 108 then t + 1 else if s = 33 then t else t - 1
def tpn (sg : Nat → Int32) (y : Nat) : Nat → Nat
  | 0 => 0
  | m + 1 => tps (sg (y - 1 - m)) (tpn sg y m)
theorem evl_t {α : Type} {lt : Nat → α} {ng : α → α} {an og : α → α → α} {f0 : Nat → α} {sg : Nat → Int32} {y : Nat} : ∀ m, (evl lt ng an og f0 sg y m).2 = tpn sg y m
  | 0 => rfl
  | m + 1 => by
    unfold evl tpn stp tps
    rw [evl_t m]
    split
    · rfl
    · split
      · rfl
      · rfl
theorem evl_s {α : Type} {lt : Nat → α} {ng : α → α} {an og : α → α → α} {f0 : Nat → α} {sg : Nat → Int32} {y m : Nat} : evl lt ng an og f0 sg y (m + 1) = stp lt ng an og (sg (y - 1 - m)) (evl lt ng an og f0 sg y m) := rfl
/-- the text stands: no sign finds too few texts behind it, one value is left -/
def WF (sg : Nat → Int32) (y : Nat) : Prop := y ≤ 40 ∧ tpn sg y y = 1 ∧ ∀ m, m < y → (fr (sg (y - 1 - m)) 97 108 = true ∨ (sg (y - 1 - m) = 33 ∧ 1 ≤ tpn sg y m) ∨ ((sg (y - 1 - m) = 38 ∨ sg (y - 1 - m) = 124) ∧ 2 ≤ tpn sg y m))
theorem tpn_le {sg : Nat → Int32} {y : Nat} : ∀ m, tpn sg y m ≤ m
  | 0 => Nat.le_refl 0
  | m + 1 => by
    have := tpn_le (sg := sg) (y := y) m
    unfold tpn tps
    split
    · omega
    · split
      · omega
      · omega
def evC (S : ST) (w y : Nat) (f0 : Nat → Int64) (m : Nat) : (Nat → Int64) × Nat := evl (fun c => sW c w) (fun x => x ^^^ -1) (fun a b => a &&& b) (fun a b => a ||| b) f0 (S.2.2.1 23) y m
theorem evC_s {S : ST} {w y m : Nat} {f0 : Nat → Int64} : evC S w y f0 (m + 1) = stp (fun c => sW c w) (fun x => x ^^^ -1) (fun a b => a &&& b) (fun a b => a ||| b) (S.2.2.1 23 (y - 1 - m)) (evC S w y f0 m) := rfl
theorem evC_t {S : ST} {w y m : Nat} {f0 : Nat → Int64} : (evC S w y f0 m).2 = tpn (S.2.2.1 23) y m := evl_t m
theorem va_updL (f : Nat → Int64) (k : Nat) (x : Int64) : vp_updL f k x = va_up f k x := rfl
theorem stp_l {α : Type} {lt : Nat → α} {ng : α → α} {an og : α → α → α} {s : Int32} {a : (Nat → α) × Nat} (h : fr s 97 108 = true) : stp lt ng an og s a = (va_up a.1 a.2 (lt (s - 97).toNatClampNeg), a.2 + 1) := by rw [stp, if_pos h]
theorem stp_n {α : Type} {lt : Nat → α} {ng : α → α} {an og : α → α → α} {s : Int32} {a : (Nat → α) × Nat} (h : s = 33) : stp lt ng an og s a = (va_up a.1 (a.2 - 1) (ng (a.1 (a.2 - 1))), a.2) := by
  subst h
  rw [stp, if_neg (by decide), if_pos rfl]
theorem stp_2 {α : Type} {lt : Nat → α} {ng : α → α} {an og : α → α → α} {s : Int32} {a : (Nat → α) × Nat} (h : s = 38 ∨ s = 124) : stp lt ng an og s a = (va_up a.1 (a.2 - 2) (if s = 38 then an (a.1 (a.2 - 1)) (a.1 (a.2 - 2)) else og (a.1 (a.2 - 1)) (a.1 (a.2 - 2))), a.2 - 1) := by
  rcases h with rfl | rfl
  · rw [stp, if_neg (by decide), if_neg (by decide)]
  · rw [stp, if_neg (by decide), if_neg (by decide)]
theorem txO_l {s : Int32} (h : fr s 97 108 = true) : txO s = 0 := by rw [txO, if_pos h]
theorem txO_n {s : Int32} (h : s = 33) : txO s = 1 := by subst h; decide
theorem txO_2 {s : Int32} (h : s = 38 ∨ s = 124) : txO s = 2 := by rcases h with rfl | rfl <;> decide
