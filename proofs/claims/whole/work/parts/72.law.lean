def R_law : String := "BrokeWhereLaw"
def lw_P (b : Addr) (xs : List Int32) (args : Array Value) (s : State) : Prop := args = #[.ref b] ∧ s.IntsAt b xs ∧ xs.length ≤ 320 ∧ (Jvm.Cond.and given_1 narrow_1).before args s = true
def lw_Q (_ : Array Value) (s : State) (o : Outcome) (t : State) : Prop := o = .returned (some (.int 1)) ∧ Framed s o t [] 600000 7302250
def lw_Z (below : List Frame) (a : Array Value) (s : State) : State → Prop := fun t => ∃ o, t.status = .running ∧ Ended t below o ∧ lw_Q a s o t
/-- the law's own end, with 1 on the stack, nothing written that was there before, its room as the claim has it -/
theorem lw_ret {p : Program} {l : Launch} {e : Env} {s : State} {m : MethodId} {below : List Frame} {meth : Method} {c : Code} {b : Nat} (hx : p.tables.exec = Jvm.exec) (hb : c.code = code) (hr : meth.sig.returnType = ret) (hlocks : meth.locks = false) {pc : Nat} {H : Heap} {ls : Array Slot} (hdg : decode code pc = .ok (.ireturn, 1)) : W p l e room_1 s m #[Value.ref b] below meth c H [] 600000 7302250 (lw_Z below #[Value.ref b] s) (F0 m pc ls [.int 1]) := by
  intro T hT X
  obtain ⟨fs, hret, hrun, hended, hW, hframe⟩ := X.leave (v := some (.int 1)) (hlocks := hlocks) (fun h => by rw [hr] at h; cases h)
  have hmeth' : T.vm.method? m = some meth := X.method'
  refine ⟨T.setFrames fs, ?_, .returned (some (.int 1)), hrun, hended, rfl, ⟨_, rfl⟩, hW, hframe⟩
  jvm_step X.here [X.here.top, hx, hb, hdg, hmeth', hr, ret, narrow_b1]
  (try refine ⟨rfl, ?_⟩); (try refine ⟨rfl, ?_⟩)
  first | (intro acts; rw [hret _ acts rfl rfl rfl]) | rw [hret _ _ rfl rfl rfl]
  exact Steps.refl _
/-- what holds at the law's entry: the machine, the code, the tables' words (any of lw_tbl by 'hts w (by decide +kernel)'), the script of L ints xs at the cell b, what the Statement gives of the start (any of its parts by flat_of_before) -/
def lw_At (p : Program) (s : State) (m : MethodId) (meth : Method) (c : Code) (b L : Nat) (xs : Nat → Int32) : Prop :=
  p.tables.exec = Jvm.exec ∧ c.code = code ∧ meth.sig.returnType = ret ∧ c.maxLocals = 4 ∧ s.vm.findClass R_law = some m.cls ∧ (∀ w ∈ lw_tbl, w.before #[Value.ref b] s = true) ∧ va_X b L xs s s.heap ∧ b < s.heap.size ∧ meth.locks = false ∧ (Jvm.Cond.and given_1 narrow_1).before #[Value.ref b] s = true
/-! the law's own walk over the one world: scr its script of L ints xs -/
abbrev mL : MX := (⟨"BrokeWhereLaw", "law", "([I)Z"⟩, cL_law, 4, ret)
def EL (scr L : Nat) (xs : Nat → Int32) : EX := fun s args A => args = #[Value.ref scr] ∧ va_X scr L xs s s.heap ∧ scr < s.heap.size ∧ ¬ A scr ∧ ∀ q, A q → s.heap.size ≤ q
abbrev PL (G : GX) (scr L : Nat) (xs : Nat → Int32) : PX := (G, room_1, (100, 100000), (fun below args s _ => lw_Z below args s), EL scr L xs, mL)
theorem CT.E {P : PX} {p : Program} {s : State} {m : MethodId} {args : Array Value} {meth : Method} {c : Code} {A : Nat → Prop} (C : CT P p s m args meth c A) : P.2.2.2.2.1 s args A := C.2.2.2.2.2.2.2.2.2.2.2.2.2
theorem n_scr {G : GX} {scr L : Nat} {xs : Nat → Int32} {pc : Nat} {lv : LV} {r : List Value} {S : ST} (hd : decode cL_law pc = .ok (.arraylength, 1)) (k : V (PL G scr L xs) (pc + 1) lv (.int (Int32.ofNat L) :: r) S) : V (PL G scr L xs) pc lv (.ref scr :: r) S := fun p l e s m args below meth c A H locs ls C hP hS hl => va_slen C.1 C.2.1 C.E.2.1 C.E.2.2.1 C.E.2.2.2.1 hS hd (k p l e s m args below meth c A H locs ls C hP hS hl)
theorem l_scr {G : GX} {scr L : Nat} {xs : Nat → Int32} {pc : Nat} {lv : LV} {r : List Value} {S : ST} {i : Nat} (hi : i < L ∧ L ≤ 320) (hd : decode cL_law pc = .ok (.iaload, 1)) (k : V (PL G scr L xs) (pc + 1) lv (.int (xs i) :: r) S) : V (PL G scr L xs) pc lv (.int (nI i) :: .ref scr :: r) S := fun p l e s m args below meth c A H locs ls C hP hS hl => va_sld C.1 C.2.1 C.E.2.1 C.E.2.2.1 C.E.2.2.2.1 hS (vp_in_nI hi.1 (by omega)) hd (by rw [nI_clamp (by omega)]; exact k p l e s m args below meth c A H locs ls C hP hS hl)
theorem V_lawret {G : GX} {scr L : Nat} {xs : Nat → Int32} {pc : Nat} {lv : LV} {S : ST} (hd : decode cL_law pc = .ok (.ireturn, 1)) : V (PL G scr L xs) pc lv [.int 1] S := fun p l e s m args below meth c A H locs ls C hP hS hl => by
  obtain ⟨ea, -, -, -, hA⟩ := C.E
  subst ea
  exact va_forget (fun q hq => hA _ (hS.2.2 q hq)) (W.widen (k := 600000) (n := 7302250) (Nat.le_of_ble_eq_true rfl) (Nat.le_of_ble_eq_true rfl) (lw_ret C.1 C.2.1 C.2.2.1 C.2.2.2.2.2.2.1 hd))
theorem lwOk {n : Nat} (h : n ≤ 21) : RmOk room_1 (100, 100000) 40 n := ⟨⟨Nat.le_of_ble_eq_true rfl, Nat.le_trans (show 8 + (n + 11) + 40 * 40 ≤ 2000 by omega) (Nat.le_of_ble_eq_true rfl)⟩, Nat.le_of_ble_eq_true rfl, Nat.le_of_ble_eq_true rfl⟩
theorem gt5 {i L : Nat} (hL : L ≤ 320) (hi : i ≤ 400) : (Int32.ofNat L - 5 < nI i) ↔ L < i + 5 := by
  have h1 : (nI L - nI 5).toInt = (L : Int) - 5 := pk_sub_toInt (by omega) (by omega)
  have h2 : (nI i).toInt = (i : Int) := nI_toInt (by omega)
  show (nI L - nI 5 < nI i) ↔ _
  rw [Int32.lt_iff_toInt_lt, h1, h2]
  omega
