/-! a walk over a world that grows: constructors -/
def CU (P : PX) (p : Program) (s : State) (m : MethodId) (args : Array Value) (meth : Method) (c : Code) (A : Nat → Prop) : Prop :=
  p.tables.exec = Jvm.exec ∧ c.code = P.2.2.2.2.2.2.1 ∧ meth.sig.returnType = P.2.2.2.2.2.2.2.2 ∧ c.maxLocals = P.2.2.2.2.2.2.2.1 ∧ s.vm.findClass P.2.2.2.2.2.1.cls = some m.cls ∧ (∀ w ∈ TB, w.before args s = true) ∧ meth.locks = false ∧ va_K P.1.1 vwCl (tyL P.1) s ∧ NW s ∧ (∀ q, s.heap.size ≤ q → A q) ∧ (P.2.2.2.2.2.1.name = "<init>" → meth.name = "<init>") ∧ P.2.2.2.2.1 s args A
def U (P : PX) (a n : Nat) (pc : Nat) (lv : LV) (stk : List Value) (ws : va_W) : Prop :=
  ∀ (p : Program) (l : Launch) (e : Env) (s : State) (m : MethodId) (args : Array Value) (below : List Frame) (meth : Method) (c : Code) (A : Nat → Prop) (H : Heap) (locs : List Loc) (ls : Array Slot), CU P p s m args meth c A → va_P P.1.1 vwCl ws H → va_D A ws → va_S A s.heap H locs → lv_has ls P.2.2.2.2.2.2.2.1 lv → W p l e P.2.1 s m args below meth c H locs a n (P.2.2.2.1 below args s A) (F0 m pc ls stk)
theorem U_aload_n {P : PX} {a n pc : Nat} {lv : LV} {r : List Value} {ws : va_W} {j : Fin 4} {i x : Nat} (hd : decode P.2.2.2.2.2.2.1 pc = .ok (.aload_n j, 1)) (hi : (j : Nat) = i) (q : Nat) (hq : lv[q]? = some (i, .ref x)) (k : U P a n (pc + 1) lv (.ref x :: r) ws) : U P a n pc lv r ws := fun p l e s m args below meth c A H locs ls C hP hD hS hl => lv_aload_n C.1 C.2.1 hd hi (lv_at hl q hq) (k p l e s m args below meth c A H locs ls C hP hD hS hl)
theorem U_iload_n {P : PX} {a n pc : Nat} {lv : LV} {r : List Value} {ws : va_W} {j : Fin 4} {i : Nat} {x : Int32} (hd : decode P.2.2.2.2.2.2.1 pc = .ok (.iload_n j, 1)) (hi : (j : Nat) = i) (q : Nat) (hq : lv[q]? = some (i, .int x)) (k : U P a n (pc + 1) lv (.int x :: r) ws) : U P a n pc lv r ws := fun p l e s m args below meth c A H locs ls C hP hD hS hl => lv_iload_n C.1 C.2.1 hd hi (lv_at hl q hq) (k p l e s m args below meth c A H locs ls C hP hD hS hl)
theorem U_iconst {P : PX} {a n pc : Nat} {lv : LV} {r : List Value} {ws : va_W} {y : Int} {v : Int32} (hd : decode P.2.2.2.2.2.2.1 pc = .ok (.iconst y, 1)) (hv : Int32.ofInt y = v) (k : U P a n (pc + 1) lv (.int v :: r) ws) : U P a n pc lv r ws := fun p l e s m args below meth c A H locs ls C hP hD hS hl => lv_iconst C.1 C.2.1 hd hv (k p l e s m args below meth c A H locs ls C hP hD hS hl)
theorem U_bipush {P : PX} {a n pc : Nat} {lv : LV} {r : List Value} {ws : va_W} {y : Int} {v : Int32} (hd : decode P.2.2.2.2.2.2.1 pc = .ok (.bipush y, 2)) (hv : (Int8.ofInt y).toInt32 = v) (k : U P a n (pc + 2) lv (.int v :: r) ws) : U P a n pc lv r ws := fun p l e s m args below meth c A H locs ls C hP hD hS hl => lv_bipush C.1 C.2.1 hd hv (k p l e s m args below meth c A H locs ls C hP hD hS hl)
theorem U_sipush {P : PX} {a n pc : Nat} {lv : LV} {r : List Value} {ws : va_W} {y : Int} {v : Int32} (hd : decode P.2.2.2.2.2.2.1 pc = .ok (.sipush y, 3)) (hv : (Int16.ofInt y).toInt32 = v) (k : U P a n (pc + 3) lv (.int v :: r) ws) : U P a n pc lv r ws := fun p l e s m args below meth c A H locs ls C hP hD hS hl => lv_sipush C.1 C.2.1 hd hv (k p l e s m args below meth c A H locs ls C hP hD hS hl)
theorem U_dup {P : PX} {a n pc : Nat} {lv : LV} {r : List Value} {ws : va_W} {x : Nat} (hd : decode P.2.2.2.2.2.2.1 pc = .ok (.dup, 1)) (k : U P a n (pc + 1) lv (.ref x :: .ref x :: r) ws) : U P a n pc lv (.ref x :: r) ws := fun p l e s m args below meth c A H locs ls C hP hD hS hl => lv_dup C.1 C.2.1 hd rfl (k p l e s m args below meth c A H locs ls C hP hD hS hl)
theorem U_astore_n {P : PX} {a n pc : Nat} {lv : LV} {r : List Value} {ws : va_W} {j : Fin 4} {i x : Nat} (lv' : LV) (hd : decode P.2.2.2.2.2.2.1 pc = .ok (.astore_n j, 1)) (hi : (j : Nat) = i) (hn : i < P.2.2.2.2.2.2.2.1) (h2 : (i, Value.ref x) :: lv.filter (fun q => !(q.1 == i) && !(q.1 + 1 == i && q.2.category == 2)) = lv') (k : U P a n (pc + 1) lv' r ws) : U P a n pc lv (.ref x :: r) ws := fun p l e s m args below meth c A H locs ls C hP hD hS hl => lv_astore_n C.1 C.2.1 hd hi hl hn h2 (fun ls hl => (k p l e s m args below meth c A H locs ls C hP hD hS hl))
theorem U_istore_n {P : PX} {a n pc : Nat} {lv : LV} {r : List Value} {ws : va_W} {j : Fin 4} {i : Nat} {x : Int32} (lv' : LV) (hd : decode P.2.2.2.2.2.2.1 pc = .ok (.istore_n j, 1)) (hi : (j : Nat) = i) (hn : i < P.2.2.2.2.2.2.2.1) (h2 : (i, Value.int x) :: lv.filter (fun q => !(q.1 == i) && !(q.1 + 1 == i && q.2.category == 2)) = lv') (k : U P a n (pc + 1) lv' r ws) : U P a n pc lv (.int x :: r) ws := fun p l e s m args below meth c A H locs ls C hP hD hS hl => lv_istore_n C.1 C.2.1 hd hi hl hn h2 (fun ls hl => (k p l e s m args below meth c A H locs ls C hP hD hS hl))
theorem U_obj {P : PX} {a n pc : Nat} {lv : LV} {r : List Value} {ws : va_W} {x idx : Nat} (hw : Cond.methodLink P.2.2.2.2.2.1.cls idx Lib.objectInit ∈ TB) (hd : decode P.2.2.2.2.2.2.1 pc = .ok (.invokespecial idx, 3)) (hR : 1 ≤ P.2.1.frames ∧ (r.map fun v => v.category).sum + 12 ≤ P.2.1.locals) (k : U P a n (pc + 3) lv r ws) : U P a n pc lv (.ref x :: r) ws := fun p l e s m args below meth c A H locs ls C hP hD hS hl => W.objInit C.1 C.2.1 C.2.2.2.2.1 (C.2.2.2.2.2.1 _ hw) (C.2.2.2.2.2.1 _ tw_20) (C.2.2.2.2.2.1 _ (show Cond.code Lib.objectInit ⟨#[0xb1]⟩ 1 none ∈ TB from tw_21)) rfl (by rw [C.2.2.2.1]; exact hl.1) rfl hd hR.1 (by show 2 * 0 + _ + 12 ≤ _; omega) (W.eq (g2 := F0 m (pc + 3) ls r) rfl (k p l e s m args below meth c A H locs ls C hP hD hS hl))
theorem U_get {P : PX} {a n pc : Nat} {lv : LV} {r : List Value} {ws : va_W} (q0 : Nat) {x : Nat} {fs : List Value} {ci N index : Nat} {CC : String} {T : u_T} (he : ws[q0]? = some (x, .inr (ci, fs))) (hc : vwCl[ci]? = some (CC, T, N)) (hin : ∀ w ∈ u_ws CC T N, w ∈ TB) (j : Nat) (hk : j < N) {v : Value} (hv : fs[j]? = some v) (hw : Cond.fieldLink P.2.2.2.2.2.1.cls index (T j).1 (T j).2.1 (T j).2.2.1 ∈ TB) (hd : decode P.2.2.2.2.2.2.1 pc = .ok (.getfield index, 3)) (k : U P a n (pc + 3) lv (v :: r) ws) : U P a n pc lv (.ref x :: r) ws := fun p l e s m args below meth c A H locs ls C hP hD hS hl => va_get C.1 C.2.1 C.2.2.2.2.2.1 hin C.2.2.2.2.1 C.2.2.2.2.2.2.2.1 hP q0 he hc j hk (C.2.2.2.2.2.1 _ hw) (fun _ h9 => h9) hv hd (k p l e s m args below meth c A H locs ls C hP hD hS hl)
theorem U_putF {P : PX} {a n pc : Nat} {lv : LV} {r : List Value} {ws : va_W} (w2 : va_W) (q0 : Nat) {x : Nat} {fs : List Value} {ci N index : Nat} {CC : String} {T : u_T} (he : ws[q0]? = some (x, .inr (ci, fs))) (hc : vwCl[ci]? = some (CC, T, N)) (hin : ∀ w ∈ u_ws CC T N, w ∈ TB) (ty0 : Nat → FieldType) (hty : ∀ k, k < N → parseFieldDescriptor (T k).2.2.1 = some (ty0 k)) (hnm : ∀ a, a < N → ∀ b, b < N → a ≠ b → (T a).2.1 ≠ (T b).2.1) (j : Nat) (hk : j < N) (hfin : (T j).2.2.2 = true) (hni : P.2.2.2.2.2.1.name = "<init>") (hdecl : (T j).1 = P.2.2.2.2.2.1.cls) {ty : FieldType} {v : Value} (hdd : parseFieldDescriptor (T j).2.2.1 = some ty) (hnr : narrow ty v = v) (hfit : fits ty v = true) (hlen : j < fs.length) (hS2 : ws.set q0 (x, .inr (ci, fs.set j v)) = w2) (hw : Cond.fieldLink P.2.2.2.2.2.1.cls index (T j).1 (T j).2.1 (T j).2.2.1 ∈ TB) (hd : decode P.2.2.2.2.2.2.1 pc = .ok (.putfield index, 3)) (k : U P a n (pc + 3) lv r w2) : U P a n pc lv (v :: .ref x :: r) ws := fun p l e s m args below meth c A H locs ls C hP hD hS hl => va_putF C.1 C.2.1 C.2.2.2.2.2.1 hin ty0 hty hnm C.2.2.2.2.1 C.2.2.2.2.2.2.2.1 hP hD hS q0 he hc j hk (C.2.2.2.2.2.1 _ hw) (fun _ h9 => h9) hfin (C.2.2.2.2.2.2.2.2.2.2.1 hni) hdecl hdd hnr hfit hlen hd (fun H locs hP hD hS => k p l e s m args below meth c A H locs ls C (hS2 ▸ hP) (hS2 ▸ hD) hS hl)
theorem U_iast {P : PX} {a n pc : Nat} {lv : LV} {r : List Value} {ws : va_W} (w2 : va_W) (q0 : Nat) {x N : Nat} {f : Nat → Int32} {i y : Int32} (he : ws[q0]? = some (x, .inl (P.1.2.2.1.1, N, .inl f))) (hin : vp_in i N) (hS2 : ws.set q0 (x, .inl (P.1.2.2.1.1, N, .inl (upd f i.toNatClampNeg y))) = w2) (hd : decode P.2.2.2.2.2.2.1 pc = .ok (.iastore, 1)) (k : U P a n (pc + 1) lv r w2) : U P a n pc lv (.int y :: .int i :: .ref x :: r) ws := fun p l e s m args below meth c A H locs ls C hP hD hS hl => va_iast C.1 C.2.1 C.2.2.2.2.2.2.2.1 hP hD hS q0 0 he rfl hin hd (fun H locs hP hD hS => k p l e s m args below meth c A H locs ls C (hS2 ▸ hP) (hS2 ▸ hD) hS hl)
theorem U_new {P : PX} {a n pc : Nat} {lv : LV} {r : List Value} {ws : va_W} {ci N index : Nat} {CC : String} {T : u_T} {fs : List Value} (hc : vwCl[ci]? = some (CC, T, N)) (hin : ∀ w ∈ u_ws CC T N, w ∈ TB) (ty0 : Nat → FieldType) (hty : ∀ k, k < N → parseFieldDescriptor (T k).2.2.1 = some (ty0 k)) (hfs : ∀ j, j < N → defaultValue (ty0 j) = vp_V fs j) (hcl : Cond.classLink P.2.2.2.2.2.1.cls index CC ∈ TB) (hi : Cond.instantiable CC N ∈ TB) (hini : Cond.initialized CC ∈ TB) (hR : a + 1 ≤ P.2.1.cells ∧ n + N ≤ P.2.1.slots) (hd : decode P.2.2.2.2.2.2.1 pc = .ok (.new index, 3)) (k : ∀ q : Nat, U P (a + 1) (n + N) (pc + 3) lv (.ref q :: r) (ws ++ [(q, .inr (ci, fs))])) : U P a n pc lv r ws := fun p l e s m args below meth c A H locs ls C hP hD hS hl => va_new C.1 C.2.1 C.2.2.2.2.2.1 hin ty0 hty C.2.2.2.2.1 (C.2.2.2.2.2.1 _ hcl) (C.2.2.2.2.2.1 _ hi) (C.2.2.2.2.2.1 _ hini) C.2.2.2.2.2.2.2.1 hP hD hS C.2.2.2.2.2.2.2.2.2.1 hc hfs hR.1 hR.2 hd (fun q H hP hD hS => k q p l e s m args below meth c A H locs ls C hP hD hS hl)
theorem U_newa {P : PX} {a n pc : Nat} {lv : LV} {r : List Value} {ws : va_W} {at0 : ArrayType} {ty : FieldType} {cA : ClassId} {v : Int32} {N : Nat} {a0 : vp_A} (t0 : Nat) (hty : newarray.typeOf at0 = ty) (ht : (tyL P.1)[t0]? = some (cA, ty)) (hob : va_RA = va_RA → ∀ U : State, va_RA U cA ty → U.vm.findClass ("[" ++ ty.toString) = some cA) (hw : Cond.arrayClass ty ∈ TB) (ha : ∀ cA : ClassId, vp_cell cA a0 = arrV cA N (fun _ => defaultValue ty)) (hv : ¬ v < 0) (hN : v.toNatClampNeg = N) (hby : N * componentBytes ty ≤ 536870912) (hR : a + 1 ≤ P.2.1.cells ∧ n + N ≤ P.2.1.slots) (hd : decode P.2.2.2.2.2.2.1 pc = .ok (.newarray at0, 2)) (k : ∀ q : Nat, U P (a + 1) (n + N) (pc + 2) lv (.ref q :: r) (ws ++ [(q, .inl (cA, a0))])) : U P a n pc lv (.int v :: r) ws := by
  subst hty
  intro p l e s m args below meth c A H locs ls C hP hD hS hl
  refine va_newaK C.1 C.2.1 (C.2.2.2.2.2.1 _ hw) rfl hd rfl hv hN hby hR.1 hR.2 rfl fun H1 cB e1 z1 o1 hAr hNm => ?_
  have hRA := hob rfl s (C.2.2.2.2.2.2.2.1.2 t0 _ ht).2
  have ecB : cB = cA := Option.some.inj (hNm.symm.trans hRA)
  subst ecB
  have hk : ∀ (k : Nat) (x : Nat × va_E), ws[k]? = some x → H1[x.1]? = H[x.1]? := fun k x hx => o1 x.1 ((hP k x hx).lt)
  refine k H.size p l e s m args below meth c A H1 locs ls C ((hP.kept hk).app (fun k x hx => ?_)) (hD.push hP rfl (C.2.2.2.2.2.2.2.2.2.1 _ hS.1)) ⟨Nat.le_trans hS.1 (by omega), fun x h1 h2 => (o1 x (Nat.lt_of_lt_of_le h1 hS.1)).trans (hS.2.1 x h1 h2), hS.2.2⟩ hl
  have hz : k < 1 := (List.getElem?_eq_some_iff.mp hx).1
  rw [show k = 0 by omega] at hx
  cases hx
  show H1[H.size]? = some (vp_cell _ _)
  rw [ha]
  exact e1
def rmc (f a n : Nat) : Room := { frames := f, cells := a, slots := n, locals := 40 * f }
def QU (G : GX) (Q : va_W → Prop) (A : Nat → Prop) : Array Value → State → Outcome → State → Prop := va_Qv Q (fun w1 t => va_P G.1 vwCl w1 t.heap ∧ va_D A w1) A
def pC (G : GX) (f a n : Nat) (M : MX) (Q : va_W → Prop) : PX := (G, rmc f a n, (0, 0), (fun below args s A => MQ below (QU G Q A) args s a n A), (fun _ _ _ => True), M)
def WC (G : GX) (w0 : va_W) (sz : Nat) (U : State) : Prop := U.heap.size = sz ∧ va_P G.1 vwCl w0 U.heap ∧ va_K G.1 vwCl (tyL G) U ∧ NW U ∧ va_D (fun _ => True) w0
def Ci (G : GX) (f a n : Nat) (M : MX) (As : List Value) (w0 : va_W) (Q : va_W → Prop) : Prop :=
  ∀ (l : Launch) (sz : Nat), Met l M.1 (.code M.1 M.2.1 M.2.2.1 M.2.2.2 :: TB) (rmc f a n) (va_Pc As (WC G w0 sz)) (QU G Q (va_A w0 sz)) a n (va_A w0 sz)
set_option maxHeartbeats 1000000 in
theorem Ci.intro {G : GX} {f a n : Nat} {M : MX} {As : List Value} {w0 : va_W} {Q : va_W → Prop} {lv : LV} (hy : plainName M.1.cls = true) (hn : (lg_sl As).length ≤ M.2.2.1) (hlv : lv_args 0 As = lv) (h : U (pC G f a n M Q) 0 0 0 lv [] w0) : Ci G f a n M As w0 Q := by
  intro l sz
  refine Met.ofW (cc := M.2.1) (maxL := M.2.2.1) (ret := M.2.2.2) hy rfl ?_
  intro p e s m args below meth c s₁ B hml hv
  obtain ⟨rfl, hsz, hP, hK, hN, hD0⟩ := hv
  subst hsz
  have hts : ∀ w ∈ (Cond.code M.1 M.2.1 M.2.2.1 M.2.2.2 :: TB), w.before As.toArray s = true := atoms_spec B.pre
  have hl := lv_entry As hn
  rw [hlv] at hl
  rw [lg_entry_eq]
  generalize (lg_sl As ++ List.replicate (M.2.2.1 - (lg_sl As).length) Slot.unset).toArray = ls at hl ⊢
  exact h p l e s m As.toArray below meth c (va_A w0 s.heap.size) s.heap [] ls ⟨B.exec, B.bytes, B.returns, hml, findClass_of_methodNamed B.named, fun w hw => hts w (List.mem_cons_of_mem _ hw), B.notSynchronized, hK, hN, fun q hq => Or.inr hq, fun hi => ((name_of_methodNamed B.named B.method).1).trans hi, trivial⟩ hP (hD0.self (sz := s.heap.size)) va_S.rf hl
theorem U_ret {G : GX} {f a n a1 n1 pc : Nat} {M : MX} {Q : va_W → Prop} {lv : LV} {ws : va_W} (h1 : a1 ≤ a) (h2 : n1 ≤ n) (hr : M.2.2.2 = none) (hd : decode M.2.1 pc = .ok (.return_, 1)) (hq : Q ws) : U (pC G f a n M Q) a1 n1 pc lv [] ws := fun p l e s m args below meth c A H locs ls C hP hD hS hl => W.widen (k := a) (n := n) h1 h2 (W.vret C.1 C.2.1 (by rw [C.2.2.1]; exact hr) (fun t ht hW => ⟨⟨ws, rfl, hq, by rw [ht]; exact hP, hD⟩, hS.F ht⟩) hS.2.2 hd C.2.2.2.2.2.2.1)
theorem WC.blind {G : GX} {w0 : va_W} {sz : Nat} {As : List Value} : FrameBlind (va_Pc As (WC G w0 sz)) := by
  intro a U g mk h
  obtain ⟨h0, h1, h2, h3, h4, h5⟩ := h
  exact ⟨h0, h1, h2, va_K.moved (u := U) (U := U.calling g mk a) (Vm.Alike.refl U.vm) h3, NW.same (s := U) (U := U.calling g mk a) rfl h4, h5⟩
def OkI (K : MX) (n : Nat) : Prop := Cond.code K.1 K.2.1 K.2.2.1 none ∈ TB ∧ Cond.initialized K.1.cls ∈ TB ∧ Cond.instanceMethod K.1 ∈ TB ∧ K.1.name = "<init>" ∧ K.1.cls ≠ "java/lang/invoke/MethodHandle" ∧ K.1.cls ≠ "java/lang/invoke/VarHandle" ∧ (parseMethodDescriptor K.1.desc).map (fun d => d.parameters.length) = some n ∧ K.2.2.2 = none
theorem CU.pre {P : PX} {p : Program} {s : State} {m : MethodId} {args : Array Value} {meth : Method} {c : Code} {A : Nat → Prop} {H : Heap} {w0 : va_W} {B : Nat → Prop} (C : CU P p s m args meth c A) (hP : va_P P.1.1 vwCl w0 H) (hD : va_D B w0) : ∀ U : State, U.heap = H → s.WarmedH U.vm → WC P.1 w0 H.size U := fun U hU hW => ⟨by rw [hU], by rw [hU]; exact hP, va_K.moved hW.alike C.2.2.2.2.2.2.2.1, NW.warm hW C.2.2.2.2.2.2.2.2.1, hD.weaken (fun _ _ _ _ => trivial)⟩
set_option maxHeartbeats 1000000 in
theorem U_callI {P : PX} {a n pc : Nat} {lv : LV} {r : List Value} {ws : va_W} {f mc ms nn idx b : Nat} {K : MX} {As st0 : List Value} {w0 : va_W} {Q' : va_W → Prop} (isC isR : List Nat) (wr : va_W) (hC : isC.map (fun i => ws[i]?) = w0.map some) (hC2 : isC.filterMap (fun i => ws[i]?) = w0) (hnc : va_nd isC = true) (hR : isR.map (fun i => ws[i]?) = wr.map some) (hnd : va_nd isR = true) (hdis : ∀ i ∈ isR, i ∉ isC) (hok : OkI K nn) (hw : Cond.methodLink P.2.2.2.2.2.1.cls idx K.1 ∈ TB) (hn : As.length = nn) (hRm : (f + 1 ≤ P.2.1.frames ∧ 8 + (K.2.2.1 + 11) + 40 * f ≤ P.2.1.locals) ∧ a + mc ≤ P.2.1.cells ∧ n + ms ≤ P.2.1.slots) (hW : (r.map fun v => v.category).sum ≤ 8) (hd : decode P.2.2.2.2.2.2.1 pc = .ok (.invokespecial idx, 3)) (hst : st0 = As.reverse ++ .ref b :: r) (hCi : Ci P.1 f mc ms K (.ref b :: As) w0 Q') (hQ : ∀ w1, Q' w1 → U P (a + mc) (n + ms) (pc + 3) lv r (wr ++ w1)) : U P a n pc lv st0 ws := by
  intro p l e s m args below meth c A H locs ls C hP hD hS hl
  obtain ⟨k1, k2, k3, k4, k5, k6, k7, k8⟩ := hok
  subst hst
  have hPc := hP.sub (ws' := w0) isC hC2
  have hDc := hD.sub (ws' := w0) isC hnc hC
  have hFc := va_free (wc := w0) hD hS C.2.2.2.2.2.2.2.2.2.1 isC hC
  have hM := hCi l H.size
  rw [k8] at hM
  refine va_callv (va_runI (Ts := TB) (own := P.2.2.2.2.2.1.cls) (nL := P.2.2.2.2.2.2.2.1) (As := As) (rest := r) ⟨C.1, C.2.1, C.2.2.2.1, C.2.2.2.2.1, C.2.2.2.2.2.1⟩ hM (cwI (ws' := TB) nn C.2.2.2.2.2.1 (TB_in ?_) rfl rfl rfl (C.2.2.2.2.2.1 _ k2) (C.2.2.2.2.2.1 _ hw) (C.2.2.2.2.2.1 _ k3) k4 ⟨k5, k6, k7⟩ hRm.1) ⟨WC.blind, fun U hU hW => ⟨rfl, C.pre hPc hDc U hU hW⟩⟩ rfl hn hl.1 rfl (lv_room hW) hd hRm.2) hS (fun q _ h => hFc q h) hFc (fun w1 t H1 locs ht hvm hq hB hz1 hk1 hS => ?_)
  · intro w hw2
    rcases List.mem_cons.mp hw2 with rfl | h
    · exact k1
    · exact h
  · obtain ⟨hP1, hD1⟩ := hB
    rw [ht] at hP1
    obtain ⟨hP, hD⟩ := va_join hP hD isC isR hC hR hnd hdis hk1 hFc hP1 hD1
    exact hQ w1 hq p l e s m args below meth c A H1 locs ls C hP hD hS hl
set_option maxHeartbeats 1000000 in
theorem U_callN {P : PX} {a n pc : Nat} {lv : LV} {r : List Value} {ws : va_W} {f mc ms nn idx b : Nat} {K : MX} {host : String} {As st0 : List Value} {w0 : va_W} {Q' : va_W → Prop} (isC isR : List Nat) (wr : va_W) (hC : isC.map (fun i => ws[i]?) = w0.map some) (hC2 : isC.filterMap (fun i => ws[i]?) = w0) (hnc : va_nd isC = true) (hR : isR.map (fun i => ws[i]?) = wr.map some) (hnd : va_nd isR = true) (hdis : ∀ i ∈ isR, i ∉ isC) (hok : OkI K nn) (hw : Cond.methodLinkNest P.2.2.2.2.2.1.cls idx K.1 host ∈ NL) (hn : As.length = nn) (hRm : (f + 1 ≤ P.2.1.frames ∧ 8 + (K.2.2.1 + 11) + 40 * f ≤ P.2.1.locals) ∧ a + mc ≤ P.2.1.cells ∧ n + ms ≤ P.2.1.slots) (hW : (r.map fun v => v.category).sum ≤ 8) (hd : decode P.2.2.2.2.2.2.1 pc = .ok (.invokespecial idx, 3)) (hst : st0 = As.reverse ++ .ref b :: r) (hCi : Ci P.1 f mc ms K (.ref b :: As) w0 Q') (hQ : ∀ w1, Q' w1 → U P (a + mc) (n + ms) (pc + 3) lv r (wr ++ w1)) : U P a n pc lv st0 ws := by
  intro p l e s m args below meth c A H locs ls C hP hD hS hl
  obtain ⟨k1, k2, k3, k4, k5, k6, k7, k8⟩ := hok
  subst hst
  have hPc := hP.sub (ws' := w0) isC hC2
  have hDc := hD.sub (ws' := w0) isC hnc hC
  have hFc := va_free (wc := w0) hD hS C.2.2.2.2.2.2.2.2.2.1 isC hC
  have hM := hCi l H.size
  rw [k8] at hM
  refine va_callv (va_runIN (Ts := TB) (own := P.2.2.2.2.2.1.cls) (nL := P.2.2.2.2.2.2.2.1) (As := As) (rest := r) ⟨C.1, C.2.1, C.2.2.2.1, C.2.2.2.2.1, C.2.2.2.2.2.1⟩ hM ⟨va_cnB (ws' := TB) nn C.2.2.2.2.2.1 (TB_in ?_) rfl rfl rfl (C.2.2.2.2.2.2.2.2.1 _ hw) (C.2.2.2.2.2.1 _ k2) ⟨k5, k6, k7⟩ hRm.1, k4, C.2.2.2.2.2.1 _ k3⟩ ⟨WC.blind, fun U hU hW => ⟨rfl, C.pre hPc hDc U hU hW⟩⟩ rfl hn hl.1 rfl (lv_room hW) hd hRm.2) hS (fun q _ h => hFc q h) hFc (fun w1 t H1 locs ht hvm hq hB hz1 hk1 hS => ?_)
  · intro w hw2
    rcases List.mem_cons.mp hw2 with rfl | h
    · exact k1
    · exact h
  · obtain ⟨hP1, hD1⟩ := hB
    rw [ht] at hP1
    obtain ⟨hP, hD⟩ := va_join hP hD isC isR hC hR hnd hdis hk1 hFc hP1 hD1
    exact hQ w1 hq p l e s m args below meth c A H1 locs ls C hP hD hS hl
