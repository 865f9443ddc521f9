theorem V_ldc_w {P : PX} {pc : Nat} {lv : LV} {r : List Value} {S : ST} {ix : Nat} {v : Int32} (hd : decode P.2.2.2.2.2.2.1 pc = .ok (.ldc_w ix, 3)) (hw : Cond.constant P.2.2.2.2.2.1.cls ix v ∈ TB) (k : V P (pc + 3) lv (.int v :: r) S) : V P pc lv (r) S := fun p l e s m args below meth c A H locs ls C hP hS hl => lv_ldcw C.1 C.2.1 C.2.2.2.2.1 (C.2.2.2.2.2.1 _ hw) hd (k p l e s m args below meth c A H locs ls C hP hS hl)
/-! bits counted as the JDK does, of an int -/
def us (x y : Int32) : Int32 := (x.toUInt32 >>> (y.toUInt32 &&& Int32.toUInt32 31)).toInt32
def bi1 (x : Int32) : Int32 := x - (us x 1 &&& 1431655765)
def bi2 (x : Int32) : Int32 := (x &&& 858993459) + (us x 2 &&& 858993459)
def bi3 (x : Int32) : Int32 := (x + us x 4) &&& 252645135
def bi4 (x : Int32) : Int32 := x + us x 8
def bi5 (x : Int32) : Int32 := x + us x 16
def bcI (x : Int32) : Int32 := bi5 (bi4 (bi3 (bi2 (bi1 x)))) &&& 63
theorem bcI_cnt0 : ∀ a, a < 64 → ∀ b, b < 64 → bcI (nI (64 * a + b)) = cnt (nI (64 * a + b)) 12 := by decide +kernel
theorem bcI_cnt {t : Nat} (h : t < 4096) : bcI (nI t) = cnt (nI t) 12 := by
  have := bcI_cnt0 (t / 64) (by omega) (t % 64) (by omega)
  rw [show 64 * (t / 64) + t % 64 = t by omega] at this
  exact this
theorem c_bcI {G : GX} {d : Nat} {S : ST} {x : Int32} {Q : Int32 → ST → Prop}  (hq : Q (bcI x) S) : Cn G d mJ6_bitCount_0f7a4 [.int x] S (qi Q) := by
  refine Cn.intro (lv := [(0, .int x)]) (by decide) (Nat.le_of_ble_eq_true rfl) rfl ?_
  refine V_iload_n dJ6_bitCount_0f7a4_0 rfl 0 rfl ?_
  refine V_iload_n dJ6_bitCount_0f7a4_1 rfl 0 rfl ?_
  refine V_iconst (v := 1) dJ6_bitCount_0f7a4_2 ki_1 ?_
  refine V_iushr dJ6_bitCount_0f7a4_3 ?_
  refine V_ldc_w dJ6_bitCount_0f7a4_4 tw_581 ?_
  refine V_iand dJ6_bitCount_0f7a4_7 ?_
  refine V_isub dJ6_bitCount_0f7a4_8 ?_
  refine V_topi (v := bi1 x) (rfl) ?_
  refine V_istore_n [(0, .int (bi1 x))] dJ6_bitCount_0f7a4_9 rfl (Nat.le_of_ble_eq_true rfl) rfl ?_
  refine V_iload_n dJ6_bitCount_0f7a4_10 rfl 0 rfl ?_
  refine V_ldc_w dJ6_bitCount_0f7a4_11 tw_582 ?_
  refine V_iand dJ6_bitCount_0f7a4_14 ?_
  refine V_iload_n dJ6_bitCount_0f7a4_15 rfl 0 rfl ?_
  refine V_iconst (v := 2) dJ6_bitCount_0f7a4_16 ki_2 ?_
  refine V_iushr dJ6_bitCount_0f7a4_17 ?_
  refine V_ldc_w dJ6_bitCount_0f7a4_18 tw_582 ?_
  refine V_iand dJ6_bitCount_0f7a4_21 ?_
  refine V_iadd dJ6_bitCount_0f7a4_22 ?_
  refine V_topi (v := bi2 (bi1 x)) (rfl) ?_
  refine V_istore_n [(0, .int (bi2 (bi1 x)))] dJ6_bitCount_0f7a4_23 rfl (Nat.le_of_ble_eq_true rfl) rfl ?_
  refine V_iload_n dJ6_bitCount_0f7a4_24 rfl 0 rfl ?_
  refine V_iload_n dJ6_bitCount_0f7a4_25 rfl 0 rfl ?_
  refine V_iconst (v := 4) dJ6_bitCount_0f7a4_26 ki_4 ?_
  refine V_iushr dJ6_bitCount_0f7a4_27 ?_
  refine V_iadd dJ6_bitCount_0f7a4_28 ?_
  refine V_ldc_w dJ6_bitCount_0f7a4_29 tw_583 ?_
  refine V_iand dJ6_bitCount_0f7a4_32 ?_
  refine V_topi (v := bi3 (bi2 (bi1 x))) (rfl) ?_
  refine V_istore_n [(0, .int (bi3 (bi2 (bi1 x))))] dJ6_bitCount_0f7a4_33 rfl (Nat.le_of_ble_eq_true rfl) rfl ?_
  refine V_iload_n dJ6_bitCount_0f7a4_34 rfl 0 rfl ?_
  refine V_iload_n dJ6_bitCount_0f7a4_35 rfl 0 rfl ?_
  refine V_bipush (v := 8) dJ6_bitCount_0f7a4_36 kb_8 ?_
  refine V_iushr dJ6_bitCount_0f7a4_38 ?_
  refine V_iadd dJ6_bitCount_0f7a4_39 ?_
  refine V_topi (v := bi4 (bi3 (bi2 (bi1 x)))) (rfl) ?_
  refine V_istore_n [(0, .int (bi4 (bi3 (bi2 (bi1 x)))))] dJ6_bitCount_0f7a4_40 rfl (Nat.le_of_ble_eq_true rfl) rfl ?_
  refine V_iload_n dJ6_bitCount_0f7a4_41 rfl 0 rfl ?_
  refine V_iload_n dJ6_bitCount_0f7a4_42 rfl 0 rfl ?_
  refine V_bipush (v := 16) dJ6_bitCount_0f7a4_43 kb_16 ?_
  refine V_iushr dJ6_bitCount_0f7a4_45 ?_
  refine V_iadd dJ6_bitCount_0f7a4_46 ?_
  refine V_topi (v := bi5 (bi4 (bi3 (bi2 (bi1 x))))) (rfl) ?_
  refine V_istore_n [(0, .int (bi5 (bi4 (bi3 (bi2 (bi1 x))))))] dJ6_bitCount_0f7a4_47 rfl (Nat.le_of_ble_eq_true rfl) rfl ?_
  refine V_iload_n dJ6_bitCount_0f7a4_48 rfl 0 rfl ?_
  refine V_bipush (v := 63) dJ6_bitCount_0f7a4_49 kb_63 ?_
  refine V_iand dJ6_bitCount_0f7a4_51 ?_
  refine V_iret rfl dJ6_bitCount_0f7a4_52 ⟨_, rfl, ?_⟩
  exact hq
