def setAr (S : ST) (c : Nat) (f : Nat → Int32) : ST := (S.1, S.2.1, va_up S.2.2.1 c f, S.2.2.2)
def setJr (S : ST) (c : Nat) (f : Nat → Int64) : ST := (S.1, S.2.1, S.2.2.1, va_up S.2.2.2 c f)
theorem va_upup {α : Type} (f : Nat → α) (k : Nat) (a b : α) : va_up (va_up f k a) k b = va_up f k b := by funext j; unfold va_up; split <;> rfl
theorem setA_Ar (S : ST) (c i : Nat) (f : Nat → Int32) (x : Int32) : setA (setAr S c f) c i x = setAr S c (upd f i x) := by
  unfold setA setAr
  simp only [va_upup, va_up_self]
theorem setJ_Jr (S : ST) (c i : Nat) (f : Nat → Int64) (x : Int64) : setJ (setJr S c f) c i x = setJr S c (vp_updL f i x) := by
  unfold setJ setJr
  simp only [va_upup, va_up_self]
theorem va_upid {α : Type} (f : Nat → α) (k : Nat) : va_up f k (f k) = f := by
  funext j
  unfold va_up
  by_cases h : j = k
  · rw [if_pos h, h]
  · rw [if_neg h]
theorem setAr_id (S : ST) (c : Nat) : setAr S c (S.2.2.1 c) = S := by unfold setAr; rw [va_upid]
theorem setJr_id (S : ST) (c : Nat) : setJr S c (S.2.2.2 c) = S := by unfold setJr; rw [va_upid]
def hbo (n : Nat) (h : Nat → Int32) (v : Int32) : Int32 := if kn n v then h v.toNatClampNeg else 0
/-- what a new version has -/
def nh (n : Nat) (h : Nat → Int32) (a b : Int32) : Int32 := hbo n h a ||| hbo n h b ||| 1 <<< (nI n &&& 31)
def carf (x : Int32) (n : Nat) (f : Nat → Int32) (i : Nat) : Nat → Int32 := fun c => if c < i ∧ bt x c = true then f c ||| 1 <<< (nI n &&& 31) else f c
theorem carf_0 (x : Int32) (n : Nat) (f : Nat → Int32) : carf x n f 0 = f := by funext c; simp [carf]
theorem carf_t {x : Int32} {n i : Nat} {f : Nat → Int32} (h : bt x i = true) : upd (carf x n f i) i (carf x n f i i ||| 1 <<< (nI n &&& 31)) = carf x n f (i + 1) := by
  funext c
  unfold upd carf
  by_cases hc : c = i
  · subst hc; simp [h]
  · have : (c < i + 1) = (c < i) := by apply propext; omega
    simp [hc, this]
theorem carf_f {x : Int32} {n i : Nat} {f : Nat → Int32} (h : bt x i = false) : carf x n f i = carf x n f (i + 1) := by
  funext c
  unfold carf
  by_cases hc : c = i
  · subst hc; simp [h]
  · have : (c < i + 1) = (c < i) := by apply propext; omega
    simp [this]
def addS (S : ST) (n : Nat) (a b sz : Int32) : ST := setI (setA (setA (setAr (setA S 9 n (nh n (S.2.2.1 9) a b)) 10 (carf (nh n (S.2.2.1 9) a b) n (S.2.2.1 10) (n + 1))) 11 n sz) 12 n 1) 0 (nI (n + 1))
def anyEq (f : Nat → Int32) (v : Int32) : Nat → Bool
  | 0 => false
  | k + 1 => anyEq f v k || decide (f k = v)
theorem anyEq_hit {f : Nat → Int32} {v : Int32} {i : Nat} : ∀ {t : Nat}, i < t → f i = v → anyEq f v t = true
  | 0, h, _ => absurd h (Nat.not_lt_zero _)
  | t + 1, h, e => by
    unfold anyEq
    by_cases h2 : i = t
    · subst h2; simp [e]
    · rw [anyEq_hit (by omega) e]; rfl
theorem anyEq_cong {f g : Nat → Int32} {v : Int32} : ∀ {t : Nat}, (∀ k, k < t → f k = g k) → anyEq f v t = anyEq g v t
  | 0, _ => rfl
  | t + 1, h => by unfold anyEq; rw [anyEq_cong (fun k hk => h k (by omega)), h t (by omega)]
def txO (s : Int32) : Int32 := if fr s 97 108 then 0 else if s = 33 then 1 else if s = 38 ∨ s = 124 then 2 else -1
theorem c_X7_swap_11 {G : GX} {d : Nat} {S : ST} {i : Nat} {x : Int32} {Q : Int32 → ST → Prop} (hi : i < 12) (hq : Q (S.2.2.1 11 i) (setA S 11 i x)) : Cn G d mX7_swap [.ref (G.2.1 11), .int (nI i), .int x] S (qi Q) := by
  refine Cn.intro (lv := [(0, .ref (G.2.1 11)), (1, .int (nI i)), (2, .int x)]) (by decide) (Nat.le_of_ble_eq_true rfl) rfl ?_
  refine V_aload_n dX7_swap_0 rfl 0 rfl ?_
  refine V_iload_n dX7_swap_1 rfl 1 rfl ?_
  refine l_11n (by omega) dX7_swap_2 ?_
  refine V_istore_n [(3, .int (S.2.2.1 11 i)), (0, .ref (G.2.1 11)), (1, .int (nI i)), (2, .int x)] dX7_swap_3 rfl (Nat.le_of_ble_eq_true rfl) rfl ?_
  refine V_aload_n dX7_swap_4 rfl 1 rfl ?_
  refine V_iload_n dX7_swap_5 rfl 2 rfl ?_
  refine V_iload_n dX7_swap_6 rfl 3 rfl ?_
  refine s_11n (by omega) dX7_swap_7 ?_
  refine V_iload_n dX7_swap_8 rfl 0 rfl ?_
  refine V_iret rfl dX7_swap_9 ⟨_, rfl, ?_⟩
  exact hq
theorem c_X7_swap_12 {G : GX} {d : Nat} {S : ST} {i : Nat} {x : Int32} {Q : Int32 → ST → Prop} (hi : i < 12) (hq : Q (S.2.2.1 12 i) (setA S 12 i x)) : Cn G d mX7_swap [.ref (G.2.1 12), .int (nI i), .int x] S (qi Q) := by
  refine Cn.intro (lv := [(0, .ref (G.2.1 12)), (1, .int (nI i)), (2, .int x)]) (by decide) (Nat.le_of_ble_eq_true rfl) rfl ?_
  refine V_aload_n dX7_swap_0 rfl 0 rfl ?_
  refine V_iload_n dX7_swap_1 rfl 1 rfl ?_
  refine l_12n (by omega) dX7_swap_2 ?_
  refine V_istore_n [(3, .int (S.2.2.1 12 i)), (0, .ref (G.2.1 12)), (1, .int (nI i)), (2, .int x)] dX7_swap_3 rfl (Nat.le_of_ble_eq_true rfl) rfl ?_
  refine V_aload_n dX7_swap_4 rfl 1 rfl ?_
  refine V_iload_n dX7_swap_5 rfl 2 rfl ?_
  refine V_iload_n dX7_swap_6 rfl 3 rfl ?_
  refine s_12n (by omega) dX7_swap_7 ?_
  refine V_iload_n dX7_swap_8 rfl 0 rfl ?_
  refine V_iret rfl dX7_swap_9 ⟨_, rfl, ?_⟩
  exact hq
theorem c_X7_swap_13 {G : GX} {d : Nat} {S : ST} {i : Nat} {x : Int32} {Q : Int32 → ST → Prop} (hi : i < 12) (hq : Q (S.2.2.1 13 i) (setA S 13 i x)) : Cn G d mX7_swap [.ref (G.2.1 13), .int (nI i), .int x] S (qi Q) := by
  refine Cn.intro (lv := [(0, .ref (G.2.1 13)), (1, .int (nI i)), (2, .int x)]) (by decide) (Nat.le_of_ble_eq_true rfl) rfl ?_
  refine V_aload_n dX7_swap_0 rfl 0 rfl ?_
  refine V_iload_n dX7_swap_1 rfl 1 rfl ?_
  refine l_13n (by omega) dX7_swap_2 ?_
  refine V_istore_n [(3, .int (S.2.2.1 13 i)), (0, .ref (G.2.1 13)), (1, .int (nI i)), (2, .int x)] dX7_swap_3 rfl (Nat.le_of_ble_eq_true rfl) rfl ?_
  refine V_aload_n dX7_swap_4 rfl 1 rfl ?_
  refine V_iload_n dX7_swap_5 rfl 2 rfl ?_
  refine V_iload_n dX7_swap_6 rfl 3 rfl ?_
  refine s_13n (by omega) dX7_swap_7 ?_
  refine V_iload_n dX7_swap_8 rfl 0 rfl ?_
  refine V_iret rfl dX7_swap_9 ⟨_, rfl, ?_⟩
  exact hq
theorem c_X7_swap_14 {G : GX} {d : Nat} {S : ST} {i : Nat} {x : Int32} {Q : Int32 → ST → Prop} (hi : i < 12) (hq : Q (S.2.2.1 14 i) (setA S 14 i x)) : Cn G d mX7_swap [.ref (G.2.1 14), .int (nI i), .int x] S (qi Q) := by
  refine Cn.intro (lv := [(0, .ref (G.2.1 14)), (1, .int (nI i)), (2, .int x)]) (by decide) (Nat.le_of_ble_eq_true rfl) rfl ?_
  refine V_aload_n dX7_swap_0 rfl 0 rfl ?_
  refine V_iload_n dX7_swap_1 rfl 1 rfl ?_
  refine l_14n (by omega) dX7_swap_2 ?_
  refine V_istore_n [(3, .int (S.2.2.1 14 i)), (0, .ref (G.2.1 14)), (1, .int (nI i)), (2, .int x)] dX7_swap_3 rfl (Nat.le_of_ble_eq_true rfl) rfl ?_
  refine V_aload_n dX7_swap_4 rfl 1 rfl ?_
  refine V_iload_n dX7_swap_5 rfl 2 rfl ?_
  refine V_iload_n dX7_swap_6 rfl 3 rfl ?_
  refine s_14n (by omega) dX7_swap_7 ?_
  refine V_iload_n dX7_swap_8 rfl 0 rfl ?_
  refine V_iret rfl dX7_swap_9 ⟨_, rfl, ?_⟩
  exact hq
theorem c_X7_swap_17 {G : GX} {d : Nat} {S : ST} {i : Nat} {x : Int32} {Q : Int32 → ST → Prop} (hi : i < 5) (hq : Q (S.2.2.1 17 i) (setA S 17 i x)) : Cn G d mX7_swap [.ref (G.2.1 17), .int (nI i), .int x] S (qi Q) := by
  refine Cn.intro (lv := [(0, .ref (G.2.1 17)), (1, .int (nI i)), (2, .int x)]) (by decide) (Nat.le_of_ble_eq_true rfl) rfl ?_
  refine V_aload_n dX7_swap_0 rfl 0 rfl ?_
  refine V_iload_n dX7_swap_1 rfl 1 rfl ?_
  refine l_17n (by omega) dX7_swap_2 ?_
  refine V_istore_n [(3, .int (S.2.2.1 17 i)), (0, .ref (G.2.1 17)), (1, .int (nI i)), (2, .int x)] dX7_swap_3 rfl (Nat.le_of_ble_eq_true rfl) rfl ?_
  refine V_aload_n dX7_swap_4 rfl 1 rfl ?_
  refine V_iload_n dX7_swap_5 rfl 2 rfl ?_
  refine V_iload_n dX7_swap_6 rfl 3 rfl ?_
  refine s_17n (by omega) dX7_swap_7 ?_
  refine V_iload_n dX7_swap_8 rfl 0 rfl ?_
  refine V_iret rfl dX7_swap_9 ⟨_, rfl, ?_⟩
  exact hq
theorem c_X7_forgetPartings {G : GX} {d : Nat} {S : ST}  {Q : ST → Prop}  (hq : Q (setI (setI S 3 1) 5 1)) : Cn G d mX7_forgetPartings [.ref (G.2.1 0)] S (qv Q) := by
  refine Cn.intro (lv := [(0, .ref (G.2.1 0))]) (by decide) (Nat.le_of_ble_eq_true rfl) rfl ?_
  refine V_aload_n dX7_forgetPartings_0 rfl 0 rfl ?_
  refine g_0_3 tw_206 dX7_forgetPartings_1 ?_
  refine V_iconst (v := 1) dX7_forgetPartings_4 ki_1 ?_
  refine p_4_3 (by decide) tw_136 dX7_forgetPartings_5 ?_
  refine V_aload_n dX7_forgetPartings_8 rfl 0 rfl ?_
  refine g_0_4 tw_207 dX7_forgetPartings_9 ?_
  refine V_iconst (v := 1) dX7_forgetPartings_12 ki_1 ?_
  refine p_5_3 (by decide) tw_136 dX7_forgetPartings_13 ?_
  refine V_vret rfl dX7_forgetPartings_16 ⟨rfl, ?_⟩
  exact hq
theorem c_X2_add {G : GX} {d : Nat} {S : ST} {v : Int32} {q : Bool} {t : Nat} {Q : Int32 → ST → Prop} (ht : S.1 1 = nI t) (t12 : t ≤ 12) (hq : Q (if t < 12 then nI t else -4) (if t < 12 then setI (setA (setA S 15 t v) 16 t (b2i q)) 1 (nI (t + 1)) else S)) : Cn G d mX2_add [.ref (G.2.1 2), .int v, .int (b2i q)] S (qi Q) := by
  refine Cn.intro (lv := [(0, .ref (G.2.1 2)), (1, .int v), (2, .int (b2i q))]) (by decide) (Nat.le_of_ble_eq_true rfl) rfl ?_
  refine V_aload_n dX2_add_0 rfl 0 rfl ?_
  refine g_2_0 tw_68 dX2_add_1 ?_
  refine V_topi (v := nI t) (ht) ?_
  refine V_istore_n [(3, .int (nI t)), (0, .ref (G.2.1 2)), (1, .int v), (2, .int (b2i q))] dX2_add_4 rfl (Nat.le_of_ble_eq_true rfl) rfl ?_
  refine V_iload_n dX2_add_5 rfl 0 rfl ?_
  refine V_bipush (v := 12) dX2_add_6 kb_12 ?_
  refine V_icmp_ltn 14 (a := t) (b := 12) dX2_add_8 (by decide) (by omega) (by omega) (fun h1 => ?_) (fun h1 => ?_)
  · refine V_aload_n dX2_add_14 rfl 1 rfl ?_
    refine g_2_1 tw_71 dX2_add_15 ?_
    refine V_iload_n dX2_add_18 rfl 0 rfl ?_
    refine V_iload_n dX2_add_19 rfl 2 rfl ?_
    refine s_15n (by omega) dX2_add_20 ?_
    refine V_aload_n dX2_add_21 rfl 1 rfl ?_
    refine g_2_2 tw_74 dX2_add_22 ?_
    refine V_iload_n dX2_add_25 rfl 0 rfl ?_
    refine V_iload_n dX2_add_26 rfl 3 rfl ?_
    refine s_16n (by omega) dX2_add_27 ?_
    refine V_aload_n dX2_add_28 rfl 1 rfl ?_
    refine V_iload_n dX2_add_29 rfl 0 rfl ?_
    refine V_iconst (v := 1) dX2_add_30 ki_1 ?_
    refine V_iadd dX2_add_31 ?_
    refine V_topi (v := nI (t + 1)) (nI_1 _) ?_
    refine p_2_0 tw_68 dX2_add_32 ?_
    refine V_iload_n dX2_add_35 rfl 0 rfl ?_
    refine V_iret rfl dX2_add_36 ⟨_, rfl, ?_⟩
    exact qcast2 hq (by rw [if_pos h1]) (by rw [if_pos h1, vpz])
  · refine V_bipush (v := -4) dX2_add_11 kb_m4 ?_
    refine V_iret rfl dX2_add_13 ⟨_, rfl, ?_⟩
    exact qcast2 hq (by rw [if_neg (by omega)]) (by rw [if_neg (by omega)])
theorem lp_holdsTestOf {G : GX} {d t : Nat} {v : Int32} {S : ST} {Q : Int32 → ST → Prop} (ht : S.1 1 = nI t) (t12 : t ≤ 12) (hq : Q (b2i (anyEq (S.2.2.1 15) v t)) S) : ∀ (k i : Nat), i ≤ t → t - i < k → anyEq (S.2.2.1 15) v i = false → V (pM G d mX2_holdsTestOf (qi Q)) 2 [(2, .int (nI i)), (0, .ref (G.2.1 2)), (1, .int v)] [] S := by
  intro k
  induction k with
  | zero => intro i hi hk; exact absurd hk (Nat.not_lt_zero _)
  | succ k ih =>
    intro i hi hk ha
    refine V_iload_n dX2_holdsTestOf_2 rfl 0 rfl ?_
    refine V_aload_n dX2_holdsTestOf_3 rfl 1 rfl ?_
    refine g_2_0 tw_68 dX2_holdsTestOf_4 ?_
    refine V_topi (v := nI t) (ht) ?_
    refine V_icmp_gen 28 (a := i) (b := t) dX2_holdsTestOf_7 (by decide) (by omega) (by omega) (fun h1 => ?_) (fun h1 => ?_)
    · refine V_iconst (v := 0) dX2_holdsTestOf_28 ki_0 ?_
      refine V_zret rfl dX2_holdsTestOf_29 rfl ⟨_, rfl, ?_⟩
      have hin : i = t := by omega
      subst hin
      exact qcast hq (b2i_f ha).symm
    · refine V_aload_n dX2_holdsTestOf_10 rfl 1 rfl ?_
      refine g_2_1 tw_71 dX2_holdsTestOf_11 ?_
      refine V_iload_n dX2_holdsTestOf_14 rfl 0 rfl ?_
      refine l_15n (by omega) dX2_holdsTestOf_15 ?_
      refine V_iload_n dX2_holdsTestOf_16 rfl 2 rfl ?_
      refine V_icmp_ne 22 dX2_holdsTestOf_17 (by decide) (fun h2 => ?_) (fun h2 => ?_)
      · refine V_iinc [(2, .int (nI (i + 1))), (0, .ref (G.2.1 2)), (1, .int v)] dX2_holdsTestOf_22 0 rfl (nI_1 _) (Nat.le_of_ble_eq_true rfl) rfl ?_
        refine V_goto 2 dX2_holdsTestOf_25 (by decide) ?_
        refine V_lv [(2, .int (nI (i + 1))), (0, .ref (G.2.1 2)), (1, .int v)] [0, 1, 2] rfl ?_
        exact ih (i + 1) (by omega) (by omega) (by unfold anyEq; rw [ha]; simp [h2])
      · refine V_iconst (v := 1) dX2_holdsTestOf_20 ki_1 ?_
        refine V_zret rfl dX2_holdsTestOf_21 rfl ⟨_, rfl, ?_⟩
        exact qcast hq (b2i_t (anyEq_hit h1 h2)).symm
theorem c_X2_holdsTestOf {G : GX} {d : Nat} {S : ST} {v : Int32} {t : Nat} {Q : Int32 → ST → Prop} (ht : S.1 1 = nI t) (t12 : t ≤ 12) (hq : Q (b2i (anyEq (S.2.2.1 15) v t)) S) : Cn G d mX2_holdsTestOf [.ref (G.2.1 2), .int v] S (qi Q) := by
  refine Cn.intro (lv := [(0, .ref (G.2.1 2)), (1, .int v)]) (by decide) (Nat.le_of_ble_eq_true rfl) rfl ?_
  refine V_iconst (v := 0) dX2_holdsTestOf_0 ki_0 ?_
  refine V_istore_n [(2, .int 0), (0, .ref (G.2.1 2)), (1, .int v)] dX2_holdsTestOf_1 rfl (Nat.le_of_ble_eq_true rfl) rfl ?_
  refine V_lv [(2, .int 0), (0, .ref (G.2.1 2)), (1, .int v)] [0, 1, 2] rfl ?_
  exact lp_holdsTestOf ht t12 hq (t + 1) 0 (by omega) (by omega) rfl
theorem c_X5_add {G : GX} {d : Nat} {S : ST} {s : Int32} {g : Nat} {Q : Int32 → ST → Prop} (hg : S.1 8 = nI g) (g40 : g ≤ 40) (hq : Q (if g < 40 then nI (g + 1) else -4) (if g < 40 then setI (setA S 23 g s) 8 (nI (g + 1)) else S)) : Cn G d mX5_add [.ref (G.2.1 6), .int s] S (qi Q) := by
  refine Cn.intro (lv := [(0, .ref (G.2.1 6)), (1, .int s)]) (by decide) (Nat.le_of_ble_eq_true rfl) rfl ?_
  refine V_aload_n dX5_add_0 rfl 0 rfl ?_
  refine g_6_0 tw_152 dX5_add_1 ?_
  refine V_topi (v := nI g) (hg) ?_
  refine V_bipush (v := 40) dX5_add_4 kb_40 ?_
  refine V_icmp_ltn 12 (a := g) (b := 40) dX5_add_6 (by decide) (by omega) (by omega) (fun h1 => ?_) (fun h1 => ?_)
  · refine V_aload_n dX5_add_12 rfl 0 rfl ?_
    refine g_6_1 tw_155 dX5_add_13 ?_
    refine V_aload_n dX5_add_16 rfl 0 rfl ?_
    refine g_6_0 tw_152 dX5_add_17 ?_
    refine V_topi (v := nI g) (hg) ?_
    refine V_iload_n dX5_add_20 rfl 1 rfl ?_
    refine s_23n (by omega) dX5_add_21 ?_
    refine V_aload_n dX5_add_22 rfl 0 rfl ?_
    refine V_dup dX5_add_23 rfl ?_
    refine g_6_0 tw_152 dX5_add_24 ?_
    refine V_topi (v := S.1 8) rfl ?_
    refine V_topi (v := nI g) (hg) ?_
    refine V_iconst (v := 1) dX5_add_27 ki_1 ?_
    refine V_iadd dX5_add_28 ?_
    refine V_topi (v := nI (g + 1)) (nI_1 _) ?_
    refine p_6_0 tw_152 dX5_add_29 ?_
    refine V_aload_n dX5_add_32 rfl 0 rfl ?_
    refine g_6_0 tw_152 dX5_add_33 ?_
    refine V_topi (v := nI (g + 1)) rfl ?_
    refine V_iret rfl dX5_add_36 ⟨_, rfl, ?_⟩
    exact qcast2 hq (by rw [if_pos h1]) (by rw [if_pos h1])
  · refine V_bipush (v := -4) dX5_add_9 kb_m4 ?_
    refine V_iret rfl dX5_add_11 ⟨_, rfl, ?_⟩
    exact qcast2 hq (by rw [if_neg (by omega)]) (by rw [if_neg (by omega)])
theorem c_X5_textsOf {G : GX} {d : Nat} {S : ST} {s : Int32} {Q : Int32 → ST → Prop}  (hq : Q (txO s) S) : Cn G d mX5_textsOf [.int s] S (qi Q) := by
  refine Cn.intro (lv := [(0, .int s)]) (by decide) (Nat.le_of_ble_eq_true rfl) rfl ?_
  refine V_iload_n dX5_textsOf_0 rfl 0 rfl ?_
  refine V_bipush (v := 97) dX5_textsOf_1 kb_97 ?_
  refine V_icmp_lt 14 dX5_textsOf_3 (by decide) (fun h1 => ?_) (fun h1 => ?_)
  · refine V_iload_n dX5_textsOf_14 rfl 0 rfl ?_
    by_cases h2 : s = 33
    · refine V_lsw 48 (off := 33) dX5_textsOf_15 (by decide +kernel) (by rw [h2]; decide +kernel) (by decide) ?_
      refine V_iconst (v := 1) dX5_textsOf_48 ki_1 ?_
      refine V_iret rfl dX5_textsOf_49 ⟨_, rfl, ?_⟩
      exact qcast hq (by rw [txO, if_neg (by rw [h2]; decide), if_pos h2])
    by_cases h3 : s = 38
    · refine V_lsw 50 (off := 35) dX5_textsOf_15 (by decide +kernel) (by rw [h3]; decide +kernel) (by decide) ?_
      refine V_iconst (v := 2) dX5_textsOf_50 ki_2 ?_
      refine V_iret rfl dX5_textsOf_51 ⟨_, rfl, ?_⟩
      exact qcast hq (by rw [txO, if_neg (by rw [h3]; decide), if_neg (by rw [h3]; decide), if_pos (by simp [h3])])
    by_cases h4 : s = 124
    · refine V_lsw 50 (off := 35) dX5_textsOf_15 (by decide +kernel) (by rw [h4]; decide +kernel) (by decide) ?_
      refine V_iconst (v := 2) dX5_textsOf_50 ki_2 ?_
      refine V_iret rfl dX5_textsOf_51 ⟨_, rfl, ?_⟩
      exact qcast hq (by rw [txO, if_neg (by rw [h4]; decide), if_neg (by rw [h4]; decide), if_pos (by simp [h4])])
    refine V_lsw 52 (off := 37) dX5_textsOf_15 (by decide) (by show Op.lookupswitch.offset [(33, 33), (38, 35), (124, 35)] _ _ = _; rw [lv_osw (k := 33) (a := 33) h2 rfl, lv_osw (k := 38) (a := 38) h3 rfl, lv_osw (k := 124) (a := 124) h4 rfl]; rfl) (by decide) ?_
    refine V_iconst (v := -1) dX5_textsOf_52 ki_m1 ?_
    refine V_iret rfl dX5_textsOf_53 ⟨_, rfl, ?_⟩
    exact qcast hq (by rw [txO, if_neg (by intro hz; obtain ⟨z1, z2⟩ := fr_t.mp hz; simp only [Int32.lt_iff_toInt_lt, Int32.le_iff_toInt_le, Int32.not_lt, Int32.not_le] at *; have e1 : (97 : Int32).toInt = 97 := rfl; have e2 : (108 : Int32).toInt = 108 := rfl; have e3 : (109 : Int32).toInt = 109 := rfl; omega), if_neg h2, if_neg (by simp [h3, h4])])
  · refine V_iload_n dX5_textsOf_6 rfl 0 rfl ?_
    refine V_bipush (v := 109) dX5_textsOf_7 kb_109 ?_
    refine V_icmp_ge 14 dX5_textsOf_9 (by decide) (fun h5 => ?_) (fun h5 => ?_)
    · refine V_iload_n dX5_textsOf_14 rfl 0 rfl ?_
      by_cases h6 : s = 33
      · refine V_lsw 48 (off := 33) dX5_textsOf_15 (by decide +kernel) (by rw [h6]; decide +kernel) (by decide) ?_
        refine V_iconst (v := 1) dX5_textsOf_48 ki_1 ?_
        refine V_iret rfl dX5_textsOf_49 ⟨_, rfl, ?_⟩
        exact qcast hq (by rw [txO, if_neg (by rw [h6]; decide), if_pos h6])
      by_cases h7 : s = 38
      · refine V_lsw 50 (off := 35) dX5_textsOf_15 (by decide +kernel) (by rw [h7]; decide +kernel) (by decide) ?_
        refine V_iconst (v := 2) dX5_textsOf_50 ki_2 ?_
        refine V_iret rfl dX5_textsOf_51 ⟨_, rfl, ?_⟩
        exact qcast hq (by rw [txO, if_neg (by rw [h7]; decide), if_neg (by rw [h7]; decide), if_pos (by simp [h7])])
      by_cases h8 : s = 124
      · refine V_lsw 50 (off := 35) dX5_textsOf_15 (by decide +kernel) (by rw [h8]; decide +kernel) (by decide) ?_
        refine V_iconst (v := 2) dX5_textsOf_50 ki_2 ?_
        refine V_iret rfl dX5_textsOf_51 ⟨_, rfl, ?_⟩
        exact qcast hq (by rw [txO, if_neg (by rw [h8]; decide), if_neg (by rw [h8]; decide), if_pos (by simp [h8])])
      refine V_lsw 52 (off := 37) dX5_textsOf_15 (by decide) (by show Op.lookupswitch.offset [(33, 33), (38, 35), (124, 35)] _ _ = _; rw [lv_osw (k := 33) (a := 33) h6 rfl, lv_osw (k := 38) (a := 38) h7 rfl, lv_osw (k := 124) (a := 124) h8 rfl]; rfl) (by decide) ?_
      refine V_iconst (v := -1) dX5_textsOf_52 ki_m1 ?_
      refine V_iret rfl dX5_textsOf_53 ⟨_, rfl, ?_⟩
      exact qcast hq (by rw [txO, if_neg (by intro hz; obtain ⟨z1, z2⟩ := fr_t.mp hz; simp only [Int32.lt_iff_toInt_lt, Int32.le_iff_toInt_le, Int32.not_lt, Int32.not_le] at *; have e1 : (97 : Int32).toInt = 97 := rfl; have e2 : (108 : Int32).toInt = 108 := rfl; have e3 : (109 : Int32).toInt = 109 := rfl; omega), if_neg h6, if_neg (by simp [h7, h8])])
    · refine V_iconst (v := 0) dX5_textsOf_12 ki_0 ?_
      refine V_iret rfl dX5_textsOf_13 ⟨_, rfl, ?_⟩
      exact qcast hq (by rw [txO, if_pos (fr_t.mpr (by simp only [Int32.lt_iff_toInt_lt, Int32.le_iff_toInt_le, Int32.not_lt, Int32.not_le] at h1 h5 ⊢; have e1 : (97 : Int32).toInt = 97 := rfl; have e2 : (108 : Int32).toInt = 108 := rfl; have e3 : (109 : Int32).toInt = 109 := rfl; omega))])
theorem lp_hadd {G : GX} {d n : Nat} {a b sz : Int32} {S : ST} {Q : Int32 → ST → Prop} (h12 : n < 12) (hq : Q (nI n) (addS S n a b sz)) : ∀ (k i : Nat), i ≤ n + 1 → n + 1 - i < k → V (pM G (d + 1) mX1_add (qi Q)) 62 [(6, .int (nI i)), (0, .ref (G.2.1 1)), (3, .int sz), (4, .int (nI n))] [] (setAr (setA S 9 n (nh n (S.2.2.1 9) a b)) 10 (carf (nh n (S.2.2.1 9) a b) n (S.2.2.1 10) i)) := by
  intro k
  induction k with
  | zero => intro i hi hk; exact absurd hk (Nat.not_lt_zero _)
  | succ k ih =>
    intro i hi hk
    have eh : (setAr (setA S 9 n (nh n (S.2.2.1 9) a b)) 10 (carf (nh n (S.2.2.1 9) a b) n (S.2.2.1 10) i)).2.2.1 9 n = nh n (S.2.2.1 9) a b := pk_us
    have ec : (setAr (setA S 9 n (nh n (S.2.2.1 9) a b)) 10 (carf (nh n (S.2.2.1 9) a b) n (S.2.2.1 10) i)).2.2.1 10 i = carf (nh n (S.2.2.1 9) a b) n (S.2.2.1 10) i i := rfl
    refine V_iload dX1_add_62 0 rfl ?_
    refine V_iload dX1_add_64 3 rfl ?_
    refine V_icmp_gtn 104 (a := i) (b := n) dX1_add_66 (by decide) (by omega) (by omega) (fun h1 => ?_) (fun h1 => ?_)
    · refine V_aload_n dX1_add_104 rfl 1 rfl ?_
      refine g_1_3 tw_38 dX1_add_105 ?_
      refine V_iload dX1_add_108 3 rfl ?_
      refine V_iload_n dX1_add_110 rfl 2 rfl ?_
      refine s_11n (by omega) dX1_add_111 ?_
      refine V_aload_n dX1_add_112 rfl 1 rfl ?_
      refine g_1_4 tw_40 dX1_add_113 ?_
      refine V_iload dX1_add_116 3 rfl ?_
      refine V_iconst (v := 1) dX1_add_118 ki_1 ?_
      refine s_12n (by omega) dX1_add_119 ?_
      refine V_aload_n dX1_add_120 rfl 1 rfl ?_
      refine V_iload dX1_add_121 3 rfl ?_
      refine V_iconst (v := 1) dX1_add_123 ki_1 ?_
      refine V_iadd dX1_add_124 ?_
      refine V_topi (v := nI (n + 1)) (nI_1 _) ?_
      refine p_1_0 tw_28 dX1_add_125 ?_
      refine V_iload dX1_add_128 3 rfl ?_
      have hin : i = n + 1 := by omega
      subst hin
      exact V_iret rfl dX1_add_130 ⟨_, rfl, hq⟩
    · refine V_aload_n dX1_add_69 rfl 1 rfl ?_
      refine g_1_1 tw_33 dX1_add_70 ?_
      refine V_iload dX1_add_73 3 rfl ?_
      refine l_9n (by omega) dX1_add_75 ?_
      refine V_topi (v := nh n (S.2.2.1 9) a b) (eh) ?_
      refine V_iload dX1_add_76 0 rfl ?_
      refine V_cNi (P := pM G (d + 1) mX1_add _) (d := d) (r := []) (As := [.int (nh n (S.2.2.1 9) a b), .int (nI i)]) (K := mX7_isBit) ok_X7_isBit nl_251 rfl (rmOk (Nat.le_of_ble_eq_true rfl)) (Nat.le_of_ble_eq_true rfl) dX1_add_78 rfl (c_X7_isBit (by omega) ?_)
      refine V_ifb_eq 98 dX1_add_81 (by decide) (fun h2 => ?_) (fun h2 => ?_)
      · refine V_iinc [(6, .int (nI (i + 1))), (0, .ref (G.2.1 1)), (3, .int sz), (4, .int (nI n))] dX1_add_98 0 rfl (nI_1 _) (Nat.le_of_ble_eq_true rfl) rfl ?_
        refine V_goto 62 dX1_add_101 (by decide) ?_
        refine V_lv [(6, .int (nI (i + 1))), (0, .ref (G.2.1 1)), (3, .int sz), (4, .int (nI n))] [0, 1, 2, 3] rfl ?_
        refine V_S (S2 := setAr (setA S 9 n (nh n (S.2.2.1 9) a b)) 10 (carf (nh n (S.2.2.1 9) a b) n (S.2.2.1 10) (i + 1))) (by rw [carf_f h2]) ?_
        exact ih (i + 1) (by omega) (by omega)
      · refine V_aload_n dX1_add_84 rfl 1 rfl ?_
        refine g_1_2 tw_36 dX1_add_85 ?_
        refine V_iload dX1_add_88 0 rfl ?_
        refine V_dup2 dX1_add_90 rfl rfl ?_
        refine l_10n (by omega) dX1_add_91 ?_
        refine V_topi (v := carf (nh n (S.2.2.1 9) a b) n (S.2.2.1 10) i i) (ec) ?_
        refine V_iconst (v := 1) dX1_add_92 ki_1 ?_
        refine V_iload dX1_add_93 3 rfl ?_
        refine V_ishl dX1_add_95 ?_
        refine V_ior dX1_add_96 ?_
        refine s_10n (by omega) dX1_add_97 ?_
        refine V_iinc [(6, .int (nI (i + 1))), (0, .ref (G.2.1 1)), (3, .int sz), (4, .int (nI n))] dX1_add_98 0 rfl (nI_1 _) (Nat.le_of_ble_eq_true rfl) rfl ?_
        refine V_goto 62 dX1_add_101 (by decide) ?_
        refine V_lv [(6, .int (nI (i + 1))), (0, .ref (G.2.1 1)), (3, .int sz), (4, .int (nI n))] [0, 1, 2, 3] rfl ?_
        refine V_S (S2 := setAr (setA S 9 n (nh n (S.2.2.1 9) a b)) 10 (carf (nh n (S.2.2.1 9) a b) n (S.2.2.1 10) (i + 1))) (by rw [setA_Ar, carf_t h2]) ?_
        exact ih (i + 1) (by omega) (by omega)
theorem c_X1_add {G : GX} {d : Nat} {S : ST} {a b sz : Int32} {n : Nat} {Q : Int32 → ST → Prop} (hn : S.1 0 = nI n) (h12 : n < 12) (hq : Q (nI n) (addS S n a b sz)) : Cn G (d + 1) mX1_add [.ref (G.2.1 1), .int a, .int b, .int sz] S (qi Q) := by
  refine Cn.intro (lv := [(0, .ref (G.2.1 1)), (1, .int a), (2, .int b), (3, .int sz)]) (by decide) (Nat.le_of_ble_eq_true rfl) rfl ?_
  refine V_aload_n dX1_add_0 rfl 0 rfl ?_
  refine g_1_0 tw_28 dX1_add_1 ?_
  refine V_topi (v := nI n) (hn) ?_
  refine V_istore [(4, .int (nI n)), (0, .ref (G.2.1 1)), (1, .int a), (2, .int b), (3, .int sz)] dX1_add_4 (Nat.le_of_ble_eq_true rfl) rfl ?_
  refine V_aload_n dX1_add_6 rfl 1 rfl ?_
  refine V_iload_n dX1_add_7 rfl 2 rfl ?_
  refine V_cVi (P := pM G (d + 1) mX1_add _) (d := d) 1 (r := []) (As := [.int a]) (K := mX1_knows) ok_X1_knows tw_236 (ob_1 _) rfl (rmOk (Nat.le_of_ble_eq_true rfl)) (Nat.le_of_ble_eq_true rfl) dX1_add_8 rfl (c_X1_knows hn ?_)
  refine V_ifb_eq 23 dX1_add_11 (by decide) (fun h1 => ?_) (fun h1 => ?_)
  · refine V_iconst (v := 0) dX1_add_23 ki_0 ?_
    refine V_aload_n dX1_add_24 rfl 1 rfl ?_
    refine V_iload_n dX1_add_25 rfl 3 rfl ?_
    refine V_cVi (P := pM G (d + 1) mX1_add _) (d := d) 1 (r := [.int 0]) (As := [.int b]) (K := mX1_knows) ok_X1_knows tw_236 (ob_1 _) rfl (rmOk (Nat.le_of_ble_eq_true rfl)) (Nat.le_of_ble_eq_true rfl) dX1_add_26 rfl (c_X1_knows hn ?_)
    refine V_ifb_eq 41 dX1_add_29 (by decide) (fun h2 => ?_) (fun h2 => ?_)
    · refine V_iconst (v := 0) dX1_add_41 ki_0 ?_
      refine V_ior dX1_add_42 ?_
      refine V_istore [(5, .int ((0 : Int32) ||| 0)), (4, .int (nI n)), (0, .ref (G.2.1 1)), (1, .int a), (2, .int b), (3, .int sz)] dX1_add_43 (Nat.le_of_ble_eq_true rfl) rfl ?_
      refine V_aload_n dX1_add_45 rfl 2 rfl ?_
      refine g_1_1 tw_33 dX1_add_46 ?_
      refine V_iload dX1_add_49 1 rfl ?_
      refine V_iload dX1_add_51 0 rfl ?_
      refine V_iconst (v := 1) dX1_add_53 ki_1 ?_
      refine V_iload dX1_add_54 1 rfl ?_
      refine V_ishl dX1_add_56 ?_
      refine V_ior dX1_add_57 ?_
      refine s_9n (by omega) dX1_add_58 ?_
      refine V_iconst (v := 0) dX1_add_59 ki_0 ?_
      refine V_istore [(6, .int 0), (5, .int ((0 : Int32) ||| 0)), (4, .int (nI n)), (0, .ref (G.2.1 1)), (1, .int a), (2, .int b), (3, .int sz)] dX1_add_60 (Nat.le_of_ble_eq_true rfl) rfl ?_
      have e0 : ((0 : Int32) ||| 0) ||| ((1 : Int32) <<< ((nI n) &&& 31)) = nh n (S.2.2.1 9) a b := by simp [nh, hbo, h1, h2]
      refine V_lv [(6, .int 0), (0, .ref (G.2.1 1)), (3, .int sz), (4, .int (nI n))] [0, 3, 6, 2] rfl ?_
      refine V_S (S2 := setAr (setA S 9 n (nh n (S.2.2.1 9) a b)) 10 (carf (nh n (S.2.2.1 9) a b) n (S.2.2.1 10) 0)) (by rw [carf_0, e0]; exact (setAr_id (setA S 9 n (nh n (S.2.2.1 9) a b)) 10).symm) ?_
      exact lp_hadd h12 hq (n + 2) 0 (by omega) (by omega)
    · refine V_aload_n dX1_add_32 rfl 1 rfl ?_
      refine g_1_1 tw_33 dX1_add_33 ?_
      refine V_iload_n dX1_add_36 rfl 3 rfl ?_
      refine l_9 (vp_kn h2 (by omega) (Nat.le_of_lt h12) (by decide)) dX1_add_37 ?_
      refine V_goto 42 dX1_add_38 (by decide) ?_
      refine V_ior dX1_add_42 ?_
      refine V_istore [(5, .int ((0 : Int32) ||| (S.2.2.1 9 b.toNatClampNeg))), (4, .int (nI n)), (0, .ref (G.2.1 1)), (1, .int a), (2, .int b), (3, .int sz)] dX1_add_43 (Nat.le_of_ble_eq_true rfl) rfl ?_
      refine V_aload_n dX1_add_45 rfl 2 rfl ?_
      refine g_1_1 tw_33 dX1_add_46 ?_
      refine V_iload dX1_add_49 1 rfl ?_
      refine V_iload dX1_add_51 0 rfl ?_
      refine V_iconst (v := 1) dX1_add_53 ki_1 ?_
      refine V_iload dX1_add_54 1 rfl ?_
      refine V_ishl dX1_add_56 ?_
      refine V_ior dX1_add_57 ?_
      refine s_9n (by omega) dX1_add_58 ?_
      refine V_iconst (v := 0) dX1_add_59 ki_0 ?_
      refine V_istore [(6, .int 0), (5, .int ((0 : Int32) ||| (S.2.2.1 9 b.toNatClampNeg))), (4, .int (nI n)), (0, .ref (G.2.1 1)), (1, .int a), (2, .int b), (3, .int sz)] dX1_add_60 (Nat.le_of_ble_eq_true rfl) rfl ?_
      have e0 : ((0 : Int32) ||| (S.2.2.1 9 b.toNatClampNeg)) ||| ((1 : Int32) <<< ((nI n) &&& 31)) = nh n (S.2.2.1 9) a b := by simp [nh, hbo, h1, h2]
      refine V_lv [(6, .int 0), (0, .ref (G.2.1 1)), (3, .int sz), (4, .int (nI n))] [0, 3, 6, 2] rfl ?_
      refine V_S (S2 := setAr (setA S 9 n (nh n (S.2.2.1 9) a b)) 10 (carf (nh n (S.2.2.1 9) a b) n (S.2.2.1 10) 0)) (by rw [carf_0, e0]; exact (setAr_id (setA S 9 n (nh n (S.2.2.1 9) a b)) 10).symm) ?_
      exact lp_hadd h12 hq (n + 2) 0 (by omega) (by omega)
  · refine V_aload_n dX1_add_14 rfl 1 rfl ?_
    refine g_1_1 tw_33 dX1_add_15 ?_
    refine V_iload_n dX1_add_18 rfl 2 rfl ?_
    refine l_9 (vp_kn h1 (by omega) (Nat.le_of_lt h12) (by decide)) dX1_add_19 ?_
    refine V_goto 24 dX1_add_20 (by decide) ?_
    refine V_aload_n dX1_add_24 rfl 1 rfl ?_
    refine V_iload_n dX1_add_25 rfl 3 rfl ?_
    refine V_cVi (P := pM G (d + 1) mX1_add _) (d := d) 1 (r := [.int (S.2.2.1 9 a.toNatClampNeg)]) (As := [.int b]) (K := mX1_knows) ok_X1_knows tw_236 (ob_1 _) rfl (rmOk (Nat.le_of_ble_eq_true rfl)) (Nat.le_of_ble_eq_true rfl) dX1_add_26 rfl (c_X1_knows hn ?_)
    refine V_ifb_eq 41 dX1_add_29 (by decide) (fun h3 => ?_) (fun h3 => ?_)
    · refine V_iconst (v := 0) dX1_add_41 ki_0 ?_
      refine V_ior dX1_add_42 ?_
      refine V_istore [(5, .int ((S.2.2.1 9 a.toNatClampNeg) ||| 0)), (4, .int (nI n)), (0, .ref (G.2.1 1)), (1, .int a), (2, .int b), (3, .int sz)] dX1_add_43 (Nat.le_of_ble_eq_true rfl) rfl ?_
      refine V_aload_n dX1_add_45 rfl 2 rfl ?_
      refine g_1_1 tw_33 dX1_add_46 ?_
      refine V_iload dX1_add_49 1 rfl ?_
      refine V_iload dX1_add_51 0 rfl ?_
      refine V_iconst (v := 1) dX1_add_53 ki_1 ?_
      refine V_iload dX1_add_54 1 rfl ?_
      refine V_ishl dX1_add_56 ?_
      refine V_ior dX1_add_57 ?_
      refine s_9n (by omega) dX1_add_58 ?_
      refine V_iconst (v := 0) dX1_add_59 ki_0 ?_
      refine V_istore [(6, .int 0), (5, .int ((S.2.2.1 9 a.toNatClampNeg) ||| 0)), (4, .int (nI n)), (0, .ref (G.2.1 1)), (1, .int a), (2, .int b), (3, .int sz)] dX1_add_60 (Nat.le_of_ble_eq_true rfl) rfl ?_
      have e0 : ((S.2.2.1 9 a.toNatClampNeg) ||| 0) ||| ((1 : Int32) <<< ((nI n) &&& 31)) = nh n (S.2.2.1 9) a b := by simp [nh, hbo, h1, h3]
      refine V_lv [(6, .int 0), (0, .ref (G.2.1 1)), (3, .int sz), (4, .int (nI n))] [0, 3, 6, 2] rfl ?_
      refine V_S (S2 := setAr (setA S 9 n (nh n (S.2.2.1 9) a b)) 10 (carf (nh n (S.2.2.1 9) a b) n (S.2.2.1 10) 0)) (by rw [carf_0, e0]; exact (setAr_id (setA S 9 n (nh n (S.2.2.1 9) a b)) 10).symm) ?_
      exact lp_hadd h12 hq (n + 2) 0 (by omega) (by omega)
    · refine V_aload_n dX1_add_32 rfl 1 rfl ?_
      refine g_1_1 tw_33 dX1_add_33 ?_
      refine V_iload_n dX1_add_36 rfl 3 rfl ?_
      refine l_9 (vp_kn h3 (by omega) (Nat.le_of_lt h12) (by decide)) dX1_add_37 ?_
      refine V_goto 42 dX1_add_38 (by decide) ?_
      refine V_ior dX1_add_42 ?_
      refine V_istore [(5, .int ((S.2.2.1 9 a.toNatClampNeg) ||| (S.2.2.1 9 b.toNatClampNeg))), (4, .int (nI n)), (0, .ref (G.2.1 1)), (1, .int a), (2, .int b), (3, .int sz)] dX1_add_43 (Nat.le_of_ble_eq_true rfl) rfl ?_
      refine V_aload_n dX1_add_45 rfl 2 rfl ?_
      refine g_1_1 tw_33 dX1_add_46 ?_
      refine V_iload dX1_add_49 1 rfl ?_
      refine V_iload dX1_add_51 0 rfl ?_
      refine V_iconst (v := 1) dX1_add_53 ki_1 ?_
      refine V_iload dX1_add_54 1 rfl ?_
      refine V_ishl dX1_add_56 ?_
      refine V_ior dX1_add_57 ?_
      refine s_9n (by omega) dX1_add_58 ?_
      refine V_iconst (v := 0) dX1_add_59 ki_0 ?_
      refine V_istore [(6, .int 0), (5, .int ((S.2.2.1 9 a.toNatClampNeg) ||| (S.2.2.1 9 b.toNatClampNeg))), (4, .int (nI n)), (0, .ref (G.2.1 1)), (1, .int a), (2, .int b), (3, .int sz)] dX1_add_60 (Nat.le_of_ble_eq_true rfl) rfl ?_
      have e0 : ((S.2.2.1 9 a.toNatClampNeg) ||| (S.2.2.1 9 b.toNatClampNeg)) ||| ((1 : Int32) <<< ((nI n) &&& 31)) = nh n (S.2.2.1 9) a b := by simp [nh, hbo, h1, h3]
      refine V_lv [(6, .int 0), (0, .ref (G.2.1 1)), (3, .int sz), (4, .int (nI n))] [0, 3, 6, 2] rfl ?_
      refine V_S (S2 := setAr (setA S 9 n (nh n (S.2.2.1 9) a b)) 10 (carf (nh n (S.2.2.1 9) a b) n (S.2.2.1 10) 0)) (by rw [carf_0, e0]; exact (setAr_id (setA S 9 n (nh n (S.2.2.1 9) a b)) 10).symm) ?_
      exact lp_hadd h12 hq (n + 2) 0 (by omega) (by omega)
def mb (v w x : Int32) : Bool := if w = 0 ∨ w = 1 then fr x 1 9 else if w = 2 then fr x 0 (1 <<< (v &&& 31) - 1) else if w = 3 then fr x 0 1 else false
def verR (n : Nat) (a b sz : Int32) : Int32 := if mso n a b then (if fr sz 1 9 then (if n < 12 then nI n else -4) else -2) else -1
def verS (S : ST) (n : Nat) (a b sz : Int32) : ST := if mso n a b then (if fr sz 1 9 then (if n < 12 then addS (setI (setI S 3 1) 5 1) n a b sz else S) else S) else S
theorem c_X7_version {G : GX} {d : Nat} {S : ST} {a b sz : Int32} {n : Nat} {Q : Int32 → ST → Prop} (hn : S.1 0 = nI n) (h12 : n ≤ 12) (hq : Q (verR n a b sz) (verS S n a b sz)) : Cn G (d + 3) mX7_version [.ref (G.2.1 0), .int a, .int b, .int sz] S (qi Q) := by
  refine Cn.intro (lv := [(0, .ref (G.2.1 0)), (1, .int a), (2, .int b), (3, .int sz)]) (by decide) (Nat.le_of_ble_eq_true rfl) rfl ?_
  refine V_aload_n dX7_version_0 rfl 0 rfl ?_
  refine g_0_0 tw_203 dX7_version_1 ?_
  refine V_iload_n dX7_version_4 rfl 1 rfl ?_
  refine V_iload_n dX7_version_5 rfl 2 rfl ?_
  refine V_cVi (P := pM G (d + 3) mX7_version _) (d := d + 2) 1 (r := []) (As := [.int a, .int b]) (K := mX1_mayStandOn) ok_X1_mayStandOn tw_232 (ob_1 _) rfl (rmOk (Nat.le_of_ble_eq_true rfl)) (Nat.le_of_ble_eq_true rfl) dX7_version_6 rfl (c_X1_mayStandOn hn ?_)
  refine V_ifb_ne 14 dX7_version_9 (by decide) (fun h1 => ?_) (fun h1 => ?_)
  · refine V_iload_n dX7_version_14 rfl 3 rfl ?_
    refine V_iconst (v := 1) dX7_version_15 ki_1 ?_
    refine V_bipush (v := 9) dX7_version_16 kb_9 ?_
    refine V_cSi (P := pM G (d + 3) mX7_version _) (d := d + 2) (r := []) (As := [.int sz, .int 1, .int 9]) (K := mX7_isFrom) ok_X7_isFrom tw_240 rfl (rmOk (Nat.le_of_ble_eq_true rfl)) (Nat.le_of_ble_eq_true rfl) dX7_version_18 rfl (c_X7_isFrom ?_)
    refine V_ifb_ne 27 dX7_version_21 (by decide) (fun h2 => ?_) (fun h2 => ?_)
    · refine V_aload_n dX7_version_27 rfl 0 rfl ?_
      refine g_0_0 tw_203 dX7_version_28 ?_
      refine g_1_0 tw_30 dX7_version_31 ?_
      refine V_topi (v := nI n) (hn) ?_
      refine V_bipush (v := 12) dX7_version_34 kb_12 ?_
      refine V_icmp_ltn 42 (a := n) (b := 12) dX7_version_36 (by decide) (by omega) (by omega) (fun h3 => ?_) (fun h3 => ?_)
      · refine V_aload_n dX7_version_42 rfl 0 rfl ?_
        refine V_cVv (P := pM G (d + 3) mX7_version _) (d := d + 2) 0 (r := []) (As := []) (K := mX7_forgetPartings) ok_X7_forgetPartings tw_243 (ob_0 _) rfl (rmOk (Nat.le_of_ble_eq_true rfl)) (Nat.le_of_ble_eq_true rfl) dX7_version_43 rfl (c_X7_forgetPartings ?_)
        refine V_aload_n dX7_version_46 rfl 0 rfl ?_
        refine g_0_0 tw_203 dX7_version_47 ?_
        refine V_iload_n dX7_version_50 rfl 1 rfl ?_
        refine V_iload_n dX7_version_51 rfl 2 rfl ?_
        refine V_iload_n dX7_version_52 rfl 3 rfl ?_
        refine V_cVi (P := pM G (d + 3) mX7_version _) (d := d + 2) 1 (r := []) (As := [.int a, .int b, .int sz]) (K := mX1_add) ok_X1_add tw_247 (ob_1 _) rfl (rmOk (Nat.le_of_ble_eq_true rfl)) (Nat.le_of_ble_eq_true rfl) dX7_version_53 rfl (c_X1_add hn h3 ?_)
        refine V_iret rfl dX7_version_56 ⟨_, rfl, ?_⟩
        exact qcast2 hq (by simp [verR, verS, h1, h2, h3]) (by simp [verR, verS, h1, h2, h3])
      · refine V_bipush (v := -4) dX7_version_39 kb_m4 ?_
        refine V_iret rfl dX7_version_41 ⟨_, rfl, ?_⟩
        exact qcast2 hq (by simp [verR, verS, h1, h2, h3, Nat.not_lt.mpr h3]) (by simp [verR, verS, h1, h2, h3, Nat.not_lt.mpr h3])
    · refine V_bipush (v := -2) dX7_version_24 kb_m2 ?_
      refine V_iret rfl dX7_version_26 ⟨_, rfl, ?_⟩
      exact qcast2 hq (by simp [verR, verS, h1, h2]) (by simp [verR, verS, h1, h2])
  · refine V_iconst (v := -1) dX7_version_12 ki_m1 ?_
    refine V_iret rfl dX7_version_13 ⟨_, rfl, ?_⟩
    exact qcast2 hq (by simp [verR, verS, h1]) (by simp [verR, verS, h1])
theorem c_X7_has {G : GX} {d : Nat} {S : ST} {v : Int32} {n : Nat} {Q : Int32 → ST → Prop} (hn : S.1 0 = nI n) (h12 : n ≤ 12) (hq : Q (if kn n v then S.2.2.1 9 v.toNatClampNeg else -1) S) : Cn G (d + 1) mX7_has [.ref (G.2.1 0), .int v] S (qi Q) := by
  refine Cn.intro (lv := [(0, .ref (G.2.1 0)), (1, .int v)]) (by decide) (Nat.le_of_ble_eq_true rfl) rfl ?_
  refine V_aload_n dX7_has_0 rfl 0 rfl ?_
  refine g_0_0 tw_203 dX7_has_1 ?_
  refine V_iload_n dX7_has_4 rfl 1 rfl ?_
  refine V_cVi (P := pM G (d + 1) mX7_has _) (d := d) 1 (r := []) (As := [.int v]) (K := mX1_knows) ok_X1_knows tw_258 (ob_1 _) rfl (rmOk (Nat.le_of_ble_eq_true rfl)) (Nat.le_of_ble_eq_true rfl) dX7_has_5 rfl (c_X1_knows hn ?_)
  refine V_ifb_eq 23 dX7_has_8 (by decide) (fun h1 => ?_) (fun h1 => ?_)
  · refine V_iconst (v := -1) dX7_has_23 ki_m1 ?_
    refine V_iret rfl dX7_has_24 ⟨_, rfl, ?_⟩
    exact qcast hq (by simp [h1])
  · refine V_aload_n dX7_has_11 rfl 0 rfl ?_
    refine g_0_0 tw_203 dX7_has_12 ?_
    refine g_1_1 tw_34 dX7_has_15 ?_
    refine V_iload_n dX7_has_18 rfl 1 rfl ?_
    refine l_9 (vp_kn h1 (by omega) h12 (by decide)) dX7_has_19 ?_
    refine V_goto 24 dX7_has_20 (by decide) ?_
    refine V_iret rfl dX7_has_24 ⟨_, rfl, ?_⟩
    exact qcast hq (by simp [h1])
theorem c_X7_twins {G : GX} {d : Nat} {S : ST} {v : Int32} {n : Nat} {Q : Int32 → ST → Prop} (hn : S.1 0 = nI n) (h12 : n ≤ 12) (hq : Q (if kn n v then bitsOf (fun c => decide (((S.2.2.1 10 c ^^^ S.2.2.1 10 v.toNatClampNeg) &&& bitsOf (fun v => decide (S.2.2.1 14 v = 0)) n) = 0)) n else -1) S) : Cn G (d + 2) mX7_twins [.ref (G.2.1 0), .int v] S (qi Q) := by
  refine Cn.intro (lv := [(0, .ref (G.2.1 0)), (1, .int v)]) (by decide) (Nat.le_of_ble_eq_true rfl) rfl ?_
  refine V_aload_n dX7_twins_0 rfl 0 rfl ?_
  refine g_0_0 tw_203 dX7_twins_1 ?_
  refine V_iload_n dX7_twins_4 rfl 1 rfl ?_
  refine V_cVi (P := pM G (d + 2) mX7_twins _) (d := d + 1) 1 (r := []) (As := [.int v]) (K := mX1_knows) ok_X1_knows tw_258 (ob_1 _) rfl (rmOk (Nat.le_of_ble_eq_true rfl)) (Nat.le_of_ble_eq_true rfl) dX7_twins_5 rfl (c_X1_knows hn ?_)
  refine V_ifb_eq 22 dX7_twins_8 (by decide) (fun h1 => ?_) (fun h1 => ?_)
  · refine V_iconst (v := -1) dX7_twins_22 ki_m1 ?_
    refine V_iret rfl dX7_twins_23 ⟨_, rfl, ?_⟩
    exact qcast hq (by simp [h1])
  · obtain ⟨j, hj, rfl⟩ := kn_ex h1 (by omega)
    rw [nI_clamp (show j < 2 ^ 31 by omega)] at hq
    refine V_aload_n dX7_twins_11 rfl 0 rfl ?_
    refine g_0_0 tw_203 dX7_twins_12 ?_
    refine V_iload_n dX7_twins_15 rfl 1 rfl ?_
    refine V_cVi (P := pM G (d + 2) mX7_twins _) (d := d + 1) 1 (r := []) (As := [.int (nI j)]) (K := mX1_twinsOf) ok_X1_twinsOf tw_478 (ob_1 _) rfl (rmOk (Nat.le_of_ble_eq_true rfl)) (Nat.le_of_ble_eq_true rfl) dX7_twins_16 rfl (c_X1_twinsOf hn h12 (by omega) ?_)
    refine V_goto 23 dX7_twins_19 (by decide) ?_
    refine V_iret rfl dX7_twins_23 ⟨_, rfl, ?_⟩
    exact qcast hq (by simp [h1])
theorem c_X7_untest {G : GX} {d : Nat} {S : ST} {t : Nat} {Q : Int32 → ST → Prop} (ht : S.1 1 = nI t) (t12 : t ≤ 12) (hq : Q (if 1 ≤ t then nI (t - 1) else -5) (if 1 ≤ t then setI S 1 (nI (t - 1)) else S)) : Cn G d mX7_untest [.ref (G.2.1 0)] S (qi Q) := by
  refine Cn.intro (lv := [(0, .ref (G.2.1 0))]) (by decide) (Nat.le_of_ble_eq_true rfl) rfl ?_
  refine V_aload_n dX7_untest_0 rfl 0 rfl ?_
  refine g_0_1 tw_204 dX7_untest_1 ?_
  refine g_2_0 tw_70 dX7_untest_4 ?_
  refine V_topi (v := nI t) (ht) ?_
  refine V_iconst (v := 1) dX7_untest_7 ki_1 ?_
  refine V_icmp_gen 14 (a := t) (b := 1) dX7_untest_8 (by decide) (by omega) (by omega) (fun h1 => ?_) (fun h1 => ?_)
  · refine V_aload_n dX7_untest_14 rfl 0 rfl ?_
    refine g_0_1 tw_204 dX7_untest_15 ?_
    refine V_dup dX7_untest_18 rfl ?_
    refine g_2_0 tw_70 dX7_untest_19 ?_
    refine V_topi (v := nI t) (ht) ?_
    refine V_iconst (v := 1) dX7_untest_22 ki_1 ?_
    refine V_isub dX7_untest_23 ?_
    refine V_topi (v := nI (t - 1)) (pk_sub (a := t) (b := 1) (by omega)) ?_
    refine p_2_0 tw_70 dX7_untest_24 ?_
    refine V_aload_n dX7_untest_27 rfl 0 rfl ?_
    refine g_0_1 tw_204 dX7_untest_28 ?_
    refine g_2_0 tw_70 dX7_untest_31 ?_
    refine V_topi (v := nI (t - 1)) rfl ?_
    refine V_iret rfl dX7_untest_34 ⟨_, rfl, ?_⟩
    exact qcast2 hq (by rw [if_pos h1]) (by rw [if_pos h1])
  · refine V_bipush (v := -5) dX7_untest_11 kb_m5 ?_
    refine V_iret rfl dX7_untest_13 ⟨_, rfl, ?_⟩
    exact qcast2 hq (by rw [if_neg (by omega)]) (by rw [if_neg (by omega)])
theorem c_X7_say {G : GX} {d : Nat} {S : ST} {s : Int32} {g : Nat} {Q : Int32 → ST → Prop} (hg : S.1 8 = nI g) (g40 : g ≤ 40) (hq : Q (if fr s 33 126 then (if g < 40 then nI (g + 1) else -4) else -2) (if fr s 33 126 then (if g < 40 then setI (setA S 23 g s) 8 (nI (g + 1)) else S) else S)) : Cn G (d + 1) mX7_say [.ref (G.2.1 0), .int s] S (qi Q) := by
  refine Cn.intro (lv := [(0, .ref (G.2.1 0)), (1, .int s)]) (by decide) (Nat.le_of_ble_eq_true rfl) rfl ?_
  refine V_iload_n dX7_say_0 rfl 1 rfl ?_
  refine V_bipush (v := 33) dX7_say_1 kb_33 ?_
  refine V_bipush (v := 126) dX7_say_3 kb_126 ?_
  refine V_cSi (P := pM G (d + 1) mX7_say _) (d := d) (r := []) (As := [.int s, .int 33, .int 126]) (K := mX7_isFrom) ok_X7_isFrom tw_240 rfl (rmOk (Nat.le_of_ble_eq_true rfl)) (Nat.le_of_ble_eq_true rfl) dX7_say_5 rfl (c_X7_isFrom ?_)
  refine V_ifb_ne 14 dX7_say_8 (by decide) (fun h1 => ?_) (fun h1 => ?_)
  · refine V_aload_n dX7_say_14 rfl 0 rfl ?_
    refine g_0_5 tw_208 dX7_say_15 ?_
    refine V_iload_n dX7_say_18 rfl 1 rfl ?_
    refine V_cVi (P := pM G (d + 1) mX7_say _) (d := d) 6 (r := []) (As := [.int s]) (K := mX5_add) ok_X5_add tw_490 (ob_6 _) rfl (rmOk (Nat.le_of_ble_eq_true rfl)) (Nat.le_of_ble_eq_true rfl) dX7_say_19 rfl (c_X5_add hg g40 ?_)
    refine V_iret rfl dX7_say_22 ⟨_, rfl, ?_⟩
    exact qcast2 hq (by simp [h1]) (by simp [h1])
  · refine V_bipush (v := -2) dX7_say_11 kb_m2 ?_
    refine V_iret rfl dX7_say_13 ⟨_, rfl, ?_⟩
    exact qcast2 hq (by simp [h1]) (by simp [h1])
theorem c_X7_wipe {G : GX} {d : Nat} {S : ST}  {Q : Int32 → ST → Prop}  (hq : Q (S.1 8) (setI S 8 0)) : Cn G d mX7_wipe [.ref (G.2.1 0)] S (qi Q) := by
  refine Cn.intro (lv := [(0, .ref (G.2.1 0))]) (by decide) (Nat.le_of_ble_eq_true rfl) rfl ?_
  refine V_aload_n dX7_wipe_0 rfl 0 rfl ?_
  refine g_0_5 tw_208 dX7_wipe_1 ?_
  refine g_6_0 tw_154 dX7_wipe_4 ?_
  refine V_istore_n [(1, .int (S.1 8)), (0, .ref (G.2.1 0))] dX7_wipe_7 rfl (Nat.le_of_ble_eq_true rfl) rfl ?_
  refine V_aload_n dX7_wipe_8 rfl 1 rfl ?_
  refine g_0_5 tw_208 dX7_wipe_9 ?_
  refine V_iconst (v := 0) dX7_wipe_12 ki_0 ?_
  refine p_6_0 tw_154 dX7_wipe_13 ?_
  refine V_iload_n dX7_wipe_16 rfl 0 rfl ?_
  refine V_iret rfl dX7_wipe_17 ⟨_, rfl, ?_⟩
  exact hq
theorem c_X7_test {G : GX} {d : Nat} {S : ST} {v : Int32} {q : Bool} {n t : Nat} {Q : Int32 → ST → Prop} (hn : S.1 0 = nI n) (h12 : n ≤ 12) (ht : S.1 1 = nI t) (t12 : t ≤ 12) (hq : Q (if kn n v then (if hrs n (S.2.2.1 14) v then (if t < 12 then nI t else -4) else -3) else -1) (if kn n v then (if hrs n (S.2.2.1 14) v then (if t < 12 then setI (setA (setA S 15 t v) 16 t (b2i q)) 1 (nI (t + 1)) else S) else S) else S)) : Cn G (d + 2) mX7_test [.ref (G.2.1 0), .int v, .int (b2i q)] S (qi Q) := by
  refine Cn.intro (lv := [(0, .ref (G.2.1 0)), (1, .int v), (2, .int (b2i q))]) (by decide) (Nat.le_of_ble_eq_true rfl) rfl ?_
  refine V_aload_n dX7_test_0 rfl 0 rfl ?_
  refine g_0_0 tw_203 dX7_test_1 ?_
  refine V_iload_n dX7_test_4 rfl 1 rfl ?_
  refine V_cVi (P := pM G (d + 2) mX7_test _) (d := d + 1) 1 (r := []) (As := [.int v]) (K := mX1_knows) ok_X1_knows tw_258 (ob_1 _) rfl (rmOk (Nat.le_of_ble_eq_true rfl)) (Nat.le_of_ble_eq_true rfl) dX7_test_5 rfl (c_X1_knows hn ?_)
  refine V_ifb_ne 13 dX7_test_8 (by decide) (fun h1 => ?_) (fun h1 => ?_)
  · refine V_aload_n dX7_test_13 rfl 0 rfl ?_
    refine g_0_0 tw_203 dX7_test_14 ?_
    refine V_iload_n dX7_test_17 rfl 1 rfl ?_
    refine V_cVi (P := pM G (d + 2) mX7_test _) (d := d + 1) 1 (r := []) (As := [.int v]) (K := mX1_hears) ok_X1_hears tw_287 (ob_1 _) rfl (rmOk (Nat.le_of_ble_eq_true rfl)) (Nat.le_of_ble_eq_true rfl) dX7_test_18 rfl (c_X1_hears hn h12 ?_)
    refine V_ifb_ne 27 dX7_test_21 (by decide) (fun h2 => ?_) (fun h2 => ?_)
    · refine V_aload_n dX7_test_27 rfl 0 rfl ?_
      refine g_0_1 tw_204 dX7_test_28 ?_
      refine V_iload_n dX7_test_31 rfl 1 rfl ?_
      refine V_iload_n dX7_test_32 rfl 2 rfl ?_
      refine V_cVi (P := pM G (d + 2) mX7_test _) (d := d + 1) 2 (r := []) (As := [.int v, .int (b2i q)]) (K := mX2_add) ok_X2_add tw_291 (ob_2 _) rfl (rmOk (Nat.le_of_ble_eq_true rfl)) (Nat.le_of_ble_eq_true rfl) dX7_test_33 rfl (c_X2_add ht t12 ?_)
      refine V_iret rfl dX7_test_36 ⟨_, rfl, ?_⟩
      exact qcast2 hq (by simp [h1, h2]) (by simp [h1, h2])
    · refine V_bipush (v := -3) dX7_test_24 kb_m3 ?_
      refine V_iret rfl dX7_test_26 ⟨_, rfl, ?_⟩
      exact qcast2 hq (by simp [h1, h2]) (by simp [h1, h2])
  · refine V_iconst (v := -1) dX7_test_11 ki_m1 ?_
    refine V_iret rfl dX7_test_12 ⟨_, rfl, ?_⟩
    exact qcast2 hq (by simp [h1]) (by simp [h1])
