theorem FrS.tr {A B C : ST} (h : FrS A B) (g : FrS B C) : FrS A C := ⟨fun k a b => (g.1 k a b).trans (h.1 k a b), fun k a b => (g.2.1 k a b).trans (h.2.1 k a b), fun k a b => (g.2.2.1 k a b).trans (h.2.2.1 k a b), fun k a => (g.2.2.2 k a).trans (h.2.2.2 k a)⟩
theorem FrS.wX {A B : ST} (h : FrS A B) (m : Nat) : wX B m = wX A m := funext (fun x => h.wO m x.1 x.2.1 x.2.2)
theorem FrS.fX {A B : ST} (h : FrS A B) : fX B = fX A := funext (fun x => by unfold _root_.Jvm.Pilot.@@N@@.fX; rw [h.2.2.1 10 (by decide) (by decide)])
theorem CS_tr {A B C : ST} {m : Nat} {L : List XT} (h : FrS A B) (g : CS B m L C) : CS A m L C := by
  unfold CS nz at g
  rw [h.wX, h.fX] at g
  exact ⟨h.tr g.1, g.2⟩
/-- one more test in the log -/
def pls (T : ST) (m : Nat) (v : Int32) (b : Bool) : ST := setI (setA (setA T 15 m v) 16 m (b2i b)) 1 (nI (m + 1))
theorem FrS.pls {A B : ST} (h : FrS A B) (m : Nat) (v : Int32) (b : Bool) : FrS (pls A m v b) (pls B m v b) := by
  refine ⟨fun k a c => ?_, fun k a c => h.2.1 k a c, fun k a c => ?_, fun k a => h.2.2.2 k a⟩
  · show va_up _ _ _ k = va_up _ _ _ k
    unfold va_up
    by_cases e : k = 1
    · rw [if_pos e, if_pos e]
    · rw [if_neg e, if_neg e]; exact h.1 k a c
  · show va_up (va_up _ _ _) _ _ k = va_up (va_up _ _ _) _ _ k
    unfold va_up
    by_cases e : k = 16
    · rw [if_pos e, if_pos e]
      rw [show (setA B 15 m v).2.2.1 16 = B.2.2.1 16 from rfl, show (setA A 15 m v).2.2.1 16 = A.2.2.1 16 from rfl, h.2.2.1 16 (by decide) (by decide)]
    · rw [if_neg e, if_neg e]
      by_cases e2 : k = 15
      · rw [if_pos e2, if_pos e2, h.2.2.1 15 (by decide) (by decide)]
      · rw [if_neg e2, if_neg e2]; exact h.2.2.1 k a c
theorem pls_15 (T : ST) (m : Nat) (v : Int32) (b : Bool) : (pls T m v b).2.2.1 15 = upd (T.2.2.1 15) m v := rfl
theorem pls_16 (T : ST) (m : Nat) (v : Int32) (b : Bool) : (pls T m v b).2.2.1 16 = upd (T.2.2.1 16) m (b2i b) := rfl
theorem DT_pls {T : ST} {m j : Nat} {b : Bool} (h : DT T m) (hm : m < 12) (hj : j < 12) : DT (pls T m (nI j) b) (m + 1) := by
  refine ⟨rfl, hm, fun k hk => ?_, fun k hk => ?_⟩
  · rw [pls_15]
    unfold upd
    by_cases e : k = m
    · rw [if_pos e, nI_clamp (by omega)]; exact ⟨rfl, hj⟩
    · rw [if_neg e]; exact h.2.2.1 k (by omega)
  · rw [pls_16]
    unfold upd
    by_cases e : k = m
    · rw [if_pos e]; cases b <;> rfl
    · rw [if_neg e]; exact h.2.2.2 k (by omega)
/-- the class's answer of sort 0 at a version's set -/
def tvC (T : ST) (v : Int32) : Bool := bl (T.2.2.2 25 ((T.2.2.1 9 v.toNatClampNeg).toNatClampNeg / 64)) ((T.2.2.1 9 v.toNatClampNeg).toNatClampNeg % 64)
def nvC (T : ST) (m n : Nat) : Int32 := (nfo (T.2.2.1 14) (T.2.2.1 12) (lsH T m n) n).1
def plC (n : Nat) (q : Int32) : Nat → Nat → ST → ST
  | 0, _, T => T
  | k + 1, m, T => if gib (wX T m) (stl n) q = true then (if hrs n (T.2.2.1 14) (nvC T m n) = true then plC n q k (m + 1) (pls T m (nvC T m n) (!tvC T (nvC T m n))) else T) else T
theorem plC_1 {n k m : Nat} {q : Int32} {T : ST} (h : gib (wX T m) (stl n) q = false) : plC n q (k + 1) m T = T := by
  rw [plC, h]; rfl
theorem plC_2 {n k m : Nat} {q : Int32} {T : ST} (h : hrs n (T.2.2.1 14) (nvC T m n) = false) : plC n q (k + 1) m T = T := by
  rw [plC, h]
  split <;> rfl
theorem plC_3 {n k m : Nat} {q : Int32} {T : ST} (h : gib (wX T m) (stl n) q = true) (h2 : hrs n (T.2.2.1 14) (nvC T m n) = true) : plC n q (k + 1) m T = plC n q k (m + 1) (pls T m (nvC T m n) (!tvC T (nvC T m n))) := by
  rw [plC, if_pos h, if_pos h2]
/-- the versions' sets are sets -/
def HS (n : Nat) (T : ST) : Prop := T.1 0 = nI n ∧ ∀ v, v < n → ∃ t, t < 4096 ∧ T.2.2.1 9 v = nI t
theorem HS_pls {n m : Nat} {T : ST} {v : Int32} {b : Bool} (h : HS n T) : HS n (pls T m v b) := h
theorem lp_play {G : GX} {d n : Nat} {q : Int32} {Q : Int32 → ST → Prop} (h12 : n ≤ 12) : ∀ (k i : Nat) (T S : ST), i ≤ 12 → 12 - i < k → FrS T S → DT T i → HS n T → (∀ S2, FrS (plC n q (12 - i) i T) S2 → Q (S2.1 1) S2) → V (pM G (d + 5) mX7_play (qi Q)) 50 [(2, .int (nI i)), (0, .ref (G.2.1 0)), (1, .int q)] [] S := by
  intro k
  induction k with
  | zero => intro i T S hi hk; exact absurd hk (Nat.not_lt_zero _)
  | succ k ih =>
    intro i T S hi hk hF hD hH hq
    refine V_iload_n dX7_play_50 rfl 0 rfl ?_
    refine V_bipush (v := 12) dX7_play_51 kb_12 ?_
    refine V_icmp_gen 142 (a := i) (b := 12) dX7_play_53 (by decide) (by omega) (by omega) (fun h1 => ?_) (fun h1 => ?_)
    · refine V_aload_n dX7_play_142 rfl 1 rfl ?_
      refine g_0_1 tw_204 dX7_play_143 ?_
      refine g_2_0 tw_70 dX7_play_146 ?_
      exact V_iret rfl dX7_play_149 ⟨_, rfl, hq _ (by rw [show 12 - i = 0 by omega]; exact hF)⟩
    · refine V_aload_n dX7_play_56 rfl 1 rfl ?_
      refine g_0_2 tw_205 dX7_play_57 ?_
      refine V_cVv (P := pM G (d + 5) mX7_play _) (d := d + 4) 3 (r := []) (As := []) (K := mX4_weigh) ok_X4_weigh tw_333 (ob_3 _) rfl (rmOk (Nat.le_of_ble_eq_true rfl)) (Nat.le_of_ble_eq_true rfl) dX7_play_60 rfl (c_X4_weigh (m := i) ((hF.1 0 (by decide) (by decide)).trans hH.1) (hF.DT hD) h12 (fun S2 hC2 => ?_))
      have hC := CS_tr hF hC2
      have hn2 : S2.1 0 = nI n := (hC.1.1 0 (by decide) (by decide)).trans hH.1
      have e14 : S2.2.2.1 14 = T.2.2.1 14 := hC.1.2.2.1 14 (by decide) (by decide)
      refine V_aload_n dX7_play_63 rfl 1 rfl ?_
      refine g_0_2 tw_205 dX7_play_64 ?_
      refine V_iload_n dX7_play_67 rfl 2 rfl ?_
      refine V_cVi (P := pM G (d + 5) mX7_play _) (d := d + 4) 3 (r := []) (As := [.int q]) (K := mX4_guessIsBelow) ok_X4_guessIsBelow tw_560 (ob_3 _) rfl (rmOk (Nat.le_of_ble_eq_true rfl)) (Nat.le_of_ble_eq_true rfl) dX7_play_68 rfl (c_X4_guessIsBelow hC ?_)
      refine V_ifb_ne 77 dX7_play_71 (by decide) (fun h2 => ?_) (fun h2 => ?_)
      · refine V_aload_n dX7_play_77 rfl 1 rfl ?_
        refine g_0_2 tw_205 dX7_play_78 ?_
        refine V_iconst (v := 1) dX7_play_81 ki_1 ?_
        refine V_cVi (P := pM G (d + 5) mX7_play _) (d := d + 4) 3 (r := []) (As := [.int 1]) (K := mX4_nextVersion) ok_X4_nextVersion tw_405 (ob_3 _) rfl (rmOk (Nat.le_of_ble_eq_true rfl)) (Nat.le_of_ble_eq_true rfl) dX7_play_82 rfl (c_X4_nextVersion1 hC hH.1 h12 ?_)
        refine V_istore_n [(3, .int (nvC T i n)), (2, .int (nI i)), (0, .ref (G.2.1 0)), (1, .int q)] dX7_play_85 rfl (Nat.le_of_ble_eq_true rfl) rfl ?_
        refine V_aload_n dX7_play_86 rfl 2 rfl ?_
        refine g_0_0 tw_203 dX7_play_87 ?_
        refine V_iload_n dX7_play_90 rfl 0 rfl ?_
        refine V_cVi (P := pM G (d + 5) mX7_play _) (d := d + 4) 1 (r := []) (As := [.int (nvC T i n)]) (K := mX1_hears) ok_X1_hears tw_287 (ob_1 _) rfl (rmOk (Nat.le_of_ble_eq_true rfl)) (Nat.le_of_ble_eq_true rfl) dX7_play_91 rfl (c_X1_hears hn2 h12 ?_)
        refine V_topi (v := b2i (hrs n (T.2.2.1 14) (nvC T i n))) (by rw [e14]) ?_
        refine V_ifb_ne 100 dX7_play_94 (by decide) (fun h3 => ?_) (fun h3 => ?_)
        · obtain ⟨j, hj, ej⟩ := kn_ex (Bool.and_eq_true_iff.mp h3).1 (by omega)
          obtain ⟨t, ht, et⟩ := hH.2 j hj
          have e9 : S2.2.2.1 9 j = nI t := (hC.1.2.2.1 9 (by decide) (by decide) ▸ et)
          have e25 : S2.2.2.2 25 = T.2.2.2 25 := hC.1.2.2.2 25 (by decide)
          refine V_lveq [(3, .int (nI j)), (2, .int (nI i)), (0, .ref (G.2.1 0)), (1, .int q)] (by rw [show (nvC T i n) = nI j from ej]) ?_
          refine V_aload_n dX7_play_100 rfl 2 rfl ?_
          refine g_0_1 tw_204 dX7_play_101 ?_
          refine V_iload_n dX7_play_104 rfl 0 rfl ?_
          refine V_aload_n dX7_play_105 rfl 2 rfl ?_
          refine g_0_6 tw_209 dX7_play_106 ?_
          refine g_7_1 tw_175 dX7_play_109 ?_
          refine V_aload_n dX7_play_112 rfl 2 rfl ?_
          refine g_0_0 tw_203 dX7_play_113 ?_
          refine g_1_1 tw_34 dX7_play_116 ?_
          refine V_iload_n dX7_play_119 rfl 0 rfl ?_
          refine l_9n (by omega) dX7_play_120 ?_
          refine V_topi (v := nI t) (id e9) ?_
          refine V_cSi (P := pM G (d + 5) mX7_play _) (d := d + 4) (r := [.int (nI j), .ref (G.2.1 2)]) (As := [.ref (G.2.1 25), .int (nI t)]) (K := mX7_isAmong) ok_X7_isAmong tw_551 rfl (rmOk (Nat.le_of_ble_eq_true rfl)) (Nat.le_of_ble_eq_true rfl) dX7_play_121 rfl (c_X7_isAmong_25 (by omega) ?_)
          refine V_ifb_ne 131 dX7_play_124 (by decide) (fun h4 => ?_) (fun h4 => ?_)
          · refine V_iconst (v := 0) dX7_play_131 ki_0 ?_
            refine V_topi (v := b2i false) rfl ?_
            refine V_cVi (P := pM G (d + 5) mX7_play _) (d := d + 4) 2 (r := []) (As := [.int (nI j), .int (b2i false)]) (K := mX2_add) ok_X2_add tw_291 (ob_2 _) rfl (rmOk (Nat.le_of_ble_eq_true rfl)) (Nat.le_of_ble_eq_true rfl) dX7_play_132 rfl (c_X2_add (q := false) (t := i) ((hC.1.1 1 (by decide) (by decide)).trans hD.1) (by omega) ?_)
            refine V_topi (v := nI i) (if_pos h1) ?_
            refine V_S (S2 := pls S2 i (nI j) false) (if_pos h1) ?_
            refine V_pop dX7_play_135 rfl ?_
            refine V_iinc [(2, .int (nI (i + 1))), (3, .int (nI j)), (0, .ref (G.2.1 0)), (1, .int q)] dX7_play_136 1 rfl (nI_1 _) (Nat.le_of_ble_eq_true rfl) rfl ?_
            refine V_goto 50 dX7_play_139 (by decide) ?_
            refine V_lv [(2, .int (nI (i + 1))), (0, .ref (G.2.1 0)), (1, .int q)] [0, 2, 3] rfl ?_
            have hb : tvC T (nvC T i n) = true := by unfold tvC; rw [show nvC T i n = nI j from ej, nI_clamp (show j < 2 ^ 31 by omega), et, nI_clamp (show t < 2 ^ 31 by omega), ← e25]; exact h4
            rw [show 12 - i = (12 - (i + 1)) + 1 by omega, plC_3 h2 h3, show nvC T i n = nI j from ej, show tvC T (nI j) = true from ej ▸ hb] at hq
            exact ih (i + 1) _ _ (by omega) (by omega) (hC.1.pls i (nI j) false) (DT_pls hD (by omega) (by omega)) (HS_pls hH) hq
          · refine V_iconst (v := 1) dX7_play_127 ki_1 ?_
            refine V_goto 132 dX7_play_128 (by decide) ?_
            refine V_topi (v := b2i true) rfl ?_
            refine V_cVi (P := pM G (d + 5) mX7_play _) (d := d + 4) 2 (r := []) (As := [.int (nI j), .int (b2i true)]) (K := mX2_add) ok_X2_add tw_291 (ob_2 _) rfl (rmOk (Nat.le_of_ble_eq_true rfl)) (Nat.le_of_ble_eq_true rfl) dX7_play_132 rfl (c_X2_add (q := true) (t := i) ((hC.1.1 1 (by decide) (by decide)).trans hD.1) (by omega) ?_)
            refine V_topi (v := nI i) (if_pos h1) ?_
            refine V_S (S2 := pls S2 i (nI j) true) (if_pos h1) ?_
            refine V_pop dX7_play_135 rfl ?_
            refine V_iinc [(2, .int (nI (i + 1))), (3, .int (nI j)), (0, .ref (G.2.1 0)), (1, .int q)] dX7_play_136 1 rfl (nI_1 _) (Nat.le_of_ble_eq_true rfl) rfl ?_
            refine V_goto 50 dX7_play_139 (by decide) ?_
            refine V_lv [(2, .int (nI (i + 1))), (0, .ref (G.2.1 0)), (1, .int q)] [0, 2, 3] rfl ?_
            have hb : tvC T (nvC T i n) = false := by unfold tvC; rw [show nvC T i n = nI j from ej, nI_clamp (show j < 2 ^ 31 by omega), et, nI_clamp (show t < 2 ^ 31 by omega), ← e25]; exact h4
            rw [show 12 - i = (12 - (i + 1)) + 1 by omega, plC_3 h2 h3, show nvC T i n = nI j from ej, show tvC T (nI j) = false from ej ▸ hb] at hq
            exact ih (i + 1) _ _ (by omega) (by omega) (hC.1.pls i (nI j) true) (DT_pls hD (by omega) (by omega)) (HS_pls hH) hq
        · refine V_goto 142 dX7_play_97 (by decide) ?_
          refine V_aload_n dX7_play_142 rfl 2 rfl ?_
          refine g_0_1 tw_204 dX7_play_143 ?_
          refine g_2_0 tw_70 dX7_play_146 ?_
          exact V_iret rfl dX7_play_149 ⟨_, rfl, hq _ (by rw [show 12 - i = (12 - (i + 1)) + 1 by omega, plC_2 h3]; exact hC.1)⟩
      · refine V_goto 142 dX7_play_74 (by decide) ?_
        refine V_aload_n dX7_play_142 rfl 1 rfl ?_
        refine g_0_1 tw_204 dX7_play_143 ?_
        refine g_2_0 tw_70 dX7_play_146 ?_
        exact V_iret rfl dX7_play_149 ⟨_, rfl, hq _ (by rw [show 12 - i = (12 - (i + 1)) + 1 by omega, plC_1 h2]; exact hC.1)⟩
def plyC (S : ST) (n : Nat) (q : Int32) : Option ST := if fr q 1 10 = true ∧ (1 : Int32) ≤ S.1 9 ∧ ¬ bitsOf (fun v => decide (S.2.2.1 14 v = 0)) n = 0 then some (plC n q 12 0 (setI S 1 0)) else none
def plyR (S : ST) (n : Nat) (q : Int32) : Int32 := if fr q 1 10 = true then (if (1 : Int32) ≤ S.1 9 then (if bitsOf (fun v => decide (S.2.2.1 14 v = 0)) n = 0 then -5 else (plC n q 12 0 (setI S 1 0)).1 1) else -3) else -2
theorem plyR_2 {S : ST} {n : Nat} {q : Int32} (h : fr q 1 10 = false) : plyR S n q = -2 := by
  unfold plyR
  rw [h]; rfl
theorem plyR_3 {S : ST} {n : Nat} {q : Int32} (h : fr q 1 10 = true) (h2 : ¬ (1 : Int32) ≤ S.1 9) : plyR S n q = -3 := by
  unfold plyR
  rw [if_pos h, if_neg h2]
theorem plyR_5 {S : ST} {n : Nat} {q : Int32} (h : fr q 1 10 = true) (h2 : (1 : Int32) ≤ S.1 9) (h3 : bitsOf (fun v => decide (S.2.2.1 14 v = 0)) n = 0) : plyR S n q = -5 := by
  unfold plyR
  rw [if_pos h, if_pos h2, if_pos h3]
theorem plyR_0 {S : ST} {n : Nat} {q : Int32} (h : fr q 1 10 = true) (h2 : (1 : Int32) ≤ S.1 9) (h3 : ¬ bitsOf (fun v => decide (S.2.2.1 14 v = 0)) n = 0) : plyR S n q = (plC n q 12 0 (setI S 1 0)).1 1 := by
  unfold plyR
  rw [if_pos h, if_pos h2, if_neg h3]
theorem DT_0 (S : ST) : DT (setI S 1 0) 0 := ⟨rfl, by omega, fun k hk => absurd hk (Nat.not_lt_zero _), fun k hk => absurd hk (Nat.not_lt_zero _)⟩
theorem c_X7_play {G : GX} {d : Nat} {S : ST} {q : Int32} {n : Nat} {Q : Int32 → ST → Prop} (hn : S.1 0 = nI n) (h12 : n ≤ 12) (hH : HS n S) (hq : ∀ S2, ((plyC S n q = none ∧ FrS S S2) ∨ ∃ T, plyC S n q = some T ∧ FrS T S2) → Q (plyR S n q) S2) : Cn G (d + 5) mX7_play [.ref (G.2.1 0), .int q] S (qi Q) := by
  refine Cn.intro (lv := [(0, .ref (G.2.1 0)), (1, .int q)]) (by decide) (Nat.le_of_ble_eq_true rfl) rfl ?_
  refine V_iload_n dX7_play_0 rfl 1 rfl ?_
  refine V_iconst (v := 1) dX7_play_1 ki_1 ?_
  refine V_bipush (v := 10) dX7_play_2 kb_10 ?_
  refine V_cSi (P := pM G (d + 5) mX7_play _) (d := d + 4) (r := []) (As := [.int q, .int 1, .int 10]) (K := mX7_isFrom) ok_X7_isFrom tw_240 rfl (rmOk (Nat.le_of_ble_eq_true rfl)) (Nat.le_of_ble_eq_true rfl) dX7_play_4 rfl (c_X7_isFrom ?_)
  refine V_ifb_ne 13 dX7_play_7 (by decide) (fun h1 => ?_) (fun h1 => ?_)
  · refine V_aload_n dX7_play_13 rfl 0 rfl ?_
    refine g_0_6 tw_209 dX7_play_14 ?_
    refine g_7_0 tw_172 dX7_play_17 ?_
    refine V_iconst (v := 1) dX7_play_20 ki_1 ?_
    refine V_icmp_ge 27 dX7_play_21 (by decide) (fun h2 => ?_) (fun h2 => ?_)
    · refine V_aload_n dX7_play_27 rfl 0 rfl ?_
      refine g_0_0 tw_203 dX7_play_28 ?_
      refine V_cVi (P := pM G (d + 5) mX7_play _) (d := d + 4) 1 (r := []) (As := []) (K := mX1_hearing) ok_X1_hearing tw_559 (ob_1 _) rfl (rmOk (Nat.le_of_ble_eq_true rfl)) (Nat.le_of_ble_eq_true rfl) dX7_play_31 rfl (c_X1_hearing hn h12 ?_)
      refine V_if_ne 40 dX7_play_34 (by decide) (fun h3 => ?_) (fun h3 => ?_)
      · refine V_aload_n dX7_play_40 rfl 0 rfl ?_
        refine g_0_1 tw_204 dX7_play_41 ?_
        refine V_iconst (v := 0) dX7_play_44 ki_0 ?_
        refine p_2_0 tw_70 dX7_play_45 ?_
        refine V_iconst (v := 0) dX7_play_48 ki_0 ?_
        refine V_istore_n [(2, .int 0), (0, .ref (G.2.1 0)), (1, .int q)] dX7_play_49 rfl (Nat.le_of_ble_eq_true rfl) rfl ?_
        refine V_lv [(2, .int 0), (0, .ref (G.2.1 0)), (1, .int q)] [0, 1, 2] rfl ?_
        exact lp_play h12 13 0 (setI S 1 0) _ (by omega) (by omega) (FrS.rf _) (DT_0 S) hH (fun S2 hF => qcast (hq S2 (Or.inr ⟨_, if_pos ⟨h1, h2, h3⟩, hF⟩)) (by rw [plyR_0 h1 h2 h3]; exact hF.1 1 (by decide) (by decide)))
      · refine V_bipush (v := -5) dX7_play_37 kb_m5 ?_
        exact V_iret rfl dX7_play_39 ⟨_, rfl, qcast (hq S (Or.inl ⟨(by unfold plyC; rw [if_neg]; rintro ⟨-, -, z⟩; exact z h3), FrS.rf S⟩)) (plyR_5 h1 h2 h3).symm⟩
    · refine V_bipush (v := -3) dX7_play_24 kb_m3 ?_
      exact V_iret rfl dX7_play_26 ⟨_, rfl, qcast (hq S (Or.inl ⟨(by unfold plyC; rw [if_neg]; rintro ⟨-, z, -⟩; exact h2 z), FrS.rf S⟩)) (plyR_3 h1 h2).symm⟩
  · refine V_bipush (v := -2) dX7_play_10 kb_m2 ?_
    exact V_iret rfl dX7_play_12 ⟨_, rfl, qcast (hq S (Or.inl ⟨(by unfold plyC; rw [if_neg]; rintro ⟨z, -⟩; rw [h1] at z; cases z), FrS.rf S⟩)) (plyR_2 h1).symm⟩
