def EM (S : ST) (n : Nat) : Prop := S.1 10 = nI n ∧ (∀ v, v < n → ∃ t, t < 4096 ∧ S.2.2.1 30 v = nI t) ∧ R9 (S.2.2.1 32) n ∧ R9 (S.2.2.1 31) n
def FrL (S0 S : ST) : Prop := S.1 = S0.1 ∧ S.2.1 = S0.2.1 ∧ (∀ c, c ≠ 44 → c ≠ 45 → c ≠ 46 → c ≠ 47 → S.2.2.1 c = S0.2.2.1 c) ∧ S.2.2.2 = S0.2.2.2
theorem FrL.rf (S : ST) : FrL S S := ⟨rfl, rfl, fun _ _ _ _ _ => rfl, rfl⟩
theorem FrL.tr {A B C : ST} (h : FrL A B) (g : FrL B C) : FrL A C := ⟨g.1.trans h.1, g.2.1.trans h.2.1, fun c a1 a2 a3 a4 => (g.2.2.1 c a1 a2 a3 a4).trans (h.2.2.1 c a1 a2 a3 a4), g.2.2.2.trans h.2.2.2⟩
theorem FrL.a {A B : ST} (h : FrL A B) {r : Nat} (hr : r = 44 ∨ r = 45 ∨ r = 46 ∨ r = 47) (i : Nat) (x : Int32) : FrL A (setA B r i x) := by
  refine ⟨h.1, h.2.1, fun c a1 a2 a3 a4 => ?_, h.2.2.2⟩
  show va_up _ _ _ c = _
  rw [va_up_ne _ _ (by rcases hr with z | z | z | z <;> omega)]
  exact h.2.2.1 c a1 a2 a3 a4
theorem FrL.c {A B : ST} (h : FrL A B) {c : Nat} (g : c ≠ 44 ∧ c ≠ 45 ∧ c ≠ 46 ∧ c ≠ 47) : B.2.2.1 c = A.2.2.1 c := h.2.2.1 c g.1 g.2.1 g.2.2.1 g.2.2.2
def L4 (S0 : ST) (n s : Nat) (S : ST) (a b : Option (Nat × Nat)) : Prop := S.2.2.1 44 s = nI (pz a) ∧ S.2.2.1 45 s = frs a ∧ S.2.2.1 46 s = nI (pz b) ∧ S.2.2.1 47 s = frs b
def LY (S0 : ST) (n t : Nat) (S : ST) : Prop := ∀ s, s < t → L4 S0 n s S (PR false (S0.2.2.1 30) (S0.2.2.1 34) (S0.2.2.1 32) (S0.2.2.1 31) n s) (PR true (S0.2.2.1 30) (S0.2.2.1 34) (S0.2.2.1 32) (S0.2.2.1 31) n s)
def MFw (S0 : ST) (n t w : Nat) : Option (Nat × Nat) := mf (pts (S0.2.2.1 30) (S0.2.2.1 34) t) (gvv false (S0.2.2.1 30) (S0.2.2.1 34) (S0.2.2.1 32) (S0.2.2.1 31) n t) w
def MFm (S0 : ST) (n t w : Nat) : Option (Nat × Nat) := mf (pts (S0.2.2.1 30) (S0.2.2.1 34) t) (gvv true (S0.2.2.1 30) (S0.2.2.1 34) (S0.2.2.1 32) (S0.2.2.1 31) n t) w
def LSt (S0 : ST) (n t w v : Nat) (S : ST) : Prop := FrL S0 S ∧ LY S0 n t S ∧ L4 S0 n t S (MFw S0 n t w) (MFm S0 n t v)
theorem LSt.w {S0 S : ST} {n t w v : Nat} {x y : Int32} (h : LSt S0 n t w v S) (hx : x = nI (pz (MFw S0 n t (w + 1)))) (hy : y = frs (MFw S0 n t (w + 1))) : LSt S0 n t (w + 1) v (setA (setA S 44 t x) 45 t y) := by
  obtain ⟨h1, h2, h3, h4, h5, h6⟩ := h
  refine ⟨(h1.a (Or.inl rfl) _ _).a (Or.inr (Or.inl rfl)) _ _, fun s hs => ⟨?_, ?_, (h2 s hs).2.2.1, (h2 s hs).2.2.2⟩, ?_, ?_, h5, h6⟩
  · show upd (S.2.2.1 44) t x s = _
    rw [pk_un (by omega)]; exact (h2 s hs).1
  · show upd (S.2.2.1 45) t y s = _
    rw [pk_un (by omega)]; exact (h2 s hs).2.1
  · show upd (S.2.2.1 44) t x t = _
    rw [pk_us]; exact hx
  · show upd (S.2.2.1 45) t y t = _
    rw [pk_us]; exact hy
theorem LSt.m {S0 S : ST} {n t w v : Nat} {x y : Int32} (h : LSt S0 n t w v S) (hx : x = nI (pz (MFm S0 n t (v + 1)))) (hy : y = frs (MFm S0 n t (v + 1))) : LSt S0 n t w (v + 1) (setA (setA S 46 t x) 47 t y) := by
  obtain ⟨h1, h2, h3, h4, h5, h6⟩ := h
  refine ⟨(h1.a (Or.inr (Or.inr (Or.inl rfl))) _ _).a (Or.inr (Or.inr (Or.inr rfl))) _ _, fun s hs => ⟨(h2 s hs).1, (h2 s hs).2.1, ?_, ?_⟩, h3, h4, ?_, ?_⟩
  · show upd (S.2.2.1 46) t x s = _
    rw [pk_un (by omega)]; exact (h2 s hs).2.2.1
  · show upd (S.2.2.1 47) t y s = _
    rw [pk_un (by omega)]; exact (h2 s hs).2.2.2
  · show upd (S.2.2.1 46) t x t = _
    rw [pk_us]; exact hx
  · show upd (S.2.2.1 47) t y t = _
    rw [pk_us]; exact hy
theorem LSt.wk {S0 S : ST} {n t w v : Nat} (h : LSt S0 n t w v S) (e : MFw S0 n t (w + 1) = MFw S0 n t w) : LSt S0 n t (w + 1) v S := by
  unfold LSt at *
  rw [e]; exact h
theorem LSt.mk {S0 S : ST} {n t w v : Nat} (h : LSt S0 n t w v S) (e : MFm S0 n t (v + 1) = MFm S0 n t v) : LSt S0 n t w (v + 1) S := by
  unfold LSt at *
  rw [e]; exact h
theorem m193 {G : GX} {d n t m v h : Nat} {S0 S : ST} {Q : ST → Prop} (hE : EM S0 n) (h12 : n ≤ 12) (ht : t < 4096) (hm : m ≤ 108) (em : szs (S0.2.2.1 31) (nI t) n = nI m) (hv : v < n) (hh : h < 4096) (eh : S0.2.2.1 30 v = nI h) (hp : pts (S0.2.2.1 30) (S0.2.2.1 34) t v = true) (hL : LSt S0 n t (v + 1) v S) (K : ∀ S2, LSt S0 n t (v + 1) (v + 1) S2 → V (pM G (d + 1) mX8_laySet (qv Q)) 254 [(3, .int (nI v)), (2, .int (nI m)), (0, .ref (G.2.1 29)), (1, .int (nI t))] [] S2) : V (pM G (d + 1) mX8_laySet (qv Q)) 193 [(3, .int (nI v)), (2, .int (nI m)), (0, .ref (G.2.1 29)), (1, .int (nI t)), (4, .int (nI (t &&& h))), (5, .int (nI (nd t h)))] [] S := by
  have hNv : hN (S0.2.2.1 30) v = h := by unfold hN; rw [eh, nI_clamp (by omega)]
  obtain ⟨l1, l2⟩ := pts_lt ht hp
  rw [hNv] at l1 l2
  have hF := hL.1
  obtain ⟨c, hc1, hc2, ec⟩ := hE.2.2.1 v hv
  have e32 : S.2.2.1 32 v = nI c := by rw [hF.c (c := 32) (by decide)]; exact ec
  have hgb := gvv_b (bc := true) hE.2.2.1 hE.2.2.2 h12 ht hv hp
  have hgM : gvv true (S0.2.2.1 30) (S0.2.2.1 34) (S0.2.2.1 32) (S0.2.2.1 31) n t v = c * m + pz (PR true (S0.2.2.1 30) (S0.2.2.1 34) (S0.2.2.1 32) (S0.2.2.1 31) n (t &&& h)) + pz (PR true (S0.2.2.1 30) (S0.2.2.1 34) (S0.2.2.1 32) (S0.2.2.1 31) n (nd t h)) := by unfold gvv gvp; rw [hNv, ec, em, nI_clamp (show c < 2 ^ 31 by omega), nI_clamp (show m < 2 ^ 31 by omega)]; rfl
  refine V_aload_n dX8_laySet_193 rfl 2 rfl ?_
  refine g_29_3 tw_631 dX8_laySet_194 ?_
  refine V_iload_n dX8_laySet_197 rfl 0 rfl ?_
  refine l_32n (by omega) dX8_laySet_198 ?_
  refine V_topi (v := nI c) ((e32)) ?_
  refine V_iload_n dX8_laySet_199 rfl 1 rfl ?_
  refine V_imul dX8_laySet_200 ?_
  refine V_topi (v := nI (c * m)) (pk_mul _ _) ?_
  refine V_aload_n dX8_laySet_201 rfl 2 rfl ?_
  refine g_29_23 tw_651 dX8_laySet_202 ?_
  refine V_iload dX8_laySet_205 4 rfl ?_
  refine l_46n (by omega) dX8_laySet_207 ?_
  refine V_topi (v := nI (pz (PR true (S0.2.2.1 30) (S0.2.2.1 34) (S0.2.2.1 32) (S0.2.2.1 31) n (t &&& h)))) (((hL.2.1 _ l1).2.2.1)) ?_
  refine V_iadd dX8_laySet_208 ?_
  refine V_topi (v := nI (c * m + pz (PR true (S0.2.2.1 30) (S0.2.2.1 34) (S0.2.2.1 32) (S0.2.2.1 31) n (t &&& h)))) (nI_add _ _) ?_
  refine V_aload_n dX8_laySet_209 rfl 2 rfl ?_
  refine g_29_23 tw_651 dX8_laySet_210 ?_
  refine V_iload dX8_laySet_213 5 rfl ?_
  refine l_46n (by omega) dX8_laySet_215 ?_
  refine V_topi (v := nI (pz (PR true (S0.2.2.1 30) (S0.2.2.1 34) (S0.2.2.1 32) (S0.2.2.1 31) n (nd t h)))) (((hL.2.1 _ l2).2.2.1)) ?_
  refine V_iadd dX8_laySet_216 ?_
  refine V_topi (v := nI (gvv true (S0.2.2.1 30) (S0.2.2.1 34) (S0.2.2.1 32) (S0.2.2.1 31) n t v)) ((nI_add _ _).trans (by rw [hgM])) ?_
  refine V_istore [(7, .int (nI (gvv true (S0.2.2.1 30) (S0.2.2.1 34) (S0.2.2.1 32) (S0.2.2.1 31) n t v))), (3, .int (nI v)), (2, .int (nI m)), (0, .ref (G.2.1 29)), (1, .int (nI t)), (4, .int (nI (t &&& h))), (5, .int (nI (nd t h)))] dX8_laySet_217 (Nat.le_of_ble_eq_true rfl) rfl ?_
  rcases hmf : MFm S0 n t v with _ | q
  · have hL4p : S.2.2.1 46 t = 0 := by rw [hL.2.2.2.2.1, hmf]; rfl
    have hL4f : S.2.2.1 47 t = -6 := by rw [hL.2.2.2.2.2, hmf]; rfl
    refine V_aload_n dX8_laySet_219 rfl 3 rfl ?_
    refine g_29_24 tw_652 dX8_laySet_220 ?_
    refine V_iload_n dX8_laySet_223 rfl 4 rfl ?_
    refine l_47n (by omega) dX8_laySet_224 ?_
    refine V_topi (v := -6) ((hL4f)) ?_
    refine V_if_lt 239 dX8_laySet_225 (by decide) (fun _ => ?_) (fun hz => absurd hz (by decide))
    refine V_aload_n dX8_laySet_239 rfl 3 rfl ?_
    refine g_29_23 tw_651 dX8_laySet_240 ?_
    refine V_iload_n dX8_laySet_243 rfl 4 rfl ?_
    refine V_iload dX8_laySet_244 0 rfl ?_
    refine s_46n (by omega) dX8_laySet_246 ?_
    refine V_aload_n dX8_laySet_247 rfl 3 rfl ?_
    refine g_29_24 tw_652 dX8_laySet_248 ?_
    refine V_iload_n dX8_laySet_251 rfl 4 rfl ?_
    refine V_iload_n dX8_laySet_252 rfl 1 rfl ?_
    refine s_47n (by omega) dX8_laySet_253 ?_
    refine V_lv [(3, .int (nI v)), (2, .int (nI m)), (0, .ref (G.2.1 29)), (1, .int (nI t))] [1, 2, 3, 4] rfl ?_
    exact K _ (hL.m (by rw [show MFm S0 n t (v + 1) = some (gvv true (S0.2.2.1 30) (S0.2.2.1 34) (S0.2.2.1 32) (S0.2.2.1 31) n t v, v) from by unfold MFm at hmf ⊢; rw [mf_s, hmf, mst_n hp]]; rfl) (by rw [show MFm S0 n t (v + 1) = some (gvv true (S0.2.2.1 30) (S0.2.2.1 34) (S0.2.2.1 32) (S0.2.2.1 31) n t v, v) from by unfold MFm at hmf ⊢; rw [mf_s, hmf, mst_n hp]]; rfl))
  · have hL4p : S.2.2.1 46 t = nI (q.1) := by rw [hL.2.2.2.2.1, hmf]; rfl
    have hL4f : S.2.2.1 47 t = nI (q.2) := by rw [hL.2.2.2.2.2, hmf]; rfl
    have hb := mf_b hmf
    have hq1 : q.1 ≤ 10692 := by rw [hb.2.2.1]; exact gvv_b hE.2.2.1 hE.2.2.2 h12 ht (by omega) hb.2.1
    have hq2 : q.2 < 12 := by omega
    refine V_aload_n dX8_laySet_219 rfl 3 rfl ?_
    refine g_29_24 tw_652 dX8_laySet_220 ?_
    refine V_iload_n dX8_laySet_223 rfl 4 rfl ?_
    refine l_47n (by omega) dX8_laySet_224 ?_
    refine V_topi (v := nI (q.2)) ((hL4f)) ?_
    refine V_if_ltn 239 (a := (q.2)) dX8_laySet_225 (by decide) (by omega) (fun hz => hz.elim) (fun _ => ?_)
    refine V_iload dX8_laySet_228 0 rfl ?_
    refine V_aload_n dX8_laySet_230 rfl 3 rfl ?_
    refine g_29_23 tw_651 dX8_laySet_231 ?_
    refine V_iload_n dX8_laySet_234 rfl 4 rfl ?_
    refine l_46n (by omega) dX8_laySet_235 ?_
    refine V_topi (v := nI (q.1)) ((hL4p)) ?_
    refine V_icmp_gen 254 (a := (gvv true (S0.2.2.1 30) (S0.2.2.1 34) (S0.2.2.1 32) (S0.2.2.1 31) n t v)) (b := (q.1)) dX8_laySet_236 (by decide) (by omega) (by omega) (fun h1 => ?_) (fun h1 => ?_)
    · refine V_lv [(3, .int (nI v)), (2, .int (nI m)), (0, .ref (G.2.1 29)), (1, .int (nI t))] [1, 2, 3, 4] rfl ?_
      exact K _ (hL.mk (by unfold MFm at hmf ⊢; rw [mf_s, hmf, mst_k (by omega)]))
    · refine V_aload_n dX8_laySet_239 rfl 3 rfl ?_
      refine g_29_23 tw_651 dX8_laySet_240 ?_
      refine V_iload_n dX8_laySet_243 rfl 4 rfl ?_
      refine V_iload dX8_laySet_244 0 rfl ?_
      refine s_46n (by omega) dX8_laySet_246 ?_
      refine V_aload_n dX8_laySet_247 rfl 3 rfl ?_
      refine g_29_24 tw_652 dX8_laySet_248 ?_
      refine V_iload_n dX8_laySet_251 rfl 4 rfl ?_
      refine V_iload_n dX8_laySet_252 rfl 1 rfl ?_
      refine s_47n (by omega) dX8_laySet_253 ?_
      refine V_lv [(3, .int (nI v)), (2, .int (nI m)), (0, .ref (G.2.1 29)), (1, .int (nI t))] [1, 2, 3, 4] rfl ?_
      exact K _ (hL.m (by rw [show MFm S0 n t (v + 1) = some (gvv true (S0.2.2.1 30) (S0.2.2.1 34) (S0.2.2.1 32) (S0.2.2.1 31) n t v, v) from by unfold MFm at hmf ⊢; rw [mf_s, hmf, mst_l hp h1]]; rfl) (by rw [show MFm S0 n t (v + 1) = some (gvv true (S0.2.2.1 30) (S0.2.2.1 34) (S0.2.2.1 32) (S0.2.2.1 31) n t v, v) from by unfold MFm at hmf ⊢; rw [mf_s, hmf, mst_l hp h1]]; rfl))
theorem lp_ls2 {G : GX} {d n t m : Nat} {S0 : ST} {Q : ST → Prop} (hE : EM S0 n) (h12 : n ≤ 12) (ht : t < 4096) (hm : m ≤ 108) (em : szs (S0.2.2.1 31) (nI t) n = nI m) (hq : ∀ S2, FrL S0 S2 → LY S0 n (t + 1) S2 → Q S2) : ∀ (k v : Nat) (S : ST), v ≤ n → n - v < k → LSt S0 n t v v S → V (pM G (d + 1) mX8_laySet (qv Q)) 71 [(3, .int (nI v)), (2, .int (nI m)), (0, .ref (G.2.1 29)), (1, .int (nI t))] [] S := by
  intro k
  induction k with
  | zero => intro v S hv hk; exact absurd hk (Nat.not_lt_zero _)
  | succ k ih =>
    intro v S hv hk hL
    have hF := hL.1
    have hal : ∀ h, t &&& h ≤ t := fun h => Nat.and_le_left
    have hnl : ∀ h, nd t h ≤ t := fun h => nd_le t h
    refine V_iload_n dX8_laySet_71 rfl 0 rfl ?_
    refine V_aload_n dX8_laySet_72 rfl 2 rfl ?_
    refine g_29_0 tw_628 dX8_laySet_73 ?_
    refine V_topi (v := nI n) ((by rw [hF.1]; exact hE.1)) ?_
    refine V_icmp_gen 260 (a := v) (b := n) dX8_laySet_76 (by decide) (by omega) (by omega) (fun h1 => ?_) (fun h1 => ?_)
    · have hin : v = n := by omega
      refine V_vret rfl dX8_laySet_260 ⟨rfl, hq S hF (fun s hs => ?_)⟩
      rcases (show s < t ∨ s = t by omega) with z | z
      · exact hL.2.1 s z
      · rw [z, PR_eq ht, PR_eq ht]
        have := hL.2.2
        rw [hin] at this
        exact this
    · obtain ⟨h, hh, eh⟩ := hE.2.1 v (by omega)
      have e30 : S.2.2.1 30 v = nI h := by rw [hF.c (c := 30) (by decide)]; exact eh
      have hNv : hN (S0.2.2.1 30) v = h := by unfold hN; rw [eh, nI_clamp (by omega)]
      have hal1 := hal h
      have hnl1 := hnl h
      refine V_iload_n dX8_laySet_79 rfl 3 rfl ?_
      refine V_aload_n dX8_laySet_80 rfl 2 rfl ?_
      refine g_29_1 tw_629 dX8_laySet_81 ?_
      refine V_iload_n dX8_laySet_84 rfl 0 rfl ?_
      refine l_30n (by omega) dX8_laySet_85 ?_
      refine V_topi (v := nI h) ((e30)) ?_
      refine V_iand dX8_laySet_86 ?_
      refine V_topi (v := nI (t &&& h)) (nI_and _ _) ?_
      refine V_istore [(4, .int (nI (t &&& h))), (3, .int (nI v)), (2, .int (nI m)), (0, .ref (G.2.1 29)), (1, .int (nI t))] dX8_laySet_87 (Nat.le_of_ble_eq_true rfl) rfl ?_
      refine V_iload_n dX8_laySet_89 rfl 4 rfl ?_
      refine V_aload_n dX8_laySet_90 rfl 3 rfl ?_
      refine g_29_1 tw_629 dX8_laySet_91 ?_
      refine V_iload_n dX8_laySet_94 rfl 1 rfl ?_
      refine l_30n (by omega) dX8_laySet_95 ?_
      refine V_topi (v := nI h) ((e30)) ?_
      refine V_iconst (v := -1) dX8_laySet_96 ki_m1 ?_
      refine V_ixor dX8_laySet_97 ?_
      refine V_iand dX8_laySet_98 ?_
      refine V_topi (v := nI (nd t h)) (nI_nd _ ht) ?_
      refine V_istore [(5, .int (nI (nd t h))), (4, .int (nI (t &&& h))), (3, .int (nI v)), (2, .int (nI m)), (0, .ref (G.2.1 29)), (1, .int (nI t))] dX8_laySet_99 (Nat.le_of_ble_eq_true rfl) rfl ?_
      refine V_aload_n dX8_laySet_101 rfl 4 rfl ?_
      refine g_29_5 tw_633 dX8_laySet_102 ?_
      refine V_iload_n dX8_laySet_105 rfl 2 rfl ?_
      refine l_34n (by omega) dX8_laySet_106 ?_
      refine V_if_ne 254 dX8_laySet_107 (by decide) (fun h2 => ?_) (fun h2 => ?_)
      · have hnp : pts (S0.2.2.1 30) (S0.2.2.1 34) t v = false := by unfold pts; rw [decide_eq_false (fun z => h2 (by rw [hF.c (c := 34) (by decide)]; exact z))]; rfl
        refine V_iinc [(3, .int (nI (v + 1))), (5, .int (nI (nd t h))), (4, .int (nI (t &&& h))), (2, .int (nI m)), (0, .ref (G.2.1 29)), (1, .int (nI t))] dX8_laySet_254 2 rfl (nI_1 _) (Nat.le_of_ble_eq_true rfl) rfl ?_
        refine V_goto 71 dX8_laySet_257 (by decide) ?_
        refine V_lv [(3, .int (nI (v + 1))), (2, .int (nI m)), (0, .ref (G.2.1 29)), (1, .int (nI t))] [0, 3, 4, 5] rfl ?_
        exact ih (v + 1) S (by omega) (by omega) ((hL.wk (by unfold MFw; rw [mf_s, mst_f hnp])).mk (by unfold MFm; rw [mf_s, mst_f hnp]))
      · refine V_iload dX8_laySet_110 1 rfl ?_
        refine V_if_eqn 254 (a := (t &&& h)) dX8_laySet_112 (by decide) (by omega) (fun h3 => ?_) (fun h3 => ?_)
        · have hnp : pts (S0.2.2.1 30) (S0.2.2.1 34) t v = false := by unfold pts; rw [hNv, decide_eq_false (p := ¬ t &&& h = 0) (fun z => z h3), Bool.false_and, Bool.and_false]
          refine V_iinc [(3, .int (nI (v + 1))), (5, .int (nI (nd t h))), (4, .int (nI (t &&& h))), (2, .int (nI m)), (0, .ref (G.2.1 29)), (1, .int (nI t))] dX8_laySet_254 2 rfl (nI_1 _) (Nat.le_of_ble_eq_true rfl) rfl ?_
          refine V_goto 71 dX8_laySet_257 (by decide) ?_
          refine V_lv [(3, .int (nI (v + 1))), (2, .int (nI m)), (0, .ref (G.2.1 29)), (1, .int (nI t))] [0, 3, 4, 5] rfl ?_
          exact ih (v + 1) S (by omega) (by omega) ((hL.wk (by unfold MFw; rw [mf_s, mst_f hnp])).mk (by unfold MFm; rw [mf_s, mst_f hnp]))
        · refine V_iload dX8_laySet_115 0 rfl ?_
          refine V_if_eqn 254 (a := (nd t h)) dX8_laySet_117 (by decide) (by omega) (fun h4 => ?_) (fun h4 => ?_)
          · have hnp : pts (S0.2.2.1 30) (S0.2.2.1 34) t v = false := by unfold pts; rw [hNv, decide_eq_false (p := ¬ nd t h = 0) (fun z => z h4), Bool.and_false, Bool.and_false]
            refine V_iinc [(3, .int (nI (v + 1))), (5, .int (nI (nd t h))), (4, .int (nI (t &&& h))), (2, .int (nI m)), (0, .ref (G.2.1 29)), (1, .int (nI t))] dX8_laySet_254 2 rfl (nI_1 _) (Nat.le_of_ble_eq_true rfl) rfl ?_
            refine V_goto 71 dX8_laySet_257 (by decide) ?_
            refine V_lv [(3, .int (nI (v + 1))), (2, .int (nI m)), (0, .ref (G.2.1 29)), (1, .int (nI t))] [0, 3, 4, 5] rfl ?_
            exact ih (v + 1) S (by omega) (by omega) ((hL.wk (by unfold MFw; rw [mf_s, mst_f hnp])).mk (by unfold MFm; rw [mf_s, mst_f hnp]))
          · have hp : pts (S0.2.2.1 30) (S0.2.2.1 34) t v = true := by unfold pts; rw [hNv, decide_eq_true (show S0.2.2.1 34 v = 0 by rw [← hF.c (c := 34) (by decide)]; exact h2), decide_eq_true (show ¬ t &&& h = 0 by omega), decide_eq_true (show ¬ nd t h = 0 by omega)]; rfl
            obtain ⟨l1, l2⟩ := pts_lt ht hp
            rw [hNv] at l1 l2
            have hgb := gvv_b (bc := false) hE.2.2.1 hE.2.2.2 h12 ht h1 hp
            have hgW : gvv false (S0.2.2.1 30) (S0.2.2.1 34) (S0.2.2.1 32) (S0.2.2.1 31) n t v = 1 + max (pz (PR false (S0.2.2.1 30) (S0.2.2.1 34) (S0.2.2.1 32) (S0.2.2.1 31) n (t &&& h))) (pz (PR false (S0.2.2.1 30) (S0.2.2.1 34) (S0.2.2.1 32) (S0.2.2.1 31) n (nd t h))) := by unfold gvv gvp; rw [hNv]; rfl
            have hpa := PR_b2 (bc := false) (ho := S0.2.2.1 30) (df := S0.2.2.1 34) hE.2.2.1 hE.2.2.2 h12 (show t &&& h < 4096 by omega)
            have hpb := PR_b2 (bc := false) (ho := S0.2.2.1 30) (df := S0.2.2.1 34) hE.2.2.1 hE.2.2.2 h12 (show nd t h < 4096 by omega)
            refine V_iconst (v := 1) dX8_laySet_120 ki_1 ?_
            refine V_aload_n dX8_laySet_121 rfl 4 rfl ?_
            refine g_29_21 tw_649 dX8_laySet_122 ?_
            refine V_iload dX8_laySet_125 1 rfl ?_
            refine l_44n (by omega) dX8_laySet_127 ?_
            refine V_topi (v := nI (pz (PR false (S0.2.2.1 30) (S0.2.2.1 34) (S0.2.2.1 32) (S0.2.2.1 31) n (t &&& h)))) (((hL.2.1 _ l1).1)) ?_
            refine V_aload_n dX8_laySet_128 rfl 4 rfl ?_
            refine g_29_21 tw_649 dX8_laySet_129 ?_
            refine V_iload dX8_laySet_132 0 rfl ?_
            refine l_44n (by omega) dX8_laySet_134 ?_
            refine V_topi (v := nI (pz (PR false (S0.2.2.1 30) (S0.2.2.1 34) (S0.2.2.1 32) (S0.2.2.1 31) n (nd t h)))) (((hL.2.1 _ l2).1)) ?_
            refine V_icmp_len 148 (a := (pz (PR false (S0.2.2.1 30) (S0.2.2.1 34) (S0.2.2.1 32) (S0.2.2.1 31) n (t &&& h)))) (b := (pz (PR false (S0.2.2.1 30) (S0.2.2.1 34) (S0.2.2.1 32) (S0.2.2.1 31) n (nd t h)))) dX8_laySet_135 (by decide) (by omega) (by omega) (fun hle => ?_) (fun hle => ?_)
            · refine V_aload_n dX8_laySet_148 rfl 4 rfl ?_
              refine g_29_21 tw_649 dX8_laySet_149 ?_
              refine V_iload dX8_laySet_152 0 rfl ?_
              refine l_44n (by omega) dX8_laySet_154 ?_
              refine V_topi (v := nI (pz (PR false (S0.2.2.1 30) (S0.2.2.1 34) (S0.2.2.1 32) (S0.2.2.1 31) n (nd t h)))) (((hL.2.1 _ l2).1)) ?_
              refine V_iadd dX8_laySet_155 ?_
              refine V_topi (v := nI (gvv false (S0.2.2.1 30) (S0.2.2.1 34) (S0.2.2.1 32) (S0.2.2.1 31) n t v)) ((nI_add 1 _).trans (by rw [hgW, show max (pz (PR false (S0.2.2.1 30) (S0.2.2.1 34) (S0.2.2.1 32) (S0.2.2.1 31) n (t &&& h))) (pz (PR false (S0.2.2.1 30) (S0.2.2.1 34) (S0.2.2.1 32) (S0.2.2.1 31) n (nd t h))) = pz (PR false (S0.2.2.1 30) (S0.2.2.1 34) (S0.2.2.1 32) (S0.2.2.1 31) n (nd t h)) by omega])) ?_
              refine V_istore [(6, .int (nI (gvv false (S0.2.2.1 30) (S0.2.2.1 34) (S0.2.2.1 32) (S0.2.2.1 31) n t v))), (5, .int (nI (nd t h))), (4, .int (nI (t &&& h))), (3, .int (nI v)), (2, .int (nI m)), (0, .ref (G.2.1 29)), (1, .int (nI t))] dX8_laySet_156 (Nat.le_of_ble_eq_true rfl) rfl ?_
              rcases hmf : MFw S0 n t v with _ | q
              · have hL4p : S.2.2.1 44 t = 0 := by rw [hL.2.2.1, hmf]; rfl
                have hL4f : S.2.2.1 45 t = -6 := by rw [hL.2.2.2.1, hmf]; rfl
                refine V_aload_n dX8_laySet_158 rfl 5 rfl ?_
                refine g_29_22 tw_650 dX8_laySet_159 ?_
                refine V_iload_n dX8_laySet_162 rfl 6 rfl ?_
                refine l_45n (by omega) dX8_laySet_163 ?_
                refine V_topi (v := -6) ((hL4f)) ?_
                refine V_if_lt 178 dX8_laySet_164 (by decide) (fun _ => ?_) (fun hz => absurd hz (by decide))
                refine V_aload_n dX8_laySet_178 rfl 5 rfl ?_
                refine g_29_21 tw_649 dX8_laySet_179 ?_
                refine V_iload_n dX8_laySet_182 rfl 6 rfl ?_
                refine V_iload dX8_laySet_183 0 rfl ?_
                refine s_44n (by omega) dX8_laySet_185 ?_
                refine V_aload_n dX8_laySet_186 rfl 5 rfl ?_
                refine g_29_22 tw_650 dX8_laySet_187 ?_
                refine V_iload_n dX8_laySet_190 rfl 6 rfl ?_
                refine V_iload_n dX8_laySet_191 rfl 3 rfl ?_
                refine s_45n (by omega) dX8_laySet_192 ?_
                refine V_lv [(3, .int (nI v)), (2, .int (nI m)), (0, .ref (G.2.1 29)), (1, .int (nI t)), (4, .int (nI (t &&& h))), (5, .int (nI (nd t h)))] [3, 4, 5, 6, 2, 1] rfl ?_
                refine m193 hE h12 ht hm em h1 hh eh hp (hL.w (by rw [show MFw S0 n t (v + 1) = some (gvv false (S0.2.2.1 30) (S0.2.2.1 34) (S0.2.2.1 32) (S0.2.2.1 31) n t v, v) from by unfold MFw at hmf ⊢; rw [mf_s, hmf, mst_n hp]]; rfl) (by rw [show MFw S0 n t (v + 1) = some (gvv false (S0.2.2.1 30) (S0.2.2.1 34) (S0.2.2.1 32) (S0.2.2.1 31) n t v, v) from by unfold MFw at hmf ⊢; rw [mf_s, hmf, mst_n hp]]; rfl)) (fun S2 hL2 => ?_)
                refine V_iinc [(3, .int (nI (v + 1))), (2, .int (nI m)), (0, .ref (G.2.1 29)), (1, .int (nI t))] dX8_laySet_254 0 rfl (nI_1 _) (Nat.le_of_ble_eq_true rfl) rfl ?_
                refine V_goto 71 dX8_laySet_257 (by decide) ?_
                refine V_lv [(3, .int (nI (v + 1))), (2, .int (nI m)), (0, .ref (G.2.1 29)), (1, .int (nI t))] [0, 1, 2, 3] rfl ?_
                exact ih (v + 1) S2 (by omega) (by omega) hL2
              · have hL4p : S.2.2.1 44 t = nI (q.1) := by rw [hL.2.2.1, hmf]; rfl
                have hL4f : S.2.2.1 45 t = nI (q.2) := by rw [hL.2.2.2.1, hmf]; rfl
                have hb := mf_b hmf
                have hq1 : q.1 ≤ 10692 := by rw [hb.2.2.1]; exact gvv_b hE.2.2.1 hE.2.2.2 h12 ht (by omega) hb.2.1
                have hq2 : q.2 < 12 := by omega
                refine V_aload_n dX8_laySet_158 rfl 5 rfl ?_
                refine g_29_22 tw_650 dX8_laySet_159 ?_
                refine V_iload_n dX8_laySet_162 rfl 6 rfl ?_
                refine l_45n (by omega) dX8_laySet_163 ?_
                refine V_topi (v := nI (q.2)) ((hL4f)) ?_
                refine V_if_ltn 178 (a := (q.2)) dX8_laySet_164 (by decide) (by omega) (fun hz => hz.elim) (fun _ => ?_)
                refine V_iload dX8_laySet_167 0 rfl ?_
                refine V_aload_n dX8_laySet_169 rfl 5 rfl ?_
                refine g_29_21 tw_649 dX8_laySet_170 ?_
                refine V_iload_n dX8_laySet_173 rfl 6 rfl ?_
                refine l_44n (by omega) dX8_laySet_174 ?_
                refine V_topi (v := nI (q.1)) ((hL4p)) ?_
                refine V_icmp_gen 193 (a := (gvv false (S0.2.2.1 30) (S0.2.2.1 34) (S0.2.2.1 32) (S0.2.2.1 31) n t v)) (b := (q.1)) dX8_laySet_175 (by decide) (by omega) (by omega) (fun h5 => ?_) (fun h5 => ?_)
                · refine V_lv [(3, .int (nI v)), (2, .int (nI m)), (0, .ref (G.2.1 29)), (1, .int (nI t)), (4, .int (nI (t &&& h))), (5, .int (nI (nd t h)))] [3, 4, 5, 6, 2, 1] rfl ?_
                  refine m193 hE h12 ht hm em h1 hh eh hp (hL.wk (by unfold MFw at hmf ⊢; rw [mf_s, hmf, mst_k (by omega)])) (fun S2 hL2 => ?_)
                  refine V_iinc [(3, .int (nI (v + 1))), (2, .int (nI m)), (0, .ref (G.2.1 29)), (1, .int (nI t))] dX8_laySet_254 0 rfl (nI_1 _) (Nat.le_of_ble_eq_true rfl) rfl ?_
                  refine V_goto 71 dX8_laySet_257 (by decide) ?_
                  refine V_lv [(3, .int (nI (v + 1))), (2, .int (nI m)), (0, .ref (G.2.1 29)), (1, .int (nI t))] [0, 1, 2, 3] rfl ?_
                  exact ih (v + 1) S2 (by omega) (by omega) hL2
                · refine V_aload_n dX8_laySet_178 rfl 5 rfl ?_
                  refine g_29_21 tw_649 dX8_laySet_179 ?_
                  refine V_iload_n dX8_laySet_182 rfl 6 rfl ?_
                  refine V_iload dX8_laySet_183 0 rfl ?_
                  refine s_44n (by omega) dX8_laySet_185 ?_
                  refine V_aload_n dX8_laySet_186 rfl 5 rfl ?_
                  refine g_29_22 tw_650 dX8_laySet_187 ?_
                  refine V_iload_n dX8_laySet_190 rfl 6 rfl ?_
                  refine V_iload_n dX8_laySet_191 rfl 3 rfl ?_
                  refine s_45n (by omega) dX8_laySet_192 ?_
                  refine V_lv [(3, .int (nI v)), (2, .int (nI m)), (0, .ref (G.2.1 29)), (1, .int (nI t)), (4, .int (nI (t &&& h))), (5, .int (nI (nd t h)))] [3, 4, 5, 6, 2, 1] rfl ?_
                  refine m193 hE h12 ht hm em h1 hh eh hp (hL.w (by rw [show MFw S0 n t (v + 1) = some (gvv false (S0.2.2.1 30) (S0.2.2.1 34) (S0.2.2.1 32) (S0.2.2.1 31) n t v, v) from by unfold MFw at hmf ⊢; rw [mf_s, hmf, mst_l hp h5]]; rfl) (by rw [show MFw S0 n t (v + 1) = some (gvv false (S0.2.2.1 30) (S0.2.2.1 34) (S0.2.2.1 32) (S0.2.2.1 31) n t v, v) from by unfold MFw at hmf ⊢; rw [mf_s, hmf, mst_l hp h5]]; rfl)) (fun S2 hL2 => ?_)
                  refine V_iinc [(3, .int (nI (v + 1))), (2, .int (nI m)), (0, .ref (G.2.1 29)), (1, .int (nI t))] dX8_laySet_254 0 rfl (nI_1 _) (Nat.le_of_ble_eq_true rfl) rfl ?_
                  refine V_goto 71 dX8_laySet_257 (by decide) ?_
                  refine V_lv [(3, .int (nI (v + 1))), (2, .int (nI m)), (0, .ref (G.2.1 29)), (1, .int (nI t))] [0, 1, 2, 3] rfl ?_
                  exact ih (v + 1) S2 (by omega) (by omega) hL2
            · refine V_aload_n dX8_laySet_138 rfl 4 rfl ?_
              refine g_29_21 tw_649 dX8_laySet_139 ?_
              refine V_iload dX8_laySet_142 1 rfl ?_
              refine l_44n (by omega) dX8_laySet_144 ?_
              refine V_topi (v := nI (pz (PR false (S0.2.2.1 30) (S0.2.2.1 34) (S0.2.2.1 32) (S0.2.2.1 31) n (t &&& h)))) (((hL.2.1 _ l1).1)) ?_
              refine V_goto 155 dX8_laySet_145 (by decide) ?_
              refine V_iadd dX8_laySet_155 ?_
              refine V_topi (v := nI (gvv false (S0.2.2.1 30) (S0.2.2.1 34) (S0.2.2.1 32) (S0.2.2.1 31) n t v)) ((nI_add 1 _).trans (by rw [hgW, show max (pz (PR false (S0.2.2.1 30) (S0.2.2.1 34) (S0.2.2.1 32) (S0.2.2.1 31) n (t &&& h))) (pz (PR false (S0.2.2.1 30) (S0.2.2.1 34) (S0.2.2.1 32) (S0.2.2.1 31) n (nd t h))) = pz (PR false (S0.2.2.1 30) (S0.2.2.1 34) (S0.2.2.1 32) (S0.2.2.1 31) n (t &&& h)) by omega])) ?_
              refine V_istore [(6, .int (nI (gvv false (S0.2.2.1 30) (S0.2.2.1 34) (S0.2.2.1 32) (S0.2.2.1 31) n t v))), (5, .int (nI (nd t h))), (4, .int (nI (t &&& h))), (3, .int (nI v)), (2, .int (nI m)), (0, .ref (G.2.1 29)), (1, .int (nI t))] dX8_laySet_156 (Nat.le_of_ble_eq_true rfl) rfl ?_
              rcases hmf : MFw S0 n t v with _ | q
              · have hL4p : S.2.2.1 44 t = 0 := by rw [hL.2.2.1, hmf]; rfl
                have hL4f : S.2.2.1 45 t = -6 := by rw [hL.2.2.2.1, hmf]; rfl
                refine V_aload_n dX8_laySet_158 rfl 5 rfl ?_
                refine g_29_22 tw_650 dX8_laySet_159 ?_
                refine V_iload_n dX8_laySet_162 rfl 6 rfl ?_
                refine l_45n (by omega) dX8_laySet_163 ?_
                refine V_topi (v := -6) ((hL4f)) ?_
                refine V_if_lt 178 dX8_laySet_164 (by decide) (fun _ => ?_) (fun hz => absurd hz (by decide))
                refine V_aload_n dX8_laySet_178 rfl 5 rfl ?_
                refine g_29_21 tw_649 dX8_laySet_179 ?_
                refine V_iload_n dX8_laySet_182 rfl 6 rfl ?_
                refine V_iload dX8_laySet_183 0 rfl ?_
                refine s_44n (by omega) dX8_laySet_185 ?_
                refine V_aload_n dX8_laySet_186 rfl 5 rfl ?_
                refine g_29_22 tw_650 dX8_laySet_187 ?_
                refine V_iload_n dX8_laySet_190 rfl 6 rfl ?_
                refine V_iload_n dX8_laySet_191 rfl 3 rfl ?_
                refine s_45n (by omega) dX8_laySet_192 ?_
                refine V_lv [(3, .int (nI v)), (2, .int (nI m)), (0, .ref (G.2.1 29)), (1, .int (nI t)), (4, .int (nI (t &&& h))), (5, .int (nI (nd t h)))] [3, 4, 5, 6, 2, 1] rfl ?_
                refine m193 hE h12 ht hm em h1 hh eh hp (hL.w (by rw [show MFw S0 n t (v + 1) = some (gvv false (S0.2.2.1 30) (S0.2.2.1 34) (S0.2.2.1 32) (S0.2.2.1 31) n t v, v) from by unfold MFw at hmf ⊢; rw [mf_s, hmf, mst_n hp]]; rfl) (by rw [show MFw S0 n t (v + 1) = some (gvv false (S0.2.2.1 30) (S0.2.2.1 34) (S0.2.2.1 32) (S0.2.2.1 31) n t v, v) from by unfold MFw at hmf ⊢; rw [mf_s, hmf, mst_n hp]]; rfl)) (fun S2 hL2 => ?_)
                refine V_iinc [(3, .int (nI (v + 1))), (2, .int (nI m)), (0, .ref (G.2.1 29)), (1, .int (nI t))] dX8_laySet_254 0 rfl (nI_1 _) (Nat.le_of_ble_eq_true rfl) rfl ?_
                refine V_goto 71 dX8_laySet_257 (by decide) ?_
                refine V_lv [(3, .int (nI (v + 1))), (2, .int (nI m)), (0, .ref (G.2.1 29)), (1, .int (nI t))] [0, 1, 2, 3] rfl ?_
                exact ih (v + 1) S2 (by omega) (by omega) hL2
              · have hL4p : S.2.2.1 44 t = nI (q.1) := by rw [hL.2.2.1, hmf]; rfl
                have hL4f : S.2.2.1 45 t = nI (q.2) := by rw [hL.2.2.2.1, hmf]; rfl
                have hb := mf_b hmf
                have hq1 : q.1 ≤ 10692 := by rw [hb.2.2.1]; exact gvv_b hE.2.2.1 hE.2.2.2 h12 ht (by omega) hb.2.1
                have hq2 : q.2 < 12 := by omega
                refine V_aload_n dX8_laySet_158 rfl 5 rfl ?_
                refine g_29_22 tw_650 dX8_laySet_159 ?_
                refine V_iload_n dX8_laySet_162 rfl 6 rfl ?_
                refine l_45n (by omega) dX8_laySet_163 ?_
                refine V_topi (v := nI (q.2)) ((hL4f)) ?_
                refine V_if_ltn 178 (a := (q.2)) dX8_laySet_164 (by decide) (by omega) (fun hz => hz.elim) (fun _ => ?_)
                refine V_iload dX8_laySet_167 0 rfl ?_
                refine V_aload_n dX8_laySet_169 rfl 5 rfl ?_
                refine g_29_21 tw_649 dX8_laySet_170 ?_
                refine V_iload_n dX8_laySet_173 rfl 6 rfl ?_
                refine l_44n (by omega) dX8_laySet_174 ?_
                refine V_topi (v := nI (q.1)) ((hL4p)) ?_
                refine V_icmp_gen 193 (a := (gvv false (S0.2.2.1 30) (S0.2.2.1 34) (S0.2.2.1 32) (S0.2.2.1 31) n t v)) (b := (q.1)) dX8_laySet_175 (by decide) (by omega) (by omega) (fun h6 => ?_) (fun h6 => ?_)
                · refine V_lv [(3, .int (nI v)), (2, .int (nI m)), (0, .ref (G.2.1 29)), (1, .int (nI t)), (4, .int (nI (t &&& h))), (5, .int (nI (nd t h)))] [3, 4, 5, 6, 2, 1] rfl ?_
                  refine m193 hE h12 ht hm em h1 hh eh hp (hL.wk (by unfold MFw at hmf ⊢; rw [mf_s, hmf, mst_k (by omega)])) (fun S2 hL2 => ?_)
                  refine V_iinc [(3, .int (nI (v + 1))), (2, .int (nI m)), (0, .ref (G.2.1 29)), (1, .int (nI t))] dX8_laySet_254 0 rfl (nI_1 _) (Nat.le_of_ble_eq_true rfl) rfl ?_
                  refine V_goto 71 dX8_laySet_257 (by decide) ?_
                  refine V_lv [(3, .int (nI (v + 1))), (2, .int (nI m)), (0, .ref (G.2.1 29)), (1, .int (nI t))] [0, 1, 2, 3] rfl ?_
                  exact ih (v + 1) S2 (by omega) (by omega) hL2
                · refine V_aload_n dX8_laySet_178 rfl 5 rfl ?_
                  refine g_29_21 tw_649 dX8_laySet_179 ?_
                  refine V_iload_n dX8_laySet_182 rfl 6 rfl ?_
                  refine V_iload dX8_laySet_183 0 rfl ?_
                  refine s_44n (by omega) dX8_laySet_185 ?_
                  refine V_aload_n dX8_laySet_186 rfl 5 rfl ?_
                  refine g_29_22 tw_650 dX8_laySet_187 ?_
                  refine V_iload_n dX8_laySet_190 rfl 6 rfl ?_
                  refine V_iload_n dX8_laySet_191 rfl 3 rfl ?_
                  refine s_45n (by omega) dX8_laySet_192 ?_
                  refine V_lv [(3, .int (nI v)), (2, .int (nI m)), (0, .ref (G.2.1 29)), (1, .int (nI t)), (4, .int (nI (t &&& h))), (5, .int (nI (nd t h)))] [3, 4, 5, 6, 2, 1] rfl ?_
                  refine m193 hE h12 ht hm em h1 hh eh hp (hL.w (by rw [show MFw S0 n t (v + 1) = some (gvv false (S0.2.2.1 30) (S0.2.2.1 34) (S0.2.2.1 32) (S0.2.2.1 31) n t v, v) from by unfold MFw at hmf ⊢; rw [mf_s, hmf, mst_l hp h6]]; rfl) (by rw [show MFw S0 n t (v + 1) = some (gvv false (S0.2.2.1 30) (S0.2.2.1 34) (S0.2.2.1 32) (S0.2.2.1 31) n t v, v) from by unfold MFw at hmf ⊢; rw [mf_s, hmf, mst_l hp h6]]; rfl)) (fun S2 hL2 => ?_)
                  refine V_iinc [(3, .int (nI (v + 1))), (2, .int (nI m)), (0, .ref (G.2.1 29)), (1, .int (nI t))] dX8_laySet_254 0 rfl (nI_1 _) (Nat.le_of_ble_eq_true rfl) rfl ?_
                  refine V_goto 71 dX8_laySet_257 (by decide) ?_
                  refine V_lv [(3, .int (nI (v + 1))), (2, .int (nI m)), (0, .ref (G.2.1 29)), (1, .int (nI t))] [0, 1, 2, 3] rfl ?_
                  exact ih (v + 1) S2 (by omega) (by omega) hL2
theorem lp_ls1 {G : GX} {d n t : Nat} {S : ST} {Q : ST → Prop} (hn : S.1 10 = nI n) (h12 : n ≤ 12) (K : V (pM G (d + 1) mX8_laySet (qv Q)) 69 [(2, .int (szs (S.2.2.1 31) (nI t) n)), (0, .ref (G.2.1 29)), (1, .int (nI t))] [] S) : ∀ (k i : Nat), i ≤ n → n - i < k → V (pM G (d + 1) mX8_laySet (qv Q)) 34 [(3, .int (nI i)), (2, .int (szs (S.2.2.1 31) (nI t) i)), (0, .ref (G.2.1 29)), (1, .int (nI t))] [] S := by
  intro k
  induction k with
  | zero => intro i hi hk; exact absurd hk (Nat.not_lt_zero _)
  | succ k ih =>
    intro i hi hk
    refine V_iload_n dX8_laySet_34 rfl 0 rfl ?_
    refine V_aload_n dX8_laySet_35 rfl 2 rfl ?_
    refine g_29_0 tw_628 dX8_laySet_36 ?_
    refine V_topi (v := nI n) (id hn) ?_
    refine V_icmp_gen 69 (a := i) (b := n) dX8_laySet_39 (by decide) (by omega) (by omega) (fun h1 => ?_) (fun h1 => ?_)
    · refine V_lv [(2, .int (szs (S.2.2.1 31) (nI t) i)), (0, .ref (G.2.1 29)), (1, .int (nI t))] [1, 2, 3] rfl ?_
      have hin : i = n := by omega
      subst hin
      exact K
    · refine V_iload_n dX8_laySet_42 rfl 1 rfl ?_
      refine V_iload_n dX8_laySet_43 rfl 3 rfl ?_
      refine V_iload_n dX8_laySet_44 rfl 0 rfl ?_
      refine V_cSi (P := pM G (d + 1) mX8_laySet _) (d := d) (r := [.int (szs (S.2.2.1 31) (nI t) i)]) (As := [.int (nI t), .int (nI i)]) (K := mX8_hasBit) ok_X8_hasBit tw_772 rfl (rmOk (Nat.le_of_ble_eq_true rfl)) (Nat.le_of_ble_eq_true rfl) dX8_laySet_45 rfl (c_X8_hasBit (by omega) ?_)
      refine V_ifb_eq 60 dX8_laySet_48 (by decide) (fun h2 => ?_) (fun h2 => ?_)
      · refine V_iconst (v := 0) dX8_laySet_60 ki_0 ?_
        refine V_iadd dX8_laySet_61 ?_
        refine V_istore_n [(2, .int ((szs (S.2.2.1 31) (nI t) i) + 0)), (3, .int (nI i)), (0, .ref (G.2.1 29)), (1, .int (nI t))] dX8_laySet_62 rfl (Nat.le_of_ble_eq_true rfl) rfl ?_
        refine V_iinc [(3, .int (nI (i + 1))), (2, .int ((szs (S.2.2.1 31) (nI t) i) + 0)), (0, .ref (G.2.1 29)), (1, .int (nI t))] dX8_laySet_63 1 rfl (nI_1 _) (Nat.le_of_ble_eq_true rfl) rfl ?_
        refine V_goto 34 dX8_laySet_66 (by decide) ?_
        refine V_lv [(3, .int (nI (i + 1))), (2, .int ((szs (S.2.2.1 31) (nI t) i) + 0)), (0, .ref (G.2.1 29)), (1, .int (nI t))] [0, 1, 2, 3] rfl ?_
        refine V_lveq [(3, .int (nI (i + 1))), (2, .int (szs (S.2.2.1 31) (nI t) (i + 1))), (0, .ref (G.2.1 29)), (1, .int (nI t))] (by rw [szs_f h2, Int32.add_zero]) ?_
        exact ih (i + 1) (by omega) (by omega)
      · refine V_aload_n dX8_laySet_51 rfl 2 rfl ?_
        refine g_29_2 tw_630 dX8_laySet_52 ?_
        refine V_iload_n dX8_laySet_55 rfl 0 rfl ?_
        refine l_31n (by omega) dX8_laySet_56 ?_
        refine V_goto 61 dX8_laySet_57 (by decide) ?_
        refine V_iadd dX8_laySet_61 ?_
        refine V_istore_n [(2, .int ((szs (S.2.2.1 31) (nI t) i) + (S.2.2.1 31 i))), (3, .int (nI i)), (0, .ref (G.2.1 29)), (1, .int (nI t))] dX8_laySet_62 rfl (Nat.le_of_ble_eq_true rfl) rfl ?_
        refine V_iinc [(3, .int (nI (i + 1))), (2, .int ((szs (S.2.2.1 31) (nI t) i) + (S.2.2.1 31 i))), (0, .ref (G.2.1 29)), (1, .int (nI t))] dX8_laySet_63 1 rfl (nI_1 _) (Nat.le_of_ble_eq_true rfl) rfl ?_
        refine V_goto 34 dX8_laySet_66 (by decide) ?_
        refine V_lv [(3, .int (nI (i + 1))), (2, .int ((szs (S.2.2.1 31) (nI t) i) + (S.2.2.1 31 i))), (0, .ref (G.2.1 29)), (1, .int (nI t))] [0, 1, 2, 3] rfl ?_
        refine V_lveq [(3, .int (nI (i + 1))), (2, .int (szs (S.2.2.1 31) (nI t) (i + 1))), (0, .ref (G.2.1 29)), (1, .int (nI t))] (by rw [szs_t h2]) ?_
        exact ih (i + 1) (by omega) (by omega)
theorem LSt_0 {S0 S : ST} {n t : Nat} (h : FrL S0 S) (hY : LY S0 n t S) : LSt S0 n t 0 0 (setA (setA (setA (setA S 44 t 0) 46 t 0) 45 t (-6)) 47 t (-6)) := by
  refine ⟨(((h.a (Or.inl rfl) _ _).a (Or.inr (Or.inr (Or.inl rfl))) _ _).a (Or.inr (Or.inl rfl)) _ _).a (Or.inr (Or.inr (Or.inr rfl))) _ _, fun s hs => ⟨?_, ?_, ?_, ?_⟩, ?_, ?_, ?_, ?_⟩
  · show upd (S.2.2.1 44) t 0 s = _
    rw [pk_un (by omega)]; exact (hY s hs).1
  · show upd (S.2.2.1 45) t (-6) s = _
    rw [pk_un (by omega)]; exact (hY s hs).2.1
  · show upd (S.2.2.1 46) t 0 s = _
    rw [pk_un (by omega)]; exact (hY s hs).2.2.1
  · show upd (S.2.2.1 47) t (-6) s = _
    rw [pk_un (by omega)]; exact (hY s hs).2.2.2
  · show upd (S.2.2.1 44) t 0 t = _
    rw [pk_us]; rfl
  · show upd (S.2.2.1 45) t (-6) t = _
    rw [pk_us]; rfl
  · show upd (S.2.2.1 46) t 0 t = _
    rw [pk_us]; rfl
  · show upd (S.2.2.1 47) t (-6) t = _
    rw [pk_us]; rfl
theorem c_X8_laySet {G : GX} {d : Nat} {S : ST} {n t : Nat} {S0 : ST} {Q : ST → Prop} (hE : EM S0 n) (h12 : n ≤ 12) (ht : t < 4096) (hF : FrL S0 S) (hY : LY S0 n t S) (hq : ∀ S2, FrL S0 S2 → LY S0 n (t + 1) S2 → Q S2) : Cn G (d + 1) mX8_laySet [.ref (G.2.1 29), .int (nI t)] S (qv Q) := by
  refine Cn.intro (lv := [(0, .ref (G.2.1 29)), (1, .int (nI t))]) (by decide) (Nat.le_of_ble_eq_true rfl) rfl ?_
  refine V_aload_n dX8_laySet_0 rfl 0 rfl ?_
  refine g_29_21 tw_649 dX8_laySet_1 ?_
  refine V_iload_n dX8_laySet_4 rfl 1 rfl ?_
  refine V_iconst (v := 0) dX8_laySet_5 ki_0 ?_
  refine s_44n (by omega) dX8_laySet_6 ?_
  refine V_aload_n dX8_laySet_7 rfl 0 rfl ?_
  refine g_29_23 tw_651 dX8_laySet_8 ?_
  refine V_iload_n dX8_laySet_11 rfl 1 rfl ?_
  refine V_iconst (v := 0) dX8_laySet_12 ki_0 ?_
  refine s_46n (by omega) dX8_laySet_13 ?_
  refine V_aload_n dX8_laySet_14 rfl 0 rfl ?_
  refine g_29_22 tw_650 dX8_laySet_15 ?_
  refine V_iload_n dX8_laySet_18 rfl 1 rfl ?_
  refine V_bipush (v := -6) dX8_laySet_19 kb_m6 ?_
  refine s_45n (by omega) dX8_laySet_21 ?_
  refine V_aload_n dX8_laySet_22 rfl 0 rfl ?_
  refine g_29_24 tw_652 dX8_laySet_23 ?_
  refine V_iload_n dX8_laySet_26 rfl 1 rfl ?_
  refine V_bipush (v := -6) dX8_laySet_27 kb_m6 ?_
  refine s_47n (by omega) dX8_laySet_29 ?_
  refine V_iconst (v := 0) dX8_laySet_30 ki_0 ?_
  refine V_istore_n [(2, .int 0), (0, .ref (G.2.1 29)), (1, .int (nI t))] dX8_laySet_31 rfl (Nat.le_of_ble_eq_true rfl) rfl ?_
  refine V_iconst (v := 0) dX8_laySet_32 ki_0 ?_
  refine V_istore_n [(3, .int 0), (2, .int 0), (0, .ref (G.2.1 29)), (1, .int (nI t))] dX8_laySet_33 rfl (Nat.le_of_ble_eq_true rfl) rfl ?_
  obtain ⟨m, hm, em⟩ := szs_b (s := nI t) hE.2.2.2 h12
  have hS1 : LSt S0 n t 0 0 (setA (setA (setA (setA S 44 t 0) 46 t 0) 45 t (-6)) 47 t (-6)) := LSt_0 hF hY
  refine V_S (S2 := setA (setA (setA (setA S 44 t 0) 46 t 0) 45 t (-6)) 47 t (-6)) rfl ?_
  generalize setA (setA (setA (setA S 44 t 0) 46 t 0) 45 t (-6)) 47 t (-6) = S1 at hS1 ⊢
  have em1 : szs (S1.2.2.1 31) (nI t) n = nI m := by rw [hS1.1.c (c := 31) (by decide)]; exact em
  refine V_lv [(3, .int 0), (2, .int 0), (0, .ref (G.2.1 29)), (1, .int (nI t))] [0, 1, 2, 3] rfl ?_
  refine V_lveq [(3, .int (nI 0)), (2, .int (szs (S1.2.2.1 31) (nI t) 0)), (0, .ref (G.2.1 29)), (1, .int (nI t))] (by rfl) ?_
  refine lp_ls1 (by rw [hS1.1.1]; exact hE.1) h12 ?_ (n + 1) 0 (by omega) (by omega)
  refine V_iconst (v := 0) dX8_laySet_69 ki_0 ?_
  refine V_istore_n [(3, .int 0), (2, .int (szs (S1.2.2.1 31) (nI t) n)), (0, .ref (G.2.1 29)), (1, .int (nI t))] dX8_laySet_70 rfl (Nat.le_of_ble_eq_true rfl) rfl ?_
  refine V_lv [(3, .int 0), (2, .int (szs (S1.2.2.1 31) (nI t) n)), (0, .ref (G.2.1 29)), (1, .int (nI t))] [0, 1, 2, 3] rfl ?_
  refine V_lveq [(3, .int (nI 0)), (2, .int (nI m)), (0, .ref (G.2.1 29)), (1, .int (nI t))] (by rw [em1]; rfl) ?_
  exact lp_ls2 hE h12 ht (by omega) em (fun S2 hF2 hL2 => hq S2 hF2 hL2) (n + 1) 0 S1 (by omega) (by omega) hS1
