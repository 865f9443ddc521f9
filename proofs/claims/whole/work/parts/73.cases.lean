theorem verS_10 (S : ST) (n : Nat) (a b sz : Int32) : (verS S n a b sz).1 10 = S.1 10 := by
  unfold verS
  split
  · split
    · split <;> rfl
    · rfl
  · rfl
theorem setS_i (S : ST) (n t : Nat) (v w x : Int32) : (setS S n t v w x).1 10 = S.1 10 ∧ (setS S n t v w x).1 11 = S.1 11 := by
  unfold setS
  split
  · split
    · split
      · exact ⟨rfl, rfl⟩
      · exact ⟨rfl, rfl⟩
    · exact ⟨rfl, rfl⟩
  · exact ⟨rfl, rfl⟩
theorem setS_c (S : ST) (n t : Nat) (v w x : Int32) {c : Nat} (h : c ≠ 11 ∧ c ≠ 12 ∧ c ≠ 13 ∧ c ≠ 14) : (setS S n t v w x).2.2.1 c = S.2.2.1 c := by
  unfold setS
  split
  · split
    · split
      · rfl
      · show va_up _ (cw w) _ c = _
        rw [va_up_ne]
        · rfl
        · unfold cw
          split
          · exact h.1
          · split
            · exact h.2.1
            · split
              · exact h.2.2.1
              · exact h.2.2.2
    · rfl
  · rfl
theorem setRm_fr (S : ST) (n t : Nat) (v w x : Int32) : setRm (setS S n t v w x) n t v w x = setRm S n t v w x := by
  unfold setRm oldm
  rw [setS_c S n t v w x (c := 35) (by decide), setS_c S n t v w x (c := 31) (by decide), setS_c S n t v w x (c := 32) (by decide), setS_c S n t v w x (c := 33) (by decide), setS_c S n t v w x (c := 34) (by decide)]
theorem tru_fr (S : ST) (w x : Int32) : (if trB w x then (if trB w x then setA S 17 w.toNatClampNeg x else S).2.2.1 37 w.toNatClampNeg else -2) = (if trB w x then S.2.2.1 37 w.toNatClampNeg else -2) := by
  by_cases h : trB w x = true
  · rw [if_pos h, if_pos h, if_pos h]; rfl
  · rw [if_neg h, if_neg h]
theorem tsC_i (S : ST) (n t : Nat) (v : Int32) (q : Bool) : (tsC S n t v q).1 10 = S.1 10 ∧ (tsC S n t v q).1 11 = S.1 11 := by
  unfold tsC
  split
  · split
    · split
      · exact ⟨rfl, rfl⟩
      · exact ⟨rfl, rfl⟩
    · exact ⟨rfl, rfl⟩
  · exact ⟨rfl, rfl⟩
theorem syC_i (S : ST) (g : Nat) (s : Int32) : (syC S g s).1 12 = S.1 12 := by
  unfold syC
  split
  · split <;> rfl
  · rfl
theorem un_i (S : ST) (t : Nat) (x : Int32) : (if 1 ≤ t then setI S 1 x else S).1 11 = S.1 11 := by
  split <;> rfl
theorem IV.jv2 {n t g y : Nat} {S S1 : ST} (h : IV n t g y S) (f : FrZ S S1) : JV n S S1 := JV_mv h.jv (fun c _ => rfl) (fun c hc => f.c (by rcases hc with z | z | z | z | z <;> subst z <;> decide))
theorem IV.jt2 {n t g y : Nat} {S S1 : ST} (h : IV n t g y S) (f : FrZ S S1) : JT n t S S1 := by
  unfold JT
  rw [f.c (c := 35) (by decide), f.c (c := 36) (by decide)]
  exact h.t
theorem wor_e {n t g y k r : Nat} {S S1 : ST} {X : Prop} (bc : Bool) (h : IV n t g y S) (f : S1 = S ∨ (FrR k r S S1 ∧ X)) (hr : r = 21 ∨ r = 22) : PR bc (S.2.2.1 9) (S.2.2.1 14) (S.2.2.1 12) (S.2.2.1 11) n = PR bc (S1.2.2.1 30) (S1.2.2.1 34) (S1.2.2.1 32) (S1.2.2.1 31) n := by
  rw [PR_e h bc]
  rcases f with e | ⟨f, -⟩
  · rw [e]
  · rw [f.2.2.1 30 (by omega), f.2.2.1 34 (by omega), f.2.2.1 32 (by omega), f.2.2.1 31 (by omega)]
theorem flt_e38 {n t g y : Nat} {S S1 : ST} (h : IV n t g y S) (e : S1.2.2.1 38 = S.2.2.1 38) : flt (S.2.2.1 23) g g [0] = flt (S1.2.2.1 38) g g [0] := by
  rw [e]
  exact flt_cg (fun k hk => (h.s k hk).symm) g [0] (Nat.le_refl g)
theorem out_fr {S S1 : ST} (f : FrF S S1) (n y : Nat) (v w : Int32) : outM S1 n y v w = outM S n y v w := by
  unfold outM bM okM
  rw [f.2.2.1]
theorem cor_fr {S S1 : ST} (f : FrF S S1) (n y : Nat) (v w : Int32) : corM S1 n y v w = corM S n y v w := by
  unfold corM owM
  rw [f.2.2.1]
theorem lw_version {G : GX} {scr L i n t g y : Nat} {xs : Nat → Int32} {S : ST} (hL : L ≤ 320) (hi : i + 5 ≤ L) (h : IV n t g y S) (K : ∀ S2 n2 t2 g2 y2, IV n2 t2 g2 y2 S2 → V (PL G scr L xs) 931 [(3, .int (nI i)), (2, .ref (G.2.1 29)), (1, .ref (G.2.1 0)), (0, .ref scr)] [] S2) : V (PL G scr L xs) 152 [(3, .int (nI i)), (2, .ref (G.2.1 29)), (1, .ref (G.2.1 0)), (0, .ref scr)] [] S := by
  refine V_aload_n dL_law_152 rfl 2 rfl ?_
  refine V_aload_n dL_law_153 rfl 3 rfl ?_
  refine V_iload_n dL_law_154 rfl 0 rfl ?_
  refine V_iconst (v := 1) dL_law_155 ki_1 ?_
  refine V_iadd dL_law_156 ?_
  refine V_topi (v := nI (i + 1)) (nI_add i 1) ?_
  refine l_scr ⟨by omega, hL⟩ dL_law_157 ?_
  refine V_aload_n dL_law_158 rfl 3 rfl ?_
  refine V_iload_n dL_law_159 rfl 0 rfl ?_
  refine V_iconst (v := 2) dL_law_160 ki_2 ?_
  refine V_iadd dL_law_161 ?_
  refine V_topi (v := nI (i + 2)) (nI_add i 2) ?_
  refine l_scr ⟨by omega, hL⟩ dL_law_162 ?_
  refine V_aload_n dL_law_163 rfl 3 rfl ?_
  refine V_iload_n dL_law_164 rfl 0 rfl ?_
  refine V_iconst (v := 3) dL_law_165 ki_3 ?_
  refine V_iadd dL_law_166 ?_
  refine V_topi (v := nI (i + 3)) (nI_add i 3) ?_
  refine l_scr ⟨by omega, hL⟩ dL_law_167 ?_
  refine V_cVi (P := PL G scr L xs) (d := 40) 0 (r := []) (As := [.int (xs (i + 1)), .int (xs (i + 2)), .int (xs (i + 3))]) (K := mX7_version) ok_X7_version tw_228 (ob_0 _) rfl (lwOk (Nat.le_of_ble_eq_true rfl)) (Nat.le_of_ble_eq_true rfl) dL_law_168 rfl (c_X7_version h.n0 h.n12 ?_)
  refine V_aload_n dL_law_171 rfl 1 rfl ?_
  refine V_aload_n dL_law_172 rfl 3 rfl ?_
  refine V_iload_n dL_law_173 rfl 0 rfl ?_
  refine V_iconst (v := 1) dL_law_174 ki_1 ?_
  refine V_iadd dL_law_175 ?_
  refine V_topi (v := nI (i + 1)) (nI_add i 1) ?_
  refine l_scr ⟨by omega, hL⟩ dL_law_176 ?_
  refine V_aload_n dL_law_177 rfl 3 rfl ?_
  refine V_iload_n dL_law_178 rfl 0 rfl ?_
  refine V_iconst (v := 2) dL_law_179 ki_2 ?_
  refine V_iadd dL_law_180 ?_
  refine V_topi (v := nI (i + 2)) (nI_add i 2) ?_
  refine l_scr ⟨by omega, hL⟩ dL_law_181 ?_
  refine V_aload_n dL_law_182 rfl 3 rfl ?_
  refine V_iload_n dL_law_183 rfl 0 rfl ?_
  refine V_iconst (v := 3) dL_law_184 ki_3 ?_
  refine V_iadd dL_law_185 ?_
  refine V_topi (v := nI (i + 3)) (nI_add i 3) ?_
  refine l_scr ⟨by omega, hL⟩ dL_law_186 ?_
  refine V_cVi (P := PL G scr L xs) (d := 40) 29 (r := [.int (verR n (xs (i + 1)) (xs (i + 2)) (xs (i + 3)))]) (As := [.int (xs (i + 1)), .int (xs (i + 2)), .int (xs (i + 3))]) (K := mX8_version) ok_X8_version tw_713 (ob_29 _) rfl (lwOk (Nat.le_of_ble_eq_true rfl)) (Nat.le_of_ble_eq_true rfl) dL_law_187 rfl (c_X8_version (n := n) (by rw [verS_10]; exact h.n1) h.n12 ?_)
  refine V_icmp_eq 931 dL_law_190 (by decide) (fun h1 => ?_) (fun h1 => ?_)
  · obtain ⟨n2, h2⟩ := st_version h (xs (i + 1)) (xs (i + 2)) (xs (i + 3))
    exact K _ n2 t g y h2
  · exact absurd (ver_eq h.n12 _ _ _) h1
theorem lw_has {G : GX} {scr L i n t g y : Nat} {xs : Nat → Int32} {S : ST} (hL : L ≤ 320) (hi : i + 5 ≤ L) (h : IV n t g y S) (K : ∀ S2 n2 t2 g2 y2, IV n2 t2 g2 y2 S2 → V (PL G scr L xs) 931 [(3, .int (nI i)), (2, .ref (G.2.1 29)), (1, .ref (G.2.1 0)), (0, .ref scr)] [] S2) : V (PL G scr L xs) 195 [(3, .int (nI i)), (2, .ref (G.2.1 29)), (1, .ref (G.2.1 0)), (0, .ref scr)] [] S := by
  refine V_aload_n dL_law_195 rfl 2 rfl ?_
  refine V_aload_n dL_law_196 rfl 3 rfl ?_
  refine V_iload_n dL_law_197 rfl 0 rfl ?_
  refine V_iconst (v := 1) dL_law_198 ki_1 ?_
  refine V_iadd dL_law_199 ?_
  refine V_topi (v := nI (i + 1)) (nI_add i 1) ?_
  refine l_scr ⟨by omega, hL⟩ dL_law_200 ?_
  refine V_cVi (P := PL G scr L xs) (d := 40) 0 (r := []) (As := [.int (xs (i + 1))]) (K := mX7_has) ok_X7_has tw_254 (ob_0 _) rfl (lwOk (Nat.le_of_ble_eq_true rfl)) (Nat.le_of_ble_eq_true rfl) dL_law_201 rfl (c_X7_has h.n0 h.n12 ?_)
  refine V_aload_n dL_law_204 rfl 1 rfl ?_
  refine V_aload_n dL_law_205 rfl 3 rfl ?_
  refine V_iload_n dL_law_206 rfl 0 rfl ?_
  refine V_iconst (v := 1) dL_law_207 ki_1 ?_
  refine V_iadd dL_law_208 ?_
  refine V_topi (v := nI (i + 1)) (nI_add i 1) ?_
  refine l_scr ⟨by omega, hL⟩ dL_law_209 ?_
  refine V_cVi (P := PL G scr L xs) (d := 40) 29 (r := [.int (if kn n (xs (i + 1)) then S.2.2.1 9 (xs (i + 1)).toNatClampNeg else -1)]) (As := [.int (xs (i + 1))]) (K := mX8_has) ok_X8_has tw_724 (ob_29 _) rfl (lwOk (Nat.le_of_ble_eq_true rfl)) (Nat.le_of_ble_eq_true rfl) dL_law_210 rfl (c_X8_has h.n1 h.n12 ?_)
  refine V_icmp_eq 931 dL_law_213 (by decide) (fun h1 => ?_) (fun h1 => ?_)
  · exact K S n t g y h
  · exact absurd (has_eq h _) h1
theorem lw_set {G : GX} {scr L i n t g y : Nat} {xs : Nat → Int32} {S : ST} (hL : L ≤ 320) (hi : i + 5 ≤ L) (h : IV n t g y S) (K : ∀ S2 n2 t2 g2 y2, IV n2 t2 g2 y2 S2 → V (PL G scr L xs) 931 [(3, .int (nI i)), (2, .ref (G.2.1 29)), (1, .ref (G.2.1 0)), (0, .ref scr)] [] S2) : V (PL G scr L xs) 218 [(3, .int (nI i)), (2, .ref (G.2.1 29)), (1, .ref (G.2.1 0)), (0, .ref scr)] [] S := by
  refine V_aload_n dL_law_218 rfl 2 rfl ?_
  refine V_aload_n dL_law_219 rfl 3 rfl ?_
  refine V_iload_n dL_law_220 rfl 0 rfl ?_
  refine V_iconst (v := 1) dL_law_221 ki_1 ?_
  refine V_iadd dL_law_222 ?_
  refine V_topi (v := nI (i + 1)) (nI_add i 1) ?_
  refine l_scr ⟨by omega, hL⟩ dL_law_223 ?_
  refine V_aload_n dL_law_224 rfl 3 rfl ?_
  refine V_iload_n dL_law_225 rfl 0 rfl ?_
  refine V_iconst (v := 2) dL_law_226 ki_2 ?_
  refine V_iadd dL_law_227 ?_
  refine V_topi (v := nI (i + 2)) (nI_add i 2) ?_
  refine l_scr ⟨by omega, hL⟩ dL_law_228 ?_
  refine V_aload_n dL_law_229 rfl 3 rfl ?_
  refine V_iload_n dL_law_230 rfl 0 rfl ?_
  refine V_iconst (v := 3) dL_law_231 ki_3 ?_
  refine V_iadd dL_law_232 ?_
  refine V_topi (v := nI (i + 3)) (nI_add i 3) ?_
  refine l_scr ⟨by omega, hL⟩ dL_law_233 ?_
  refine V_cVi (P := PL G scr L xs) (d := 40) 0 (r := []) (As := [.int (xs (i + 1)), .int (xs (i + 2)), .int (xs (i + 3))]) (K := mX7_set) ok_X7_set tw_259 (ob_0 _) rfl (lwOk (Nat.le_of_ble_eq_true rfl)) (Nat.le_of_ble_eq_true rfl) dL_law_234 rfl (c_X7_set h.n0 h.n12 h.t0 h.t12 ?_)
  refine V_aload_n dL_law_237 rfl 1 rfl ?_
  refine V_aload_n dL_law_238 rfl 3 rfl ?_
  refine V_iload_n dL_law_239 rfl 0 rfl ?_
  refine V_iconst (v := 1) dL_law_240 ki_1 ?_
  refine V_iadd dL_law_241 ?_
  refine V_topi (v := nI (i + 1)) (nI_add i 1) ?_
  refine l_scr ⟨by omega, hL⟩ dL_law_242 ?_
  refine V_aload_n dL_law_243 rfl 3 rfl ?_
  refine V_iload_n dL_law_244 rfl 0 rfl ?_
  refine V_iconst (v := 2) dL_law_245 ki_2 ?_
  refine V_iadd dL_law_246 ?_
  refine V_topi (v := nI (i + 2)) (nI_add i 2) ?_
  refine l_scr ⟨by omega, hL⟩ dL_law_247 ?_
  refine V_aload_n dL_law_248 rfl 3 rfl ?_
  refine V_iload_n dL_law_249 rfl 0 rfl ?_
  refine V_iconst (v := 3) dL_law_250 ki_3 ?_
  refine V_iadd dL_law_251 ?_
  refine V_topi (v := nI (i + 3)) (nI_add i 3) ?_
  refine l_scr ⟨by omega, hL⟩ dL_law_252 ?_
  refine V_cVi (P := PL G scr L xs) (d := 40) 29 (r := [.int (setR S n t (xs (i + 1)) (xs (i + 2)) (xs (i + 3)))]) (As := [.int (xs (i + 1)), .int (xs (i + 2)), .int (xs (i + 3))]) (K := mX8_set) ok_X8_set tw_728 (ob_29 _) rfl (lwOk (Nat.le_of_ble_eq_true rfl)) (Nat.le_of_ble_eq_true rfl) dL_law_253 rfl (c_X8_set (n := n) (t := t) ((setS_i _ _ _ _ _ _).1.trans h.n1) h.n12 ((setS_i _ _ _ _ _ _).2.trans h.t1) h.t12 ?_)
  refine V_icmp_eq 931 dL_law_256 (by decide) (fun h1 => ?_) (fun h1 => ?_)
  · exact K _ n t g y (st_set h _ _ _)
  · exact absurd ((set_eq h _ _ _).trans (setRm_fr _ _ _ _ _ _).symm) h1
theorem lw_trust {G : GX} {scr L i n t g y : Nat} {xs : Nat → Int32} {S : ST} (hL : L ≤ 320) (hi : i + 5 ≤ L) (h : IV n t g y S) (K : ∀ S2 n2 t2 g2 y2, IV n2 t2 g2 y2 S2 → V (PL G scr L xs) 931 [(3, .int (nI i)), (2, .ref (G.2.1 29)), (1, .ref (G.2.1 0)), (0, .ref scr)] [] S2) : V (PL G scr L xs) 261 [(3, .int (nI i)), (2, .ref (G.2.1 29)), (1, .ref (G.2.1 0)), (0, .ref scr)] [] S := by
  refine V_aload_n dL_law_261 rfl 2 rfl ?_
  refine V_aload_n dL_law_262 rfl 3 rfl ?_
  refine V_iload_n dL_law_263 rfl 0 rfl ?_
  refine V_iconst (v := 1) dL_law_264 ki_1 ?_
  refine V_iadd dL_law_265 ?_
  refine V_topi (v := nI (i + 1)) (nI_add i 1) ?_
  refine l_scr ⟨by omega, hL⟩ dL_law_266 ?_
  refine V_aload_n dL_law_267 rfl 3 rfl ?_
  refine V_iload_n dL_law_268 rfl 0 rfl ?_
  refine V_iconst (v := 2) dL_law_269 ki_2 ?_
  refine V_iadd dL_law_270 ?_
  refine V_topi (v := nI (i + 2)) (nI_add i 2) ?_
  refine l_scr ⟨by omega, hL⟩ dL_law_271 ?_
  refine V_cVi (P := PL G scr L xs) (d := 40) 0 (r := []) (As := [.int (xs (i + 1)), .int (xs (i + 2))]) (K := mX7_trust) ok_X7_trust tw_279 (ob_0 _) rfl (lwOk (Nat.le_of_ble_eq_true rfl)) (Nat.le_of_ble_eq_true rfl) dL_law_272 rfl (c_X7_trust ?_)
  refine V_aload_n dL_law_275 rfl 1 rfl ?_
  refine V_aload_n dL_law_276 rfl 3 rfl ?_
  refine V_iload_n dL_law_277 rfl 0 rfl ?_
  refine V_iconst (v := 1) dL_law_278 ki_1 ?_
  refine V_iadd dL_law_279 ?_
  refine V_topi (v := nI (i + 1)) (nI_add i 1) ?_
  refine l_scr ⟨by omega, hL⟩ dL_law_280 ?_
  refine V_aload_n dL_law_281 rfl 3 rfl ?_
  refine V_iload_n dL_law_282 rfl 0 rfl ?_
  refine V_iconst (v := 2) dL_law_283 ki_2 ?_
  refine V_iadd dL_law_284 ?_
  refine V_topi (v := nI (i + 2)) (nI_add i 2) ?_
  refine l_scr ⟨by omega, hL⟩ dL_law_285 ?_
  refine V_cVi (P := PL G scr L xs) (d := 40) 29 (r := [.int (if trB (xs (i + 1)) (xs (i + 2)) then S.2.2.1 17 (xs (i + 1)).toNatClampNeg else -2)]) (As := [.int (xs (i + 1)), .int (xs (i + 2))]) (K := mX8_trust) ok_X8_trust tw_739 (ob_29 _) rfl (lwOk (Nat.le_of_ble_eq_true rfl)) (Nat.le_of_ble_eq_true rfl) dL_law_286 rfl (c_X8_trust ?_)
  refine V_topi (v := if trB (xs (i + 1)) (xs (i + 2)) then S.2.2.1 37 (xs (i + 1)).toNatClampNeg else -2) (tru_fr S _ _) ?_
  refine V_icmp_eq 931 dL_law_289 (by decide) (fun h1 => ?_) (fun h1 => ?_)
  · exact K _ n t g y (st_trust h _ _)
  · exact absurd (tru_eq h _ _) h1
theorem lw_test {G : GX} {scr L i n t g y : Nat} {xs : Nat → Int32} {S : ST} (hL : L ≤ 320) (hi : i + 5 ≤ L) (h : IV n t g y S) (K : ∀ S2 n2 t2 g2 y2, IV n2 t2 g2 y2 S2 → V (PL G scr L xs) 931 [(3, .int (nI i)), (2, .ref (G.2.1 29)), (1, .ref (G.2.1 0)), (0, .ref scr)] [] S2) : V (PL G scr L xs) 294 [(3, .int (nI i)), (2, .ref (G.2.1 29)), (1, .ref (G.2.1 0)), (0, .ref scr)] [] S := by
  refine V_aload_n dL_law_294 rfl 2 rfl ?_
  refine V_aload_n dL_law_295 rfl 3 rfl ?_
  refine V_iload_n dL_law_296 rfl 0 rfl ?_
  refine V_iconst (v := 1) dL_law_297 ki_1 ?_
  refine V_iadd dL_law_298 ?_
  refine V_topi (v := nI (i + 1)) (nI_add i 1) ?_
  refine l_scr ⟨by omega, hL⟩ dL_law_299 ?_
  refine V_aload_n dL_law_300 rfl 3 rfl ?_
  refine V_iload_n dL_law_301 rfl 0 rfl ?_
  refine V_iconst (v := 2) dL_law_302 ki_2 ?_
  refine V_iadd dL_law_303 ?_
  refine V_topi (v := nI (i + 2)) (nI_add i 2) ?_
  refine l_scr ⟨by omega, hL⟩ dL_law_304 ?_
  refine V_if_eq 312 dL_law_305 (by decide) (fun h1 => ?_) (fun h1 => ?_)
  · refine V_iconst (v := 0) dL_law_312 ki_0 ?_
    refine V_cVi (P := PL G scr L xs) (d := 40) 0 (r := []) (As := [.int (xs (i + 1)), .int 0]) (K := mX7_test) ok_X7_test tw_283 (ob_0 _) rfl (lwOk (Nat.le_of_ble_eq_true rfl)) (Nat.le_of_ble_eq_true rfl) dL_law_313 rfl (c_X7_test (q := false) h.n0 h.n12 h.t0 h.t12 ?_)
    refine V_S (S2 := tsC S n t (xs (i + 1)) false) rfl ?_
    refine V_aload_n dL_law_316 rfl 1 rfl ?_
    refine V_aload_n dL_law_317 rfl 3 rfl ?_
    refine V_iload_n dL_law_318 rfl 0 rfl ?_
    refine V_iconst (v := 1) dL_law_319 ki_1 ?_
    refine V_iadd dL_law_320 ?_
    refine V_topi (v := nI (i + 1)) (nI_add i 1) ?_
    refine l_scr ⟨by omega, hL⟩ dL_law_321 ?_
    refine V_aload_n dL_law_322 rfl 3 rfl ?_
    refine V_iload_n dL_law_323 rfl 0 rfl ?_
    refine V_iconst (v := 2) dL_law_324 ki_2 ?_
    refine V_iadd dL_law_325 ?_
    refine V_topi (v := nI (i + 2)) (nI_add i 2) ?_
    refine l_scr ⟨by omega, hL⟩ dL_law_326 ?_
    refine V_if_eq 334 dL_law_327 (by decide) (fun h2 => ?_) (fun h2 => ?_)
    · refine V_iconst (v := 0) dL_law_334 ki_0 ?_
      refine V_cVi (P := PL G scr L xs) (d := 40) 29 (r := [.int (if kn n (xs (i + 1)) then (if hrs n (S.2.2.1 14) (xs (i + 1)) then (if t < 12 then nI t else -4) else -3) else -1)]) (As := [.int (xs (i + 1)), .int 0]) (K := mX8_test) ok_X8_test tw_743 (ob_29 _) rfl (lwOk (Nat.le_of_ble_eq_true rfl)) (Nat.le_of_ble_eq_true rfl) dL_law_335 rfl (c_X8_test (q := false) (n := n) (t := t) ((tsC_i _ _ _ _ _).1.trans h.n1) h.n12 ((tsC_i _ _ _ _ _).2.trans h.t1) h.t12 ?_)
      refine V_S (S2 := tsM (tsC S n t (xs (i + 1)) false) n t (xs (i + 1)) false) rfl ?_
      refine V_topi (v := if kn n (xs (i + 1)) then (if S.2.2.1 34 (xs (i + 1)).toNatClampNeg = 0 then (if t = 12 then -4 else nI t) else -3) else -1) (by rw [tsC_34]) ?_
      refine V_icmp_eq 931 dL_law_338 (by decide) (fun h3 => ?_) (fun h3 => ?_)
      · obtain ⟨t2, h2⟩ := st_test h (xs (i + 1)) false
        exact K _ n t2 g y h2
      · exact absurd (tes_eq h _) h3
    · exact absurd h1 h2
  · refine V_iconst (v := 1) dL_law_308 ki_1 ?_
    refine V_goto 313 dL_law_309 (by decide) ?_
    refine V_cVi (P := PL G scr L xs) (d := 40) 0 (r := []) (As := [.int (xs (i + 1)), .int 1]) (K := mX7_test) ok_X7_test tw_283 (ob_0 _) rfl (lwOk (Nat.le_of_ble_eq_true rfl)) (Nat.le_of_ble_eq_true rfl) dL_law_313 rfl (c_X7_test (q := true) h.n0 h.n12 h.t0 h.t12 ?_)
    refine V_S (S2 := tsC S n t (xs (i + 1)) true) rfl ?_
    refine V_aload_n dL_law_316 rfl 1 rfl ?_
    refine V_aload_n dL_law_317 rfl 3 rfl ?_
    refine V_iload_n dL_law_318 rfl 0 rfl ?_
    refine V_iconst (v := 1) dL_law_319 ki_1 ?_
    refine V_iadd dL_law_320 ?_
    refine V_topi (v := nI (i + 1)) (nI_add i 1) ?_
    refine l_scr ⟨by omega, hL⟩ dL_law_321 ?_
    refine V_aload_n dL_law_322 rfl 3 rfl ?_
    refine V_iload_n dL_law_323 rfl 0 rfl ?_
    refine V_iconst (v := 2) dL_law_324 ki_2 ?_
    refine V_iadd dL_law_325 ?_
    refine V_topi (v := nI (i + 2)) (nI_add i 2) ?_
    refine l_scr ⟨by omega, hL⟩ dL_law_326 ?_
    refine V_if_eq 334 dL_law_327 (by decide) (fun h4 => ?_) (fun h4 => ?_)
    · exact absurd h4 h1
    · refine V_iconst (v := 1) dL_law_330 ki_1 ?_
      refine V_goto 335 dL_law_331 (by decide) ?_
      refine V_cVi (P := PL G scr L xs) (d := 40) 29 (r := [.int (if kn n (xs (i + 1)) then (if hrs n (S.2.2.1 14) (xs (i + 1)) then (if t < 12 then nI t else -4) else -3) else -1)]) (As := [.int (xs (i + 1)), .int 1]) (K := mX8_test) ok_X8_test tw_743 (ob_29 _) rfl (lwOk (Nat.le_of_ble_eq_true rfl)) (Nat.le_of_ble_eq_true rfl) dL_law_335 rfl (c_X8_test (q := true) (n := n) (t := t) ((tsC_i _ _ _ _ _).1.trans h.n1) h.n12 ((tsC_i _ _ _ _ _).2.trans h.t1) h.t12 ?_)
      refine V_S (S2 := tsM (tsC S n t (xs (i + 1)) true) n t (xs (i + 1)) true) rfl ?_
      refine V_topi (v := if kn n (xs (i + 1)) then (if S.2.2.1 34 (xs (i + 1)).toNatClampNeg = 0 then (if t = 12 then -4 else nI t) else -3) else -1) (by rw [tsC_34]) ?_
      refine V_icmp_eq 931 dL_law_338 (by decide) (fun h5 => ?_) (fun h5 => ?_)
      · obtain ⟨t2, h2⟩ := st_test h (xs (i + 1)) true
        exact K _ n t2 g y h2
      · exact absurd (tes_eq h _) h5
theorem lw_tested {G : GX} {scr L i n t g y : Nat} {xs : Nat → Int32} {S : ST} (hL : L ≤ 320) (hi : i + 5 ≤ L) (h : IV n t g y S) (K : ∀ S2 n2 t2 g2 y2, IV n2 t2 g2 y2 S2 → V (PL G scr L xs) 931 [(3, .int (nI i)), (2, .ref (G.2.1 29)), (1, .ref (G.2.1 0)), (0, .ref scr)] [] S2) : V (PL G scr L xs) 343 [(3, .int (nI i)), (2, .ref (G.2.1 29)), (1, .ref (G.2.1 0)), (0, .ref scr)] [] S := by
  refine V_aload_n dL_law_343 rfl 2 rfl ?_
  refine V_aload_n dL_law_344 rfl 3 rfl ?_
  refine V_iload_n dL_law_345 rfl 0 rfl ?_
  refine V_iconst (v := 1) dL_law_346 ki_1 ?_
  refine V_iadd dL_law_347 ?_
  refine V_topi (v := nI (i + 1)) (nI_add i 1) ?_
  refine l_scr ⟨by omega, hL⟩ dL_law_348 ?_
  refine V_aload_n dL_law_349 rfl 3 rfl ?_
  refine V_iload_n dL_law_350 rfl 0 rfl ?_
  refine V_iconst (v := 2) dL_law_351 ki_2 ?_
  refine V_iadd dL_law_352 ?_
  refine V_topi (v := nI (i + 2)) (nI_add i 2) ?_
  refine l_scr ⟨by omega, hL⟩ dL_law_353 ?_
  refine V_cVi (P := PL G scr L xs) (d := 40) 0 (r := []) (As := [.int (xs (i + 1)), .int (xs (i + 2))]) (K := mX7_tested) ok_X7_tested tw_295 (ob_0 _) rfl (lwOk (Nat.le_of_ble_eq_true rfl)) (Nat.le_of_ble_eq_true rfl) dL_law_354 rfl (c_X7_tested h.t0 h.t12 ?_)
  refine V_aload_n dL_law_357 rfl 1 rfl ?_
  refine V_aload_n dL_law_358 rfl 3 rfl ?_
  refine V_iload_n dL_law_359 rfl 0 rfl ?_
  refine V_iconst (v := 1) dL_law_360 ki_1 ?_
  refine V_iadd dL_law_361 ?_
  refine V_topi (v := nI (i + 1)) (nI_add i 1) ?_
  refine l_scr ⟨by omega, hL⟩ dL_law_362 ?_
  refine V_aload_n dL_law_363 rfl 3 rfl ?_
  refine V_iload_n dL_law_364 rfl 0 rfl ?_
  refine V_iconst (v := 2) dL_law_365 ki_2 ?_
  refine V_iadd dL_law_366 ?_
  refine V_topi (v := nI (i + 2)) (nI_add i 2) ?_
  refine l_scr ⟨by omega, hL⟩ dL_law_367 ?_
  refine V_cVi (P := PL G scr L xs) (d := 40) 29 (r := [.int (if kn t (xs (i + 1)) then (if fr (xs (i + 2)) 0 1 then (if (xs (i + 2)) = 0 then S.2.2.1 15 (xs (i + 1)).toNatClampNeg else z01 (S.2.2.1 16 (xs (i + 1)).toNatClampNeg)) else -2) else -1)]) (As := [.int (xs (i + 1)), .int (xs (i + 2))]) (K := mX8_tested) ok_X8_tested tw_747 (ob_29 _) rfl (lwOk (Nat.le_of_ble_eq_true rfl)) (Nat.le_of_ble_eq_true rfl) dL_law_368 rfl (c_X8_tested h.t1 h.t12 ?_)
  refine V_icmp_eq 931 dL_law_371 (by decide) (fun h1 => ?_) (fun h1 => ?_)
  · exact K S n t g y h
  · exact absurd (ted_eq h _ _) h1
theorem lw_untest {G : GX} {scr L i n t g y : Nat} {xs : Nat → Int32} {S : ST} (hL : L ≤ 320) (hi : i + 5 ≤ L) (h : IV n t g y S) (K : ∀ S2 n2 t2 g2 y2, IV n2 t2 g2 y2 S2 → V (PL G scr L xs) 931 [(3, .int (nI i)), (2, .ref (G.2.1 29)), (1, .ref (G.2.1 0)), (0, .ref scr)] [] S2) : V (PL G scr L xs) 376 [(3, .int (nI i)), (2, .ref (G.2.1 29)), (1, .ref (G.2.1 0)), (0, .ref scr)] [] S := by
  refine V_aload_n dL_law_376 rfl 2 rfl ?_
  refine V_cVi (P := PL G scr L xs) (d := 40) 0 (r := []) (As := []) (K := mX7_untest) ok_X7_untest tw_302 (ob_0 _) rfl (lwOk (Nat.le_of_ble_eq_true rfl)) (Nat.le_of_ble_eq_true rfl) dL_law_377 rfl (c_X7_untest h.t0 h.t12 ?_)
  refine V_aload_n dL_law_380 rfl 1 rfl ?_
  refine V_cVi (P := PL G scr L xs) (d := 40) 29 (r := [.int (if 1 ≤ t then nI (t - 1) else -5)]) (As := []) (K := mX8_untest) ok_X8_untest tw_751 (ob_29 _) rfl (lwOk (Nat.le_of_ble_eq_true rfl)) (Nat.le_of_ble_eq_true rfl) dL_law_381 rfl (c_X8_untest (t := t) ((un_i _ _ _).trans h.t1) h.t12 ?_)
  refine V_icmp_eq 931 dL_law_384 (by decide) (fun h1 => ?_) (fun h1 => ?_)
  · obtain ⟨t2, h2⟩ := st_untest h
    exact K _ n t2 g y h2
  · exact absurd (unt_eq t) h1
theorem lw_weight {G : GX} {scr L i n t g y : Nat} {xs : Nat → Int32} {S : ST} (hL : L ≤ 320) (hi : i + 5 ≤ L) (h : IV n t g y S) (K : ∀ S2 n2 t2 g2 y2, IV n2 t2 g2 y2 S2 → V (PL G scr L xs) 931 [(3, .int (nI i)), (2, .ref (G.2.1 29)), (1, .ref (G.2.1 0)), (0, .ref scr)] [] S2) : V (PL G scr L xs) 389 [(3, .int (nI i)), (2, .ref (G.2.1 29)), (1, .ref (G.2.1 0)), (0, .ref scr)] [] S := by
  refine V_aload_n dL_law_389 rfl 2 rfl ?_
  refine V_aload_n dL_law_390 rfl 3 rfl ?_
  refine V_iload_n dL_law_391 rfl 0 rfl ?_
  refine V_iconst (v := 1) dL_law_392 ki_1 ?_
  refine V_iadd dL_law_393 ?_
  refine V_topi (v := nI (i + 1)) (nI_add i 1) ?_
  refine l_scr ⟨by omega, hL⟩ dL_law_394 ?_
  refine V_aload_n dL_law_395 rfl 3 rfl ?_
  refine V_iload_n dL_law_396 rfl 0 rfl ?_
  refine V_iconst (v := 2) dL_law_397 ki_2 ?_
  refine V_iadd dL_law_398 ?_
  refine V_topi (v := nI (i + 2)) (nI_add i 2) ?_
  refine l_scr ⟨by omega, hL⟩ dL_law_399 ?_
  refine V_aload_n dL_law_400 rfl 3 rfl ?_
  refine V_iload_n dL_law_401 rfl 0 rfl ?_
  refine V_iconst (v := 3) dL_law_402 ki_3 ?_
  refine V_iadd dL_law_403 ?_
  refine V_topi (v := nI (i + 3)) (nI_add i 3) ?_
  refine l_scr ⟨by omega, hL⟩ dL_law_404 ?_
  refine V_cVl (P := PL G scr L xs) (d := 40) 0 (r := []) (As := [.int (xs (i + 1)), .int (xs (i + 2)), .int (xs (i + 3))]) (K := mX7_weight) ok_X7_weight tw_306 (ob_0 _) rfl (lwOk (Nat.le_of_ble_eq_true rfl)) (Nat.le_of_ble_eq_true rfl) dL_law_405 rfl (c_X7_weight h.n0 h.n12 h.DT ?_)
  refine V_aload_n dL_law_408 rfl 1 rfl ?_
  refine V_aload_n dL_law_409 rfl 3 rfl ?_
  refine V_iload_n dL_law_410 rfl 0 rfl ?_
  refine V_iconst (v := 1) dL_law_411 ki_1 ?_
  refine V_iadd dL_law_412 ?_
  refine V_topi (v := nI (i + 1)) (nI_add i 1) ?_
  refine l_scr ⟨by omega, hL⟩ dL_law_413 ?_
  refine V_aload_n dL_law_414 rfl 3 rfl ?_
  refine V_iload_n dL_law_415 rfl 0 rfl ?_
  refine V_iconst (v := 2) dL_law_416 ki_2 ?_
  refine V_iadd dL_law_417 ?_
  refine V_topi (v := nI (i + 2)) (nI_add i 2) ?_
  refine l_scr ⟨by omega, hL⟩ dL_law_418 ?_
  refine V_aload_n dL_law_419 rfl 3 rfl ?_
  refine V_iload_n dL_law_420 rfl 0 rfl ?_
  refine V_iconst (v := 3) dL_law_421 ki_3 ?_
  refine V_iadd dL_law_422 ?_
  refine V_topi (v := nI (i + 3)) (nI_add i 3) ?_
  refine l_scr ⟨by omega, hL⟩ dL_law_423 ?_
  refine V_cVl (P := PL G scr L xs) (d := 40) 29 (r := [.long (wgtC S n t (xs (i + 1)) (xs (i + 2)) (xs (i + 3)))]) (As := [.int (xs (i + 1)), .int (xs (i + 2)), .int (xs (i + 3))]) (K := mX8_weight) ok_X8_weight tw_755 (ob_29 _) rfl (lwOk (Nat.le_of_ble_eq_true rfl)) (Nat.le_of_ble_eq_true rfl) dL_law_424 rfl (c_X8_weight h.n1 h.n12 h.DTm ?_)
  refine V_lcmp dL_law_427 ?_
  refine V_if_eq 931 dL_law_428 (by decide) (fun h1 => ?_) (fun h1 => ?_)
  · exact K S n t g y h
  · exact absurd (lg0.mpr (wgt_eq h.jv h.jt h.n12 _ _ _)) h1
theorem lw_odds {G : GX} {scr L i n t g y : Nat} {xs : Nat → Int32} {S : ST} (hL : L ≤ 320) (hi : i + 5 ≤ L) (h : IV n t g y S) (K : ∀ S2 n2 t2 g2 y2, IV n2 t2 g2 y2 S2 → V (PL G scr L xs) 931 [(3, .int (nI i)), (2, .ref (G.2.1 29)), (1, .ref (G.2.1 0)), (0, .ref scr)] [] S2) : V (PL G scr L xs) 433 [(3, .int (nI i)), (2, .ref (G.2.1 29)), (1, .ref (G.2.1 0)), (0, .ref scr)] [] S := by
  refine V_aload_n dL_law_433 rfl 2 rfl ?_
  refine V_aload_n dL_law_434 rfl 3 rfl ?_
  refine V_iload_n dL_law_435 rfl 0 rfl ?_
  refine V_iconst (v := 1) dL_law_436 ki_1 ?_
  refine V_iadd dL_law_437 ?_
  refine V_topi (v := nI (i + 1)) (nI_add i 1) ?_
  refine l_scr ⟨by omega, hL⟩ dL_law_438 ?_
  refine V_aload_n dL_law_439 rfl 3 rfl ?_
  refine V_iload_n dL_law_440 rfl 0 rfl ?_
  refine V_iconst (v := 2) dL_law_441 ki_2 ?_
  refine V_iadd dL_law_442 ?_
  refine V_topi (v := nI (i + 2)) (nI_add i 2) ?_
  refine l_scr ⟨by omega, hL⟩ dL_law_443 ?_
  refine V_aload_n dL_law_444 rfl 3 rfl ?_
  refine V_iload_n dL_law_445 rfl 0 rfl ?_
  refine V_iconst (v := 3) dL_law_446 ki_3 ?_
  refine V_iadd dL_law_447 ?_
  refine V_topi (v := nI (i + 3)) (nI_add i 3) ?_
  refine l_scr ⟨by omega, hL⟩ dL_law_448 ?_
  refine V_aload_n dL_law_449 rfl 3 rfl ?_
  refine V_iload_n dL_law_450 rfl 0 rfl ?_
  refine V_iconst (v := 4) dL_law_451 ki_4 ?_
  refine V_iadd dL_law_452 ?_
  refine V_topi (v := nI (i + 4)) (nI_add i 4) ?_
  refine l_scr ⟨by omega, hL⟩ dL_law_453 ?_
  refine V_cVl (P := PL G scr L xs) (d := 40) 0 (r := []) (As := [.int (xs (i + 1)), .int (xs (i + 2)), .int (xs (i + 3)), .int (xs (i + 4))]) (K := mX7_odds) ok_X7_odds tw_328 (ob_0 _) rfl (lwOk (Nat.le_of_ble_eq_true rfl)) (Nat.le_of_ble_eq_true rfl) dL_law_454 rfl (c_X7_odds h.n0 h.n12 h.DT h.RG (fun S1 f1 => ?_))
  have hz1 := h.z f1.z
  refine V_aload_n dL_law_457 rfl 1 rfl ?_
  refine V_aload_n dL_law_458 rfl 3 rfl ?_
  refine V_iload_n dL_law_459 rfl 0 rfl ?_
  refine V_iconst (v := 1) dL_law_460 ki_1 ?_
  refine V_iadd dL_law_461 ?_
  refine V_topi (v := nI (i + 1)) (nI_add i 1) ?_
  refine l_scr ⟨by omega, hL⟩ dL_law_462 ?_
  refine V_aload_n dL_law_463 rfl 3 rfl ?_
  refine V_iload_n dL_law_464 rfl 0 rfl ?_
  refine V_iconst (v := 2) dL_law_465 ki_2 ?_
  refine V_iadd dL_law_466 ?_
  refine V_topi (v := nI (i + 2)) (nI_add i 2) ?_
  refine l_scr ⟨by omega, hL⟩ dL_law_467 ?_
  refine V_aload_n dL_law_468 rfl 3 rfl ?_
  refine V_iload_n dL_law_469 rfl 0 rfl ?_
  refine V_iconst (v := 3) dL_law_470 ki_3 ?_
  refine V_iadd dL_law_471 ?_
  refine V_topi (v := nI (i + 3)) (nI_add i 3) ?_
  refine l_scr ⟨by omega, hL⟩ dL_law_472 ?_
  refine V_aload_n dL_law_473 rfl 3 rfl ?_
  refine V_iload_n dL_law_474 rfl 0 rfl ?_
  refine V_iconst (v := 4) dL_law_475 ki_4 ?_
  refine V_iadd dL_law_476 ?_
  refine V_topi (v := nI (i + 4)) (nI_add i 4) ?_
  refine l_scr ⟨by omega, hL⟩ dL_law_477 ?_
  refine V_cVl (P := PL G scr L xs) (d := 40) 29 (r := [.long (oddC S n t (xs (i + 1)) (xs (i + 2)) (xs (i + 3)) (xs (i + 4)))]) (As := [.int (xs (i + 1)), .int (xs (i + 2)), .int (xs (i + 3)), .int (xs (i + 4))]) (K := mX8_odds) ok_X8_odds tw_780 (ob_29 _) rfl (lwOk (Nat.le_of_ble_eq_true rfl)) (Nat.le_of_ble_eq_true rfl) dL_law_478 rfl (c_X8_odds hz1.n1 h.n12 hz1.DTm hz1.RGm (fun S2 f2 => ?_))
  refine V_lcmp dL_law_481 ?_
  refine V_if_eq 931 dL_law_482 (by decide) (fun h1 => ?_) (fun h1 => ?_)
  · exact K S2 n t g y (hz1.z f2.z)
  · exact absurd (lg0.mpr (odd_eq (h.jv2 f1.z) (h.jt2 f1.z) h.n12 _ _ _ _)) h1
theorem lw_sorts {G : GX} {scr L i n t g y : Nat} {xs : Nat → Int32} {S : ST} (hL : L ≤ 320) (hi : i + 5 ≤ L) (h : IV n t g y S) (K : ∀ S2 n2 t2 g2 y2, IV n2 t2 g2 y2 S2 → V (PL G scr L xs) 931 [(3, .int (nI i)), (2, .ref (G.2.1 29)), (1, .ref (G.2.1 0)), (0, .ref scr)] [] S2) : V (PL G scr L xs) 487 [(3, .int (nI i)), (2, .ref (G.2.1 29)), (1, .ref (G.2.1 0)), (0, .ref scr)] [] S := by
  refine V_aload_n dL_law_487 rfl 2 rfl ?_
  refine V_aload_n dL_law_488 rfl 3 rfl ?_
  refine V_iload_n dL_law_489 rfl 0 rfl ?_
  refine V_iconst (v := 1) dL_law_490 ki_1 ?_
  refine V_iadd dL_law_491 ?_
  refine V_topi (v := nI (i + 1)) (nI_add i 1) ?_
  refine l_scr ⟨by omega, hL⟩ dL_law_492 ?_
  refine V_aload_n dL_law_493 rfl 3 rfl ?_
  refine V_iload_n dL_law_494 rfl 0 rfl ?_
  refine V_iconst (v := 2) dL_law_495 ki_2 ?_
  refine V_iadd dL_law_496 ?_
  refine V_topi (v := nI (i + 2)) (nI_add i 2) ?_
  refine l_scr ⟨by omega, hL⟩ dL_law_497 ?_
  refine V_cVl (P := PL G scr L xs) (d := 40) 0 (r := []) (As := [.int (xs (i + 1)), .int (xs (i + 2))]) (K := mX7_sorts) ok_X7_sorts tw_358 (ob_0 _) rfl (lwOk (Nat.le_of_ble_eq_true rfl)) (Nat.le_of_ble_eq_true rfl) dL_law_498 rfl (c_X7_sorts h.n0 h.n12 h.DT h.RG (fun S1 f1 => ?_))
  have hz1 := h.z f1.z
  refine V_aload_n dL_law_501 rfl 1 rfl ?_
  refine V_aload_n dL_law_502 rfl 3 rfl ?_
  refine V_iload_n dL_law_503 rfl 0 rfl ?_
  refine V_iconst (v := 1) dL_law_504 ki_1 ?_
  refine V_iadd dL_law_505 ?_
  refine V_topi (v := nI (i + 1)) (nI_add i 1) ?_
  refine l_scr ⟨by omega, hL⟩ dL_law_506 ?_
  refine V_aload_n dL_law_507 rfl 3 rfl ?_
  refine V_iload_n dL_law_508 rfl 0 rfl ?_
  refine V_iconst (v := 2) dL_law_509 ki_2 ?_
  refine V_iadd dL_law_510 ?_
  refine V_topi (v := nI (i + 2)) (nI_add i 2) ?_
  refine l_scr ⟨by omega, hL⟩ dL_law_511 ?_
  refine V_cVl (P := PL G scr L xs) (d := 40) 29 (r := [.long (sorC S n t (xs (i + 1)) (xs (i + 2)))]) (As := [.int (xs (i + 1)), .int (xs (i + 2))]) (K := mX8_sorts) ok_X8_sorts tw_795 (ob_29 _) rfl (lwOk (Nat.le_of_ble_eq_true rfl)) (Nat.le_of_ble_eq_true rfl) dL_law_512 rfl (c_X8_sorts hz1.n1 h.n12 hz1.DTm hz1.RGm (fun S2 f2 => ?_))
  refine V_lcmp dL_law_515 ?_
  refine V_if_eq 931 dL_law_516 (by decide) (fun h1 => ?_) (fun h1 => ?_)
  · exact K S2 n t g y (hz1.z f2.z)
  · exact absurd (lg0.mpr (sor_eq (h.jv2 f1.z) (h.jt2 f1.z) h.n12 _ _)) h1
theorem lw_blame {G : GX} {scr L i n t g y : Nat} {xs : Nat → Int32} {S : ST} (hL : L ≤ 320) (hi : i + 5 ≤ L) (h : IV n t g y S) (K : ∀ S2 n2 t2 g2 y2, IV n2 t2 g2 y2 S2 → V (PL G scr L xs) 931 [(3, .int (nI i)), (2, .ref (G.2.1 29)), (1, .ref (G.2.1 0)), (0, .ref scr)] [] S2) : V (PL G scr L xs) 521 [(3, .int (nI i)), (2, .ref (G.2.1 29)), (1, .ref (G.2.1 0)), (0, .ref scr)] [] S := by
  refine V_aload_n dL_law_521 rfl 2 rfl ?_
  refine V_aload_n dL_law_522 rfl 3 rfl ?_
  refine V_iload_n dL_law_523 rfl 0 rfl ?_
  refine V_iconst (v := 1) dL_law_524 ki_1 ?_
  refine V_iadd dL_law_525 ?_
  refine V_topi (v := nI (i + 1)) (nI_add i 1) ?_
  refine l_scr ⟨by omega, hL⟩ dL_law_526 ?_
  refine V_aload_n dL_law_527 rfl 3 rfl ?_
  refine V_iload_n dL_law_528 rfl 0 rfl ?_
  refine V_iconst (v := 2) dL_law_529 ki_2 ?_
  refine V_iadd dL_law_530 ?_
  refine V_topi (v := nI (i + 2)) (nI_add i 2) ?_
  refine l_scr ⟨by omega, hL⟩ dL_law_531 ?_
  refine V_cVl (P := PL G scr L xs) (d := 40) 0 (r := []) (As := [.int (xs (i + 1)), .int (xs (i + 2))]) (K := mX7_blame) ok_X7_blame tw_369 (ob_0 _) rfl (lwOk (Nat.le_of_ble_eq_true rfl)) (Nat.le_of_ble_eq_true rfl) dL_law_532 rfl (c_X7_blame h.n0 h.n12 h.DT h.RG (fun S1 f1 => ?_))
  have hz1 := h.z f1.z
  refine V_aload_n dL_law_535 rfl 1 rfl ?_
  refine V_aload_n dL_law_536 rfl 3 rfl ?_
  refine V_iload_n dL_law_537 rfl 0 rfl ?_
  refine V_iconst (v := 1) dL_law_538 ki_1 ?_
  refine V_iadd dL_law_539 ?_
  refine V_topi (v := nI (i + 1)) (nI_add i 1) ?_
  refine l_scr ⟨by omega, hL⟩ dL_law_540 ?_
  refine V_aload_n dL_law_541 rfl 3 rfl ?_
  refine V_iload_n dL_law_542 rfl 0 rfl ?_
  refine V_iconst (v := 2) dL_law_543 ki_2 ?_
  refine V_iadd dL_law_544 ?_
  refine V_topi (v := nI (i + 2)) (nI_add i 2) ?_
  refine l_scr ⟨by omega, hL⟩ dL_law_545 ?_
  refine V_cVl (P := PL G scr L xs) (d := 40) 29 (r := [.long (blaC S n t (xs (i + 1)) (xs (i + 2)))]) (As := [.int (xs (i + 1)), .int (xs (i + 2))]) (K := mX8_blame) ok_X8_blame tw_799 (ob_29 _) rfl (lwOk (Nat.le_of_ble_eq_true rfl)) (Nat.le_of_ble_eq_true rfl) dL_law_546 rfl (c_X8_blame hz1.n1 h.n12 hz1.DTm hz1.RGm (fun S2 f2 => ?_))
  refine V_lcmp dL_law_549 ?_
  refine V_if_eq 931 dL_law_550 (by decide) (fun h1 => ?_) (fun h1 => ?_)
  · exact K S2 n t g y (hz1.z f2.z)
  · exact absurd (lg0.mpr (bla_eq (h.jv2 f1.z) (h.jt2 f1.z) h.n12 _ _)) h1
theorem lw_guess {G : GX} {scr L i n t g y : Nat} {xs : Nat → Int32} {S : ST} (hL : L ≤ 320) (hi : i + 5 ≤ L) (h : IV n t g y S) (K : ∀ S2 n2 t2 g2 y2, IV n2 t2 g2 y2 S2 → V (PL G scr L xs) 931 [(3, .int (nI i)), (2, .ref (G.2.1 29)), (1, .ref (G.2.1 0)), (0, .ref scr)] [] S2) : V (PL G scr L xs) 555 [(3, .int (nI i)), (2, .ref (G.2.1 29)), (1, .ref (G.2.1 0)), (0, .ref scr)] [] S := by
  refine V_aload_n dL_law_555 rfl 2 rfl ?_
  refine V_aload_n dL_law_556 rfl 3 rfl ?_
  refine V_iload_n dL_law_557 rfl 0 rfl ?_
  refine V_iconst (v := 1) dL_law_558 ki_1 ?_
  refine V_iadd dL_law_559 ?_
  refine V_topi (v := nI (i + 1)) (nI_add i 1) ?_
  refine l_scr ⟨by omega, hL⟩ dL_law_560 ?_
  refine V_cVi (P := PL G scr L xs) (d := 40) 0 (r := []) (As := [.int (xs (i + 1))]) (K := mX7_guess) ok_X7_guess tw_384 (ob_0 _) rfl (lwOk (Nat.le_of_ble_eq_true rfl)) (Nat.le_of_ble_eq_true rfl) dL_law_561 rfl (c_X7_guess h.n0 h.n12 h.DT h.RG (fun S1 f1 => ?_))
  have hz1 := h.z f1.z
  refine V_aload_n dL_law_564 rfl 1 rfl ?_
  refine V_aload_n dL_law_565 rfl 3 rfl ?_
  refine V_iload_n dL_law_566 rfl 0 rfl ?_
  refine V_iconst (v := 1) dL_law_567 ki_1 ?_
  refine V_iadd dL_law_568 ?_
  refine V_topi (v := nI (i + 1)) (nI_add i 1) ?_
  refine l_scr ⟨by omega, hL⟩ dL_law_569 ?_
  refine V_cVi (P := PL G scr L xs) (d := 40) 29 (r := [.int (gueC S n t (xs (i + 1)))]) (As := [.int (xs (i + 1))]) (K := mX8_guess) ok_X8_guess tw_803 (ob_29 _) rfl (lwOk (Nat.le_of_ble_eq_true rfl)) (Nat.le_of_ble_eq_true rfl) dL_law_570 rfl (c_X8_guess hz1.n1 h.n12 hz1.DTm (fun S2 f2 => ?_))
  refine V_icmp_eq 931 dL_law_573 (by decide) (fun h1 => ?_) (fun h1 => ?_)
  · exact K S2 n t g y (hz1.z f2.z)
  · exact absurd (gue_eq (h.jv2 f1.z) (h.jt2 f1.z) h.n12 _) h1
theorem lw_hope {G : GX} {scr L i n t g y : Nat} {xs : Nat → Int32} {S : ST} (hL : L ≤ 320) (hi : i + 5 ≤ L) (h : IV n t g y S) (K : ∀ S2 n2 t2 g2 y2, IV n2 t2 g2 y2 S2 → V (PL G scr L xs) 931 [(3, .int (nI i)), (2, .ref (G.2.1 29)), (1, .ref (G.2.1 0)), (0, .ref scr)] [] S2) : V (PL G scr L xs) 578 [(3, .int (nI i)), (2, .ref (G.2.1 29)), (1, .ref (G.2.1 0)), (0, .ref scr)] [] S := by
  refine V_aload_n dL_law_578 rfl 2 rfl ?_
  refine V_aload_n dL_law_579 rfl 3 rfl ?_
  refine V_iload_n dL_law_580 rfl 0 rfl ?_
  refine V_iconst (v := 1) dL_law_581 ki_1 ?_
  refine V_iadd dL_law_582 ?_
  refine V_topi (v := nI (i + 1)) (nI_add i 1) ?_
  refine l_scr ⟨by omega, hL⟩ dL_law_583 ?_
  refine V_aload_n dL_law_584 rfl 3 rfl ?_
  refine V_iload_n dL_law_585 rfl 0 rfl ?_
  refine V_iconst (v := 2) dL_law_586 ki_2 ?_
  refine V_iadd dL_law_587 ?_
  refine V_topi (v := nI (i + 2)) (nI_add i 2) ?_
  refine l_scr ⟨by omega, hL⟩ dL_law_588 ?_
  refine V_cVl (P := PL G scr L xs) (d := 40) 0 (r := []) (As := [.int (xs (i + 1)), .int (xs (i + 2))]) (K := mX7_hope) ok_X7_hope tw_391 (ob_0 _) rfl (lwOk (Nat.le_of_ble_eq_true rfl)) (Nat.le_of_ble_eq_true rfl) dL_law_589 rfl (c_X7_hope h.n0 h.n12 h.DT h.RG (fun S1 f1 => ?_))
  have hz1 := h.z f1.z
  refine V_aload_n dL_law_592 rfl 1 rfl ?_
  refine V_aload_n dL_law_593 rfl 3 rfl ?_
  refine V_iload_n dL_law_594 rfl 0 rfl ?_
  refine V_iconst (v := 1) dL_law_595 ki_1 ?_
  refine V_iadd dL_law_596 ?_
  refine V_topi (v := nI (i + 1)) (nI_add i 1) ?_
  refine l_scr ⟨by omega, hL⟩ dL_law_597 ?_
  refine V_aload_n dL_law_598 rfl 3 rfl ?_
  refine V_iload_n dL_law_599 rfl 0 rfl ?_
  refine V_iconst (v := 2) dL_law_600 ki_2 ?_
  refine V_iadd dL_law_601 ?_
  refine V_topi (v := nI (i + 2)) (nI_add i 2) ?_
  refine l_scr ⟨by omega, hL⟩ dL_law_602 ?_
  refine V_cVl (P := PL G scr L xs) (d := 40) 29 (r := [.long (hopC S n t (xs (i + 1)) (xs (i + 2)))]) (As := [.int (xs (i + 1)), .int (xs (i + 2))]) (K := mX8_hope) ok_X8_hope tw_811 (ob_29 _) rfl (lwOk (Nat.le_of_ble_eq_true rfl)) (Nat.le_of_ble_eq_true rfl) dL_law_603 rfl (c_X8_hope hz1.n1 h.n12 hz1.DTm hz1.RGm (fun S2 f2 => ?_))
  refine V_lcmp dL_law_606 ?_
  refine V_if_eq 931 dL_law_607 (by decide) (fun h1 => ?_) (fun h1 => ?_)
  · exact K S2 n t g y (hz1.z f2.z)
  · exact absurd (lg0.mpr (hop_eq (h.jv2 f1.z) (h.jt2 f1.z) h.n12 _ _)) h1
theorem lw_next {G : GX} {scr L i n t g y : Nat} {xs : Nat → Int32} {S : ST} (hL : L ≤ 320) (hi : i + 5 ≤ L) (h : IV n t g y S) (K : ∀ S2 n2 t2 g2 y2, IV n2 t2 g2 y2 S2 → V (PL G scr L xs) 931 [(3, .int (nI i)), (2, .ref (G.2.1 29)), (1, .ref (G.2.1 0)), (0, .ref scr)] [] S2) : V (PL G scr L xs) 612 [(3, .int (nI i)), (2, .ref (G.2.1 29)), (1, .ref (G.2.1 0)), (0, .ref scr)] [] S := by
  refine V_aload_n dL_law_612 rfl 2 rfl ?_
  refine V_aload_n dL_law_613 rfl 3 rfl ?_
  refine V_iload_n dL_law_614 rfl 0 rfl ?_
  refine V_iconst (v := 1) dL_law_615 ki_1 ?_
  refine V_iadd dL_law_616 ?_
  refine V_topi (v := nI (i + 1)) (nI_add i 1) ?_
  refine l_scr ⟨by omega, hL⟩ dL_law_617 ?_
  refine V_cVi (P := PL G scr L xs) (d := 40) 0 (r := []) (As := [.int (xs (i + 1))]) (K := mX7_next) ok_X7_next tw_401 (ob_0 _) rfl (lwOk (Nat.le_of_ble_eq_true rfl)) (Nat.le_of_ble_eq_true rfl) dL_law_618 rfl (c_X7_next h.n0 h.n12 h.DT (fun S1 f1 => ?_))
  have hz1 := h.z f1.z
  refine V_aload_n dL_law_621 rfl 1 rfl ?_
  refine V_aload_n dL_law_622 rfl 3 rfl ?_
  refine V_iload_n dL_law_623 rfl 0 rfl ?_
  refine V_iconst (v := 1) dL_law_624 ki_1 ?_
  refine V_iadd dL_law_625 ?_
  refine V_topi (v := nI (i + 1)) (nI_add i 1) ?_
  refine l_scr ⟨by omega, hL⟩ dL_law_626 ?_
  refine V_cVi (P := PL G scr L xs) (d := 40) 29 (r := [.int (nexC S n t (xs (i + 1)))]) (As := [.int (xs (i + 1))]) (K := mX8_next) ok_X8_next tw_824 (ob_29 _) rfl (lwOk (Nat.le_of_ble_eq_true rfl)) (Nat.le_of_ble_eq_true rfl) dL_law_627 rfl (c_X8_next hz1.n1 h.n12 hz1.DTm (fun S2 f2 => ?_))
  refine V_icmp_eq 931 dL_law_630 (by decide) (fun h1 => ?_) (fun h1 => ?_)
  · exact K S2 n t g y (hz1.z f2.z)
  · exact absurd (nex_eq (h.jv2 f1.z) (h.jt2 f1.z) h.n12 _) h1
theorem lw_worst {G : GX} {scr L i n t g y : Nat} {xs : Nat → Int32} {S : ST} (hL : L ≤ 320) (hi : i + 5 ≤ L) (h : IV n t g y S) (K : ∀ S2 n2 t2 g2 y2, IV n2 t2 g2 y2 S2 → V (PL G scr L xs) 931 [(3, .int (nI i)), (2, .ref (G.2.1 29)), (1, .ref (G.2.1 0)), (0, .ref scr)] [] S2) : V (PL G scr L xs) 635 [(3, .int (nI i)), (2, .ref (G.2.1 29)), (1, .ref (G.2.1 0)), (0, .ref scr)] [] S := by
  refine V_aload_n dL_law_635 rfl 2 rfl ?_
  refine V_aload_n dL_law_636 rfl 3 rfl ?_
  refine V_iload_n dL_law_637 rfl 0 rfl ?_
  refine V_iconst (v := 1) dL_law_638 ki_1 ?_
  refine V_iadd dL_law_639 ?_
  refine V_topi (v := nI (i + 1)) (nI_add i 1) ?_
  refine l_scr ⟨by omega, hL⟩ dL_law_640 ?_
  refine V_aload_n dL_law_641 rfl 3 rfl ?_
  refine V_iload_n dL_law_642 rfl 0 rfl ?_
  refine V_iconst (v := 2) dL_law_643 ki_2 ?_
  refine V_iadd dL_law_644 ?_
  refine V_topi (v := nI (i + 2)) (nI_add i 2) ?_
  refine l_scr ⟨by omega, hL⟩ dL_law_645 ?_
  refine V_cVi (P := PL G scr L xs) (d := 40) 0 (r := []) (As := [.int (xs (i + 1)), .int (xs (i + 2))]) (K := mX7_worst) ok_X7_worst tw_419 (ob_0 _) rfl (lwOk (Nat.le_of_ble_eq_true rfl)) (Nat.le_of_ble_eq_true rfl) dL_law_646 rfl (c_X7_worst h.EV h.n12 h.m.1 (fun S1 f1 => ?_))
  have hz1 : IV n t g y S1 := by
    rcases f1 with e | ⟨a, b, c⟩
    · rw [e]; exact h
    · exact st_w3 h a c
  refine V_aload_n dL_law_649 rfl 1 rfl ?_
  refine V_aload_n dL_law_650 rfl 3 rfl ?_
  refine V_iload_n dL_law_651 rfl 0 rfl ?_
  refine V_iconst (v := 1) dL_law_652 ki_1 ?_
  refine V_iadd dL_law_653 ?_
  refine V_topi (v := nI (i + 1)) (nI_add i 1) ?_
  refine l_scr ⟨by omega, hL⟩ dL_law_654 ?_
  refine V_aload_n dL_law_655 rfl 3 rfl ?_
  refine V_iload_n dL_law_656 rfl 0 rfl ?_
  refine V_iconst (v := 2) dL_law_657 ki_2 ?_
  refine V_iadd dL_law_658 ?_
  refine V_topi (v := nI (i + 2)) (nI_add i 2) ?_
  refine l_scr ⟨by omega, hL⟩ dL_law_659 ?_
  refine V_cVi (P := PL G scr L xs) (d := 40) 29 (r := [.int (parR n (xs (i + 1)) (xs (i + 2)) (PR false (S.2.2.1 9) (S.2.2.1 14) (S.2.2.1 12) (S.2.2.1 11) n))]) (As := [.int (xs (i + 1)), .int (xs (i + 2))]) (K := mX8_worst) ok_X8_worst tw_836 (ob_29 _) rfl (lwOk (Nat.le_of_ble_eq_true rfl)) (Nat.le_of_ble_eq_true rfl) dL_law_660 rfl (c_X8_worst hz1.EM h.n12 hz1.m.2.2 (fun S2 f2 => ?_))
  refine V_icmp_eq 931 dL_law_663 (by decide) (fun h1 => ?_) (fun h1 => ?_)
  · refine K S2 n t g y ?_
    rcases f2 with e | ⟨a, b⟩
    · rw [e]; exact hz1
    · exact st_ly hz1 a b
  · exact absurd (by rw [wor_e false h f1 (Or.inl rfl)]) h1
theorem lw_mean {G : GX} {scr L i n t g y : Nat} {xs : Nat → Int32} {S : ST} (hL : L ≤ 320) (hi : i + 5 ≤ L) (h : IV n t g y S) (K : ∀ S2 n2 t2 g2 y2, IV n2 t2 g2 y2 S2 → V (PL G scr L xs) 931 [(3, .int (nI i)), (2, .ref (G.2.1 29)), (1, .ref (G.2.1 0)), (0, .ref scr)] [] S2) : V (PL G scr L xs) 668 [(3, .int (nI i)), (2, .ref (G.2.1 29)), (1, .ref (G.2.1 0)), (0, .ref scr)] [] S := by
  refine V_aload_n dL_law_668 rfl 2 rfl ?_
  refine V_aload_n dL_law_669 rfl 3 rfl ?_
  refine V_iload_n dL_law_670 rfl 0 rfl ?_
  refine V_iconst (v := 1) dL_law_671 ki_1 ?_
  refine V_iadd dL_law_672 ?_
  refine V_topi (v := nI (i + 1)) (nI_add i 1) ?_
  refine l_scr ⟨by omega, hL⟩ dL_law_673 ?_
  refine V_aload_n dL_law_674 rfl 3 rfl ?_
  refine V_iload_n dL_law_675 rfl 0 rfl ?_
  refine V_iconst (v := 2) dL_law_676 ki_2 ?_
  refine V_iadd dL_law_677 ?_
  refine V_topi (v := nI (i + 2)) (nI_add i 2) ?_
  refine l_scr ⟨by omega, hL⟩ dL_law_678 ?_
  refine V_cVi (P := PL G scr L xs) (d := 40) 0 (r := []) (As := [.int (xs (i + 1)), .int (xs (i + 2))]) (K := mX7_mean) ok_X7_mean tw_470 (ob_0 _) rfl (lwOk (Nat.le_of_ble_eq_true rfl)) (Nat.le_of_ble_eq_true rfl) dL_law_679 rfl (c_X7_mean h.EV h.n12 h.m.2.1 (fun S1 f1 => ?_))
  have hz1 : IV n t g y S1 := by
    rcases f1 with e | ⟨a, b, c⟩
    · rw [e]; exact h
    · exact st_w5 h a c
  refine V_aload_n dL_law_682 rfl 1 rfl ?_
  refine V_aload_n dL_law_683 rfl 3 rfl ?_
  refine V_iload_n dL_law_684 rfl 0 rfl ?_
  refine V_iconst (v := 1) dL_law_685 ki_1 ?_
  refine V_iadd dL_law_686 ?_
  refine V_topi (v := nI (i + 1)) (nI_add i 1) ?_
  refine l_scr ⟨by omega, hL⟩ dL_law_687 ?_
  refine V_aload_n dL_law_688 rfl 3 rfl ?_
  refine V_iload_n dL_law_689 rfl 0 rfl ?_
  refine V_iconst (v := 2) dL_law_690 ki_2 ?_
  refine V_iadd dL_law_691 ?_
  refine V_topi (v := nI (i + 2)) (nI_add i 2) ?_
  refine l_scr ⟨by omega, hL⟩ dL_law_692 ?_
  refine V_cVi (P := PL G scr L xs) (d := 40) 29 (r := [.int (parR n (xs (i + 1)) (xs (i + 2)) (PR true (S.2.2.1 9) (S.2.2.1 14) (S.2.2.1 12) (S.2.2.1 11) n))]) (As := [.int (xs (i + 1)), .int (xs (i + 2))]) (K := mX8_mean) ok_X8_mean tw_852 (ob_29 _) rfl (lwOk (Nat.le_of_ble_eq_true rfl)) (Nat.le_of_ble_eq_true rfl) dL_law_693 rfl (c_X8_mean hz1.EM h.n12 hz1.m.2.2 (fun S2 f2 => ?_))
  refine V_icmp_eq 931 dL_law_696 (by decide) (fun h1 => ?_) (fun h1 => ?_)
  · refine K S2 n t g y ?_
    rcases f2 with e | ⟨a, b⟩
    · rw [e]; exact hz1
    · exact st_ly hz1 a b
  · exact absurd (by rw [wor_e true h f1 (Or.inr rfl)]) h1
theorem lw_twins {G : GX} {scr L i n t g y : Nat} {xs : Nat → Int32} {S : ST} (hL : L ≤ 320) (hi : i + 5 ≤ L) (h : IV n t g y S) (K : ∀ S2 n2 t2 g2 y2, IV n2 t2 g2 y2 S2 → V (PL G scr L xs) 931 [(3, .int (nI i)), (2, .ref (G.2.1 29)), (1, .ref (G.2.1 0)), (0, .ref scr)] [] S2) : V (PL G scr L xs) 701 [(3, .int (nI i)), (2, .ref (G.2.1 29)), (1, .ref (G.2.1 0)), (0, .ref scr)] [] S := by
  refine V_aload_n dL_law_701 rfl 2 rfl ?_
  refine V_aload_n dL_law_702 rfl 3 rfl ?_
  refine V_iload_n dL_law_703 rfl 0 rfl ?_
  refine V_iconst (v := 1) dL_law_704 ki_1 ?_
  refine V_iadd dL_law_705 ?_
  refine V_topi (v := nI (i + 1)) (nI_add i 1) ?_
  refine l_scr ⟨by omega, hL⟩ dL_law_706 ?_
  refine V_cVi (P := PL G scr L xs) (d := 40) 0 (r := []) (As := [.int (xs (i + 1))]) (K := mX7_twins) ok_X7_twins tw_474 (ob_0 _) rfl (lwOk (Nat.le_of_ble_eq_true rfl)) (Nat.le_of_ble_eq_true rfl) dL_law_707 rfl (c_X7_twins h.n0 h.n12 ?_)
  refine V_aload_n dL_law_710 rfl 1 rfl ?_
  refine V_aload_n dL_law_711 rfl 3 rfl ?_
  refine V_iload_n dL_law_712 rfl 0 rfl ?_
  refine V_iconst (v := 1) dL_law_713 ki_1 ?_
  refine V_iadd dL_law_714 ?_
  refine V_topi (v := nI (i + 1)) (nI_add i 1) ?_
  refine l_scr ⟨by omega, hL⟩ dL_law_715 ?_
  refine V_cVi (P := PL G scr L xs) (d := 40) 29 (r := [.int (if kn n (xs (i + 1)) then bitsOf (fun c => decide (((S.2.2.1 10 c ^^^ S.2.2.1 10 (xs (i + 1)).toNatClampNeg) &&& bitsOf (fun v => decide (S.2.2.1 14 v = 0)) n) = 0)) n else -1)]) (As := [.int (xs (i + 1))]) (K := mX8_twins) ok_X8_twins tw_856 (ob_29 _) rfl (lwOk (Nat.le_of_ble_eq_true rfl)) (Nat.le_of_ble_eq_true rfl) dL_law_716 rfl (c_X8_twins h.n1 h.n12 ?_)
  refine V_icmp_eq 931 dL_law_719 (by decide) (fun h1 => ?_) (fun h1 => ?_)
  · exact K S n t g y h
  · exact absurd (twi_eq h.jv h.n12 _) h1
theorem lw_say {G : GX} {scr L i n t g y : Nat} {xs : Nat → Int32} {S : ST} (hL : L ≤ 320) (hi : i + 5 ≤ L) (h : IV n t g y S) (K : ∀ S2 n2 t2 g2 y2, IV n2 t2 g2 y2 S2 → V (PL G scr L xs) 931 [(3, .int (nI i)), (2, .ref (G.2.1 29)), (1, .ref (G.2.1 0)), (0, .ref scr)] [] S2) : V (PL G scr L xs) 724 [(3, .int (nI i)), (2, .ref (G.2.1 29)), (1, .ref (G.2.1 0)), (0, .ref scr)] [] S := by
  refine V_aload_n dL_law_724 rfl 2 rfl ?_
  refine V_aload_n dL_law_725 rfl 3 rfl ?_
  refine V_iload_n dL_law_726 rfl 0 rfl ?_
  refine V_iconst (v := 1) dL_law_727 ki_1 ?_
  refine V_iadd dL_law_728 ?_
  refine V_topi (v := nI (i + 1)) (nI_add i 1) ?_
  refine l_scr ⟨by omega, hL⟩ dL_law_729 ?_
  refine V_cVi (P := PL G scr L xs) (d := 40) 0 (r := []) (As := [.int (xs (i + 1))]) (K := mX7_say) ok_X7_say tw_486 (ob_0 _) rfl (lwOk (Nat.le_of_ble_eq_true rfl)) (Nat.le_of_ble_eq_true rfl) dL_law_730 rfl (c_X7_say h.g0 h.g40 ?_)
  refine V_S (S2 := syC S g (xs (i + 1))) rfl ?_
  refine V_aload_n dL_law_733 rfl 1 rfl ?_
  refine V_aload_n dL_law_734 rfl 3 rfl ?_
  refine V_iload_n dL_law_735 rfl 0 rfl ?_
  refine V_iconst (v := 1) dL_law_736 ki_1 ?_
  refine V_iadd dL_law_737 ?_
  refine V_topi (v := nI (i + 1)) (nI_add i 1) ?_
  refine l_scr ⟨by omega, hL⟩ dL_law_738 ?_
  refine V_cVi (P := PL G scr L xs) (d := 40) 29 (r := [.int (if fr (xs (i + 1)) 33 126 then (if g < 40 then nI (g + 1) else -4) else -2)]) (As := [.int (xs (i + 1))]) (K := mX8_say) ok_X8_say tw_860 (ob_29 _) rfl (lwOk (Nat.le_of_ble_eq_true rfl)) (Nat.le_of_ble_eq_true rfl) dL_law_739 rfl (c_X8_say (g := g) ((syC_i _ _ _).trans h.g1) h.g40 ?_)
  refine V_S (S2 := syM (syC S g (xs (i + 1))) g (xs (i + 1))) rfl ?_
  refine V_icmp_eq 931 dL_law_742 (by decide) (fun h1 => ?_) (fun h1 => ?_)
  · obtain ⟨g2, h2⟩ := st_say h (xs (i + 1))
    exact K _ n t g2 y h2
  · exact absurd (say_eq h.g40 _) h1
theorem lw_wipe {G : GX} {scr L i n t g y : Nat} {xs : Nat → Int32} {S : ST} (hL : L ≤ 320) (hi : i + 5 ≤ L) (h : IV n t g y S) (K : ∀ S2 n2 t2 g2 y2, IV n2 t2 g2 y2 S2 → V (PL G scr L xs) 931 [(3, .int (nI i)), (2, .ref (G.2.1 29)), (1, .ref (G.2.1 0)), (0, .ref scr)] [] S2) : V (PL G scr L xs) 747 [(3, .int (nI i)), (2, .ref (G.2.1 29)), (1, .ref (G.2.1 0)), (0, .ref scr)] [] S := by
  refine V_aload_n dL_law_747 rfl 2 rfl ?_
  refine V_cVi (P := PL G scr L xs) (d := 40) 0 (r := []) (As := []) (K := mX7_wipe) ok_X7_wipe tw_494 (ob_0 _) rfl (lwOk (Nat.le_of_ble_eq_true rfl)) (Nat.le_of_ble_eq_true rfl) dL_law_748 rfl (c_X7_wipe ?_)
  refine V_aload_n dL_law_751 rfl 1 rfl ?_
  refine V_cVi (P := PL G scr L xs) (d := 40) 29 (r := [.int (S.1 8)]) (As := []) (K := mX8_wipe) ok_X8_wipe tw_864 (ob_29 _) rfl (lwOk (Nat.le_of_ble_eq_true rfl)) (Nat.le_of_ble_eq_true rfl) dL_law_752 rfl (c_X8_wipe ?_)
  refine V_topi (v := S.1 12) rfl ?_
  refine V_icmp_eq 931 dL_law_755 (by decide) (fun h1 => ?_) (fun h1 => ?_)
  · exact K _ n t 0 y (st_wipe h)
  · exact absurd (h.g0.trans h.g1.symm) h1
theorem lw_fault {G : GX} {scr L i n t g y : Nat} {xs : Nat → Int32} {S : ST} (hL : L ≤ 320) (hi : i + 5 ≤ L) (h : IV n t g y S) (K : ∀ S2 n2 t2 g2 y2, IV n2 t2 g2 y2 S2 → V (PL G scr L xs) 931 [(3, .int (nI i)), (2, .ref (G.2.1 29)), (1, .ref (G.2.1 0)), (0, .ref scr)] [] S2) : V (PL G scr L xs) 760 [(3, .int (nI i)), (2, .ref (G.2.1 29)), (1, .ref (G.2.1 0)), (0, .ref scr)] [] S := by
  refine V_aload_n dL_law_760 rfl 2 rfl ?_
  refine V_cVi (P := PL G scr L xs) (d := 40) 0 (r := []) (As := []) (K := mX7_fault) ok_X7_fault tw_498 (ob_0 _) rfl (lwOk (Nat.le_of_ble_eq_true rfl)) (Nat.le_of_ble_eq_true rfl) dL_law_761 rfl (c_X7_fault h.g0 h.g40 (fun S1 f1 => ?_))
  have hz1 := h.z f1.z
  refine V_aload_n dL_law_764 rfl 1 rfl ?_
  refine V_cVi (P := PL G scr L xs) (d := 40) 29 (r := [.int (flt (S.2.2.1 23) g g [0])]) (As := []) (K := mX8_fault) ok_X8_fault tw_868 (ob_29 _) rfl (lwOk (Nat.le_of_ble_eq_true rfl)) (Nat.le_of_ble_eq_true rfl) dL_law_765 rfl (c_X8_fault hz1.g1 h.g40 (fun S2 f2 => ?_))
  refine V_icmp_eq 931 dL_law_768 (by decide) (fun h1 => ?_) (fun h1 => ?_)
  · exact K S2 n t g y (hz1.z f2.z)
  · exact absurd (flt_e38 h (f1.2.2.1 38 (by decide))) h1
theorem lw_fails {G : GX} {scr L i n t g y : Nat} {xs : Nat → Int32} {S : ST} (hL : L ≤ 320) (hi : i + 5 ≤ L) (h : IV n t g y S) (K : ∀ S2 n2 t2 g2 y2, IV n2 t2 g2 y2 S2 → V (PL G scr L xs) 931 [(3, .int (nI i)), (2, .ref (G.2.1 29)), (1, .ref (G.2.1 0)), (0, .ref scr)] [] S2) : V (PL G scr L xs) 786 [(3, .int (nI i)), (2, .ref (G.2.1 29)), (1, .ref (G.2.1 0)), (0, .ref scr)] [] S := by
  refine V_aload_n dL_law_786 rfl 2 rfl ?_
  refine V_aload_n dL_law_787 rfl 3 rfl ?_
  refine V_iload_n dL_law_788 rfl 0 rfl ?_
  refine V_iconst (v := 1) dL_law_789 ki_1 ?_
  refine V_iadd dL_law_790 ?_
  refine V_topi (v := nI (i + 1)) (nI_add i 1) ?_
  refine l_scr ⟨by omega, hL⟩ dL_law_791 ?_
  refine V_aload_n dL_law_792 rfl 3 rfl ?_
  refine V_iload_n dL_law_793 rfl 0 rfl ?_
  refine V_iconst (v := 2) dL_law_794 ki_2 ?_
  refine V_iadd dL_law_795 ?_
  refine V_topi (v := nI (i + 2)) (nI_add i 2) ?_
  refine l_scr ⟨by omega, hL⟩ dL_law_796 ?_
  refine V_cVi (P := PL G scr L xs) (d := 40) 0 (r := []) (As := [.int (xs (i + 1)), .int (xs (i + 2))]) (K := mX7_fails) ok_X7_fails tw_530 (ob_0 _) rfl (lwOk (Nat.le_of_ble_eq_true rfl)) (Nat.le_of_ble_eq_true rfl) dL_law_797 rfl (c_X7_fails h.n0 h.n12 ?_)
  refine V_aload_n dL_law_800 rfl 1 rfl ?_
  refine V_aload_n dL_law_801 rfl 3 rfl ?_
  refine V_iload_n dL_law_802 rfl 0 rfl ?_
  refine V_iconst (v := 1) dL_law_803 ki_1 ?_
  refine V_iadd dL_law_804 ?_
  refine V_topi (v := nI (i + 1)) (nI_add i 1) ?_
  refine l_scr ⟨by omega, hL⟩ dL_law_805 ?_
  refine V_aload_n dL_law_806 rfl 3 rfl ?_
  refine V_iload_n dL_law_807 rfl 0 rfl ?_
  refine V_iconst (v := 2) dL_law_808 ki_2 ?_
  refine V_iadd dL_law_809 ?_
  refine V_topi (v := nI (i + 2)) (nI_add i 2) ?_
  refine l_scr ⟨by omega, hL⟩ dL_law_810 ?_
  refine V_cVi (P := PL G scr L xs) (d := 40) 29 (r := [.int (falR (xs (i + 1)) (xs (i + 2)) (decide ((1 : Int32) ≤ S.1 9)) (bl (sSe (S.2.2.1 13) ((xs (i + 1)).toNatClampNeg / 64) n) ((xs (i + 1)).toNatClampNeg % 64)) (bl (S.2.2.2 25 ((xs (i + 1)).toNatClampNeg / 64)) ((xs (i + 1)).toNatClampNeg % 64)))]) (As := [.int (xs (i + 1)), .int (xs (i + 2))]) (K := mX8_fails) ok_X8_fails tw_880 (ob_29 _) rfl (lwOk (Nat.le_of_ble_eq_true rfl)) (Nat.le_of_ble_eq_true rfl) dL_law_811 rfl (c_X8_fails h.n1 h.n12 h.y1 h.y40 h.WF (fun S2 f2 => ?_))
  refine V_icmp_eq 931 dL_law_814 (by decide) (fun h1 => ?_) (fun h1 => ?_)
  · exact K S2 n t g y (h.z f2.z)
  · exact absurd (fal_eq h _ _) h1
theorem lw_play {G : GX} {scr L i n t g y : Nat} {xs : Nat → Int32} {S : ST} (hL : L ≤ 320) (hi : i + 5 ≤ L) (h : IV n t g y S) (K : ∀ S2 n2 t2 g2 y2, IV n2 t2 g2 y2 S2 → V (PL G scr L xs) 931 [(3, .int (nI i)), (2, .ref (G.2.1 29)), (1, .ref (G.2.1 0)), (0, .ref scr)] [] S2) : V (PL G scr L xs) 819 [(3, .int (nI i)), (2, .ref (G.2.1 29)), (1, .ref (G.2.1 0)), (0, .ref scr)] [] S := by
  refine V_aload_n dL_law_819 rfl 2 rfl ?_
  refine V_aload_n dL_law_820 rfl 3 rfl ?_
  refine V_iload_n dL_law_821 rfl 0 rfl ?_
  refine V_iconst (v := 1) dL_law_822 ki_1 ?_
  refine V_iadd dL_law_823 ?_
  refine V_topi (v := nI (i + 1)) (nI_add i 1) ?_
  refine l_scr ⟨by omega, hL⟩ dL_law_824 ?_
  refine V_cVi (P := PL G scr L xs) (d := 40) 0 (r := []) (As := [.int (xs (i + 1))]) (K := mX7_play) ok_X7_play tw_555 (ob_0 _) rfl (lwOk (Nat.le_of_ble_eq_true rfl)) (Nat.le_of_ble_eq_true rfl) dL_law_825 rfl (c_X7_play h.n0 h.n12 h.HS (fun S1 f1 => ?_))
  have hmf := mid_fr f1
  refine V_aload_n dL_law_828 rfl 1 rfl ?_
  refine V_aload_n dL_law_829 rfl 3 rfl ?_
  refine V_iload_n dL_law_830 rfl 0 rfl ?_
  refine V_iconst (v := 1) dL_law_831 ki_1 ?_
  refine V_iadd dL_law_832 ?_
  refine V_topi (v := nI (i + 1)) (nI_add i 1) ?_
  refine l_scr ⟨by omega, hL⟩ dL_law_833 ?_
  refine V_cVi (P := PL G scr L xs) (d := 40) 29 (r := [.int (plyR S n (xs (i + 1)))]) (As := [.int (xs (i + 1))]) (K := mX8_play) ok_X8_play tw_892 (ob_29 _) rfl (lwOk (Nat.le_of_ble_eq_true rfl)) (Nat.le_of_ble_eq_true rfl) dL_law_834 rfl (c_X8_play (n := n) (y := y) ((hmf.1 10 (by decide) (by decide) (by decide)).trans h.n1) h.n12 ((hmf.1 13 (by decide) (by decide) (by decide)).trans h.y1) h.y40 (by rw [hmf.2.1 39 (by decide) (by decide) (by decide) (by decide)]; exact h.WF) (by rw [hmf.2.1 30 (by decide) (by decide) (by decide) (by decide)]; exact h.hsm) (fun S2 f2 => ?_))
  refine V_icmp_eq 931 dL_law_837 (by decide) (fun h1 => ?_) (fun h1 => ?_)
  · obtain ⟨t2, h2⟩ := (st_play h f1).2 S2 f2
    exact K S2 n t2 g y h2
  · exact absurd ((st_play h f1).1) h1
theorem lw_out {G : GX} {scr L i n t g y : Nat} {xs : Nat → Int32} {S : ST} (hL : L ≤ 320) (hi : i + 5 ≤ L) (h : IV n t g y S) (K : ∀ S2 n2 t2 g2 y2, IV n2 t2 g2 y2 S2 → V (PL G scr L xs) 931 [(3, .int (nI i)), (2, .ref (G.2.1 29)), (1, .ref (G.2.1 0)), (0, .ref scr)] [] S2) : V (PL G scr L xs) 842 [(3, .int (nI i)), (2, .ref (G.2.1 29)), (1, .ref (G.2.1 0)), (0, .ref scr)] [] S := by
  refine V_aload_n dL_law_842 rfl 2 rfl ?_
  refine V_aload_n dL_law_843 rfl 3 rfl ?_
  refine V_iload_n dL_law_844 rfl 0 rfl ?_
  refine V_iconst (v := 1) dL_law_845 ki_1 ?_
  refine V_iadd dL_law_846 ?_
  refine V_topi (v := nI (i + 1)) (nI_add i 1) ?_
  refine l_scr ⟨by omega, hL⟩ dL_law_847 ?_
  refine V_aload_n dL_law_848 rfl 3 rfl ?_
  refine V_iload_n dL_law_849 rfl 0 rfl ?_
  refine V_iconst (v := 2) dL_law_850 ki_2 ?_
  refine V_iadd dL_law_851 ?_
  refine V_topi (v := nI (i + 2)) (nI_add i 2) ?_
  refine l_scr ⟨by omega, hL⟩ dL_law_852 ?_
  refine V_cVi (P := PL G scr L xs) (d := 40) 0 (r := []) (As := [.int (xs (i + 1)), .int (xs (i + 2))]) (K := mX7_out) ok_X7_out tw_565 (ob_0 _) rfl (lwOk (Nat.le_of_ble_eq_true rfl)) (Nat.le_of_ble_eq_true rfl) dL_law_853 rfl (c_X7_out h.n0 h.n12 h.NE h.HS (fun S1 f1 => ?_))
  have hz1 := h.z f1.z
  refine V_aload_n dL_law_856 rfl 1 rfl ?_
  refine V_aload_n dL_law_857 rfl 3 rfl ?_
  refine V_iload_n dL_law_858 rfl 0 rfl ?_
  refine V_iconst (v := 1) dL_law_859 ki_1 ?_
  refine V_iadd dL_law_860 ?_
  refine V_topi (v := nI (i + 1)) (nI_add i 1) ?_
  refine l_scr ⟨by omega, hL⟩ dL_law_861 ?_
  refine V_aload_n dL_law_862 rfl 3 rfl ?_
  refine V_iload_n dL_law_863 rfl 0 rfl ?_
  refine V_iconst (v := 2) dL_law_864 ki_2 ?_
  refine V_iadd dL_law_865 ?_
  refine V_topi (v := nI (i + 2)) (nI_add i 2) ?_
  refine l_scr ⟨by omega, hL⟩ dL_law_866 ?_
  refine V_cVi (P := PL G scr L xs) (d := 40) 29 (r := [.int (outC S n (xs (i + 1)) (xs (i + 2)))]) (As := [.int (xs (i + 1)), .int (xs (i + 2))]) (K := mX8_out) ok_X8_out tw_900 (ob_29 _) rfl (lwOk (Nat.le_of_ble_eq_true rfl)) (Nat.le_of_ble_eq_true rfl) dL_law_867 rfl (c_X8_out hz1.n1 h.n12 hz1.y1 h.y40 hz1.WF hz1.hsm (fun S2 f2 => ?_))
  refine V_icmp_eq 931 dL_law_870 (by decide) (fun h1 => ?_) (fun h1 => ?_)
  · exact K S2 n t g y (hz1.z f2.z)
  · exact absurd ((out_eq h _ _).trans (out_fr f1 _ _ _ _).symm) h1
theorem lw_core {G : GX} {scr L i n t g y : Nat} {xs : Nat → Int32} {S : ST} (hL : L ≤ 320) (hi : i + 5 ≤ L) (h : IV n t g y S) (K : ∀ S2 n2 t2 g2 y2, IV n2 t2 g2 y2 S2 → V (PL G scr L xs) 931 [(3, .int (nI i)), (2, .ref (G.2.1 29)), (1, .ref (G.2.1 0)), (0, .ref scr)] [] S2) : V (PL G scr L xs) 875 [(3, .int (nI i)), (2, .ref (G.2.1 29)), (1, .ref (G.2.1 0)), (0, .ref scr)] [] S := by
  refine V_aload_n dL_law_875 rfl 2 rfl ?_
  refine V_aload_n dL_law_876 rfl 3 rfl ?_
  refine V_iload_n dL_law_877 rfl 0 rfl ?_
  refine V_iconst (v := 1) dL_law_878 ki_1 ?_
  refine V_iadd dL_law_879 ?_
  refine V_topi (v := nI (i + 1)) (nI_add i 1) ?_
  refine l_scr ⟨by omega, hL⟩ dL_law_880 ?_
  refine V_aload_n dL_law_881 rfl 3 rfl ?_
  refine V_iload_n dL_law_882 rfl 0 rfl ?_
  refine V_iconst (v := 2) dL_law_883 ki_2 ?_
  refine V_iadd dL_law_884 ?_
  refine V_topi (v := nI (i + 2)) (nI_add i 2) ?_
  refine l_scr ⟨by omega, hL⟩ dL_law_885 ?_
  refine V_cVi (P := PL G scr L xs) (d := 40) 0 (r := []) (As := [.int (xs (i + 1)), .int (xs (i + 2))]) (K := mX7_core) ok_X7_core tw_586 (ob_0 _) rfl (lwOk (Nat.le_of_ble_eq_true rfl)) (Nat.le_of_ble_eq_true rfl) dL_law_886 rfl (c_X7_core h.n0 h.n12 h.NE h.HS (fun S1 f1 => ?_))
  have hz1 := h.z f1.z
  refine V_aload_n dL_law_889 rfl 1 rfl ?_
  refine V_aload_n dL_law_890 rfl 3 rfl ?_
  refine V_iload_n dL_law_891 rfl 0 rfl ?_
  refine V_iconst (v := 1) dL_law_892 ki_1 ?_
  refine V_iadd dL_law_893 ?_
  refine V_topi (v := nI (i + 1)) (nI_add i 1) ?_
  refine l_scr ⟨by omega, hL⟩ dL_law_894 ?_
  refine V_aload_n dL_law_895 rfl 3 rfl ?_
  refine V_iload_n dL_law_896 rfl 0 rfl ?_
  refine V_iconst (v := 2) dL_law_897 ki_2 ?_
  refine V_iadd dL_law_898 ?_
  refine V_topi (v := nI (i + 2)) (nI_add i 2) ?_
  refine l_scr ⟨by omega, hL⟩ dL_law_899 ?_
  refine V_cVi (P := PL G scr L xs) (d := 40) 29 (r := [.int (corC S n (xs (i + 1)) (xs (i + 2)))]) (As := [.int (xs (i + 1)), .int (xs (i + 2))]) (K := mX8_core) ok_X8_core tw_911 (ob_29 _) rfl (lwOk (Nat.le_of_ble_eq_true rfl)) (Nat.le_of_ble_eq_true rfl) dL_law_900 rfl (c_X8_core hz1.n1 h.n12 hz1.y1 h.y40 hz1.WF hz1.hsm (fun S2 f2 => ?_))
  refine V_icmp_eq 931 dL_law_903 (by decide) (fun h1 => ?_) (fun h1 => ?_)
  · exact K S2 n t g y (hz1.z f2.z)
  · exact absurd ((cor_eq h _ _).trans (cor_fr f1 _ _ _ _).symm) h1
theorem lw_told {G : GX} {scr L i n t g y : Nat} {xs : Nat → Int32} {S : ST} (hL : L ≤ 320) (hi : i + 5 ≤ L) (h : IV n t g y S) (K : ∀ S2 n2 t2 g2 y2, IV n2 t2 g2 y2 S2 → V (PL G scr L xs) 931 [(3, .int (nI i)), (2, .ref (G.2.1 29)), (1, .ref (G.2.1 0)), (0, .ref scr)] [] S2) : V (PL G scr L xs) 908 [(3, .int (nI i)), (2, .ref (G.2.1 29)), (1, .ref (G.2.1 0)), (0, .ref scr)] [] S := by
  refine V_aload_n dL_law_908 rfl 2 rfl ?_
  refine V_aload_n dL_law_909 rfl 3 rfl ?_
  refine V_iload_n dL_law_910 rfl 0 rfl ?_
  refine V_iconst (v := 1) dL_law_911 ki_1 ?_
  refine V_iadd dL_law_912 ?_
  refine V_topi (v := nI (i + 1)) (nI_add i 1) ?_
  refine l_scr ⟨by omega, hL⟩ dL_law_913 ?_
  refine V_cVi (P := PL G scr L xs) (d := 40) 0 (r := []) (As := [.int (xs (i + 1))]) (K := mX7_told) ok_X7_told tw_618 (ob_0 _) rfl (lwOk (Nat.le_of_ble_eq_true rfl)) (Nat.le_of_ble_eq_true rfl) dL_law_914 rfl (c_X7_told h.n0 h.n12 ?_)
  refine V_aload_n dL_law_917 rfl 1 rfl ?_
  refine V_aload_n dL_law_918 rfl 3 rfl ?_
  refine V_iload_n dL_law_919 rfl 0 rfl ?_
  refine V_iconst (v := 1) dL_law_920 ki_1 ?_
  refine V_iadd dL_law_921 ?_
  refine V_topi (v := nI (i + 1)) (nI_add i 1) ?_
  refine l_scr ⟨by omega, hL⟩ dL_law_922 ?_
  refine V_cVi (P := PL G scr L xs) (d := 40) 29 (r := [.int (tldC S n (xs (i + 1)))]) (As := [.int (xs (i + 1))]) (K := mX8_told) ok_X8_told tw_915 (ob_29 _) rfl (lwOk (Nat.le_of_ble_eq_true rfl)) (Nat.le_of_ble_eq_true rfl) dL_law_923 rfl (c_X8_told h.n1 h.n12 ?_)
  refine V_icmp_eq 931 dL_law_926 (by decide) (fun h1 => ?_) (fun h1 => ?_)
  · exact K S n t g y h
  · exact absurd (tld_eq h _) h1
theorem lw_truth {G : GX} {scr L i n t g y : Nat} {xs : Nat → Int32} {S : ST} (hL : L ≤ 320) (hi : i + 5 ≤ L) (h : IV n t g y S) (K : ∀ S2 n2 t2 g2 y2, IV n2 t2 g2 y2 S2 → V (PL G scr L xs) 931 [(3, .int (nI i)), (2, .ref (G.2.1 29)), (1, .ref (G.2.1 0)), (0, .ref scr)] [] S2) : V (PL G scr L xs) 773 [(3, .int (nI i)), (2, .ref (G.2.1 29)), (1, .ref (G.2.1 0)), (0, .ref scr)] [] S := by
  refine V_aload_n dL_law_773 rfl 2 rfl ?_
  refine V_cVi (P := PL G scr L xs) (d := 40) 0 (r := []) (As := []) (K := mX7_truth) ok_X7_truth tw_509 (ob_0 _) rfl (lwOk (Nat.le_of_ble_eq_true rfl)) (Nat.le_of_ble_eq_true rfl) dL_law_774 rfl (c_X7_truth h.g0 h.g40 (fun S1 f1 => ⟨fun e1 => ?_, fun e1 S3 f3 => ?_⟩))
  · refine V_aload_n dL_law_777 rfl 1 rfl ?_
    refine V_cVi (P := PL G scr L xs) (d := 40) 29 (r := [.int (-5)]) (As := []) (K := mX8_truth) ok_X8_truth tw_876 (ob_29 _) rfl (lwOk (Nat.le_of_ble_eq_true rfl)) (Nat.le_of_ble_eq_true rfl) dL_law_778 rfl (c_X8_truth (h.z f1.z).g1 h.g40 (fun S2 f2 => ⟨fun e2 => ?_, fun e2 => ?_⟩))
    · exact V_icmp_eq 931 dL_law_781 (by decide) (fun _ => K S2 n t g y ((h.z f1.z).z f2.z)) (fun z => absurd rfl z)
    · exact absurd ((flt_e38 h (f1.2.2.1 38 (by decide))).trans e2) e1
  · have e38 : (setI S3 8 0).2.2.1 38 = S.2.2.1 38 := by show S3.2.2.1 38 = _; rw [f3.1.2.2.1]; exact f1.2.2.1 38 (by decide)
    refine V_aload_n dL_law_777 rfl 1 rfl ?_
    refine V_cVi (P := PL G scr L xs) (d := 40) 29 (r := [.int (nI g)]) (As := []) (K := mX8_truth) ok_X8_truth tw_876 (ob_29 _) rfl (lwOk (Nat.le_of_ble_eq_true rfl)) (Nat.le_of_ble_eq_true rfl) dL_law_778 rfl (c_X8_truth (y := g) ((f3.1.1 12 (by decide)).trans (by rw [f1.1]; exact h.g1)) h.g40 (fun S4 f4 => ⟨fun e2 => ?_, fun e2 => ?_⟩))
    · exact absurd ((flt_e38 h e38).symm.trans e1) e2
    · exact V_icmp_eq 931 dL_law_781 (by decide) (fun _ => K _ n t 0 g (st_truth h f1 e1 f3 f4)) (fun z => absurd rfl z)
