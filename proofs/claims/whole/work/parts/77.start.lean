abbrev PQ (G : GX) (scr L : Nat) (xs : Nat → Int32) : PX := (G, room_1, (0, 0), (fun below args s _ => lw_Z below args s), (fun s args A => EL scr L xs s args A ∧ LX G A s s.heap), mL)
theorem conc_get (G : GX) (S : ST) {i : Nat} (hi : i < 51) : ∃ e, (conc G S)[i]? = some (G.2.1 i, e) := by
  have hl : i < (conc G S).length := by rw [conc_len]; exact hi
  have h := List.getElem?_eq_getElem hl
  obtain ⟨-, h2⟩ := conc_adr G S i _ h
  exact ⟨((conc G S)[i]).2, by rw [h, ← h2]⟩
theorem law_V {G : GX} {scr L a n pc : Nat} {xs : Nat → Int32} {ws : va_W} {lv : LV} {stk : List Value} (adr : Nat → Nat) (S : ST) (is : List Nat) (h1 : is.filterMap (fun i => ws[i]?) = conc (G.1, adr, G.2.2) S) (h2 : is.map (fun i => ws[i]?) = (conc (G.1, adr, G.2.2) S).map some) (hn : va_nd is = true) (ha : a ≤ 100) (hb : n ≤ 100000) (h : V (PL (G.1, adr, G.2.2) scr L xs) pc lv stk S) : U (PQ G scr L xs) a n pc lv stk ws := by
  intro p l e s m args below meth c A H locs ls C hP hD hS hl
  have hP2 := hP.sub is h1
  have hD2 := hD.sub is hn h2
  obtain ⟨c1, c2, c3, c4, c5, c6, c7, c8, c9, c10, -, c12, c13⟩ := C
  refine W.widen (k := 100) (n := 100000) ha hb (h p l e s m args below meth c A H locs ls ⟨c1, c2, c3, c4, c5, c6, c7, c8, c9, fun i j hi hj hij => ?_, c13, fun i hi => ?_, c10, c12⟩ hP2 hS hl)
  · obtain ⟨e1, g1⟩ := conc_get (G.1, adr, G.2.2) S hi
    obtain ⟨e2, g2⟩ := conc_get (G.1, adr, G.2.2) S hj
    exact hD2.1 i j _ _ g1 g2 hij
  · obtain ⟨e1, g1⟩ := conc_get (G.1, adr, G.2.2) S hi
    exact hD2.2 i _ g1
/-- the start -/
def S00 : ST := (fun _ => 0, fun _ => 0, va_up (va_up (fun _ _ => 0) 17 (upd (fun _ => 0) 2 1)) 37 (upd (fun _ => 0) 2 1), fun _ _ => 0)
theorem IV_0 : IV 0 0 0 0 S00 := by
  refine ⟨⟨rfl, rfl, by decide, rfl, rfl, by decide, rfl, rfl, by decide, rfl, rfl, by decide⟩, fun v hv => absurd hv (Nat.not_lt_zero _), fun v _ _ => ⟨rfl, rfl, rfl⟩, fun c hc => absurd hc (Nat.not_lt_zero _), fun k hk => absurd hk (Nat.not_lt_zero _), ⟨fun k _ => rfl, fun k hk => ⟨0, by decide, ?_⟩, fun k h1 h2 => ?_⟩, fun k hk => absurd hk (Nat.not_lt_zero _), fun hy => absurd hy (Nat.not_lt_zero _), ⟨fun _ t _ => Or.inl rfl, fun _ t _ => Or.inl rfl, fun z => absurd rfl z⟩⟩
  · show upd (fun _ => 0) 2 1 k = nI 0
    rw [pk_un (by omega)]; rfl
  · show ∃ a, a ≤ 9 ∧ upd (fun _ => 0) 2 1 k = nI a
    by_cases e : k = 2
    · rw [e, pk_us]; exact ⟨1, by decide, rfl⟩
    · rw [pk_un e]; exact ⟨0, by decide, rfl⟩
set_option maxHeartbeats 8000000 in
set_option maxRecDepth 100000 in
theorem law_start {G : GX} {scr L : Nat} {xs : Nat → Int32} (hL : L ≤ 320) : U (PQ G scr L xs) 0 0 0 [(0, .ref scr)] [] [] := by
  refine U_new (ci := 7) (N := 8) (CC := RX7) (T := TX7) (fs := [.null, .null, .null, .null, .null, .null, .null, .null]) rfl iX7 tyX7 tyX7_ok dfX7 tw_14 tw_15 tw_1 ⟨Nat.le_of_ble_eq_true rfl, Nat.le_of_ble_eq_true rfl⟩ dL_law_0 (fun qa1 => ?_)
  refine U_dup dL_law_3 ?_
  refine U_callI (K := mX7_init) (f := 3) (mc := 28) (ms := 9275) (b := qa1) (As := []) (w0 := [(qa1, .inr (7, [.null, .null, .null, .null, .null, .null, .null, .null]))]) [0] [] [] rfl rfl rfl rfl rfl (by decide) ok_X7_init tw_16 rfl ⟨⟨Nat.le_of_ble_eq_true rfl, Nat.le_of_ble_eq_true rfl⟩, Nat.le_of_ble_eq_true rfl, Nat.le_of_ble_eq_true rfl⟩ (Nat.le_of_ble_eq_true rfl) dL_law_4 rfl (c_X7_init G qa1) (fun w1 hw1 => ?_)
  obtain ⟨qa2, qa3, qa4, qa5, qa6, qa7, qa8, qa9, qa10, qa11, qa12, qa13, qa14, qa15, qa16, qa17, qa18, qa19, qa20, qa21, qa22, qa23, qa24, qa25, qa26, qa27, qa28, qa29, rfl⟩ := hw1
  refine U_astore_n [(1, .ref qa1), (0, .ref scr)] dL_law_7 rfl (Nat.le_of_ble_eq_true rfl) rfl ?_
  refine U_new (ci := 8) (N := 28) (CC := RX8) (T := TX8) (fs := [.int 0, .null, .null, .null, .null, .null, .int 0, .null, .null, .null, .int 0, .null, .int 0, .null, .int 0, .null, .null, .null, .null, .long 0, .int 0, .null, .null, .null, .null, .null, .null, .null]) rfl iX8 tyX8 tyX8_ok dfX8 tw_622 tw_623 tw_9 ⟨Nat.le_of_ble_eq_true rfl, Nat.le_of_ble_eq_true rfl⟩ dL_law_8 (fun qa30 => ?_)
  refine U_dup dL_law_11 ?_
  refine U_callI (K := mX8_init) (f := 1) (mc := 21) (ms := 21540) (b := qa30) (As := []) (w0 := [(qa30, .inr (8, [.int 0, .null, .null, .null, .null, .null, .int 0, .null, .null, .null, .int 0, .null, .int 0, .null, .int 0, .null, .null, .null, .null, .long 0, .int 0, .null, .null, .null, .null, .null, .null, .null]))]) [29] [0, 1, 2, 3, 4, 5, 6, 7, 8, 9, 10, 11, 12, 13, 14, 15, 16, 17, 18, 19, 20, 21, 22, 23, 24, 25, 26, 27, 28] [(qa1, .inr (7, [.ref qa2, .ref qa9, .ref qa12, .ref qa17, .ref qa19, .ref qa21, .ref qa24, .ref qa27])), (qa2, .inr (1, [.int 0, .ref qa3, .ref qa4, .ref qa5, .ref qa6, .ref qa7, .ref qa8])), (qa3, .inl (G.2.2.1.1, 12, .inl (fun _ => 0))), (qa4, .inl (G.2.2.1.1, 12, .inl (fun _ => 0))), (qa5, .inl (G.2.2.1.1, 12, .inl (fun _ => 0))), (qa6, .inl (G.2.2.1.1, 12, .inl (fun _ => 0))), (qa7, .inl (G.2.2.1.1, 12, .inl (fun _ => 0))), (qa8, .inl (G.2.2.1.1, 12, .inl (fun _ => 0))), (qa9, .inr (2, [.int 0, .ref qa10, .ref qa11])), (qa10, .inl (G.2.2.1.1, 12, .inl (fun _ => 0))), (qa11, .inl (G.2.2.1.2.2, 12, .inl (fun _ => 0))), (qa12, .inr (4, [.ref qa2, .ref qa9, .ref qa13, .int 0, .ref qa14, .ref qa15, .ref qa16, .long 0, .int 0, .long 0])), (qa13, .inl (G.2.2.1.1, 5, .inl (upd (fun _ => 0) 2 1))), (qa14, .inl (G.2.2.1.1, 210, .inl (fun _ => 0))), (qa15, .inl (G.2.2.1.2.1, 210, .inr (.inl (fun _ => 0)))), (qa16, .inl (G.2.2.1.1, 210, .inl (fun _ => 0))), (qa17, .inr (3, [.ref qa2, .int 0, .ref qa18, .int 0])), (qa18, .inl (G.2.2.1.1, 4096, .inl (fun _ => 0))), (qa19, .inr (3, [.ref qa2, .int 1, .ref qa20, .int 0])), (qa20, .inl (G.2.2.1.1, 4096, .inl (fun _ => 0))), (qa21, .inr (5, [.int 0, .ref qa22, .ref qa23])), (qa22, .inl (G.2.2.1.1, 40, .inl (fun _ => 0))), (qa23, .inl (G.2.2.1.1, 42, .inl (fun _ => 0))), (qa24, .inr (6, [.int 0, .ref qa25, .ref qa26])), (qa25, .inl (G.2.2.1.2.1, 64, .inr (.inl (fun _ => 0)))), (qa26, .inl (G.2.2.1.2.1, 40, .inr (.inl (fun _ => 0)))), (qa27, .inr (0, [.ref qa2, .ref qa24, .ref qa28, .ref qa29])), (qa28, .inl (G.2.2.1.2.1, 64, .inr (.inl (fun _ => 0)))), (qa29, .inl (G.2.2.1.2.1, 64, .inr (.inl (fun _ => 0))))] rfl rfl rfl rfl rfl (by decide) ok_X8_init tw_624 rfl ⟨⟨Nat.le_of_ble_eq_true rfl, Nat.le_of_ble_eq_true rfl⟩, Nat.le_of_ble_eq_true rfl, Nat.le_of_ble_eq_true rfl⟩ (Nat.le_of_ble_eq_true rfl) dL_law_12 rfl (c_X8_init G qa30) (fun w1 hw1 => ?_)
  obtain ⟨qa31, qa32, qa33, qa34, qa35, qa36, qa37, qa38, qa39, qa40, qa41, qa42, qa43, qa44, qa45, qa46, qa47, qa48, qa49, qa50, qa51, rfl⟩ := hw1
  refine U_astore_n [(2, .ref qa30), (1, .ref qa1), (0, .ref scr)] dL_law_15 rfl (Nat.le_of_ble_eq_true rfl) rfl ?_
  refine U_iconst (v := 0) dL_law_16 ki_0 ?_
  refine U_istore_n [(3, .int 0), (2, .ref qa30), (1, .ref qa1), (0, .ref scr)] dL_law_17 rfl (Nat.le_of_ble_eq_true rfl) rfl ?_
  exact law_V (fun i => ([qa1, qa2, qa9, qa12, qa17, qa19, qa21, qa24, qa27, qa3, qa4, qa5, qa6, qa7, qa8, qa10, qa11, qa13, qa14, qa15, qa16, qa18, qa20, qa22, qa23, qa25, qa26, qa28, qa29, qa30, qa31, qa32, qa33, qa34, qa35, qa36, qa37, qa38, qa39, qa40, qa41, qa42, qa43, qa44, qa45, qa46, qa47, qa48, qa49, qa50, qa51] : List Nat).getD i 0) S00 [0, 1, 8, 11, 16, 18, 20, 23, 26, 2, 3, 4, 5, 6, 7, 9, 10, 12, 13, 14, 15, 17, 19, 21, 22, 24, 25, 27, 28, 29, 30, 31, 32, 33, 34, 35, 36, 37, 38, 39, 40, 41, 42, 43, 44, 45, 46, 47, 48, 49, 50] rfl rfl (by decide) (Nat.le_of_ble_eq_true rfl) (Nat.le_of_ble_eq_true rfl) (law_loop hL (L + 6) 0 0 0 0 0 S00 (by omega) (by omega) IV_0)
