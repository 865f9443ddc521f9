theorem law_loop {G : GX} {scr L : Nat} {xs : Nat → Int32} (hL : L ≤ 320) : ∀ (k i n t g y : Nat) (S : ST), L + 5 - i < k → i ≤ 325 → IV n t g y S → V (PL G scr L xs) 18 [(3, .int (nI i)), (2, .ref (G.2.1 29)), (1, .ref (G.2.1 0)), (0, .ref scr)] [] S := by
  intro k
  induction k with
  | zero => intro i n t g y S hk; exact absurd hk (Nat.not_lt_zero _)
  | succ k ih =>
    intro i n t g y S hk hi0 h
    refine V_iload_n dL_law_18 rfl 0 rfl ?_
    refine V_aload_n dL_law_19 rfl 3 rfl ?_
    refine n_scr dL_law_20 ?_
    refine V_iconst (v := 5) dL_law_21 ki_5 ?_
    refine V_isub dL_law_22 ?_
    refine V_icmp_gt 937 dL_law_23 (by decide) (fun h1 => ?_) (fun h1 => ?_)
    · refine V_iconst (v := 1) dL_law_937 ki_1 ?_
      exact V_lawret dL_law_938
    · have hi : i + 5 ≤ L := by
        rcases Nat.lt_or_ge L (i + 5) with z | z
        · exact absurd ((gt5 hL (by omega)).mpr z) h1
        · exact z
      have K : ∀ S2 n2 t2 g2 y2, IV n2 t2 g2 y2 S2 → V (PL G scr L xs) 931 [(3, .int (nI i)), (2, .ref (G.2.1 29)), (1, .ref (G.2.1 0)), (0, .ref scr)] [] S2 := by
        intro S2 n2 t2 g2 y2 h2
        refine V_iinc [(3, .int (nI (i + 5))), (2, .ref (G.2.1 29)), (1, .ref (G.2.1 0)), (0, .ref scr)] dL_law_931 0 rfl (nI_add i 5) (Nat.le_of_ble_eq_true rfl) rfl ?_
        refine V_goto 18 dL_law_934 (by decide) ?_
        refine V_lv [(3, .int (nI (i + 5))), (2, .ref (G.2.1 29)), (1, .ref (G.2.1 0)), (0, .ref scr)] [0, 1, 2, 3] rfl ?_
        exact ih (i + 5) n2 t2 g2 y2 S2 (by omega) (by omega) h2
      refine V_aload_n dL_law_26 rfl 3 rfl ?_
      refine V_iload_n dL_law_27 rfl 0 rfl ?_
      refine l_scr ⟨by omega, hL⟩ dL_law_28 ?_
      refine V_bipush (v := 31) dL_law_29 kb_31 ?_
      refine V_iand dL_law_31 ?_
      by_cases h2 : ((xs i) &&& 31) = 0
      · refine V_tsI 152 (off := 120) dL_law_32 (by rw [h2]; decide +kernel) (by rw [h2]; decide +kernel) (by rw [h2]; decide +kernel) (by decide) ?_
        exact lw_version hL hi h K
      by_cases h3 : ((xs i) &&& 31) = 1
      · refine V_tsI 195 (off := 163) dL_law_32 (by rw [h3]; decide +kernel) (by rw [h3]; decide +kernel) (by rw [h3]; decide +kernel) (by decide) ?_
        exact lw_has hL hi h K
      by_cases h4 : ((xs i) &&& 31) = 2
      · refine V_tsI 218 (off := 186) dL_law_32 (by rw [h4]; decide +kernel) (by rw [h4]; decide +kernel) (by rw [h4]; decide +kernel) (by decide) ?_
        exact lw_set hL hi h K
      by_cases h5 : ((xs i) &&& 31) = 3
      · refine V_tsI 261 (off := 229) dL_law_32 (by rw [h5]; decide +kernel) (by rw [h5]; decide +kernel) (by rw [h5]; decide +kernel) (by decide) ?_
        exact lw_trust hL hi h K
      by_cases h6 : ((xs i) &&& 31) = 4
      · refine V_tsI 294 (off := 262) dL_law_32 (by rw [h6]; decide +kernel) (by rw [h6]; decide +kernel) (by rw [h6]; decide +kernel) (by decide) ?_
        exact lw_test hL hi h K
      by_cases h7 : ((xs i) &&& 31) = 5
      · refine V_tsI 343 (off := 311) dL_law_32 (by rw [h7]; decide +kernel) (by rw [h7]; decide +kernel) (by rw [h7]; decide +kernel) (by decide) ?_
        exact lw_tested hL hi h K
      by_cases h8 : ((xs i) &&& 31) = 6
      · refine V_tsI 376 (off := 344) dL_law_32 (by rw [h8]; decide +kernel) (by rw [h8]; decide +kernel) (by rw [h8]; decide +kernel) (by decide) ?_
        exact lw_untest hL hi h K
      by_cases h9 : ((xs i) &&& 31) = 7
      · refine V_tsI 389 (off := 357) dL_law_32 (by rw [h9]; decide +kernel) (by rw [h9]; decide +kernel) (by rw [h9]; decide +kernel) (by decide) ?_
        exact lw_weight hL hi h K
      by_cases h10 : ((xs i) &&& 31) = 8
      · refine V_tsI 433 (off := 401) dL_law_32 (by rw [h10]; decide +kernel) (by rw [h10]; decide +kernel) (by rw [h10]; decide +kernel) (by decide) ?_
        exact lw_odds hL hi h K
      by_cases h11 : ((xs i) &&& 31) = 9
      · refine V_tsI 487 (off := 455) dL_law_32 (by rw [h11]; decide +kernel) (by rw [h11]; decide +kernel) (by rw [h11]; decide +kernel) (by decide) ?_
        exact lw_sorts hL hi h K
      by_cases h13 : ((xs i) &&& 31) = 10
      · refine V_tsI 521 (off := 489) dL_law_32 (by rw [h13]; decide +kernel) (by rw [h13]; decide +kernel) (by rw [h13]; decide +kernel) (by decide) ?_
        exact lw_blame hL hi h K
      by_cases h14 : ((xs i) &&& 31) = 11
      · refine V_tsI 555 (off := 523) dL_law_32 (by rw [h14]; decide +kernel) (by rw [h14]; decide +kernel) (by rw [h14]; decide +kernel) (by decide) ?_
        exact lw_guess hL hi h K
      by_cases h15 : ((xs i) &&& 31) = 12
      · refine V_tsI 578 (off := 546) dL_law_32 (by rw [h15]; decide +kernel) (by rw [h15]; decide +kernel) (by rw [h15]; decide +kernel) (by decide) ?_
        exact lw_hope hL hi h K
      by_cases h16 : ((xs i) &&& 31) = 13
      · refine V_tsI 612 (off := 580) dL_law_32 (by rw [h16]; decide +kernel) (by rw [h16]; decide +kernel) (by rw [h16]; decide +kernel) (by decide) ?_
        exact lw_next hL hi h K
      by_cases h17 : ((xs i) &&& 31) = 14
      · refine V_tsI 635 (off := 603) dL_law_32 (by rw [h17]; decide +kernel) (by rw [h17]; decide +kernel) (by rw [h17]; decide +kernel) (by decide) ?_
        exact lw_worst hL hi h K
      by_cases h18 : ((xs i) &&& 31) = 15
      · refine V_tsI 668 (off := 636) dL_law_32 (by rw [h18]; decide +kernel) (by rw [h18]; decide +kernel) (by rw [h18]; decide +kernel) (by decide) ?_
        exact lw_mean hL hi h K
      by_cases h19 : ((xs i) &&& 31) = 16
      · refine V_tsI 701 (off := 669) dL_law_32 (by rw [h19]; decide +kernel) (by rw [h19]; decide +kernel) (by rw [h19]; decide +kernel) (by decide) ?_
        exact lw_twins hL hi h K
      by_cases h20 : ((xs i) &&& 31) = 17
      · refine V_tsI 724 (off := 692) dL_law_32 (by rw [h20]; decide +kernel) (by rw [h20]; decide +kernel) (by rw [h20]; decide +kernel) (by decide) ?_
        exact lw_say hL hi h K
      by_cases h21 : ((xs i) &&& 31) = 18
      · refine V_tsI 747 (off := 715) dL_law_32 (by rw [h21]; decide +kernel) (by rw [h21]; decide +kernel) (by rw [h21]; decide +kernel) (by decide) ?_
        exact lw_wipe hL hi h K
      by_cases h22 : ((xs i) &&& 31) = 19
      · refine V_tsI 760 (off := 728) dL_law_32 (by rw [h22]; decide +kernel) (by rw [h22]; decide +kernel) (by rw [h22]; decide +kernel) (by decide) ?_
        exact lw_fault hL hi h K
      by_cases h23 : ((xs i) &&& 31) = 20
      · refine V_tsI 773 (off := 741) dL_law_32 (by rw [h23]; decide +kernel) (by rw [h23]; decide +kernel) (by rw [h23]; decide +kernel) (by decide) ?_
        exact lw_truth hL hi h K
      by_cases h24 : ((xs i) &&& 31) = 21
      · refine V_tsI 786 (off := 754) dL_law_32 (by rw [h24]; decide +kernel) (by rw [h24]; decide +kernel) (by rw [h24]; decide +kernel) (by decide) ?_
        exact lw_fails hL hi h K
      by_cases h25 : ((xs i) &&& 31) = 22
      · refine V_tsI 819 (off := 787) dL_law_32 (by rw [h25]; decide +kernel) (by rw [h25]; decide +kernel) (by rw [h25]; decide +kernel) (by decide) ?_
        exact lw_play hL hi h K
      by_cases h26 : ((xs i) &&& 31) = 23
      · refine V_tsI 842 (off := 810) dL_law_32 (by rw [h26]; decide +kernel) (by rw [h26]; decide +kernel) (by rw [h26]; decide +kernel) (by decide) ?_
        exact lw_out hL hi h K
      by_cases h27 : ((xs i) &&& 31) = 24
      · refine V_tsI 875 (off := 843) dL_law_32 (by rw [h27]; decide +kernel) (by rw [h27]; decide +kernel) (by rw [h27]; decide +kernel) (by decide) ?_
        exact lw_core hL hi h K
      by_cases h28 : ((xs i) &&& 31) = 25
      · refine V_tsI 908 (off := 876) dL_law_32 (by rw [h28]; decide +kernel) (by rw [h28]; decide +kernel) (by rw [h28]; decide +kernel) (by decide) ?_
        exact lw_told hL hi h K
      refine V_tsO 931 dL_law_32 (by have zh2 := lv_neT (k := 0) (a := 0) h2 rfl; have zh3 := lv_neT (k := 1) (a := 1) h3 rfl; have zh4 := lv_neT (k := 2) (a := 2) h4 rfl; have zh5 := lv_neT (k := 3) (a := 3) h5 rfl; have zh6 := lv_neT (k := 4) (a := 4) h6 rfl; have zh7 := lv_neT (k := 5) (a := 5) h7 rfl; have zh8 := lv_neT (k := 6) (a := 6) h8 rfl; have zh9 := lv_neT (k := 7) (a := 7) h9 rfl; have zh10 := lv_neT (k := 8) (a := 8) h10 rfl; have zh11 := lv_neT (k := 9) (a := 9) h11 rfl; have zh13 := lv_neT (k := 10) (a := 10) h13 rfl; have zh14 := lv_neT (k := 11) (a := 11) h14 rfl; have zh15 := lv_neT (k := 12) (a := 12) h15 rfl; have zh16 := lv_neT (k := 13) (a := 13) h16 rfl; have zh17 := lv_neT (k := 14) (a := 14) h17 rfl; have zh18 := lv_neT (k := 15) (a := 15) h18 rfl; have zh19 := lv_neT (k := 16) (a := 16) h19 rfl; have zh20 := lv_neT (k := 17) (a := 17) h20 rfl; have zh21 := lv_neT (k := 18) (a := 18) h21 rfl; have zh22 := lv_neT (k := 19) (a := 19) h22 rfl; have zh23 := lv_neT (k := 20) (a := 20) h23 rfl; have zh24 := lv_neT (k := 21) (a := 21) h24 rfl; have zh25 := lv_neT (k := 22) (a := 22) h25 rfl; have zh26 := lv_neT (k := 23) (a := 23) h26 rfl; have zh27 := lv_neT (k := 24) (a := 24) h27 rfl; have zh28 := lv_neT (k := 25) (a := 25) h28 rfl; omega) (by decide) ?_
      exact K S n t g y h
