section
/-- a private method of a class that the tables say can be made, by its rows of tables_1 -/
def lw_okq (q : MethodName × Nat) : Prop := (q.1.cls ≠ "java/lang/invoke/MethodHandle" ∧ q.1.cls ≠ "java/lang/invoke/VarHandle") ∧ Cond.instantiable q.1.cls q.2 ∈ tables_1 ∧ Cond.privateMethod q.1 ∈ tables_1 ∧ Cond.instanceMethod q.1 ∈ tables_1
theorem lw_p0 : lw_okq (⟨"BrokeWhere", "forgetPartings", "()V"⟩, 8) := ⟨⟨by decide +kernel, by decide +kernel⟩, List.mem_of_getElem? (i := 15) (by decide +kernel), List.mem_of_getElem? (i := 244) (by decide +kernel), List.mem_of_getElem? (i := 245) (by decide +kernel)⟩
theorem lw_p1 : lw_okq (⟨"BrokeWhere", "storyRefusal", "(III)I"⟩, 8) := ⟨⟨by decide +kernel, by decide +kernel⟩, List.mem_of_getElem? (i := 15) (by decide +kernel), List.mem_of_getElem? (i := 311) (by decide +kernel), List.mem_of_getElem? (i := 312) (by decide +kernel)⟩
theorem lw_p2 : lw_okq (⟨"BrokeWhere$Stories", "weighFrom", "(II)V"⟩, 10) := ⟨⟨by decide +kernel, by decide +kernel⟩, List.mem_of_getElem? (i := 86) (by decide +kernel), List.mem_of_getElem? (i := 338) (by decide +kernel), List.mem_of_getElem? (i := 339) (by decide +kernel)⟩
theorem lw_p3 : lw_okq (⟨"BrokeWhere$Stories", "take", "(III)V"⟩, 10) := ⟨⟨by decide +kernel, by decide +kernel⟩, List.mem_of_getElem? (i := 86) (by decide +kernel), List.mem_of_getElem? (i := 342) (by decide +kernel), List.mem_of_getElem? (i := 343) (by decide +kernel)⟩
theorem lw_p4 : lw_okq (⟨"BrokeWhere", "parting", "(LBrokeWhere$Partings;II)I"⟩, 8) := ⟨⟨by decide +kernel, by decide +kernel⟩, List.mem_of_getElem? (i := 15) (by decide +kernel), List.mem_of_getElem? (i := 424) (by decide +kernel), List.mem_of_getElem? (i := 425) (by decide +kernel)⟩
theorem lw_p5 : lw_okq (⟨"BrokeWhere$Partings", "refresh", "()V"⟩, 4) := ⟨⟨by decide +kernel, by decide +kernel⟩, List.mem_of_getElem? (i := 127) (by decide +kernel), List.mem_of_getElem? (i := 436) (by decide +kernel), List.mem_of_getElem? (i := 437) (by decide +kernel)⟩
theorem lw_p6 : lw_okq (⟨"BrokeWhere$Partings", "priceAt", "(II)I"⟩, 4) := ⟨⟨by decide +kernel, by decide +kernel⟩, List.mem_of_getElem? (i := 127) (by decide +kernel), List.mem_of_getElem? (i := 443) (by decide +kernel), List.mem_of_getElem? (i := 444) (by decide +kernel)⟩
theorem lw_p7 : lw_okq (⟨"BrokeWhere$Partings", "parts", "(II)Z"⟩, 4) := ⟨⟨by decide +kernel, by decide +kernel⟩, List.mem_of_getElem? (i := 127) (by decide +kernel), List.mem_of_getElem? (i := 448) (by decide +kernel), List.mem_of_getElem? (i := 449) (by decide +kernel)⟩
theorem lw_p8 : lw_okq (⟨"BrokeWhere$Partings", "priceBy", "(III)I"⟩, 4) := ⟨⟨by decide +kernel, by decide +kernel⟩, List.mem_of_getElem? (i := 127) (by decide +kernel), List.mem_of_getElem? (i := 453) (by decide +kernel), List.mem_of_getElem? (i := 454) (by decide +kernel)⟩
theorem lw_p9 : lw_okq (⟨"BrokeWhere$Truth", "valueOf", "(LBrokeWhere$Text;I)J"⟩, 3) := ⟨⟨by decide +kernel, by decide +kernel⟩, List.mem_of_getElem? (i := 166) (by decide +kernel), List.mem_of_getElem? (i := 518) (by decide +kernel), List.mem_of_getElem? (i := 519) (by decide +kernel)⟩
theorem lw_p10 : lw_okq (⟨"BrokeWhere$Families", "soundSets", "(I)J"⟩, 4) := ⟨⟨by decide +kernel, by decide +kernel⟩, List.mem_of_getElem? (i := 185) (by decide +kernel), List.mem_of_getElem? (i := 539) (by decide +kernel), List.mem_of_getElem? (i := 540) (by decide +kernel)⟩
theorem lw_p11 : lw_okq (⟨"BrokeWhere$Families", "isLess", "(II)Z"⟩, 4) := ⟨⟨by decide +kernel, by decide +kernel⟩, List.mem_of_getElem? (i := 185) (by decide +kernel), List.mem_of_getElem? (i := 575) (by decide +kernel), List.mem_of_getElem? (i := 576) (by decide +kernel)⟩
theorem lw_p12 : lw_okq (⟨"BrokeWhere$Families", "foundFrom", "(II)I"⟩, 4) := ⟨⟨by decide +kernel, by decide +kernel⟩, List.mem_of_getElem? (i := 185) (by decide +kernel), List.mem_of_getElem? (i := 615) (by decide +kernel), List.mem_of_getElem? (i := 616) (by decide +kernel)⟩
theorem lw_p13 : lw_okq (⟨"BrokeWhereModel", "isVersion", "(I)Z"⟩, 28) := ⟨⟨by decide +kernel, by decide +kernel⟩, List.mem_of_getElem? (i := 623) (by decide +kernel), List.mem_of_getElem? (i := 718) (by decide +kernel), List.mem_of_getElem? (i := 719) (by decide +kernel)⟩
theorem lw_p14 : lw_okq (⟨"BrokeWhereModel", "isTested", "(I)Z"⟩, 28) := ⟨⟨by decide +kernel, by decide +kernel⟩, List.mem_of_getElem? (i := 623) (by decide +kernel), List.mem_of_getElem? (i := 736) (by decide +kernel), List.mem_of_getElem? (i := 737) (by decide +kernel)⟩
theorem lw_p15 : lw_okq (⟨"BrokeWhereModel", "isStory", "(III)Z"⟩, 28) := ⟨⟨by decide +kernel, by decide +kernel⟩, List.mem_of_getElem? (i := 623) (by decide +kernel), List.mem_of_getElem? (i := 761) (by decide +kernel), List.mem_of_getElem? (i := 762) (by decide +kernel)⟩
def lw_privs_1 : List (MethodName × Nat) := [(⟨"BrokeWhere", "forgetPartings", "()V"⟩, 8), (⟨"BrokeWhere", "storyRefusal", "(III)I"⟩, 8), (⟨"BrokeWhere$Stories", "weighFrom", "(II)V"⟩, 10), (⟨"BrokeWhere$Stories", "take", "(III)V"⟩, 10), (⟨"BrokeWhere", "parting", "(LBrokeWhere$Partings;II)I"⟩, 8), (⟨"BrokeWhere$Partings", "refresh", "()V"⟩, 4), (⟨"BrokeWhere$Partings", "priceAt", "(II)I"⟩, 4), (⟨"BrokeWhere$Partings", "parts", "(II)Z"⟩, 4), (⟨"BrokeWhere$Partings", "priceBy", "(III)I"⟩, 4), (⟨"BrokeWhere$Truth", "valueOf", "(LBrokeWhere$Text;I)J"⟩, 3), (⟨"BrokeWhere$Families", "soundSets", "(I)J"⟩, 4), (⟨"BrokeWhere$Families", "isLess", "(II)Z"⟩, 4), (⟨"BrokeWhere$Families", "foundFrom", "(II)I"⟩, 4), (⟨"BrokeWhereModel", "isVersion", "(I)Z"⟩, 28), (⟨"BrokeWhereModel", "isTested", "(I)Z"⟩, 28), (⟨"BrokeWhereModel", "isStory", "(III)Z"⟩, 28)]
theorem lw_r1 : ∀ q ∈ lw_privs_1, lw_okq q := List.forall_mem_cons.mpr ⟨lw_p0, List.forall_mem_cons.mpr ⟨lw_p1, List.forall_mem_cons.mpr ⟨lw_p2, List.forall_mem_cons.mpr ⟨lw_p3, List.forall_mem_cons.mpr ⟨lw_p4, List.forall_mem_cons.mpr ⟨lw_p5, List.forall_mem_cons.mpr ⟨lw_p6, List.forall_mem_cons.mpr ⟨lw_p7, List.forall_mem_cons.mpr ⟨lw_p8, List.forall_mem_cons.mpr ⟨lw_p9, List.forall_mem_cons.mpr ⟨lw_p10, List.forall_mem_cons.mpr ⟨lw_p11, List.forall_mem_cons.mpr ⟨lw_p12, List.forall_mem_cons.mpr ⟨lw_p13, List.forall_mem_cons.mpr ⟨lw_p14, List.forall_mem_cons.mpr ⟨lw_p15, fun _ h => absurd h List.not_mem_nil⟩⟩⟩⟩⟩⟩⟩⟩⟩⟩⟩⟩⟩⟩⟩⟩
theorem lw_p16 : lw_okq (⟨"BrokeWhereModel", "weightOf", "(III)J"⟩, 28) := ⟨⟨by decide +kernel, by decide +kernel⟩, List.mem_of_getElem? (i := 623) (by decide +kernel), List.mem_of_getElem? (i := 765) (by decide +kernel), List.mem_of_getElem? (i := 766) (by decide +kernel)⟩
theorem lw_p17 : lw_okq (⟨"BrokeWhereModel", "shouldFail", "(IIII)Z"⟩, 28) := ⟨⟨by decide +kernel, by decide +kernel⟩, List.mem_of_getElem? (i := 623) (by decide +kernel), List.mem_of_getElem? (i := 769) (by decide +kernel), List.mem_of_getElem? (i := 770) (by decide +kernel)⟩
theorem lw_p18 : lw_okq (⟨"BrokeWhereModel", "tenths", "(ZZ)I"⟩, 28) := ⟨⟨by decide +kernel, by decide +kernel⟩, List.mem_of_getElem? (i := 623) (by decide +kernel), List.mem_of_getElem? (i := 776) (by decide +kernel), List.mem_of_getElem? (i := 777) (by decide +kernel)⟩
theorem lw_p19 : lw_okq (⟨"BrokeWhereModel", "layStories", "()V"⟩, 28) := ⟨⟨by decide +kernel, by decide +kernel⟩, List.mem_of_getElem? (i := 623) (by decide +kernel), List.mem_of_getElem? (i := 785) (by decide +kernel), List.mem_of_getElem? (i := 786) (by decide +kernel)⟩
theorem lw_p20 : lw_okq (⟨"BrokeWhereModel", "add", "(III)V"⟩, 28) := ⟨⟨by decide +kernel, by decide +kernel⟩, List.mem_of_getElem? (i := 623) (by decide +kernel), List.mem_of_getElem? (i := 789) (by decide +kernel), List.mem_of_getElem? (i := 790) (by decide +kernel)⟩
theorem lw_p21 : lw_okq (⟨"BrokeWhereModel", "guessOf", "()I"⟩, 28) := ⟨⟨by decide +kernel, by decide +kernel⟩, List.mem_of_getElem? (i := 623) (by decide +kernel), List.mem_of_getElem? (i := 808) (by decide +kernel), List.mem_of_getElem? (i := 809) (by decide +kernel)⟩
theorem lw_p22 : lw_okq (⟨"BrokeWhereModel", "canTest", "(I)Z"⟩, 28) := ⟨⟨by decide +kernel, by decide +kernel⟩, List.mem_of_getElem? (i := 623) (by decide +kernel), List.mem_of_getElem? (i := 816) (by decide +kernel), List.mem_of_getElem? (i := 817) (by decide +kernel)⟩
theorem lw_p23 : lw_okq (⟨"BrokeWhereModel", "hopeOf", "(I)J"⟩, 28) := ⟨⟨by decide +kernel, by decide +kernel⟩, List.mem_of_getElem? (i := 623) (by decide +kernel), List.mem_of_getElem? (i := 820) (by decide +kernel), List.mem_of_getElem? (i := 821) (by decide +kernel)⟩
theorem lw_p24 : lw_okq (⟨"BrokeWhereModel", "nextOf", "(I)I"⟩, 28) := ⟨⟨by decide +kernel, by decide +kernel⟩, List.mem_of_getElem? (i := 623) (by decide +kernel), List.mem_of_getElem? (i := 829) (by decide +kernel), List.mem_of_getElem? (i := 830) (by decide +kernel)⟩
theorem lw_p25 : lw_okq (⟨"BrokeWhereModel", "badness", "(II)J"⟩, 28) := ⟨⟨by decide +kernel, by decide +kernel⟩, List.mem_of_getElem? (i := 623) (by decide +kernel), List.mem_of_getElem? (i := 833) (by decide +kernel), List.mem_of_getElem? (i := 834) (by decide +kernel)⟩
theorem lw_p26 : lw_okq (⟨"BrokeWhereModel", "isSet", "(I)Z"⟩, 28) := ⟨⟨by decide +kernel, by decide +kernel⟩, List.mem_of_getElem? (i := 623) (by decide +kernel), List.mem_of_getElem? (i := 841) (by decide +kernel), List.mem_of_getElem? (i := 842) (by decide +kernel)⟩
theorem lw_p27 : lw_okq (⟨"BrokeWhereModel", "lay", "()V"⟩, 28) := ⟨⟨by decide +kernel, by decide +kernel⟩, List.mem_of_getElem? (i := 623) (by decide +kernel), List.mem_of_getElem? (i := 845) (by decide +kernel), List.mem_of_getElem? (i := 846) (by decide +kernel)⟩
theorem lw_p28 : lw_okq (⟨"BrokeWhereModel", "laySet", "(I)V"⟩, 28) := ⟨⟨by decide +kernel, by decide +kernel⟩, List.mem_of_getElem? (i := 623) (by decide +kernel), List.mem_of_getElem? (i := 849) (by decide +kernel), List.mem_of_getElem? (i := 850) (by decide +kernel)⟩
theorem lw_p29 : lw_okq (⟨"BrokeWhereModel", "faultOf", "()I"⟩, 28) := ⟨⟨by decide +kernel, by decide +kernel⟩, List.mem_of_getElem? (i := 623) (by decide +kernel), List.mem_of_getElem? (i := 873) (by decide +kernel), List.mem_of_getElem? (i := 874) (by decide +kernel)⟩
theorem lw_p30 : lw_okq (⟨"BrokeWhereModel", "isSound", "(I)Z"⟩, 28) := ⟨⟨by decide +kernel, by decide +kernel⟩, List.mem_of_getElem? (i := 623) (by decide +kernel), List.mem_of_getElem? (i := 885) (by decide +kernel), List.mem_of_getElem? (i := 886) (by decide +kernel)⟩
theorem lw_p31 : lw_okq (⟨"BrokeWhereModel", "failsOf", "(I)Z"⟩, 28) := ⟨⟨by decide +kernel, by decide +kernel⟩, List.mem_of_getElem? (i := 623) (by decide +kernel), List.mem_of_getElem? (i := 889) (by decide +kernel), List.mem_of_getElem? (i := 890) (by decide +kernel)⟩
def lw_privs_2 : List (MethodName × Nat) := [(⟨"BrokeWhereModel", "weightOf", "(III)J"⟩, 28), (⟨"BrokeWhereModel", "shouldFail", "(IIII)Z"⟩, 28), (⟨"BrokeWhereModel", "tenths", "(ZZ)I"⟩, 28), (⟨"BrokeWhereModel", "layStories", "()V"⟩, 28), (⟨"BrokeWhereModel", "add", "(III)V"⟩, 28), (⟨"BrokeWhereModel", "guessOf", "()I"⟩, 28), (⟨"BrokeWhereModel", "canTest", "(I)Z"⟩, 28), (⟨"BrokeWhereModel", "hopeOf", "(I)J"⟩, 28), (⟨"BrokeWhereModel", "nextOf", "(I)I"⟩, 28), (⟨"BrokeWhereModel", "badness", "(II)J"⟩, 28), (⟨"BrokeWhereModel", "isSet", "(I)Z"⟩, 28), (⟨"BrokeWhereModel", "lay", "()V"⟩, 28), (⟨"BrokeWhereModel", "laySet", "(I)V"⟩, 28), (⟨"BrokeWhereModel", "faultOf", "()I"⟩, 28), (⟨"BrokeWhereModel", "isSound", "(I)Z"⟩, 28), (⟨"BrokeWhereModel", "failsOf", "(I)Z"⟩, 28)]
theorem lw_r2 : ∀ q ∈ lw_privs_2, lw_okq q := List.forall_mem_cons.mpr ⟨lw_p16, List.forall_mem_cons.mpr ⟨lw_p17, List.forall_mem_cons.mpr ⟨lw_p18, List.forall_mem_cons.mpr ⟨lw_p19, List.forall_mem_cons.mpr ⟨lw_p20, List.forall_mem_cons.mpr ⟨lw_p21, List.forall_mem_cons.mpr ⟨lw_p22, List.forall_mem_cons.mpr ⟨lw_p23, List.forall_mem_cons.mpr ⟨lw_p24, List.forall_mem_cons.mpr ⟨lw_p25, List.forall_mem_cons.mpr ⟨lw_p26, List.forall_mem_cons.mpr ⟨lw_p27, List.forall_mem_cons.mpr ⟨lw_p28, List.forall_mem_cons.mpr ⟨lw_p29, List.forall_mem_cons.mpr ⟨lw_p30, List.forall_mem_cons.mpr ⟨lw_p31, fun _ h => absurd h List.not_mem_nil⟩⟩⟩⟩⟩⟩⟩⟩⟩⟩⟩⟩⟩⟩⟩⟩
theorem lw_p32 : lw_okq (⟨"BrokeWhereModel", "isSure", "(I)Z"⟩, 28) := ⟨⟨by decide +kernel, by decide +kernel⟩, List.mem_of_getElem? (i := 623) (by decide +kernel), List.mem_of_getElem? (i := 897) (by decide +kernel), List.mem_of_getElem? (i := 898) (by decide +kernel)⟩
theorem lw_p33 : lw_okq (⟨"BrokeWhereModel", "sizes", "(I)I"⟩, 28) := ⟨⟨by decide +kernel, by decide +kernel⟩, List.mem_of_getElem? (i := 623) (by decide +kernel), List.mem_of_getElem? (i := 908) (by decide +kernel), List.mem_of_getElem? (i := 909) (by decide +kernel)⟩
def lw_privs_3 : List (MethodName × Nat) := [(⟨"BrokeWhereModel", "isSure", "(I)Z"⟩, 28), (⟨"BrokeWhereModel", "sizes", "(I)I"⟩, 28)]
theorem lw_r3 : ∀ q ∈ lw_privs_3, lw_okq q := List.forall_mem_cons.mpr ⟨lw_p32, List.forall_mem_cons.mpr ⟨lw_p33, fun _ h => absurd h List.not_mem_nil⟩⟩
def lw_privs : List (MethodName × Nat) := lw_privs_1 ++ (lw_privs_2 ++ (lw_privs_3))
def lw_tbl : List Cond := k2_sels lw_privs ++ tables_1
theorem lw_privs_ok : ∀ q ∈ lw_privs, lw_okq q := by
  show ∀ q ∈ lw_privs_1 ++ (lw_privs_2 ++ (lw_privs_3)), lw_okq q
  exact List.forall_mem_append.mpr ⟨lw_r1, List.forall_mem_append.mpr ⟨lw_r2, lw_r3⟩⟩
theorem pA_end : True := trivial
def RX0 : String := "BrokeWhere$Families"
def TX0 : u_T := fun k => match k with
  | 0 => ("BrokeWhere$Families", "history", "LBrokeWhere$History;", true)
  | 1 => ("BrokeWhere$Families", "truth", "LBrokeWhere$Truth;", true)
  | 2 => ("BrokeWhere$Families", "found", "[J", true)
  | _ => ("BrokeWhere$Families", "holding", "[J", true)
def tyX0 : Nat → FieldType := fun k => match k with
  | 0 => .object "BrokeWhere$History"
  | 1 => .object "BrokeWhere$Truth"
  | 2 => .array .long
  | _ => .array .long
theorem nmX0 : ∀ a, a < 4 → ∀ b, b < 4 → a ≠ b → (TX0 a).2.1 ≠ (TX0 b).2.1 := by decide +kernel
theorem tyX0_ok : ∀ k, k < 4 → parseFieldDescriptor (TX0 k).2.2.1 = some (tyX0 k) := by decide +kernel
abbrev cX0_init : ByteArray := prog_2_method_1_code
def yX0_init : MethodName := ⟨RX0, "<init>", "(LBrokeWhere$History;LBrokeWhere$Truth;)V"⟩
abbrev cX0_soundSets : ByteArray := prog_2_method_2_code
def yX0_soundSets : MethodName := ⟨RX0, "soundSets", "(I)J"⟩
abbrev cX0_isSound : ByteArray := prog_2_method_3_code
def yX0_isSound : MethodName := ⟨RX0, "isSound", "(I)Z"⟩
abbrev cX0_leastOut : ByteArray := prog_2_method_4_code
def yX0_leastOut : MethodName := ⟨RX0, "leastOut", "(I)I"⟩
abbrev cX0_isLess : ByteArray := prog_2_method_5_code
def yX0_isLess : MethodName := ⟨RX0, "isLess", "(II)Z"⟩
abbrev cX0_findCores : ByteArray := prog_2_method_6_code
def yX0_findCores : MethodName := ⟨RX0, "findCores", "(I)V"⟩
abbrev cX0_countFound : ByteArray := prog_2_method_7_code
def yX0_countFound : MethodName := ⟨RX0, "countFound", "()I"⟩
abbrev cX0_foundAt : ByteArray := prog_2_method_8_code
def yX0_foundAt : MethodName := ⟨RX0, "foundAt", "(I)I"⟩
abbrev cX0_foundFrom : ByteArray := prog_2_method_9_code
def yX0_foundFrom : MethodName := ⟨RX0, "foundFrom", "(II)I"⟩
def RX1 : String := "BrokeWhere$History"
def TX1 : u_T := fun k => match k with
  | 0 => ("BrokeWhere$History", "count", "I", false)
  | 1 => ("BrokeWhere$History", "holds", "[I", true)
  | 2 => ("BrokeWhere$History", "carriers", "[I", true)
  | 3 => ("BrokeWhere$History", "size", "[I", true)
  | 4 => ("BrokeWhere$History", "cost", "[I", true)
  | 5 => ("BrokeWhere$History", "needs", "[I", true)
  | _ => ("BrokeWhere$History", "deaf", "[I", true)
def tyX1 : Nat → FieldType := fun k => match k with
  | 0 => .int
  | 1 => .array .int
  | 2 => .array .int
  | 3 => .array .int
  | 4 => .array .int
  | 5 => .array .int
  | _ => .array .int
theorem nmX1 : ∀ a, a < 7 → ∀ b, b < 7 → a ≠ b → (TX1 a).2.1 ≠ (TX1 b).2.1 := by decide +kernel
theorem tyX1_ok : ∀ k, k < 7 → parseFieldDescriptor (TX1 k).2.2.1 = some (tyX1 k) := by decide +kernel
abbrev cX1_init : ByteArray := prog_3_method_1_code
def yX1_init : MethodName := ⟨RX1, "<init>", "()V"⟩
abbrev cX1_knows : ByteArray := prog_3_method_2_code
def yX1_knows : MethodName := ⟨RX1, "knows", "(I)Z"⟩
abbrev cX1_hears : ByteArray := prog_3_method_3_code
def yX1_hears : MethodName := ⟨RX1, "hears", "(I)Z"⟩
abbrev cX1_mayStandOn : ByteArray := prog_3_method_4_code
def yX1_mayStandOn : MethodName := ⟨RX1, "mayStandOn", "(II)Z"⟩
abbrev cX1_add : ByteArray := prog_3_method_5_code
def yX1_add : MethodName := ⟨RX1, "add", "(III)I"⟩
abbrev cX1_mayBe : ByteArray := prog_3_method_6_code
def yX1_mayBe : MethodName := ⟨RX1, "mayBe", "(III)Z"⟩
abbrev cX1_row : ByteArray := prog_3_method_7_code
def yX1_row : MethodName := ⟨RX1, "row", "(I)[I"⟩
abbrev cX1_everyVersion : ByteArray := prog_3_method_8_code
def yX1_everyVersion : MethodName := ⟨RX1, "everyVersion", "()I"⟩
abbrev cX1_hearing : ByteArray := prog_3_method_9_code
def yX1_hearing : MethodName := ⟨RX1, "hearing", "()I"⟩
abbrev cX1_twinsOf : ByteArray := prog_3_method_10_code
def yX1_twinsOf : MethodName := ⟨RX1, "twinsOf", "(I)I"⟩
abbrev cX1_sizes : ByteArray := prog_3_method_11_code
def yX1_sizes : MethodName := ⟨RX1, "sizes", "(I)I"⟩
def RX2 : String := "BrokeWhere$Log"
def TX2 : u_T := fun k => match k with
  | 0 => ("BrokeWhere$Log", "count", "I", false)
  | 1 => ("BrokeWhere$Log", "version", "[I", true)
  | _ => ("BrokeWhere$Log", "passed", "[Z", true)
def tyX2 : Nat → FieldType := fun k => match k with
  | 0 => .int
  | 1 => .array .int
  | _ => .array .boolean
theorem nmX2 : ∀ a, a < 3 → ∀ b, b < 3 → a ≠ b → (TX2 a).2.1 ≠ (TX2 b).2.1 := by decide +kernel
theorem tyX2_ok : ∀ k, k < 3 → parseFieldDescriptor (TX2 k).2.2.1 = some (tyX2 k) := by decide +kernel
abbrev cX2_init : ByteArray := prog_4_method_1_code
def yX2_init : MethodName := ⟨RX2, "<init>", "()V"⟩
abbrev cX2_add : ByteArray := prog_4_method_2_code
def yX2_add : MethodName := ⟨RX2, "add", "(IZ)I"⟩
abbrev cX2_holdsTestOf : ByteArray := prog_4_method_3_code
def yX2_holdsTestOf : MethodName := ⟨RX2, "holdsTestOf", "(I)Z"⟩
def RX3 : String := "BrokeWhere$Partings"
def TX3 : u_T := fun k => match k with
  | 0 => ("BrokeWhere$Partings", "history", "LBrokeWhere$History;", true)
  | 1 => ("BrokeWhere$Partings", "byCost", "Z", true)
  | 2 => ("BrokeWhere$Partings", "known", "[I", true)
  | _ => ("BrokeWhere$Partings", "stale", "Z", false)
def tyX3 : Nat → FieldType := fun k => match k with
  | 0 => .object "BrokeWhere$History"
  | 1 => .boolean
  | 2 => .array .int
  | _ => .boolean
theorem nmX3 : ∀ a, a < 4 → ∀ b, b < 4 → a ≠ b → (TX3 a).2.1 ≠ (TX3 b).2.1 := by decide +kernel
theorem tyX3_ok : ∀ k, k < 4 → parseFieldDescriptor (TX3 k).2.2.1 = some (tyX3 k) := by decide +kernel
abbrev cX3_init : ByteArray := prog_5_method_1_code
def yX3_init : MethodName := ⟨RX3, "<init>", "(LBrokeWhere$History;Z)V"⟩
abbrev cX3_price : ByteArray := prog_5_method_2_code
def yX3_price : MethodName := ⟨RX3, "price", "(I)I"⟩
abbrev cX3_start : ByteArray := prog_5_method_3_code
def yX3_start : MethodName := ⟨RX3, "start", "(I)I"⟩
abbrev cX3_refresh : ByteArray := prog_5_method_4_code
def yX3_refresh : MethodName := ⟨RX3, "refresh", "()V"⟩
abbrev cX3_parts : ByteArray := prog_5_method_5_code
def yX3_parts : MethodName := ⟨RX3, "parts", "(II)Z"⟩
abbrev cX3_priceAt : ByteArray := prog_5_method_6_code
def yX3_priceAt : MethodName := ⟨RX3, "priceAt", "(II)I"⟩
abbrev cX3_priceBy : ByteArray := prog_5_method_7_code
def yX3_priceBy : MethodName := ⟨RX3, "priceBy", "(III)I"⟩
def RX4 : String := "BrokeWhere$Stories"
def TX4 : u_T := fun k => match k with
  | 0 => ("BrokeWhere$Stories", "history", "LBrokeWhere$History;", true)
  | 1 => ("BrokeWhere$Stories", "log", "LBrokeWhere$Log;", true)
  | 2 => ("BrokeWhere$Stories", "trusts", "[I", true)
  | 3 => ("BrokeWhere$Stories", "count", "I", false)
  | 4 => ("BrokeWhere$Stories", "places", "[I", true)
  | 5 => ("BrokeWhere$Stories", "weights", "[J", true)
  | 6 => ("BrokeWhere$Stories", "failing", "[I", true)
  | 7 => ("BrokeWhere$Stories", "all", "J", false)
  | 8 => ("BrokeWhere$Stories", "heaviest", "I", false)
  | _ => ("BrokeWhere$Stories", "most", "J", false)
def tyX4 : Nat → FieldType := fun k => match k with
  | 0 => .object "BrokeWhere$History"
  | 1 => .object "BrokeWhere$Log"
  | 2 => .array .int
  | 3 => .int
  | 4 => .array .int
  | 5 => .array .long
  | 6 => .array .int
  | 7 => .long
  | 8 => .int
  | _ => .long
theorem nmX4 : ∀ a, a < 10 → ∀ b, b < 10 → a ≠ b → (TX4 a).2.1 ≠ (TX4 b).2.1 := by decide +kernel
theorem tyX4_ok : ∀ k, k < 10 → parseFieldDescriptor (TX4 k).2.2.1 = some (tyX4 k) := by decide +kernel
abbrev cX4_init : ByteArray := prog_6_method_1_code
def yX4_init : MethodName := ⟨RX4, "<init>", "(LBrokeWhere$History;LBrokeWhere$Log;)V"⟩
abbrev cX4_failingOf : ByteArray := prog_6_method_2_code
def yX4_failingOf : MethodName := ⟨RX4, "failingOf", "(III)I"⟩
abbrev cX4_tenths : ByteArray := prog_6_method_3_code
def yX4_tenths : MethodName := ⟨RX4, "tenths", "(ZZ)I"⟩
abbrev cX4_weightOf : ByteArray := prog_6_method_4_code
def yX4_weightOf : MethodName := ⟨RX4, "weightOf", "(III)J"⟩
abbrev cX4_weigh : ByteArray := prog_6_method_5_code
def yX4_weigh : MethodName := ⟨RX4, "weigh", "()V"⟩
abbrev cX4_weighFrom : ByteArray := prog_6_method_6_code
def yX4_weighFrom : MethodName := ⟨RX4, "weighFrom", "(II)V"⟩
abbrev cX4_take : ByteArray := prog_6_method_7_code
def yX4_take : MethodName := ⟨RX4, "take", "(III)V"⟩
abbrev cX4_weightOfSort : ByteArray := prog_6_method_8_code
def yX4_weightOfSort : MethodName := ⟨RX4, "weightOfSort", "(I)J"⟩
abbrev cX4_weightBlaming : ByteArray := prog_6_method_9_code
def yX4_weightBlaming : MethodName := ⟨RX4, "weightBlaming", "(I)J"⟩
abbrev cX4_hopeWeight : ByteArray := prog_6_method_10_code
def yX4_hopeWeight : MethodName := ⟨RX4, "hopeWeight", "(I)J"⟩
abbrev cX4_gap : ByteArray := prog_6_method_11_code
def yX4_gap : MethodName := ⟨RX4, "gap", "(I)J"⟩
abbrev cX4_nextVersion : ByteArray := prog_6_method_12_code
def yX4_nextVersion : MethodName := ⟨RX4, "nextVersion", "(I)I"⟩
abbrev cX4_guessIsBelow : ByteArray := prog_6_method_13_code
def yX4_guessIsBelow : MethodName := ⟨RX4, "guessIsBelow", "(I)Z"⟩
def RX5 : String := "BrokeWhere$Text"
def TX5 : u_T := fun k => match k with
  | 0 => ("BrokeWhere$Text", "length", "I", false)
  | 1 => ("BrokeWhere$Text", "signs", "[I", true)
  | _ => ("BrokeWhere$Text", "due", "[I", true)
def tyX5 : Nat → FieldType := fun k => match k with
  | 0 => .int
  | 1 => .array .int
  | _ => .array .int
theorem nmX5 : ∀ a, a < 3 → ∀ b, b < 3 → a ≠ b → (TX5 a).2.1 ≠ (TX5 b).2.1 := by decide +kernel
theorem tyX5_ok : ∀ k, k < 3 → parseFieldDescriptor (TX5 k).2.2.1 = some (tyX5 k) := by decide +kernel
abbrev cX5_init : ByteArray := prog_7_method_1_code
def yX5_init : MethodName := ⟨RX5, "<init>", "()V"⟩
abbrev cX5_add : ByteArray := prog_7_method_2_code
def yX5_add : MethodName := ⟨RX5, "add", "(I)I"⟩
abbrev cX5_textsOf : ByteArray := prog_7_method_3_code
def yX5_textsOf : MethodName := ⟨RX5, "textsOf", "(I)I"⟩
abbrev cX5_firstFault : ByteArray := prog_7_method_4_code
def yX5_firstFault : MethodName := ⟨RX5, "firstFault", "()I"⟩
def RX6 : String := "BrokeWhere$Truth"
def TX6 : u_T := fun k => match k with
  | 0 => ("BrokeWhere$Truth", "length", "I", false)
  | 1 => ("BrokeWhere$Truth", "failing", "[J", true)
  | _ => ("BrokeWhere$Truth", "values", "[J", true)
def tyX6 : Nat → FieldType := fun k => match k with
  | 0 => .int
  | 1 => .array .long
  | _ => .array .long
theorem nmX6 : ∀ a, a < 3 → ∀ b, b < 3 → a ≠ b → (TX6 a).2.1 ≠ (TX6 b).2.1 := by decide +kernel
theorem tyX6_ok : ∀ k, k < 3 → parseFieldDescriptor (TX6 k).2.2.1 = some (tyX6 k) := by decide +kernel
abbrev cX6_init : ByteArray := prog_8_method_1_code
def yX6_init : MethodName := ⟨RX6, "<init>", "()V"⟩
abbrev cX6_take : ByteArray := prog_8_method_2_code
def yX6_take : MethodName := ⟨RX6, "take", "(LBrokeWhere$Text;)V"⟩
abbrev cX6_valueOf : ByteArray := prog_8_method_3_code
def yX6_valueOf : MethodName := ⟨RX6, "valueOf", "(LBrokeWhere$Text;I)J"⟩
def RX7 : String := "BrokeWhere"
def TX7 : u_T := fun k => match k with
  | 0 => ("BrokeWhere", "history", "LBrokeWhere$History;", true)
  | 1 => ("BrokeWhere", "log", "LBrokeWhere$Log;", true)
  | 2 => ("BrokeWhere", "stories", "LBrokeWhere$Stories;", true)
  | 3 => ("BrokeWhere", "fewest", "LBrokeWhere$Partings;", true)
  | 4 => ("BrokeWhere", "cheapest", "LBrokeWhere$Partings;", true)
  | 5 => ("BrokeWhere", "signs", "LBrokeWhere$Text;", true)
  | 6 => ("BrokeWhere", "verdict", "LBrokeWhere$Truth;", true)
  | _ => ("BrokeWhere", "families", "LBrokeWhere$Families;", true)
def tyX7 : Nat → FieldType := fun k => match k with
  | 0 => .object "BrokeWhere$History"
  | 1 => .object "BrokeWhere$Log"
  | 2 => .object "BrokeWhere$Stories"
  | 3 => .object "BrokeWhere$Partings"
  | 4 => .object "BrokeWhere$Partings"
  | 5 => .object "BrokeWhere$Text"
  | 6 => .object "BrokeWhere$Truth"
  | _ => .object "BrokeWhere$Families"
theorem nmX7 : ∀ a, a < 8 → ∀ b, b < 8 → a ≠ b → (TX7 a).2.1 ≠ (TX7 b).2.1 := by decide +kernel
theorem tyX7_ok : ∀ k, k < 8 → parseFieldDescriptor (TX7 k).2.2.1 = some (tyX7 k) := by decide +kernel
abbrev cX7_init : ByteArray := prog_1_method_1_code
def yX7_init : MethodName := ⟨RX7, "<init>", "()V"⟩
abbrev cX7_version : ByteArray := prog_1_method_2_code
def yX7_version : MethodName := ⟨RX7, "version", "(III)I"⟩
abbrev cX7_has : ByteArray := prog_1_method_3_code
def yX7_has : MethodName := ⟨RX7, "has", "(I)I"⟩
abbrev cX7_set : ByteArray := prog_1_method_4_code
def yX7_set : MethodName := ⟨RX7, "set", "(III)I"⟩
abbrev cX7_trust : ByteArray := prog_1_method_5_code
def yX7_trust : MethodName := ⟨RX7, "trust", "(II)I"⟩
abbrev cX7_test : ByteArray := prog_1_method_6_code
def yX7_test : MethodName := ⟨RX7, "test", "(IZ)I"⟩
abbrev cX7_tested : ByteArray := prog_1_method_7_code
def yX7_tested : MethodName := ⟨RX7, "tested", "(II)I"⟩
abbrev cX7_untest : ByteArray := prog_1_method_8_code
def yX7_untest : MethodName := ⟨RX7, "untest", "()I"⟩
abbrev cX7_weight : ByteArray := prog_1_method_9_code
def yX7_weight : MethodName := ⟨RX7, "weight", "(III)J"⟩
abbrev cX7_odds : ByteArray := prog_1_method_10_code
def yX7_odds : MethodName := ⟨RX7, "odds", "(IIII)J"⟩
abbrev cX7_sorts : ByteArray := prog_1_method_11_code
def yX7_sorts : MethodName := ⟨RX7, "sorts", "(II)J"⟩
abbrev cX7_blame : ByteArray := prog_1_method_12_code
def yX7_blame : MethodName := ⟨RX7, "blame", "(II)J"⟩
abbrev cX7_guess : ByteArray := prog_1_method_13_code
def yX7_guess : MethodName := ⟨RX7, "guess", "(I)I"⟩
abbrev cX7_hope : ByteArray := prog_1_method_14_code
def yX7_hope : MethodName := ⟨RX7, "hope", "(II)J"⟩
abbrev cX7_next : ByteArray := prog_1_method_15_code
def yX7_next : MethodName := ⟨RX7, "next", "(I)I"⟩
abbrev cX7_worst : ByteArray := prog_1_method_16_code
def yX7_worst : MethodName := ⟨RX7, "worst", "(II)I"⟩
abbrev cX7_mean : ByteArray := prog_1_method_17_code
def yX7_mean : MethodName := ⟨RX7, "mean", "(II)I"⟩
abbrev cX7_twins : ByteArray := prog_1_method_18_code
def yX7_twins : MethodName := ⟨RX7, "twins", "(I)I"⟩
abbrev cX7_say : ByteArray := prog_1_method_19_code
def yX7_say : MethodName := ⟨RX7, "say", "(I)I"⟩
abbrev cX7_wipe : ByteArray := prog_1_method_20_code
def yX7_wipe : MethodName := ⟨RX7, "wipe", "()I"⟩
abbrev cX7_fault : ByteArray := prog_1_method_21_code
def yX7_fault : MethodName := ⟨RX7, "fault", "()I"⟩
abbrev cX7_truth : ByteArray := prog_1_method_22_code
def yX7_truth : MethodName := ⟨RX7, "truth", "()I"⟩
abbrev cX7_fails : ByteArray := prog_1_method_23_code
def yX7_fails : MethodName := ⟨RX7, "fails", "(II)I"⟩
abbrev cX7_play : ByteArray := prog_1_method_24_code
def yX7_play : MethodName := ⟨RX7, "play", "(I)I"⟩
abbrev cX7_out : ByteArray := prog_1_method_25_code
def yX7_out : MethodName := ⟨RX7, "out", "(II)I"⟩
abbrev cX7_core : ByteArray := prog_1_method_26_code
def yX7_core : MethodName := ⟨RX7, "core", "(II)I"⟩
abbrev cX7_told : ByteArray := prog_1_method_27_code
def yX7_told : MethodName := ⟨RX7, "told", "(I)I"⟩
abbrev cX7_forgetPartings : ByteArray := prog_1_method_28_code
def yX7_forgetPartings : MethodName := ⟨RX7, "forgetPartings", "()V"⟩
abbrev cX7_storyRefusal : ByteArray := prog_1_method_29_code
def yX7_storyRefusal : MethodName := ⟨RX7, "storyRefusal", "(III)I"⟩
abbrev cX7_parting : ByteArray := prog_1_method_30_code
def yX7_parting : MethodName := ⟨RX7, "parting", "(LBrokeWhere$Partings;II)I"⟩
abbrev cX7_isFrom : ByteArray := prog_1_method_31_code
def yX7_isFrom : MethodName := ⟨RX7, "isFrom", "(III)Z"⟩
abbrev cX7_asNumber : ByteArray := prog_1_method_32_code
def yX7_asNumber : MethodName := ⟨RX7, "asNumber", "(Z)I"⟩
abbrev cX7_isBit : ByteArray := prog_1_method_33_code
def yX7_isBit : MethodName := ⟨RX7, "isBit", "(II)Z"⟩
abbrev cX7_swap : ByteArray := prog_1_method_34_code
def yX7_swap : MethodName := ⟨RX7, "swap", "([III)I"⟩
abbrev cX7_fraction : ByteArray := prog_1_method_35_code
def yX7_fraction : MethodName := ⟨RX7, "fraction", "(JJI)J"⟩
abbrev cX7_commonDivisor : ByteArray := prog_1_method_36_code
def yX7_commonDivisor : MethodName := ⟨RX7, "commonDivisor", "(JJ)J"⟩
abbrev cX7_storyAt : ByteArray := prog_1_method_37_code
def yX7_storyAt : MethodName := ⟨RX7, "storyAt", "(III)I"⟩
abbrev cX7_sortAt : ByteArray := prog_1_method_38_code
def yX7_sortAt : MethodName := ⟨RX7, "sortAt", "(I)I"⟩
abbrev cX7_firstAt : ByteArray := prog_1_method_39_code
def yX7_firstAt : MethodName := ⟨RX7, "firstAt", "(I)I"⟩
abbrev cX7_secondAt : ByteArray := prog_1_method_40_code
def yX7_secondAt : MethodName := ⟨RX7, "secondAt", "(I)I"⟩
abbrev cX7_setsWith : ByteArray := prog_1_method_41_code
def yX7_setsWith : MethodName := ⟨RX7, "setsWith", "(II)J"⟩
abbrev cX7_setsWithAll : ByteArray := prog_1_method_42_code
def yX7_setsWithAll : MethodName := ⟨RX7, "setsWithAll", "(II)J"⟩
abbrev cX7_setsWithin : ByteArray := prog_1_method_43_code
def yX7_setsWithin : MethodName := ⟨RX7, "setsWithin", "(II)J"⟩
abbrev cX7_setsGiven : ByteArray := prog_1_method_44_code
def yX7_setsGiven : MethodName := ⟨RX7, "setsGiven", "(I[JI)J"⟩
abbrev cX7_isAmong : ByteArray := prog_1_method_45_code
def yX7_isAmong : MethodName := ⟨RX7, "isAmong", "([JI)Z"⟩
abbrev cX7_isOfWord : ByteArray := prog_1_method_46_code
def yX7_isOfWord : MethodName := ⟨RX7, "isOfWord", "(JI)Z"⟩
def RX8 : String := "BrokeWhereModel"
def TX8 : u_T := fun k => match k with
  | 0 => ("BrokeWhereModel", "versions", "I", false)
  | 1 => ("BrokeWhereModel", "hasOf", "[I", true)
  | 2 => ("BrokeWhereModel", "size", "[I", true)
  | 3 => ("BrokeWhereModel", "cost", "[I", true)
  | 4 => ("BrokeWhereModel", "needs", "[I", true)
  | 5 => ("BrokeWhereModel", "deaf", "[Z", true)
  | 6 => ("BrokeWhereModel", "tests", "I", false)
  | 7 => ("BrokeWhereModel", "testOf", "[I", true)
  | 8 => ("BrokeWhereModel", "passed", "[Z", true)
  | 9 => ("BrokeWhereModel", "trust", "[I", true)
  | 10 => ("BrokeWhereModel", "signs", "I", false)
  | 11 => ("BrokeWhereModel", "sign", "[I", true)
  | 12 => ("BrokeWhereModel", "told", "I", false)
  | 13 => ("BrokeWhereModel", "truth", "[I", true)
  | 14 => ("BrokeWhereModel", "stories", "I", false)
  | 15 => ("BrokeWhereModel", "sort", "[I", true)
  | 16 => ("BrokeWhereModel", "one", "[I", true)
  | 17 => ("BrokeWhereModel", "two", "[I", true)
  | 18 => ("BrokeWhereModel", "weight", "[J", true)
  | 19 => ("BrokeWhereModel", "all", "J", false)
  | 20 => ("BrokeWhereModel", "isLaid", "Z", false)
  | 21 => ("BrokeWhereModel", "most", "[I", true)
  | 22 => ("BrokeWhereModel", "mostFirst", "[I", true)
  | 23 => ("BrokeWhereModel", "sum", "[I", true)
  | 24 => ("BrokeWhereModel", "sumFirst", "[I", true)
  | 25 => ("BrokeWhereModel", "due", "[I", true)
  | 26 => ("BrokeWhereModel", "pile", "[Z", true)
  | _ => ("BrokeWhereModel", "bad", "[Z", true)
def tyX8 : Nat → FieldType := fun k => match k with
  | 0 => .int
  | 1 => .array .int
  | 2 => .array .int
  | 3 => .array .int
  | 4 => .array .int
  | 5 => .array .boolean
  | 6 => .int
  | 7 => .array .int
  | 8 => .array .boolean
  | 9 => .array .int
  | 10 => .int
  | 11 => .array .int
  | 12 => .int
  | 13 => .array .int
  | 14 => .int
  | 15 => .array .int
  | 16 => .array .int
  | 17 => .array .int
  | 18 => .array .long
  | 19 => .long
  | 20 => .boolean
  | 21 => .array .int
  | 22 => .array .int
  | 23 => .array .int
  | 24 => .array .int
  | 25 => .array .int
  | 26 => .array .boolean
  | _ => .array .boolean
theorem nmX8 : ∀ a, a < 28 → ∀ b, b < 28 → a ≠ b → (TX8 a).2.1 ≠ (TX8 b).2.1 := by decide +kernel
theorem tyX8_ok : ∀ k, k < 28 → parseFieldDescriptor (TX8 k).2.2.1 = some (tyX8 k) := by decide +kernel
abbrev cX8_init : ByteArray := prog_10_method_1_code
def yX8_init : MethodName := ⟨RX8, "<init>", "()V"⟩
abbrev cX8_in : ByteArray := prog_10_method_2_code
def yX8_in : MethodName := ⟨RX8, "in", "(III)Z"⟩
abbrev cX8_isVersion : ByteArray := prog_10_method_3_code
def yX8_isVersion : MethodName := ⟨RX8, "isVersion", "(I)Z"⟩
abbrev cX8_isPart : ByteArray := prog_10_method_4_code
def yX8_isPart : MethodName := ⟨RX8, "isPart", "(I)Z"⟩
abbrev cX8_hasBit : ByteArray := prog_10_method_5_code
def yX8_hasBit : MethodName := ⟨RX8, "hasBit", "(II)Z"⟩
abbrev cX8_version : ByteArray := prog_10_method_6_code
def yX8_version : MethodName := ⟨RX8, "version", "(III)I"⟩
abbrev cX8_has : ByteArray := prog_10_method_7_code
def yX8_has : MethodName := ⟨RX8, "has", "(I)I"⟩
abbrev cX8_isTested : ByteArray := prog_10_method_8_code
def yX8_isTested : MethodName := ⟨RX8, "isTested", "(I)Z"⟩
abbrev cX8_set : ByteArray := prog_10_method_9_code
def yX8_set : MethodName := ⟨RX8, "set", "(III)I"⟩
abbrev cX8_trust : ByteArray := prog_10_method_10_code
def yX8_trust : MethodName := ⟨RX8, "trust", "(II)I"⟩
abbrev cX8_test : ByteArray := prog_10_method_11_code
def yX8_test : MethodName := ⟨RX8, "test", "(IZ)I"⟩
abbrev cX8_tested : ByteArray := prog_10_method_12_code
def yX8_tested : MethodName := ⟨RX8, "tested", "(II)I"⟩
abbrev cX8_untest : ByteArray := prog_10_method_13_code
def yX8_untest : MethodName := ⟨RX8, "untest", "()I"⟩
abbrev cX8_shouldFail : ByteArray := prog_10_method_14_code
def yX8_shouldFail : MethodName := ⟨RX8, "shouldFail", "(IIII)Z"⟩
abbrev cX8_tenths : ByteArray := prog_10_method_15_code
def yX8_tenths : MethodName := ⟨RX8, "tenths", "(ZZ)I"⟩
abbrev cX8_weightOf : ByteArray := prog_10_method_16_code
def yX8_weightOf : MethodName := ⟨RX8, "weightOf", "(III)J"⟩
abbrev cX8_add : ByteArray := prog_10_method_17_code
def yX8_add : MethodName := ⟨RX8, "add", "(III)V"⟩
abbrev cX8_layStories : ByteArray := prog_10_method_18_code
def yX8_layStories : MethodName := ⟨RX8, "layStories", "()V"⟩
abbrev cX8_isStory : ByteArray := prog_10_method_19_code
def yX8_isStory : MethodName := ⟨RX8, "isStory", "(III)Z"⟩
abbrev cX8_weight : ByteArray := prog_10_method_20_code
def yX8_weight : MethodName := ⟨RX8, "weight", "(III)J"⟩
abbrev cX8_term : ByteArray := prog_10_method_21_code
def yX8_term : MethodName := ⟨RX8, "term", "(JJI)J"⟩
abbrev cX8_odds : ByteArray := prog_10_method_22_code
def yX8_odds : MethodName := ⟨RX8, "odds", "(IIII)J"⟩
abbrev cX8_sorts : ByteArray := prog_10_method_23_code
def yX8_sorts : MethodName := ⟨RX8, "sorts", "(II)J"⟩
abbrev cX8_blame : ByteArray := prog_10_method_24_code
def yX8_blame : MethodName := ⟨RX8, "blame", "(II)J"⟩
abbrev cX8_guessOf : ByteArray := prog_10_method_25_code
def yX8_guessOf : MethodName := ⟨RX8, "guessOf", "()I"⟩
abbrev cX8_guess : ByteArray := prog_10_method_26_code
def yX8_guess : MethodName := ⟨RX8, "guess", "(I)I"⟩
abbrev cX8_canTest : ByteArray := prog_10_method_27_code
def yX8_canTest : MethodName := ⟨RX8, "canTest", "(I)Z"⟩
abbrev cX8_hopeOf : ByteArray := prog_10_method_28_code
def yX8_hopeOf : MethodName := ⟨RX8, "hopeOf", "(I)J"⟩
abbrev cX8_hope : ByteArray := prog_10_method_29_code
def yX8_hope : MethodName := ⟨RX8, "hope", "(II)J"⟩
abbrev cX8_badness : ByteArray := prog_10_method_30_code
def yX8_badness : MethodName := ⟨RX8, "badness", "(II)J"⟩
abbrev cX8_nextOf : ByteArray := prog_10_method_31_code
def yX8_nextOf : MethodName := ⟨RX8, "nextOf", "(I)I"⟩
abbrev cX8_next : ByteArray := prog_10_method_32_code
def yX8_next : MethodName := ⟨RX8, "next", "(I)I"⟩
abbrev cX8_laySet : ByteArray := prog_10_method_33_code
def yX8_laySet : MethodName := ⟨RX8, "laySet", "(I)V"⟩
abbrev cX8_lay : ByteArray := prog_10_method_34_code
def yX8_lay : MethodName := ⟨RX8, "lay", "()V"⟩
abbrev cX8_isSet : ByteArray := prog_10_method_35_code
def yX8_isSet : MethodName := ⟨RX8, "isSet", "(I)Z"⟩
abbrev cX8_worst : ByteArray := prog_10_method_36_code
def yX8_worst : MethodName := ⟨RX8, "worst", "(II)I"⟩
abbrev cX8_mean : ByteArray := prog_10_method_37_code
def yX8_mean : MethodName := ⟨RX8, "mean", "(II)I"⟩
abbrev cX8_twins : ByteArray := prog_10_method_38_code
def yX8_twins : MethodName := ⟨RX8, "twins", "(I)I"⟩
abbrev cX8_say : ByteArray := prog_10_method_39_code
def yX8_say : MethodName := ⟨RX8, "say", "(I)I"⟩
abbrev cX8_wipe : ByteArray := prog_10_method_40_code
def yX8_wipe : MethodName := ⟨RX8, "wipe", "()I"⟩
abbrev cX8_faultOf : ByteArray := prog_10_method_41_code
def yX8_faultOf : MethodName := ⟨RX8, "faultOf", "()I"⟩
abbrev cX8_fault : ByteArray := prog_10_method_42_code
def yX8_fault : MethodName := ⟨RX8, "fault", "()I"⟩
abbrev cX8_truth : ByteArray := prog_10_method_43_code
def yX8_truth : MethodName := ⟨RX8, "truth", "()I"⟩
abbrev cX8_failsOf : ByteArray := prog_10_method_44_code
def yX8_failsOf : MethodName := ⟨RX8, "failsOf", "(I)Z"⟩
abbrev cX8_isSound : ByteArray := prog_10_method_45_code
def yX8_isSound : MethodName := ⟨RX8, "isSound", "(I)Z"⟩
abbrev cX8_fails : ByteArray := prog_10_method_46_code
def yX8_fails : MethodName := ⟨RX8, "fails", "(II)I"⟩
abbrev cX8_play : ByteArray := prog_10_method_47_code
def yX8_play : MethodName := ⟨RX8, "play", "(I)I"⟩
abbrev cX8_isSure : ByteArray := prog_10_method_48_code
def yX8_isSure : MethodName := ⟨RX8, "isSure", "(I)Z"⟩
abbrev cX8_bits : ByteArray := prog_10_method_49_code
def yX8_bits : MethodName := ⟨RX8, "bits", "(I)I"⟩
abbrev cX8_sizes : ByteArray := prog_10_method_50_code
def yX8_sizes : MethodName := ⟨RX8, "sizes", "(I)I"⟩
abbrev cX8_out : ByteArray := prog_10_method_51_code
def yX8_out : MethodName := ⟨RX8, "out", "(II)I"⟩
abbrev cX8_core : ByteArray := prog_10_method_52_code
def yX8_core : MethodName := ⟨RX8, "core", "(II)I"⟩
abbrev cX8_told : ByteArray := prog_10_method_53_code
def yX8_told : MethodName := ⟨RX8, "told", "(I)I"⟩
def RJ6 : String := "java/lang/Integer"
def TJ6 : u_T := fun k => match k with
  | _ => ("", "", "", false)
def tyJ6 : Nat → FieldType := fun k => match k with
  | _ => .int
theorem nmJ6 : ∀ a, a < 0 → ∀ b, b < 0 → a ≠ b → (TJ6 a).2.1 ≠ (TJ6 b).2.1 := by decide +kernel
theorem tyJ6_ok : ∀ k, k < 0 → parseFieldDescriptor (TJ6 k).2.2.1 = some (tyJ6 k) := by decide +kernel
abbrev cJ6_bitCount_0f7a4 : ByteArray := prog_11_method_49_code
def yJ6_bitCount_0f7a4 : MethodName := ⟨RJ6, "bitCount", "(I)I"⟩
def RJ13 : String := "java/lang/Long"
def TJ13 : u_T := fun k => match k with
  | _ => ("", "", "", false)
def tyJ13 : Nat → FieldType := fun k => match k with
  | _ => .int
theorem nmJ13 : ∀ a, a < 0 → ∀ b, b < 0 → a ≠ b → (TJ13 a).2.1 ≠ (TJ13 b).2.1 := by decide +kernel
theorem tyJ13_ok : ∀ k, k < 0 → parseFieldDescriptor (TJ13 k).2.2.1 = some (tyJ13 k) := by decide +kernel
abbrev cJ13_bitCount_95d88 : ByteArray := prog_12_method_50_code
def yJ13_bitCount_95d88 : MethodName := ⟨RJ13, "bitCount", "(J)I"⟩
def RJ9 : String := "java/lang/Math"
def TJ9 : u_T := fun k => match k with
  | _ => ("", "", "", false)
def tyJ9 : Nat → FieldType := fun k => match k with
  | _ => .int
theorem nmJ9 : ∀ a, a < 0 → ∀ b, b < 0 → a ≠ b → (TJ9 a).2.1 ≠ (TJ9 b).2.1 := by decide +kernel
theorem tyJ9_ok : ∀ k, k < 0 → parseFieldDescriptor (TJ9 k).2.2.1 = some (tyJ9 k) := by decide +kernel
abbrev cJ9_abs_067f4 : ByteArray := prog_13_method_61_code
def yJ9_abs_067f4 : MethodName := ⟨RJ9, "abs", "(J)J"⟩
abbrev cJ9_max_7cf53 : ByteArray := prog_13_method_65_code
def yJ9_max_7cf53 : MethodName := ⟨RJ9, "max", "(II)I"⟩
abbrev cJ9_max_f86c9 : ByteArray := prog_13_method_66_code
def yJ9_max_f86c9 : MethodName := ⟨RJ9, "max", "(JJ)J"⟩
abbrev cJ9_min_7cf53 : ByteArray := prog_13_method_69_code
def yJ9_min_7cf53 : MethodName := ⟨RJ9, "min", "(II)I"⟩
def RJ7 : String := "java/util/Arrays"
def TJ7 : u_T := fun k => match k with
  | _ => ("", "", "", false)
def tyJ7 : Nat → FieldType := fun k => match k with
  | _ => .int
theorem nmJ7 : ∀ a, a < 0 → ∀ b, b < 0 → a ≠ b → (TJ7 a).2.1 ≠ (TJ7 b).2.1 := by decide +kernel
theorem tyJ7_ok : ∀ k, k < 0 → parseFieldDescriptor (TJ7 k).2.2.1 = some (tyJ7 k) := by decide +kernel
abbrev cJ7_fill_53178 : ByteArray := prog_14_method_103_code
def yJ7_fill_53178 : MethodName := ⟨RJ7, "fill", "([II)V"⟩
def RL : String := "BrokeWhereLaw"
abbrev cL_law : ByteArray := code
def yL_law : MethodName := ⟨RL, "law", "([I)Z"⟩
abbrev vwCl : List vw_C := [(RX0, TX0, 4), (RX1, TX1, 7), (RX2, TX2, 3), (RX3, TX3, 4), (RX4, TX4, 10), (RX5, TX5, 3), (RX6, TX6, 3), (RX7, TX7, 8), (RX8, TX8, 28)]
end
section
theorem dX0_init_0 : decode cX0_init 0 = .ok (.aload_n 0, 1) := by decide +kernel
theorem dX0_init_1 : decode cX0_init 1 = .ok (.invokespecial 3, 3) := by decide +kernel
theorem dX0_init_4 : decode cX0_init 4 = .ok (.aload_n 0, 1) := by decide +kernel
theorem dX0_init_5 : decode cX0_init 5 = .ok (.bipush 64, 2) := by decide +kernel
theorem dX0_init_7 : decode cX0_init 7 = .ok (.newarray .long, 2) := by decide +kernel
theorem dX0_init_9 : decode cX0_init 9 = .ok (.putfield 9, 3) := by decide +kernel
theorem dX0_init_12 : decode cX0_init 12 = .ok (.aload_n 0, 1) := by decide +kernel
theorem dX0_init_13 : decode cX0_init 13 = .ok (.bipush 64, 2) := by decide +kernel
theorem dX0_init_15 : decode cX0_init 15 = .ok (.newarray .long, 2) := by decide +kernel
theorem dX0_init_17 : decode cX0_init 17 = .ok (.putfield 15, 3) := by decide +kernel
theorem dX0_init_20 : decode cX0_init 20 = .ok (.aload_n 0, 1) := by decide +kernel
theorem dX0_init_21 : decode cX0_init 21 = .ok (.aload_n 1, 1) := by decide +kernel
theorem dX0_init_22 : decode cX0_init 22 = .ok (.putfield 18, 3) := by decide +kernel
theorem dX0_init_25 : decode cX0_init 25 = .ok (.aload_n 0, 1) := by decide +kernel
theorem dX0_init_26 : decode cX0_init 26 = .ok (.aload_n 2, 1) := by decide +kernel
theorem dX0_init_27 : decode cX0_init 27 = .ok (.putfield 22, 3) := by decide +kernel
theorem dX0_init_30 : decode cX0_init 30 = .ok (.return_, 1) := by decide +kernel
theorem dX0_soundSets_0 : decode cX0_soundSets 0 = .ok (.ldc2_w 26, 3) := by decide +kernel
theorem dX0_soundSets_3 : decode cX0_soundSets 3 = .ok (.lstore_n 2, 1) := by decide +kernel
theorem dX0_soundSets_4 : decode cX0_soundSets 4 = .ok (.iconst 0, 1) := by decide +kernel
theorem dX0_soundSets_5 : decode cX0_soundSets 5 = .ok (.istore 4, 2) := by decide +kernel
theorem dX0_soundSets_7 : decode cX0_soundSets 7 = .ok (.iload 4, 2) := by decide +kernel
theorem dX0_soundSets_9 : decode cX0_soundSets 9 = .ok (.aload_n 0, 1) := by decide +kernel
theorem dX0_soundSets_10 : decode cX0_soundSets 10 = .ok (.getfield 18, 3) := by decide +kernel
theorem dX0_soundSets_13 : decode cX0_soundSets 13 = .ok (.getfield 28, 3) := by decide +kernel
theorem dX0_soundSets_16 : decode cX0_soundSets 16 = .ok (.if_icmp .ge 50, 3) := by decide +kernel
theorem dX0_soundSets_19 : decode cX0_soundSets 19 = .ok (.aload_n 0, 1) := by decide +kernel
theorem dX0_soundSets_20 : decode cX0_soundSets 20 = .ok (.getfield 18, 3) := by decide +kernel
theorem dX0_soundSets_23 : decode cX0_soundSets 23 = .ok (.getfield 34, 3) := by decide +kernel
theorem dX0_soundSets_26 : decode cX0_soundSets 26 = .ok (.iload 4, 2) := by decide +kernel
theorem dX0_soundSets_28 : decode cX0_soundSets 28 = .ok (.iaload, 1) := by decide +kernel
theorem dX0_soundSets_29 : decode cX0_soundSets 29 = .ok (.ifCond .eq 31, 3) := by decide +kernel
theorem dX0_soundSets_32 : decode cX0_soundSets 32 = .ok (.lload_n 2, 1) := by decide +kernel
theorem dX0_soundSets_33 : decode cX0_soundSets 33 = .ok (.iload 4, 2) := by decide +kernel
theorem dX0_soundSets_35 : decode cX0_soundSets 35 = .ok (.iload_n 1, 1) := by decide +kernel
theorem dX0_soundSets_36 : decode cX0_soundSets 36 = .ok (.invokestatic 38, 3) := by decide +kernel
theorem dX0_soundSets_39 : decode cX0_soundSets 39 = .ok (.ldc2_w 26, 3) := by decide +kernel
theorem dX0_soundSets_42 : decode cX0_soundSets 42 = .ok (.lxor, 1) := by decide +kernel
theorem dX0_soundSets_43 : decode cX0_soundSets 43 = .ok (.aload_n 0, 1) := by decide +kernel
theorem dX0_soundSets_44 : decode cX0_soundSets 44 = .ok (.getfield 18, 3) := by decide +kernel
theorem dX0_soundSets_47 : decode cX0_soundSets 47 = .ok (.getfield 34, 3) := by decide +kernel
theorem dX0_soundSets_50 : decode cX0_soundSets 50 = .ok (.iload 4, 2) := by decide +kernel
theorem dX0_soundSets_52 : decode cX0_soundSets 52 = .ok (.iaload, 1) := by decide +kernel
theorem dX0_soundSets_53 : decode cX0_soundSets 53 = .ok (.iload_n 1, 1) := by decide +kernel
theorem dX0_soundSets_54 : decode cX0_soundSets 54 = .ok (.invokestatic 42, 3) := by decide +kernel
theorem dX0_soundSets_57 : decode cX0_soundSets 57 = .ok (.lor, 1) := by decide +kernel
theorem dX0_soundSets_58 : decode cX0_soundSets 58 = .ok (.land, 1) := by decide +kernel
theorem dX0_soundSets_59 : decode cX0_soundSets 59 = .ok (.lstore_n 2, 1) := by decide +kernel
theorem dX0_soundSets_60 : decode cX0_soundSets 60 = .ok (.iinc 4 1, 3) := by decide +kernel
theorem dX0_soundSets_63 : decode cX0_soundSets 63 = .ok (.goto (-56), 3) := by decide +kernel
theorem dX0_soundSets_66 : decode cX0_soundSets 66 = .ok (.lload_n 2, 1) := by decide +kernel
theorem dX0_soundSets_67 : decode cX0_soundSets 67 = .ok (.lreturn, 1) := by decide +kernel
theorem dX0_isSound_0 : decode cX0_isSound 0 = .ok (.aload_n 0, 1) := by decide +kernel
theorem dX0_isSound_1 : decode cX0_isSound 1 = .ok (.iload_n 1, 1) := by decide +kernel
theorem dX0_isSound_2 : decode cX0_isSound 2 = .ok (.bipush 6, 2) := by decide +kernel
theorem dX0_isSound_4 : decode cX0_isSound 4 = .ok (.ishr, 1) := by decide +kernel
theorem dX0_isSound_5 : decode cX0_isSound 5 = .ok (.invokevirtual 45, 3) := by decide +kernel
theorem dX0_isSound_8 : decode cX0_isSound 8 = .ok (.iload_n 1, 1) := by decide +kernel
theorem dX0_isSound_9 : decode cX0_isSound 9 = .ok (.invokestatic 49, 3) := by decide +kernel
theorem dX0_isSound_12 : decode cX0_isSound 12 = .ok (.ireturn, 1) := by decide +kernel
theorem dX0_leastOut_0 : decode cX0_leastOut 0 = .ok (.iconst 0, 1) := by decide +kernel
theorem dX0_leastOut_1 : decode cX0_leastOut 1 = .ok (.istore_n 2, 1) := by decide +kernel
theorem dX0_leastOut_2 : decode cX0_leastOut 2 = .ok (.iload_n 2, 1) := by decide +kernel
theorem dX0_leastOut_3 : decode cX0_leastOut 3 = .ok (.bipush 64, 2) := by decide +kernel
theorem dX0_leastOut_5 : decode cX0_leastOut 5 = .ok (.if_icmp .ge 34, 3) := by decide +kernel
theorem dX0_leastOut_8 : decode cX0_leastOut 8 = .ok (.aload_n 0, 1) := by decide +kernel
theorem dX0_leastOut_9 : decode cX0_leastOut 9 = .ok (.getfield 9, 3) := by decide +kernel
theorem dX0_leastOut_12 : decode cX0_leastOut 12 = .ok (.iload_n 2, 1) := by decide +kernel
theorem dX0_leastOut_13 : decode cX0_leastOut 13 = .ok (.aload_n 0, 1) := by decide +kernel
theorem dX0_leastOut_14 : decode cX0_leastOut 14 = .ok (.iload_n 2, 1) := by decide +kernel
theorem dX0_leastOut_15 : decode cX0_leastOut 15 = .ok (.invokevirtual 45, 3) := by decide +kernel
theorem dX0_leastOut_18 : decode cX0_leastOut 18 = .ok (.aload_n 0, 1) := by decide +kernel
theorem dX0_leastOut_19 : decode cX0_leastOut 19 = .ok (.getfield 22, 3) := by decide +kernel
theorem dX0_leastOut_22 : decode cX0_leastOut 22 = .ok (.getfield 53, 3) := by decide +kernel
theorem dX0_leastOut_25 : decode cX0_leastOut 25 = .ok (.iload_n 2, 1) := by decide +kernel
theorem dX0_leastOut_26 : decode cX0_leastOut 26 = .ok (.laload, 1) := by decide +kernel
theorem dX0_leastOut_27 : decode cX0_leastOut 27 = .ok (.ldc2_w 26, 3) := by decide +kernel
theorem dX0_leastOut_30 : decode cX0_leastOut 30 = .ok (.lxor, 1) := by decide +kernel
theorem dX0_leastOut_31 : decode cX0_leastOut 31 = .ok (.land, 1) := by decide +kernel
theorem dX0_leastOut_32 : decode cX0_leastOut 32 = .ok (.lastore, 1) := by decide +kernel
theorem dX0_leastOut_33 : decode cX0_leastOut 33 = .ok (.iinc 2 1, 3) := by decide +kernel
theorem dX0_leastOut_36 : decode cX0_leastOut 36 = .ok (.goto (-34), 3) := by decide +kernel
theorem dX0_leastOut_39 : decode cX0_leastOut 39 = .ok (.bipush (-5), 2) := by decide +kernel
theorem dX0_leastOut_41 : decode cX0_leastOut 41 = .ok (.istore_n 2, 1) := by decide +kernel
theorem dX0_leastOut_42 : decode cX0_leastOut 42 = .ok (.iconst 0, 1) := by decide +kernel
theorem dX0_leastOut_43 : decode cX0_leastOut 43 = .ok (.istore_n 3, 1) := by decide +kernel
theorem dX0_leastOut_44 : decode cX0_leastOut 44 = .ok (.iconst 0, 1) := by decide +kernel
theorem dX0_leastOut_45 : decode cX0_leastOut 45 = .ok (.istore 4, 2) := by decide +kernel
theorem dX0_leastOut_47 : decode cX0_leastOut 47 = .ok (.iload 4, 2) := by decide +kernel
theorem dX0_leastOut_49 : decode cX0_leastOut 49 = .ok (.sipush 4096, 3) := by decide +kernel
theorem dX0_leastOut_52 : decode cX0_leastOut 52 = .ok (.if_icmp .ge 55, 3) := by decide +kernel
theorem dX0_leastOut_55 : decode cX0_leastOut 55 = .ok (.aload_n 0, 1) := by decide +kernel
theorem dX0_leastOut_56 : decode cX0_leastOut 56 = .ok (.getfield 9, 3) := by decide +kernel
theorem dX0_leastOut_59 : decode cX0_leastOut 59 = .ok (.iload_n 1, 1) := by decide +kernel
theorem dX0_leastOut_60 : decode cX0_leastOut 60 = .ok (.iload_n 3, 1) := by decide +kernel
theorem dX0_leastOut_61 : decode cX0_leastOut 61 = .ok (.iconst (-1), 1) := by decide +kernel
theorem dX0_leastOut_62 : decode cX0_leastOut 62 = .ok (.ixor, 1) := by decide +kernel
theorem dX0_leastOut_63 : decode cX0_leastOut 63 = .ok (.iand, 1) := by decide +kernel
theorem dX0_leastOut_64 : decode cX0_leastOut 64 = .ok (.invokestatic 58, 3) := by decide +kernel
theorem dX0_leastOut_67 : decode cX0_leastOut 67 = .ok (.ifCond .eq 20, 3) := by decide +kernel
theorem dX0_leastOut_70 : decode cX0_leastOut 70 = .ok (.iload_n 2, 1) := by decide +kernel
theorem dX0_leastOut_71 : decode cX0_leastOut 71 = .ok (.bipush (-5), 2) := by decide +kernel
theorem dX0_leastOut_73 : decode cX0_leastOut 73 = .ok (.if_icmp .eq 12, 3) := by decide +kernel
theorem dX0_leastOut_76 : decode cX0_leastOut 76 = .ok (.aload_n 0, 1) := by decide +kernel
theorem dX0_leastOut_77 : decode cX0_leastOut 77 = .ok (.iload_n 3, 1) := by decide +kernel
theorem dX0_leastOut_78 : decode cX0_leastOut 78 = .ok (.iload_n 2, 1) := by decide +kernel
theorem dX0_leastOut_79 : decode cX0_leastOut 79 = .ok (.invokevirtual 62, 3) := by decide +kernel
theorem dX0_leastOut_82 : decode cX0_leastOut 82 = .ok (.ifCond .eq 5, 3) := by decide +kernel
theorem dX0_leastOut_85 : decode cX0_leastOut 85 = .ok (.iload_n 3, 1) := by decide +kernel
theorem dX0_leastOut_86 : decode cX0_leastOut 86 = .ok (.istore_n 2, 1) := by decide +kernel
theorem dX0_leastOut_87 : decode cX0_leastOut 87 = .ok (.iload_n 3, 1) := by decide +kernel
theorem dX0_leastOut_88 : decode cX0_leastOut 88 = .ok (.iload_n 1, 1) := by decide +kernel
theorem dX0_leastOut_89 : decode cX0_leastOut 89 = .ok (.if_icmp .ne 6, 3) := by decide +kernel
theorem dX0_leastOut_92 : decode cX0_leastOut 92 = .ok (.goto 15, 3) := by decide +kernel
theorem dX0_leastOut_95 : decode cX0_leastOut 95 = .ok (.iload_n 3, 1) := by decide +kernel
theorem dX0_leastOut_96 : decode cX0_leastOut 96 = .ok (.iload_n 1, 1) := by decide +kernel
theorem dX0_leastOut_97 : decode cX0_leastOut 97 = .ok (.isub, 1) := by decide +kernel
theorem dX0_leastOut_98 : decode cX0_leastOut 98 = .ok (.iload_n 1, 1) := by decide +kernel
theorem dX0_leastOut_99 : decode cX0_leastOut 99 = .ok (.iand, 1) := by decide +kernel
theorem dX0_leastOut_100 : decode cX0_leastOut 100 = .ok (.istore_n 3, 1) := by decide +kernel
theorem dX0_leastOut_101 : decode cX0_leastOut 101 = .ok (.iinc 4 1, 3) := by decide +kernel
theorem dX0_leastOut_104 : decode cX0_leastOut 104 = .ok (.goto (-57), 3) := by decide +kernel
theorem dX0_leastOut_107 : decode cX0_leastOut 107 = .ok (.iload_n 2, 1) := by decide +kernel
theorem dX0_leastOut_108 : decode cX0_leastOut 108 = .ok (.ireturn, 1) := by decide +kernel
theorem dX0_isLess_0 : decode cX0_isLess 0 = .ok (.iload_n 1, 1) := by decide +kernel
theorem dX0_isLess_1 : decode cX0_isLess 1 = .ok (.invokestatic 66, 3) := by decide +kernel
theorem dX0_isLess_4 : decode cX0_isLess 4 = .ok (.iload_n 2, 1) := by decide +kernel
theorem dX0_isLess_5 : decode cX0_isLess 5 = .ok (.invokestatic 66, 3) := by decide +kernel
theorem dX0_isLess_8 : decode cX0_isLess 8 = .ok (.isub, 1) := by decide +kernel
theorem dX0_isLess_9 : decode cX0_isLess 9 = .ok (.istore_n 3, 1) := by decide +kernel
theorem dX0_isLess_10 : decode cX0_isLess 10 = .ok (.iload_n 3, 1) := by decide +kernel
theorem dX0_isLess_11 : decode cX0_isLess 11 = .ok (.ifCond .lt 26, 3) := by decide +kernel
theorem dX0_isLess_14 : decode cX0_isLess 14 = .ok (.iload_n 3, 1) := by decide +kernel
theorem dX0_isLess_15 : decode cX0_isLess 15 = .ok (.ifCond .ne 26, 3) := by decide +kernel
theorem dX0_isLess_18 : decode cX0_isLess 18 = .ok (.aload_n 0, 1) := by decide +kernel
theorem dX0_isLess_19 : decode cX0_isLess 19 = .ok (.getfield 18, 3) := by decide +kernel
theorem dX0_isLess_22 : decode cX0_isLess 22 = .ok (.iload_n 1, 1) := by decide +kernel
theorem dX0_isLess_23 : decode cX0_isLess 23 = .ok (.invokevirtual 72, 3) := by decide +kernel
theorem dX0_isLess_26 : decode cX0_isLess 26 = .ok (.aload_n 0, 1) := by decide +kernel
theorem dX0_isLess_27 : decode cX0_isLess 27 = .ok (.getfield 18, 3) := by decide +kernel
theorem dX0_isLess_30 : decode cX0_isLess 30 = .ok (.iload_n 2, 1) := by decide +kernel
theorem dX0_isLess_31 : decode cX0_isLess 31 = .ok (.invokevirtual 72, 3) := by decide +kernel
theorem dX0_isLess_34 : decode cX0_isLess 34 = .ok (.if_icmp .ge 7, 3) := by decide +kernel
theorem dX0_isLess_37 : decode cX0_isLess 37 = .ok (.iconst 1, 1) := by decide +kernel
theorem dX0_isLess_38 : decode cX0_isLess 38 = .ok (.goto 4, 3) := by decide +kernel
theorem dX0_isLess_41 : decode cX0_isLess 41 = .ok (.iconst 0, 1) := by decide +kernel
theorem dX0_isLess_42 : decode cX0_isLess 42 = .ok (.ireturn, 1) := by decide +kernel
theorem dX0_findCores_0 : decode cX0_findCores 0 = .ok (.iconst 0, 1) := by decide +kernel
theorem dX0_findCores_1 : decode cX0_findCores 1 = .ok (.istore_n 2, 1) := by decide +kernel
theorem dX0_findCores_2 : decode cX0_findCores 2 = .ok (.iload_n 2, 1) := by decide +kernel
theorem dX0_findCores_3 : decode cX0_findCores 3 = .ok (.bipush 64, 2) := by decide +kernel
theorem dX0_findCores_5 : decode cX0_findCores 5 = .ok (.if_icmp .ge 48, 3) := by decide +kernel
theorem dX0_findCores_8 : decode cX0_findCores 8 = .ok (.aload_n 0, 1) := by decide +kernel
theorem dX0_findCores_9 : decode cX0_findCores 9 = .ok (.getfield 9, 3) := by decide +kernel
theorem dX0_findCores_12 : decode cX0_findCores 12 = .ok (.iload_n 2, 1) := by decide +kernel
theorem dX0_findCores_13 : decode cX0_findCores 13 = .ok (.aload_n 0, 1) := by decide +kernel
theorem dX0_findCores_14 : decode cX0_findCores 14 = .ok (.iload_n 2, 1) := by decide +kernel
theorem dX0_findCores_15 : decode cX0_findCores 15 = .ok (.invokevirtual 45, 3) := by decide +kernel
theorem dX0_findCores_18 : decode cX0_findCores 18 = .ok (.aload_n 0, 1) := by decide +kernel
theorem dX0_findCores_19 : decode cX0_findCores 19 = .ok (.getfield 22, 3) := by decide +kernel
theorem dX0_findCores_22 : decode cX0_findCores 22 = .ok (.getfield 53, 3) := by decide +kernel
theorem dX0_findCores_25 : decode cX0_findCores 25 = .ok (.iload_n 2, 1) := by decide +kernel
theorem dX0_findCores_26 : decode cX0_findCores 26 = .ok (.laload, 1) := by decide +kernel
theorem dX0_findCores_27 : decode cX0_findCores 27 = .ok (.land, 1) := by decide +kernel
theorem dX0_findCores_28 : decode cX0_findCores 28 = .ok (.iload_n 1, 1) := by decide +kernel
theorem dX0_findCores_29 : decode cX0_findCores 29 = .ok (.iload_n 2, 1) := by decide +kernel
theorem dX0_findCores_30 : decode cX0_findCores 30 = .ok (.invokestatic 75, 3) := by decide +kernel
theorem dX0_findCores_33 : decode cX0_findCores 33 = .ok (.land, 1) := by decide +kernel
theorem dX0_findCores_34 : decode cX0_findCores 34 = .ok (.lastore, 1) := by decide +kernel
theorem dX0_findCores_35 : decode cX0_findCores 35 = .ok (.aload_n 0, 1) := by decide +kernel
theorem dX0_findCores_36 : decode cX0_findCores 36 = .ok (.getfield 15, 3) := by decide +kernel
theorem dX0_findCores_39 : decode cX0_findCores 39 = .ok (.iload_n 2, 1) := by decide +kernel
theorem dX0_findCores_40 : decode cX0_findCores 40 = .ok (.aload_n 0, 1) := by decide +kernel
theorem dX0_findCores_41 : decode cX0_findCores 41 = .ok (.getfield 9, 3) := by decide +kernel
theorem dX0_findCores_44 : decode cX0_findCores 44 = .ok (.iload_n 2, 1) := by decide +kernel
theorem dX0_findCores_45 : decode cX0_findCores 45 = .ok (.laload, 1) := by decide +kernel
theorem dX0_findCores_46 : decode cX0_findCores 46 = .ok (.lastore, 1) := by decide +kernel
theorem dX0_findCores_47 : decode cX0_findCores 47 = .ok (.iinc 2 1, 3) := by decide +kernel
theorem dX0_findCores_50 : decode cX0_findCores 50 = .ok (.goto (-48), 3) := by decide +kernel
theorem dX0_findCores_53 : decode cX0_findCores 53 = .ok (.iconst 0, 1) := by decide +kernel
theorem dX0_findCores_54 : decode cX0_findCores 54 = .ok (.istore_n 2, 1) := by decide +kernel
theorem dX0_findCores_55 : decode cX0_findCores 55 = .ok (.iload_n 2, 1) := by decide +kernel
theorem dX0_findCores_56 : decode cX0_findCores 56 = .ok (.bipush 12, 2) := by decide +kernel
theorem dX0_findCores_58 : decode cX0_findCores 58 = .ok (.if_icmp .ge 41, 3) := by decide +kernel
theorem dX0_findCores_61 : decode cX0_findCores 61 = .ok (.iconst 0, 1) := by decide +kernel
theorem dX0_findCores_62 : decode cX0_findCores 62 = .ok (.istore_n 3, 1) := by decide +kernel
theorem dX0_findCores_63 : decode cX0_findCores 63 = .ok (.iload_n 3, 1) := by decide +kernel
theorem dX0_findCores_64 : decode cX0_findCores 64 = .ok (.bipush 64, 2) := by decide +kernel
theorem dX0_findCores_66 : decode cX0_findCores 66 = .ok (.if_icmp .ge 27, 3) := by decide +kernel
theorem dX0_findCores_69 : decode cX0_findCores 69 = .ok (.aload_n 0, 1) := by decide +kernel
theorem dX0_findCores_70 : decode cX0_findCores 70 = .ok (.getfield 15, 3) := by decide +kernel
theorem dX0_findCores_73 : decode cX0_findCores 73 = .ok (.iload_n 3, 1) := by decide +kernel
theorem dX0_findCores_74 : decode cX0_findCores 74 = .ok (.dup2, 1) := by decide +kernel
theorem dX0_findCores_75 : decode cX0_findCores 75 = .ok (.laload, 1) := by decide +kernel
theorem dX0_findCores_76 : decode cX0_findCores 76 = .ok (.iload_n 2, 1) := by decide +kernel
theorem dX0_findCores_77 : decode cX0_findCores 77 = .ok (.aload_n 0, 1) := by decide +kernel
theorem dX0_findCores_78 : decode cX0_findCores 78 = .ok (.getfield 15, 3) := by decide +kernel
theorem dX0_findCores_81 : decode cX0_findCores 81 = .ok (.iload_n 3, 1) := by decide +kernel
theorem dX0_findCores_82 : decode cX0_findCores 82 = .ok (.invokestatic 78, 3) := by decide +kernel
theorem dX0_findCores_85 : decode cX0_findCores 85 = .ok (.lor, 1) := by decide +kernel
theorem dX0_findCores_86 : decode cX0_findCores 86 = .ok (.lastore, 1) := by decide +kernel
theorem dX0_findCores_87 : decode cX0_findCores 87 = .ok (.iinc 3 1, 3) := by decide +kernel
theorem dX0_findCores_90 : decode cX0_findCores 90 = .ok (.goto (-27), 3) := by decide +kernel
theorem dX0_findCores_93 : decode cX0_findCores 93 = .ok (.iinc 2 1, 3) := by decide +kernel
theorem dX0_findCores_96 : decode cX0_findCores 96 = .ok (.goto (-41), 3) := by decide +kernel
theorem dX0_findCores_99 : decode cX0_findCores 99 = .ok (.iconst 0, 1) := by decide +kernel
theorem dX0_findCores_100 : decode cX0_findCores 100 = .ok (.istore_n 2, 1) := by decide +kernel
theorem dX0_findCores_101 : decode cX0_findCores 101 = .ok (.iload_n 2, 1) := by decide +kernel
theorem dX0_findCores_102 : decode cX0_findCores 102 = .ok (.bipush 64, 2) := by decide +kernel
theorem dX0_findCores_104 : decode cX0_findCores 104 = .ok (.if_icmp .ge 45, 3) := by decide +kernel
theorem dX0_findCores_107 : decode cX0_findCores 107 = .ok (.iconst 0, 1) := by decide +kernel
theorem dX0_findCores_108 : decode cX0_findCores 108 = .ok (.istore_n 3, 1) := by decide +kernel
theorem dX0_findCores_109 : decode cX0_findCores 109 = .ok (.iload_n 3, 1) := by decide +kernel
theorem dX0_findCores_110 : decode cX0_findCores 110 = .ok (.bipush 12, 2) := by decide +kernel
theorem dX0_findCores_112 : decode cX0_findCores 112 = .ok (.if_icmp .ge 31, 3) := by decide +kernel
theorem dX0_findCores_115 : decode cX0_findCores 115 = .ok (.aload_n 0, 1) := by decide +kernel
theorem dX0_findCores_116 : decode cX0_findCores 116 = .ok (.getfield 9, 3) := by decide +kernel
theorem dX0_findCores_119 : decode cX0_findCores 119 = .ok (.iload_n 2, 1) := by decide +kernel
theorem dX0_findCores_120 : decode cX0_findCores 120 = .ok (.dup2, 1) := by decide +kernel
theorem dX0_findCores_121 : decode cX0_findCores 121 = .ok (.laload, 1) := by decide +kernel
theorem dX0_findCores_122 : decode cX0_findCores 122 = .ok (.iload_n 3, 1) := by decide +kernel
theorem dX0_findCores_123 : decode cX0_findCores 123 = .ok (.aload_n 0, 1) := by decide +kernel
theorem dX0_findCores_124 : decode cX0_findCores 124 = .ok (.getfield 15, 3) := by decide +kernel
theorem dX0_findCores_127 : decode cX0_findCores 127 = .ok (.iload_n 2, 1) := by decide +kernel
theorem dX0_findCores_128 : decode cX0_findCores 128 = .ok (.invokestatic 78, 3) := by decide +kernel
theorem dX0_findCores_131 : decode cX0_findCores 131 = .ok (.ldc2_w 26, 3) := by decide +kernel
theorem dX0_findCores_134 : decode cX0_findCores 134 = .ok (.lxor, 1) := by decide +kernel
theorem dX0_findCores_135 : decode cX0_findCores 135 = .ok (.land, 1) := by decide +kernel
theorem dX0_findCores_136 : decode cX0_findCores 136 = .ok (.lastore, 1) := by decide +kernel
theorem dX0_findCores_137 : decode cX0_findCores 137 = .ok (.iinc 3 1, 3) := by decide +kernel
theorem dX0_findCores_140 : decode cX0_findCores 140 = .ok (.goto (-31), 3) := by decide +kernel
theorem dX0_findCores_143 : decode cX0_findCores 143 = .ok (.iinc 2 1, 3) := by decide +kernel
theorem dX0_findCores_146 : decode cX0_findCores 146 = .ok (.goto (-45), 3) := by decide +kernel
theorem dX0_findCores_149 : decode cX0_findCores 149 = .ok (.return_, 1) := by decide +kernel
theorem dX0_countFound_0 : decode cX0_countFound 0 = .ok (.iconst 0, 1) := by decide +kernel
theorem dX0_countFound_1 : decode cX0_countFound 1 = .ok (.istore_n 1, 1) := by decide +kernel
theorem dX0_countFound_2 : decode cX0_countFound 2 = .ok (.iconst 0, 1) := by decide +kernel
theorem dX0_countFound_3 : decode cX0_countFound 3 = .ok (.istore_n 2, 1) := by decide +kernel
theorem dX0_countFound_4 : decode cX0_countFound 4 = .ok (.iload_n 2, 1) := by decide +kernel
theorem dX0_countFound_5 : decode cX0_countFound 5 = .ok (.bipush 64, 2) := by decide +kernel
theorem dX0_countFound_7 : decode cX0_countFound 7 = .ok (.if_icmp .ge 21, 3) := by decide +kernel
theorem dX0_countFound_10 : decode cX0_countFound 10 = .ok (.iload_n 1, 1) := by decide +kernel
theorem dX0_countFound_11 : decode cX0_countFound 11 = .ok (.aload_n 0, 1) := by decide +kernel
theorem dX0_countFound_12 : decode cX0_countFound 12 = .ok (.getfield 9, 3) := by decide +kernel
theorem dX0_countFound_15 : decode cX0_countFound 15 = .ok (.iload_n 2, 1) := by decide +kernel
theorem dX0_countFound_16 : decode cX0_countFound 16 = .ok (.laload, 1) := by decide +kernel
theorem dX0_countFound_17 : decode cX0_countFound 17 = .ok (.invokestatic 82, 3) := by decide +kernel
theorem dX0_countFound_20 : decode cX0_countFound 20 = .ok (.iadd, 1) := by decide +kernel
theorem dX0_countFound_21 : decode cX0_countFound 21 = .ok (.istore_n 1, 1) := by decide +kernel
theorem dX0_countFound_22 : decode cX0_countFound 22 = .ok (.iinc 2 1, 3) := by decide +kernel
theorem dX0_countFound_25 : decode cX0_countFound 25 = .ok (.goto (-21), 3) := by decide +kernel
theorem dX0_countFound_28 : decode cX0_countFound 28 = .ok (.iload_n 1, 1) := by decide +kernel
theorem dX0_countFound_29 : decode cX0_countFound 29 = .ok (.ireturn, 1) := by decide +kernel
theorem dX0_foundAt_0 : decode cX0_foundAt 0 = .ok (.iload_n 1, 1) := by decide +kernel
theorem dX0_foundAt_1 : decode cX0_foundAt 1 = .ok (.istore_n 2, 1) := by decide +kernel
theorem dX0_foundAt_2 : decode cX0_foundAt 2 = .ok (.iconst 0, 1) := by decide +kernel
theorem dX0_foundAt_3 : decode cX0_foundAt 3 = .ok (.istore_n 3, 1) := by decide +kernel
theorem dX0_foundAt_4 : decode cX0_foundAt 4 = .ok (.iload_n 3, 1) := by decide +kernel
theorem dX0_foundAt_5 : decode cX0_foundAt 5 = .ok (.bipush 64, 2) := by decide +kernel
theorem dX0_foundAt_7 : decode cX0_foundAt 7 = .ok (.if_icmp .ge 45, 3) := by decide +kernel
theorem dX0_foundAt_10 : decode cX0_foundAt 10 = .ok (.iload_n 2, 1) := by decide +kernel
theorem dX0_foundAt_11 : decode cX0_foundAt 11 = .ok (.ifCond .lt 41, 3) := by decide +kernel
theorem dX0_foundAt_14 : decode cX0_foundAt 14 = .ok (.aload_n 0, 1) := by decide +kernel
theorem dX0_foundAt_15 : decode cX0_foundAt 15 = .ok (.getfield 9, 3) := by decide +kernel
theorem dX0_foundAt_18 : decode cX0_foundAt 18 = .ok (.iload_n 3, 1) := by decide +kernel
theorem dX0_foundAt_19 : decode cX0_foundAt 19 = .ok (.laload, 1) := by decide +kernel
theorem dX0_foundAt_20 : decode cX0_foundAt 20 = .ok (.invokestatic 82, 3) := by decide +kernel
theorem dX0_foundAt_23 : decode cX0_foundAt 23 = .ok (.istore 4, 2) := by decide +kernel
theorem dX0_foundAt_25 : decode cX0_foundAt 25 = .ok (.iload_n 2, 1) := by decide +kernel
theorem dX0_foundAt_26 : decode cX0_foundAt 26 = .ok (.iload 4, 2) := by decide +kernel
theorem dX0_foundAt_28 : decode cX0_foundAt 28 = .ok (.if_icmp .ge 13, 3) := by decide +kernel
theorem dX0_foundAt_31 : decode cX0_foundAt 31 = .ok (.aload_n 0, 1) := by decide +kernel
theorem dX0_foundAt_32 : decode cX0_foundAt 32 = .ok (.iload_n 3, 1) := by decide +kernel
theorem dX0_foundAt_33 : decode cX0_foundAt 33 = .ok (.bipush 64, 2) := by decide +kernel
theorem dX0_foundAt_35 : decode cX0_foundAt 35 = .ok (.imul, 1) := by decide +kernel
theorem dX0_foundAt_36 : decode cX0_foundAt 36 = .ok (.iload_n 2, 1) := by decide +kernel
theorem dX0_foundAt_37 : decode cX0_foundAt 37 = .ok (.invokevirtual 87, 3) := by decide +kernel
theorem dX0_foundAt_40 : decode cX0_foundAt 40 = .ok (.ireturn, 1) := by decide +kernel
theorem dX0_foundAt_41 : decode cX0_foundAt 41 = .ok (.iload_n 2, 1) := by decide +kernel
theorem dX0_foundAt_42 : decode cX0_foundAt 42 = .ok (.iload 4, 2) := by decide +kernel
theorem dX0_foundAt_44 : decode cX0_foundAt 44 = .ok (.isub, 1) := by decide +kernel
theorem dX0_foundAt_45 : decode cX0_foundAt 45 = .ok (.istore_n 2, 1) := by decide +kernel
theorem dX0_foundAt_46 : decode cX0_foundAt 46 = .ok (.iinc 3 1, 3) := by decide +kernel
theorem dX0_foundAt_49 : decode cX0_foundAt 49 = .ok (.goto (-45), 3) := by decide +kernel
theorem dX0_foundAt_52 : decode cX0_foundAt 52 = .ok (.bipush (-6), 2) := by decide +kernel
theorem dX0_foundAt_54 : decode cX0_foundAt 54 = .ok (.ireturn, 1) := by decide +kernel
theorem dX0_foundFrom_0 : decode cX0_foundFrom 0 = .ok (.iload_n 2, 1) := by decide +kernel
theorem dX0_foundFrom_1 : decode cX0_foundFrom 1 = .ok (.istore_n 3, 1) := by decide +kernel
theorem dX0_foundFrom_2 : decode cX0_foundFrom 2 = .ok (.iload_n 1, 1) := by decide +kernel
theorem dX0_foundFrom_3 : decode cX0_foundFrom 3 = .ok (.istore 4, 2) := by decide +kernel
theorem dX0_foundFrom_5 : decode cX0_foundFrom 5 = .ok (.iload 4, 2) := by decide +kernel
theorem dX0_foundFrom_7 : decode cX0_foundFrom 7 = .ok (.iload_n 1, 1) := by decide +kernel
theorem dX0_foundFrom_8 : decode cX0_foundFrom 8 = .ok (.bipush 64, 2) := by decide +kernel
theorem dX0_foundFrom_10 : decode cX0_foundFrom 10 = .ok (.iadd, 1) := by decide +kernel
theorem dX0_foundFrom_11 : decode cX0_foundFrom 11 = .ok (.if_icmp .ge 39, 3) := by decide +kernel
theorem dX0_foundFrom_14 : decode cX0_foundFrom 14 = .ok (.iload 4, 2) := by decide +kernel
theorem dX0_foundFrom_16 : decode cX0_foundFrom 16 = .ok (.sipush 4096, 3) := by decide +kernel
theorem dX0_foundFrom_19 : decode cX0_foundFrom 19 = .ok (.if_icmp .ge 31, 3) := by decide +kernel
theorem dX0_foundFrom_22 : decode cX0_foundFrom 22 = .ok (.aload_n 0, 1) := by decide +kernel
theorem dX0_foundFrom_23 : decode cX0_foundFrom 23 = .ok (.getfield 9, 3) := by decide +kernel
theorem dX0_foundFrom_26 : decode cX0_foundFrom 26 = .ok (.iload 4, 2) := by decide +kernel
theorem dX0_foundFrom_28 : decode cX0_foundFrom 28 = .ok (.invokestatic 58, 3) := by decide +kernel
theorem dX0_foundFrom_31 : decode cX0_foundFrom 31 = .ok (.ifCond .eq 13, 3) := by decide +kernel
theorem dX0_foundFrom_34 : decode cX0_foundFrom 34 = .ok (.iload_n 3, 1) := by decide +kernel
theorem dX0_foundFrom_35 : decode cX0_foundFrom 35 = .ok (.ifCond .ne 6, 3) := by decide +kernel
theorem dX0_foundFrom_38 : decode cX0_foundFrom 38 = .ok (.iload 4, 2) := by decide +kernel
theorem dX0_foundFrom_40 : decode cX0_foundFrom 40 = .ok (.ireturn, 1) := by decide +kernel
theorem dX0_foundFrom_41 : decode cX0_foundFrom 41 = .ok (.iinc 3 (-1), 3) := by decide +kernel
theorem dX0_foundFrom_44 : decode cX0_foundFrom 44 = .ok (.iinc 4 1, 3) := by decide +kernel
theorem dX0_foundFrom_47 : decode cX0_foundFrom 47 = .ok (.goto (-42), 3) := by decide +kernel
theorem dX0_foundFrom_50 : decode cX0_foundFrom 50 = .ok (.bipush (-6), 2) := by decide +kernel
theorem dX0_foundFrom_52 : decode cX0_foundFrom 52 = .ok (.ireturn, 1) := by decide +kernel
theorem dX1_init_0 : decode cX1_init 0 = .ok (.aload_n 0, 1) := by decide +kernel
theorem dX1_init_1 : decode cX1_init 1 = .ok (.invokespecial 3, 3) := by decide +kernel
theorem dX1_init_4 : decode cX1_init 4 = .ok (.aload_n 0, 1) := by decide +kernel
theorem dX1_init_5 : decode cX1_init 5 = .ok (.bipush 12, 2) := by decide +kernel
theorem dX1_init_7 : decode cX1_init 7 = .ok (.newarray .int, 2) := by decide +kernel
theorem dX1_init_9 : decode cX1_init 9 = .ok (.putfield 9, 3) := by decide +kernel
theorem dX1_init_12 : decode cX1_init 12 = .ok (.aload_n 0, 1) := by decide +kernel
theorem dX1_init_13 : decode cX1_init 13 = .ok (.bipush 12, 2) := by decide +kernel
theorem dX1_init_15 : decode cX1_init 15 = .ok (.newarray .int, 2) := by decide +kernel
theorem dX1_init_17 : decode cX1_init 17 = .ok (.putfield 15, 3) := by decide +kernel
theorem dX1_init_20 : decode cX1_init 20 = .ok (.aload_n 0, 1) := by decide +kernel
theorem dX1_init_21 : decode cX1_init 21 = .ok (.bipush 12, 2) := by decide +kernel
theorem dX1_init_23 : decode cX1_init 23 = .ok (.newarray .int, 2) := by decide +kernel
theorem dX1_init_25 : decode cX1_init 25 = .ok (.putfield 18, 3) := by decide +kernel
theorem dX1_init_28 : decode cX1_init 28 = .ok (.aload_n 0, 1) := by decide +kernel
theorem dX1_init_29 : decode cX1_init 29 = .ok (.bipush 12, 2) := by decide +kernel
theorem dX1_init_31 : decode cX1_init 31 = .ok (.newarray .int, 2) := by decide +kernel
theorem dX1_init_33 : decode cX1_init 33 = .ok (.putfield 21, 3) := by decide +kernel
theorem dX1_init_36 : decode cX1_init 36 = .ok (.aload_n 0, 1) := by decide +kernel
theorem dX1_init_37 : decode cX1_init 37 = .ok (.bipush 12, 2) := by decide +kernel
theorem dX1_init_39 : decode cX1_init 39 = .ok (.newarray .int, 2) := by decide +kernel
theorem dX1_init_41 : decode cX1_init 41 = .ok (.putfield 24, 3) := by decide +kernel
theorem dX1_init_44 : decode cX1_init 44 = .ok (.aload_n 0, 1) := by decide +kernel
theorem dX1_init_45 : decode cX1_init 45 = .ok (.bipush 12, 2) := by decide +kernel
theorem dX1_init_47 : decode cX1_init 47 = .ok (.newarray .int, 2) := by decide +kernel
theorem dX1_init_49 : decode cX1_init 49 = .ok (.putfield 27, 3) := by decide +kernel
theorem dX1_init_52 : decode cX1_init 52 = .ok (.return_, 1) := by decide +kernel
theorem dX1_knows_0 : decode cX1_knows 0 = .ok (.iload_n 1, 1) := by decide +kernel
theorem dX1_knows_1 : decode cX1_knows 1 = .ok (.ifCond .lt 15, 3) := by decide +kernel
theorem dX1_knows_4 : decode cX1_knows 4 = .ok (.iload_n 1, 1) := by decide +kernel
theorem dX1_knows_5 : decode cX1_knows 5 = .ok (.aload_n 0, 1) := by decide +kernel
theorem dX1_knows_6 : decode cX1_knows 6 = .ok (.getfield 30, 3) := by decide +kernel
theorem dX1_knows_9 : decode cX1_knows 9 = .ok (.if_icmp .ge 7, 3) := by decide +kernel
theorem dX1_knows_12 : decode cX1_knows 12 = .ok (.iconst 1, 1) := by decide +kernel
theorem dX1_knows_13 : decode cX1_knows 13 = .ok (.goto 4, 3) := by decide +kernel
theorem dX1_knows_16 : decode cX1_knows 16 = .ok (.iconst 0, 1) := by decide +kernel
theorem dX1_knows_17 : decode cX1_knows 17 = .ok (.ireturn, 1) := by decide +kernel
theorem dX1_hears_0 : decode cX1_hears 0 = .ok (.aload_n 0, 1) := by decide +kernel
theorem dX1_hears_1 : decode cX1_hears 1 = .ok (.iload_n 1, 1) := by decide +kernel
theorem dX1_hears_2 : decode cX1_hears 2 = .ok (.invokevirtual 34, 3) := by decide +kernel
theorem dX1_hears_5 : decode cX1_hears 5 = .ok (.ifCond .eq 16, 3) := by decide +kernel
theorem dX1_hears_8 : decode cX1_hears 8 = .ok (.aload_n 0, 1) := by decide +kernel
theorem dX1_hears_9 : decode cX1_hears 9 = .ok (.getfield 27, 3) := by decide +kernel
theorem dX1_hears_12 : decode cX1_hears 12 = .ok (.iload_n 1, 1) := by decide +kernel
theorem dX1_hears_13 : decode cX1_hears 13 = .ok (.iaload, 1) := by decide +kernel
theorem dX1_hears_14 : decode cX1_hears 14 = .ok (.ifCond .ne 7, 3) := by decide +kernel
theorem dX1_hears_17 : decode cX1_hears 17 = .ok (.iconst 1, 1) := by decide +kernel
theorem dX1_hears_18 : decode cX1_hears 18 = .ok (.goto 4, 3) := by decide +kernel
theorem dX1_hears_21 : decode cX1_hears 21 = .ok (.iconst 0, 1) := by decide +kernel
theorem dX1_hears_22 : decode cX1_hears 22 = .ok (.ireturn, 1) := by decide +kernel
theorem dX1_mayStandOn_0 : decode cX1_mayStandOn 0 = .ok (.iload_n 2, 1) := by decide +kernel
theorem dX1_mayStandOn_1 : decode cX1_mayStandOn 1 = .ok (.iconst (-1), 1) := by decide +kernel
theorem dX1_mayStandOn_2 : decode cX1_mayStandOn 2 = .ok (.if_icmp .ne 22, 3) := by decide +kernel
theorem dX1_mayStandOn_5 : decode cX1_mayStandOn 5 = .ok (.iload_n 1, 1) := by decide +kernel
theorem dX1_mayStandOn_6 : decode cX1_mayStandOn 6 = .ok (.iconst (-1), 1) := by decide +kernel
theorem dX1_mayStandOn_7 : decode cX1_mayStandOn 7 = .ok (.if_icmp .eq 11, 3) := by decide +kernel
theorem dX1_mayStandOn_10 : decode cX1_mayStandOn 10 = .ok (.aload_n 0, 1) := by decide +kernel
theorem dX1_mayStandOn_11 : decode cX1_mayStandOn 11 = .ok (.iload_n 1, 1) := by decide +kernel
theorem dX1_mayStandOn_12 : decode cX1_mayStandOn 12 = .ok (.invokevirtual 34, 3) := by decide +kernel
theorem dX1_mayStandOn_15 : decode cX1_mayStandOn 15 = .ok (.ifCond .eq 7, 3) := by decide +kernel
theorem dX1_mayStandOn_18 : decode cX1_mayStandOn 18 = .ok (.iconst 1, 1) := by decide +kernel
theorem dX1_mayStandOn_19 : decode cX1_mayStandOn 19 = .ok (.goto 4, 3) := by decide +kernel
theorem dX1_mayStandOn_22 : decode cX1_mayStandOn 22 = .ok (.iconst 0, 1) := by decide +kernel
theorem dX1_mayStandOn_23 : decode cX1_mayStandOn 23 = .ok (.ireturn, 1) := by decide +kernel
theorem dX1_mayStandOn_24 : decode cX1_mayStandOn 24 = .ok (.aload_n 0, 1) := by decide +kernel
theorem dX1_mayStandOn_25 : decode cX1_mayStandOn 25 = .ok (.iload_n 1, 1) := by decide +kernel
theorem dX1_mayStandOn_26 : decode cX1_mayStandOn 26 = .ok (.invokevirtual 34, 3) := by decide +kernel
theorem dX1_mayStandOn_29 : decode cX1_mayStandOn 29 = .ok (.ifCond .eq 20, 3) := by decide +kernel
theorem dX1_mayStandOn_32 : decode cX1_mayStandOn 32 = .ok (.aload_n 0, 1) := by decide +kernel
theorem dX1_mayStandOn_33 : decode cX1_mayStandOn 33 = .ok (.iload_n 2, 1) := by decide +kernel
theorem dX1_mayStandOn_34 : decode cX1_mayStandOn 34 = .ok (.invokevirtual 34, 3) := by decide +kernel
theorem dX1_mayStandOn_37 : decode cX1_mayStandOn 37 = .ok (.ifCond .eq 12, 3) := by decide +kernel
theorem dX1_mayStandOn_40 : decode cX1_mayStandOn 40 = .ok (.iload_n 1, 1) := by decide +kernel
theorem dX1_mayStandOn_41 : decode cX1_mayStandOn 41 = .ok (.iload_n 2, 1) := by decide +kernel
theorem dX1_mayStandOn_42 : decode cX1_mayStandOn 42 = .ok (.if_icmp .eq 7, 3) := by decide +kernel
theorem dX1_mayStandOn_45 : decode cX1_mayStandOn 45 = .ok (.iconst 1, 1) := by decide +kernel
theorem dX1_mayStandOn_46 : decode cX1_mayStandOn 46 = .ok (.goto 4, 3) := by decide +kernel
theorem dX1_mayStandOn_49 : decode cX1_mayStandOn 49 = .ok (.iconst 0, 1) := by decide +kernel
theorem dX1_mayStandOn_50 : decode cX1_mayStandOn 50 = .ok (.ireturn, 1) := by decide +kernel
theorem dX1_add_0 : decode cX1_add 0 = .ok (.aload_n 0, 1) := by decide +kernel
theorem dX1_add_1 : decode cX1_add 1 = .ok (.getfield 30, 3) := by decide +kernel
theorem dX1_add_4 : decode cX1_add 4 = .ok (.istore 4, 2) := by decide +kernel
theorem dX1_add_6 : decode cX1_add 6 = .ok (.aload_n 0, 1) := by decide +kernel
theorem dX1_add_7 : decode cX1_add 7 = .ok (.iload_n 1, 1) := by decide +kernel
theorem dX1_add_8 : decode cX1_add 8 = .ok (.invokevirtual 34, 3) := by decide +kernel
theorem dX1_add_11 : decode cX1_add 11 = .ok (.ifCond .eq 12, 3) := by decide +kernel
theorem dX1_add_14 : decode cX1_add 14 = .ok (.aload_n 0, 1) := by decide +kernel
theorem dX1_add_15 : decode cX1_add 15 = .ok (.getfield 9, 3) := by decide +kernel
theorem dX1_add_18 : decode cX1_add 18 = .ok (.iload_n 1, 1) := by decide +kernel
theorem dX1_add_19 : decode cX1_add 19 = .ok (.iaload, 1) := by decide +kernel
theorem dX1_add_20 : decode cX1_add 20 = .ok (.goto 4, 3) := by decide +kernel
theorem dX1_add_23 : decode cX1_add 23 = .ok (.iconst 0, 1) := by decide +kernel
theorem dX1_add_24 : decode cX1_add 24 = .ok (.aload_n 0, 1) := by decide +kernel
theorem dX1_add_25 : decode cX1_add 25 = .ok (.iload_n 2, 1) := by decide +kernel
theorem dX1_add_26 : decode cX1_add 26 = .ok (.invokevirtual 34, 3) := by decide +kernel
theorem dX1_add_29 : decode cX1_add 29 = .ok (.ifCond .eq 12, 3) := by decide +kernel
theorem dX1_add_32 : decode cX1_add 32 = .ok (.aload_n 0, 1) := by decide +kernel
theorem dX1_add_33 : decode cX1_add 33 = .ok (.getfield 9, 3) := by decide +kernel
theorem dX1_add_36 : decode cX1_add 36 = .ok (.iload_n 2, 1) := by decide +kernel
theorem dX1_add_37 : decode cX1_add 37 = .ok (.iaload, 1) := by decide +kernel
theorem dX1_add_38 : decode cX1_add 38 = .ok (.goto 4, 3) := by decide +kernel
theorem dX1_add_41 : decode cX1_add 41 = .ok (.iconst 0, 1) := by decide +kernel
theorem dX1_add_42 : decode cX1_add 42 = .ok (.ior, 1) := by decide +kernel
theorem dX1_add_43 : decode cX1_add 43 = .ok (.istore 5, 2) := by decide +kernel
theorem dX1_add_45 : decode cX1_add 45 = .ok (.aload_n 0, 1) := by decide +kernel
theorem dX1_add_46 : decode cX1_add 46 = .ok (.getfield 9, 3) := by decide +kernel
theorem dX1_add_49 : decode cX1_add 49 = .ok (.iload 4, 2) := by decide +kernel
theorem dX1_add_51 : decode cX1_add 51 = .ok (.iload 5, 2) := by decide +kernel
theorem dX1_add_53 : decode cX1_add 53 = .ok (.iconst 1, 1) := by decide +kernel
theorem dX1_add_54 : decode cX1_add 54 = .ok (.iload 4, 2) := by decide +kernel
theorem dX1_add_56 : decode cX1_add 56 = .ok (.ishl, 1) := by decide +kernel
theorem dX1_add_57 : decode cX1_add 57 = .ok (.ior, 1) := by decide +kernel
theorem dX1_add_58 : decode cX1_add 58 = .ok (.iastore, 1) := by decide +kernel
theorem dX1_add_59 : decode cX1_add 59 = .ok (.iconst 0, 1) := by decide +kernel
theorem dX1_add_60 : decode cX1_add 60 = .ok (.istore 6, 2) := by decide +kernel
theorem dX1_add_62 : decode cX1_add 62 = .ok (.iload 6, 2) := by decide +kernel
theorem dX1_add_64 : decode cX1_add 64 = .ok (.iload 4, 2) := by decide +kernel
theorem dX1_add_66 : decode cX1_add 66 = .ok (.if_icmp .gt 38, 3) := by decide +kernel
theorem dX1_add_69 : decode cX1_add 69 = .ok (.aload_n 0, 1) := by decide +kernel
theorem dX1_add_70 : decode cX1_add 70 = .ok (.getfield 9, 3) := by decide +kernel
theorem dX1_add_73 : decode cX1_add 73 = .ok (.iload 4, 2) := by decide +kernel
theorem dX1_add_75 : decode cX1_add 75 = .ok (.iaload, 1) := by decide +kernel
theorem dX1_add_76 : decode cX1_add 76 = .ok (.iload 6, 2) := by decide +kernel
theorem dX1_add_78 : decode cX1_add 78 = .ok (.invokestatic 38, 3) := by decide +kernel
theorem dX1_add_81 : decode cX1_add 81 = .ok (.ifCond .eq 17, 3) := by decide +kernel
theorem dX1_add_84 : decode cX1_add 84 = .ok (.aload_n 0, 1) := by decide +kernel
theorem dX1_add_85 : decode cX1_add 85 = .ok (.getfield 15, 3) := by decide +kernel
theorem dX1_add_88 : decode cX1_add 88 = .ok (.iload 6, 2) := by decide +kernel
theorem dX1_add_90 : decode cX1_add 90 = .ok (.dup2, 1) := by decide +kernel
theorem dX1_add_91 : decode cX1_add 91 = .ok (.iaload, 1) := by decide +kernel
theorem dX1_add_92 : decode cX1_add 92 = .ok (.iconst 1, 1) := by decide +kernel
theorem dX1_add_93 : decode cX1_add 93 = .ok (.iload 4, 2) := by decide +kernel
theorem dX1_add_95 : decode cX1_add 95 = .ok (.ishl, 1) := by decide +kernel
theorem dX1_add_96 : decode cX1_add 96 = .ok (.ior, 1) := by decide +kernel
theorem dX1_add_97 : decode cX1_add 97 = .ok (.iastore, 1) := by decide +kernel
theorem dX1_add_98 : decode cX1_add 98 = .ok (.iinc 6 1, 3) := by decide +kernel
theorem dX1_add_101 : decode cX1_add 101 = .ok (.goto (-39), 3) := by decide +kernel
theorem dX1_add_104 : decode cX1_add 104 = .ok (.aload_n 0, 1) := by decide +kernel
theorem dX1_add_105 : decode cX1_add 105 = .ok (.getfield 18, 3) := by decide +kernel
theorem dX1_add_108 : decode cX1_add 108 = .ok (.iload 4, 2) := by decide +kernel
theorem dX1_add_110 : decode cX1_add 110 = .ok (.iload_n 3, 1) := by decide +kernel
theorem dX1_add_111 : decode cX1_add 111 = .ok (.iastore, 1) := by decide +kernel
theorem dX1_add_112 : decode cX1_add 112 = .ok (.aload_n 0, 1) := by decide +kernel
theorem dX1_add_113 : decode cX1_add 113 = .ok (.getfield 21, 3) := by decide +kernel
theorem dX1_add_116 : decode cX1_add 116 = .ok (.iload 4, 2) := by decide +kernel
theorem dX1_add_118 : decode cX1_add 118 = .ok (.iconst 1, 1) := by decide +kernel
theorem dX1_add_119 : decode cX1_add 119 = .ok (.iastore, 1) := by decide +kernel
theorem dX1_add_120 : decode cX1_add 120 = .ok (.aload_n 0, 1) := by decide +kernel
theorem dX1_add_121 : decode cX1_add 121 = .ok (.iload 4, 2) := by decide +kernel
theorem dX1_add_123 : decode cX1_add 123 = .ok (.iconst 1, 1) := by decide +kernel
theorem dX1_add_124 : decode cX1_add 124 = .ok (.iadd, 1) := by decide +kernel
theorem dX1_add_125 : decode cX1_add 125 = .ok (.putfield 30, 3) := by decide +kernel
theorem dX1_add_128 : decode cX1_add 128 = .ok (.iload 4, 2) := by decide +kernel
theorem dX1_add_130 : decode cX1_add 130 = .ok (.ireturn, 1) := by decide +kernel
theorem dX1_mayBe_0 : decode cX1_mayBe 0 = .ok (.iload_n 2, 1) := by decide +kernel
theorem dX1_mayBe_1 : decode cX1_mayBe 1 = .ok (.tableswitch 57 0 3 #[31, 31, 39, 50], 31) := by decide +kernel
theorem dX1_mayBe_32 : decode cX1_mayBe 32 = .ok (.iload_n 3, 1) := by decide +kernel
theorem dX1_mayBe_33 : decode cX1_mayBe 33 = .ok (.iconst 1, 1) := by decide +kernel
theorem dX1_mayBe_34 : decode cX1_mayBe 34 = .ok (.bipush 9, 2) := by decide +kernel
theorem dX1_mayBe_36 : decode cX1_mayBe 36 = .ok (.invokestatic 42, 3) := by decide +kernel
theorem dX1_mayBe_39 : decode cX1_mayBe 39 = .ok (.ireturn, 1) := by decide +kernel
theorem dX1_mayBe_40 : decode cX1_mayBe 40 = .ok (.iload_n 3, 1) := by decide +kernel
theorem dX1_mayBe_41 : decode cX1_mayBe 41 = .ok (.iconst 0, 1) := by decide +kernel
theorem dX1_mayBe_42 : decode cX1_mayBe 42 = .ok (.iconst 1, 1) := by decide +kernel
theorem dX1_mayBe_43 : decode cX1_mayBe 43 = .ok (.iload_n 1, 1) := by decide +kernel
theorem dX1_mayBe_44 : decode cX1_mayBe 44 = .ok (.ishl, 1) := by decide +kernel
theorem dX1_mayBe_45 : decode cX1_mayBe 45 = .ok (.iconst 1, 1) := by decide +kernel
theorem dX1_mayBe_46 : decode cX1_mayBe 46 = .ok (.isub, 1) := by decide +kernel
theorem dX1_mayBe_47 : decode cX1_mayBe 47 = .ok (.invokestatic 42, 3) := by decide +kernel
theorem dX1_mayBe_50 : decode cX1_mayBe 50 = .ok (.ireturn, 1) := by decide +kernel
theorem dX1_mayBe_51 : decode cX1_mayBe 51 = .ok (.iload_n 3, 1) := by decide +kernel
theorem dX1_mayBe_52 : decode cX1_mayBe 52 = .ok (.iconst 0, 1) := by decide +kernel
theorem dX1_mayBe_53 : decode cX1_mayBe 53 = .ok (.iconst 1, 1) := by decide +kernel
theorem dX1_mayBe_54 : decode cX1_mayBe 54 = .ok (.invokestatic 42, 3) := by decide +kernel
theorem dX1_mayBe_57 : decode cX1_mayBe 57 = .ok (.ireturn, 1) := by decide +kernel
theorem dX1_mayBe_58 : decode cX1_mayBe 58 = .ok (.iconst 0, 1) := by decide +kernel
theorem dX1_mayBe_59 : decode cX1_mayBe 59 = .ok (.ireturn, 1) := by decide +kernel
theorem dX1_row_0 : decode cX1_row 0 = .ok (.iload_n 1, 1) := by decide +kernel
theorem dX1_row_1 : decode cX1_row 1 = .ok (.tableswitch 42 0 2 #[27, 32, 37], 27) := by decide +kernel
theorem dX1_row_28 : decode cX1_row 28 = .ok (.aload_n 0, 1) := by decide +kernel
theorem dX1_row_29 : decode cX1_row 29 = .ok (.getfield 18, 3) := by decide +kernel
theorem dX1_row_32 : decode cX1_row 32 = .ok (.areturn, 1) := by decide +kernel
theorem dX1_row_33 : decode cX1_row 33 = .ok (.aload_n 0, 1) := by decide +kernel
theorem dX1_row_34 : decode cX1_row 34 = .ok (.getfield 21, 3) := by decide +kernel
theorem dX1_row_37 : decode cX1_row 37 = .ok (.areturn, 1) := by decide +kernel
theorem dX1_row_38 : decode cX1_row 38 = .ok (.aload_n 0, 1) := by decide +kernel
theorem dX1_row_39 : decode cX1_row 39 = .ok (.getfield 24, 3) := by decide +kernel
theorem dX1_row_42 : decode cX1_row 42 = .ok (.areturn, 1) := by decide +kernel
theorem dX1_row_43 : decode cX1_row 43 = .ok (.aload_n 0, 1) := by decide +kernel
theorem dX1_row_44 : decode cX1_row 44 = .ok (.getfield 27, 3) := by decide +kernel
theorem dX1_row_47 : decode cX1_row 47 = .ok (.areturn, 1) := by decide +kernel
theorem dX1_everyVersion_0 : decode cX1_everyVersion 0 = .ok (.iconst 1, 1) := by decide +kernel
theorem dX1_everyVersion_1 : decode cX1_everyVersion 1 = .ok (.aload_n 0, 1) := by decide +kernel
theorem dX1_everyVersion_2 : decode cX1_everyVersion 2 = .ok (.getfield 30, 3) := by decide +kernel
theorem dX1_everyVersion_5 : decode cX1_everyVersion 5 = .ok (.ishl, 1) := by decide +kernel
theorem dX1_everyVersion_6 : decode cX1_everyVersion 6 = .ok (.iconst 1, 1) := by decide +kernel
theorem dX1_everyVersion_7 : decode cX1_everyVersion 7 = .ok (.isub, 1) := by decide +kernel
theorem dX1_everyVersion_8 : decode cX1_everyVersion 8 = .ok (.ireturn, 1) := by decide +kernel
theorem dX1_hearing_0 : decode cX1_hearing 0 = .ok (.iconst 0, 1) := by decide +kernel
theorem dX1_hearing_1 : decode cX1_hearing 1 = .ok (.istore_n 1, 1) := by decide +kernel
theorem dX1_hearing_2 : decode cX1_hearing 2 = .ok (.iconst 0, 1) := by decide +kernel
theorem dX1_hearing_3 : decode cX1_hearing 3 = .ok (.istore_n 2, 1) := by decide +kernel
theorem dX1_hearing_4 : decode cX1_hearing 4 = .ok (.iload_n 2, 1) := by decide +kernel
theorem dX1_hearing_5 : decode cX1_hearing 5 = .ok (.aload_n 0, 1) := by decide +kernel
theorem dX1_hearing_6 : decode cX1_hearing 6 = .ok (.getfield 30, 3) := by decide +kernel
theorem dX1_hearing_9 : decode cX1_hearing 9 = .ok (.if_icmp .ge 24, 3) := by decide +kernel
theorem dX1_hearing_12 : decode cX1_hearing 12 = .ok (.aload_n 0, 1) := by decide +kernel
theorem dX1_hearing_13 : decode cX1_hearing 13 = .ok (.getfield 27, 3) := by decide +kernel
theorem dX1_hearing_16 : decode cX1_hearing 16 = .ok (.iload_n 2, 1) := by decide +kernel
theorem dX1_hearing_17 : decode cX1_hearing 17 = .ok (.iaload, 1) := by decide +kernel
theorem dX1_hearing_18 : decode cX1_hearing 18 = .ok (.ifCond .ne 9, 3) := by decide +kernel
theorem dX1_hearing_21 : decode cX1_hearing 21 = .ok (.iload_n 1, 1) := by decide +kernel
theorem dX1_hearing_22 : decode cX1_hearing 22 = .ok (.iconst 1, 1) := by decide +kernel
theorem dX1_hearing_23 : decode cX1_hearing 23 = .ok (.iload_n 2, 1) := by decide +kernel
theorem dX1_hearing_24 : decode cX1_hearing 24 = .ok (.ishl, 1) := by decide +kernel
theorem dX1_hearing_25 : decode cX1_hearing 25 = .ok (.ior, 1) := by decide +kernel
theorem dX1_hearing_26 : decode cX1_hearing 26 = .ok (.istore_n 1, 1) := by decide +kernel
theorem dX1_hearing_27 : decode cX1_hearing 27 = .ok (.iinc 2 1, 3) := by decide +kernel
theorem dX1_hearing_30 : decode cX1_hearing 30 = .ok (.goto (-26), 3) := by decide +kernel
theorem dX1_hearing_33 : decode cX1_hearing 33 = .ok (.iload_n 1, 1) := by decide +kernel
theorem dX1_hearing_34 : decode cX1_hearing 34 = .ok (.ireturn, 1) := by decide +kernel
theorem dX1_twinsOf_0 : decode cX1_twinsOf 0 = .ok (.aload_n 0, 1) := by decide +kernel
theorem dX1_twinsOf_1 : decode cX1_twinsOf 1 = .ok (.invokevirtual 46, 3) := by decide +kernel
theorem dX1_twinsOf_4 : decode cX1_twinsOf 4 = .ok (.istore_n 2, 1) := by decide +kernel
theorem dX1_twinsOf_5 : decode cX1_twinsOf 5 = .ok (.iconst 0, 1) := by decide +kernel
theorem dX1_twinsOf_6 : decode cX1_twinsOf 6 = .ok (.istore_n 3, 1) := by decide +kernel
theorem dX1_twinsOf_7 : decode cX1_twinsOf 7 = .ok (.iconst 0, 1) := by decide +kernel
theorem dX1_twinsOf_8 : decode cX1_twinsOf 8 = .ok (.istore 4, 2) := by decide +kernel
theorem dX1_twinsOf_10 : decode cX1_twinsOf 10 = .ok (.iload 4, 2) := by decide +kernel
theorem dX1_twinsOf_12 : decode cX1_twinsOf 12 = .ok (.aload_n 0, 1) := by decide +kernel
theorem dX1_twinsOf_13 : decode cX1_twinsOf 13 = .ok (.getfield 30, 3) := by decide +kernel
theorem dX1_twinsOf_16 : decode cX1_twinsOf 16 = .ok (.if_icmp .ge 35, 3) := by decide +kernel
theorem dX1_twinsOf_19 : decode cX1_twinsOf 19 = .ok (.aload_n 0, 1) := by decide +kernel
theorem dX1_twinsOf_20 : decode cX1_twinsOf 20 = .ok (.getfield 15, 3) := by decide +kernel
theorem dX1_twinsOf_23 : decode cX1_twinsOf 23 = .ok (.iload 4, 2) := by decide +kernel
theorem dX1_twinsOf_25 : decode cX1_twinsOf 25 = .ok (.iaload, 1) := by decide +kernel
theorem dX1_twinsOf_26 : decode cX1_twinsOf 26 = .ok (.aload_n 0, 1) := by decide +kernel
theorem dX1_twinsOf_27 : decode cX1_twinsOf 27 = .ok (.getfield 15, 3) := by decide +kernel
theorem dX1_twinsOf_30 : decode cX1_twinsOf 30 = .ok (.iload_n 1, 1) := by decide +kernel
theorem dX1_twinsOf_31 : decode cX1_twinsOf 31 = .ok (.iaload, 1) := by decide +kernel
theorem dX1_twinsOf_32 : decode cX1_twinsOf 32 = .ok (.ixor, 1) := by decide +kernel
theorem dX1_twinsOf_33 : decode cX1_twinsOf 33 = .ok (.iload_n 2, 1) := by decide +kernel
theorem dX1_twinsOf_34 : decode cX1_twinsOf 34 = .ok (.iand, 1) := by decide +kernel
theorem dX1_twinsOf_35 : decode cX1_twinsOf 35 = .ok (.ifCond .ne 10, 3) := by decide +kernel
theorem dX1_twinsOf_38 : decode cX1_twinsOf 38 = .ok (.iload_n 3, 1) := by decide +kernel
theorem dX1_twinsOf_39 : decode cX1_twinsOf 39 = .ok (.iconst 1, 1) := by decide +kernel
theorem dX1_twinsOf_40 : decode cX1_twinsOf 40 = .ok (.iload 4, 2) := by decide +kernel
theorem dX1_twinsOf_42 : decode cX1_twinsOf 42 = .ok (.ishl, 1) := by decide +kernel
theorem dX1_twinsOf_43 : decode cX1_twinsOf 43 = .ok (.ior, 1) := by decide +kernel
theorem dX1_twinsOf_44 : decode cX1_twinsOf 44 = .ok (.istore_n 3, 1) := by decide +kernel
theorem dX1_twinsOf_45 : decode cX1_twinsOf 45 = .ok (.iinc 4 1, 3) := by decide +kernel
theorem dX1_twinsOf_48 : decode cX1_twinsOf 48 = .ok (.goto (-38), 3) := by decide +kernel
theorem dX1_twinsOf_51 : decode cX1_twinsOf 51 = .ok (.iload_n 3, 1) := by decide +kernel
theorem dX1_twinsOf_52 : decode cX1_twinsOf 52 = .ok (.ireturn, 1) := by decide +kernel
theorem dX1_sizes_0 : decode cX1_sizes 0 = .ok (.iconst 0, 1) := by decide +kernel
theorem dX1_sizes_1 : decode cX1_sizes 1 = .ok (.istore_n 2, 1) := by decide +kernel
theorem dX1_sizes_2 : decode cX1_sizes 2 = .ok (.iconst 0, 1) := by decide +kernel
theorem dX1_sizes_3 : decode cX1_sizes 3 = .ok (.istore_n 3, 1) := by decide +kernel
theorem dX1_sizes_4 : decode cX1_sizes 4 = .ok (.iload_n 3, 1) := by decide +kernel
theorem dX1_sizes_5 : decode cX1_sizes 5 = .ok (.aload_n 0, 1) := by decide +kernel
theorem dX1_sizes_6 : decode cX1_sizes 6 = .ok (.getfield 30, 3) := by decide +kernel
theorem dX1_sizes_9 : decode cX1_sizes 9 = .ok (.if_icmp .ge 26, 3) := by decide +kernel
theorem dX1_sizes_12 : decode cX1_sizes 12 = .ok (.iload_n 1, 1) := by decide +kernel
theorem dX1_sizes_13 : decode cX1_sizes 13 = .ok (.iload_n 3, 1) := by decide +kernel
theorem dX1_sizes_14 : decode cX1_sizes 14 = .ok (.invokestatic 38, 3) := by decide +kernel
theorem dX1_sizes_17 : decode cX1_sizes 17 = .ok (.ifCond .eq 12, 3) := by decide +kernel
theorem dX1_sizes_20 : decode cX1_sizes 20 = .ok (.iload_n 2, 1) := by decide +kernel
theorem dX1_sizes_21 : decode cX1_sizes 21 = .ok (.aload_n 0, 1) := by decide +kernel
theorem dX1_sizes_22 : decode cX1_sizes 22 = .ok (.getfield 18, 3) := by decide +kernel
theorem dX1_sizes_25 : decode cX1_sizes 25 = .ok (.iload_n 3, 1) := by decide +kernel
theorem dX1_sizes_26 : decode cX1_sizes 26 = .ok (.iaload, 1) := by decide +kernel
theorem dX1_sizes_27 : decode cX1_sizes 27 = .ok (.iadd, 1) := by decide +kernel
theorem dX1_sizes_28 : decode cX1_sizes 28 = .ok (.istore_n 2, 1) := by decide +kernel
theorem dX1_sizes_29 : decode cX1_sizes 29 = .ok (.iinc 3 1, 3) := by decide +kernel
theorem dX1_sizes_32 : decode cX1_sizes 32 = .ok (.goto (-28), 3) := by decide +kernel
theorem dX1_sizes_35 : decode cX1_sizes 35 = .ok (.iload_n 2, 1) := by decide +kernel
theorem dX1_sizes_36 : decode cX1_sizes 36 = .ok (.ireturn, 1) := by decide +kernel
theorem dX2_init_0 : decode cX2_init 0 = .ok (.aload_n 0, 1) := by decide +kernel
theorem dX2_init_1 : decode cX2_init 1 = .ok (.invokespecial 3, 3) := by decide +kernel
theorem dX2_init_4 : decode cX2_init 4 = .ok (.aload_n 0, 1) := by decide +kernel
theorem dX2_init_5 : decode cX2_init 5 = .ok (.bipush 12, 2) := by decide +kernel
theorem dX2_init_7 : decode cX2_init 7 = .ok (.newarray .int, 2) := by decide +kernel
theorem dX2_init_9 : decode cX2_init 9 = .ok (.putfield 9, 3) := by decide +kernel
theorem dX2_init_12 : decode cX2_init 12 = .ok (.aload_n 0, 1) := by decide +kernel
theorem dX2_init_13 : decode cX2_init 13 = .ok (.bipush 12, 2) := by decide +kernel
theorem dX2_init_15 : decode cX2_init 15 = .ok (.newarray .boolean, 2) := by decide +kernel
theorem dX2_init_17 : decode cX2_init 17 = .ok (.putfield 15, 3) := by decide +kernel
theorem dX2_init_20 : decode cX2_init 20 = .ok (.return_, 1) := by decide +kernel
theorem dX2_add_0 : decode cX2_add 0 = .ok (.aload_n 0, 1) := by decide +kernel
theorem dX2_add_1 : decode cX2_add 1 = .ok (.getfield 19, 3) := by decide +kernel
theorem dX2_add_4 : decode cX2_add 4 = .ok (.istore_n 3, 1) := by decide +kernel
theorem dX2_add_5 : decode cX2_add 5 = .ok (.iload_n 3, 1) := by decide +kernel
theorem dX2_add_6 : decode cX2_add 6 = .ok (.bipush 12, 2) := by decide +kernel
theorem dX2_add_8 : decode cX2_add 8 = .ok (.if_icmp .lt 6, 3) := by decide +kernel
theorem dX2_add_11 : decode cX2_add 11 = .ok (.bipush (-4), 2) := by decide +kernel
theorem dX2_add_13 : decode cX2_add 13 = .ok (.ireturn, 1) := by decide +kernel
theorem dX2_add_14 : decode cX2_add 14 = .ok (.aload_n 0, 1) := by decide +kernel
theorem dX2_add_15 : decode cX2_add 15 = .ok (.getfield 9, 3) := by decide +kernel
theorem dX2_add_18 : decode cX2_add 18 = .ok (.iload_n 3, 1) := by decide +kernel
theorem dX2_add_19 : decode cX2_add 19 = .ok (.iload_n 1, 1) := by decide +kernel
theorem dX2_add_20 : decode cX2_add 20 = .ok (.iastore, 1) := by decide +kernel
theorem dX2_add_21 : decode cX2_add 21 = .ok (.aload_n 0, 1) := by decide +kernel
theorem dX2_add_22 : decode cX2_add 22 = .ok (.getfield 15, 3) := by decide +kernel
theorem dX2_add_25 : decode cX2_add 25 = .ok (.iload_n 3, 1) := by decide +kernel
theorem dX2_add_26 : decode cX2_add 26 = .ok (.iload_n 2, 1) := by decide +kernel
theorem dX2_add_27 : decode cX2_add 27 = .ok (.bastore, 1) := by decide +kernel
theorem dX2_add_28 : decode cX2_add 28 = .ok (.aload_n 0, 1) := by decide +kernel
theorem dX2_add_29 : decode cX2_add 29 = .ok (.iload_n 3, 1) := by decide +kernel
theorem dX2_add_30 : decode cX2_add 30 = .ok (.iconst 1, 1) := by decide +kernel
theorem dX2_add_31 : decode cX2_add 31 = .ok (.iadd, 1) := by decide +kernel
theorem dX2_add_32 : decode cX2_add 32 = .ok (.putfield 19, 3) := by decide +kernel
theorem dX2_add_35 : decode cX2_add 35 = .ok (.iload_n 3, 1) := by decide +kernel
theorem dX2_add_36 : decode cX2_add 36 = .ok (.ireturn, 1) := by decide +kernel
theorem dX2_holdsTestOf_0 : decode cX2_holdsTestOf 0 = .ok (.iconst 0, 1) := by decide +kernel
theorem dX2_holdsTestOf_1 : decode cX2_holdsTestOf 1 = .ok (.istore_n 2, 1) := by decide +kernel
theorem dX2_holdsTestOf_2 : decode cX2_holdsTestOf 2 = .ok (.iload_n 2, 1) := by decide +kernel
theorem dX2_holdsTestOf_3 : decode cX2_holdsTestOf 3 = .ok (.aload_n 0, 1) := by decide +kernel
theorem dX2_holdsTestOf_4 : decode cX2_holdsTestOf 4 = .ok (.getfield 19, 3) := by decide +kernel
theorem dX2_holdsTestOf_7 : decode cX2_holdsTestOf 7 = .ok (.if_icmp .ge 21, 3) := by decide +kernel
theorem dX2_holdsTestOf_10 : decode cX2_holdsTestOf 10 = .ok (.aload_n 0, 1) := by decide +kernel
theorem dX2_holdsTestOf_11 : decode cX2_holdsTestOf 11 = .ok (.getfield 9, 3) := by decide +kernel
theorem dX2_holdsTestOf_14 : decode cX2_holdsTestOf 14 = .ok (.iload_n 2, 1) := by decide +kernel
theorem dX2_holdsTestOf_15 : decode cX2_holdsTestOf 15 = .ok (.iaload, 1) := by decide +kernel
theorem dX2_holdsTestOf_16 : decode cX2_holdsTestOf 16 = .ok (.iload_n 1, 1) := by decide +kernel
theorem dX2_holdsTestOf_17 : decode cX2_holdsTestOf 17 = .ok (.if_icmp .ne 5, 3) := by decide +kernel
theorem dX2_holdsTestOf_20 : decode cX2_holdsTestOf 20 = .ok (.iconst 1, 1) := by decide +kernel
theorem dX2_holdsTestOf_21 : decode cX2_holdsTestOf 21 = .ok (.ireturn, 1) := by decide +kernel
theorem dX2_holdsTestOf_22 : decode cX2_holdsTestOf 22 = .ok (.iinc 2 1, 3) := by decide +kernel
theorem dX2_holdsTestOf_25 : decode cX2_holdsTestOf 25 = .ok (.goto (-23), 3) := by decide +kernel
theorem dX2_holdsTestOf_28 : decode cX2_holdsTestOf 28 = .ok (.iconst 0, 1) := by decide +kernel
theorem dX2_holdsTestOf_29 : decode cX2_holdsTestOf 29 = .ok (.ireturn, 1) := by decide +kernel
theorem dX3_init_0 : decode cX3_init 0 = .ok (.aload_n 0, 1) := by decide +kernel
theorem dX3_init_1 : decode cX3_init 1 = .ok (.invokespecial 3, 3) := by decide +kernel
theorem dX3_init_4 : decode cX3_init 4 = .ok (.aload_n 0, 1) := by decide +kernel
theorem dX3_init_5 : decode cX3_init 5 = .ok (.sipush 4096, 3) := by decide +kernel
theorem dX3_init_8 : decode cX3_init 8 = .ok (.newarray .int, 2) := by decide +kernel
theorem dX3_init_10 : decode cX3_init 10 = .ok (.putfield 9, 3) := by decide +kernel
theorem dX3_init_13 : decode cX3_init 13 = .ok (.aload_n 0, 1) := by decide +kernel
theorem dX3_init_14 : decode cX3_init 14 = .ok (.aload_n 1, 1) := by decide +kernel
theorem dX3_init_15 : decode cX3_init 15 = .ok (.putfield 15, 3) := by decide +kernel
theorem dX3_init_18 : decode cX3_init 18 = .ok (.aload_n 0, 1) := by decide +kernel
theorem dX3_init_19 : decode cX3_init 19 = .ok (.iload_n 2, 1) := by decide +kernel
theorem dX3_init_20 : decode cX3_init 20 = .ok (.putfield 19, 3) := by decide +kernel
theorem dX3_init_23 : decode cX3_init 23 = .ok (.return_, 1) := by decide +kernel
theorem dX3_price_0 : decode cX3_price 0 = .ok (.aload_n 0, 1) := by decide +kernel
theorem dX3_price_1 : decode cX3_price 1 = .ok (.invokevirtual 23, 3) := by decide +kernel
theorem dX3_price_4 : decode cX3_price 4 = .ok (.aload_n 0, 1) := by decide +kernel
theorem dX3_price_5 : decode cX3_price 5 = .ok (.iload_n 1, 1) := by decide +kernel
theorem dX3_price_6 : decode cX3_price 6 = .ok (.iconst 0, 1) := by decide +kernel
theorem dX3_price_7 : decode cX3_price 7 = .ok (.invokevirtual 26, 3) := by decide +kernel
theorem dX3_price_10 : decode cX3_price 10 = .ok (.ireturn, 1) := by decide +kernel
theorem dX3_start_0 : decode cX3_start 0 = .ok (.aload_n 0, 1) := by decide +kernel
theorem dX3_start_1 : decode cX3_start 1 = .ok (.invokevirtual 23, 3) := by decide +kernel
theorem dX3_start_4 : decode cX3_start 4 = .ok (.aload_n 0, 1) := by decide +kernel
theorem dX3_start_5 : decode cX3_start 5 = .ok (.iload_n 1, 1) := by decide +kernel
theorem dX3_start_6 : decode cX3_start 6 = .ok (.iconst 0, 1) := by decide +kernel
theorem dX3_start_7 : decode cX3_start 7 = .ok (.invokevirtual 26, 3) := by decide +kernel
theorem dX3_start_10 : decode cX3_start 10 = .ok (.istore_n 2, 1) := by decide +kernel
theorem dX3_start_11 : decode cX3_start 11 = .ok (.iconst 0, 1) := by decide +kernel
theorem dX3_start_12 : decode cX3_start 12 = .ok (.istore_n 3, 1) := by decide +kernel
theorem dX3_start_13 : decode cX3_start 13 = .ok (.iload_n 3, 1) := by decide +kernel
theorem dX3_start_14 : decode cX3_start 14 = .ok (.aload_n 0, 1) := by decide +kernel
theorem dX3_start_15 : decode cX3_start 15 = .ok (.getfield 15, 3) := by decide +kernel
theorem dX3_start_18 : decode cX3_start 18 = .ok (.getfield 30, 3) := by decide +kernel
theorem dX3_start_21 : decode cX3_start 21 = .ok (.if_icmp .ge 31, 3) := by decide +kernel
theorem dX3_start_24 : decode cX3_start 24 = .ok (.aload_n 0, 1) := by decide +kernel
theorem dX3_start_25 : decode cX3_start 25 = .ok (.iload_n 3, 1) := by decide +kernel
theorem dX3_start_26 : decode cX3_start 26 = .ok (.iload_n 1, 1) := by decide +kernel
theorem dX3_start_27 : decode cX3_start 27 = .ok (.invokevirtual 36, 3) := by decide +kernel
theorem dX3_start_30 : decode cX3_start 30 = .ok (.ifCond .eq 16, 3) := by decide +kernel
theorem dX3_start_33 : decode cX3_start 33 = .ok (.aload_n 0, 1) := by decide +kernel
theorem dX3_start_34 : decode cX3_start 34 = .ok (.iload_n 3, 1) := by decide +kernel
theorem dX3_start_35 : decode cX3_start 35 = .ok (.iload_n 1, 1) := by decide +kernel
theorem dX3_start_36 : decode cX3_start 36 = .ok (.iconst 0, 1) := by decide +kernel
theorem dX3_start_37 : decode cX3_start 37 = .ok (.invokevirtual 40, 3) := by decide +kernel
theorem dX3_start_40 : decode cX3_start 40 = .ok (.iload_n 2, 1) := by decide +kernel
theorem dX3_start_41 : decode cX3_start 41 = .ok (.if_icmp .ne 5, 3) := by decide +kernel
theorem dX3_start_44 : decode cX3_start 44 = .ok (.iload_n 3, 1) := by decide +kernel
theorem dX3_start_45 : decode cX3_start 45 = .ok (.ireturn, 1) := by decide +kernel
theorem dX3_start_46 : decode cX3_start 46 = .ok (.iinc 3 1, 3) := by decide +kernel
theorem dX3_start_49 : decode cX3_start 49 = .ok (.goto (-36), 3) := by decide +kernel
theorem dX3_start_52 : decode cX3_start 52 = .ok (.bipush (-6), 2) := by decide +kernel
theorem dX3_start_54 : decode cX3_start 54 = .ok (.ireturn, 1) := by decide +kernel
theorem dX3_refresh_0 : decode cX3_refresh 0 = .ok (.aload_n 0, 1) := by decide +kernel
theorem dX3_refresh_1 : decode cX3_refresh 1 = .ok (.getfield 44, 3) := by decide +kernel
theorem dX3_refresh_4 : decode cX3_refresh 4 = .ok (.ifCond .eq 16, 3) := by decide +kernel
theorem dX3_refresh_7 : decode cX3_refresh 7 = .ok (.aload_n 0, 1) := by decide +kernel
theorem dX3_refresh_8 : decode cX3_refresh 8 = .ok (.getfield 9, 3) := by decide +kernel
theorem dX3_refresh_11 : decode cX3_refresh 11 = .ok (.iconst 0, 1) := by decide +kernel
theorem dX3_refresh_12 : decode cX3_refresh 12 = .ok (.invokestatic 47, 3) := by decide +kernel
theorem dX3_refresh_15 : decode cX3_refresh 15 = .ok (.aload_n 0, 1) := by decide +kernel
theorem dX3_refresh_16 : decode cX3_refresh 16 = .ok (.iconst 0, 1) := by decide +kernel
theorem dX3_refresh_17 : decode cX3_refresh 17 = .ok (.putfield 44, 3) := by decide +kernel
theorem dX3_refresh_20 : decode cX3_refresh 20 = .ok (.return_, 1) := by decide +kernel
theorem dX3_parts_0 : decode cX3_parts 0 = .ok (.iload_n 2, 1) := by decide +kernel
theorem dX3_parts_1 : decode cX3_parts 1 = .ok (.aload_n 0, 1) := by decide +kernel
theorem dX3_parts_2 : decode cX3_parts 2 = .ok (.getfield 15, 3) := by decide +kernel
theorem dX3_parts_5 : decode cX3_parts 5 = .ok (.getfield 53, 3) := by decide +kernel
theorem dX3_parts_8 : decode cX3_parts 8 = .ok (.iload_n 1, 1) := by decide +kernel
theorem dX3_parts_9 : decode cX3_parts 9 = .ok (.iaload, 1) := by decide +kernel
theorem dX3_parts_10 : decode cX3_parts 10 = .ok (.iand, 1) := by decide +kernel
theorem dX3_parts_11 : decode cX3_parts 11 = .ok (.istore_n 3, 1) := by decide +kernel
theorem dX3_parts_12 : decode cX3_parts 12 = .ok (.aload_n 0, 1) := by decide +kernel
theorem dX3_parts_13 : decode cX3_parts 13 = .ok (.getfield 15, 3) := by decide +kernel
theorem dX3_parts_16 : decode cX3_parts 16 = .ok (.iload_n 1, 1) := by decide +kernel
theorem dX3_parts_17 : decode cX3_parts 17 = .ok (.invokevirtual 56, 3) := by decide +kernel
theorem dX3_parts_20 : decode cX3_parts 20 = .ok (.ifCond .eq 16, 3) := by decide +kernel
theorem dX3_parts_23 : decode cX3_parts 23 = .ok (.iload_n 3, 1) := by decide +kernel
theorem dX3_parts_24 : decode cX3_parts 24 = .ok (.ifCond .eq 12, 3) := by decide +kernel
theorem dX3_parts_27 : decode cX3_parts 27 = .ok (.iload_n 3, 1) := by decide +kernel
theorem dX3_parts_28 : decode cX3_parts 28 = .ok (.iload_n 2, 1) := by decide +kernel
theorem dX3_parts_29 : decode cX3_parts 29 = .ok (.if_icmp .eq 7, 3) := by decide +kernel
theorem dX3_parts_32 : decode cX3_parts 32 = .ok (.iconst 1, 1) := by decide +kernel
theorem dX3_parts_33 : decode cX3_parts 33 = .ok (.goto 4, 3) := by decide +kernel
theorem dX3_parts_36 : decode cX3_parts 36 = .ok (.iconst 0, 1) := by decide +kernel
theorem dX3_parts_37 : decode cX3_parts 37 = .ok (.ireturn, 1) := by decide +kernel
theorem dX3_priceAt_0 : decode cX3_priceAt 0 = .ok (.iload_n 2, 1) := by decide +kernel
theorem dX3_priceAt_1 : decode cX3_priceAt 1 = .ok (.bipush 12, 2) := by decide +kernel
theorem dX3_priceAt_3 : decode cX3_priceAt 3 = .ok (.if_icmp .gt 14, 3) := by decide +kernel
theorem dX3_priceAt_6 : decode cX3_priceAt 6 = .ok (.iload_n 1, 1) := by decide +kernel
theorem dX3_priceAt_7 : decode cX3_priceAt 7 = .ok (.iconst 0, 1) := by decide +kernel
theorem dX3_priceAt_8 : decode cX3_priceAt 8 = .ok (.sipush 4095, 3) := by decide +kernel
theorem dX3_priceAt_11 : decode cX3_priceAt 11 = .ok (.invokestatic 60, 3) := by decide +kernel
theorem dX3_priceAt_14 : decode cX3_priceAt 14 = .ok (.ifCond .ne 5, 3) := by decide +kernel
theorem dX3_priceAt_17 : decode cX3_priceAt 17 = .ok (.iconst 0, 1) := by decide +kernel
theorem dX3_priceAt_18 : decode cX3_priceAt 18 = .ok (.ireturn, 1) := by decide +kernel
theorem dX3_priceAt_19 : decode cX3_priceAt 19 = .ok (.aload_n 0, 1) := by decide +kernel
theorem dX3_priceAt_20 : decode cX3_priceAt 20 = .ok (.getfield 9, 3) := by decide +kernel
theorem dX3_priceAt_23 : decode cX3_priceAt 23 = .ok (.iload_n 1, 1) := by decide +kernel
theorem dX3_priceAt_24 : decode cX3_priceAt 24 = .ok (.iaload, 1) := by decide +kernel
theorem dX3_priceAt_25 : decode cX3_priceAt 25 = .ok (.ifCond .le 12, 3) := by decide +kernel
theorem dX3_priceAt_28 : decode cX3_priceAt 28 = .ok (.aload_n 0, 1) := by decide +kernel
theorem dX3_priceAt_29 : decode cX3_priceAt 29 = .ok (.getfield 9, 3) := by decide +kernel
theorem dX3_priceAt_32 : decode cX3_priceAt 32 = .ok (.iload_n 1, 1) := by decide +kernel
theorem dX3_priceAt_33 : decode cX3_priceAt 33 = .ok (.iaload, 1) := by decide +kernel
theorem dX3_priceAt_34 : decode cX3_priceAt 34 = .ok (.iconst 1, 1) := by decide +kernel
theorem dX3_priceAt_35 : decode cX3_priceAt 35 = .ok (.isub, 1) := by decide +kernel
theorem dX3_priceAt_36 : decode cX3_priceAt 36 = .ok (.ireturn, 1) := by decide +kernel
theorem dX3_priceAt_37 : decode cX3_priceAt 37 = .ok (.iconst (-1), 1) := by decide +kernel
theorem dX3_priceAt_38 : decode cX3_priceAt 38 = .ok (.istore_n 3, 1) := by decide +kernel
theorem dX3_priceAt_39 : decode cX3_priceAt 39 = .ok (.iconst 0, 1) := by decide +kernel
theorem dX3_priceAt_40 : decode cX3_priceAt 40 = .ok (.istore 4, 2) := by decide +kernel
theorem dX3_priceAt_42 : decode cX3_priceAt 42 = .ok (.iload 4, 2) := by decide +kernel
theorem dX3_priceAt_44 : decode cX3_priceAt 44 = .ok (.aload_n 0, 1) := by decide +kernel
theorem dX3_priceAt_45 : decode cX3_priceAt 45 = .ok (.getfield 15, 3) := by decide +kernel
theorem dX3_priceAt_48 : decode cX3_priceAt 48 = .ok (.getfield 30, 3) := by decide +kernel
theorem dX3_priceAt_51 : decode cX3_priceAt 51 = .ok (.if_icmp .ge 45, 3) := by decide +kernel
theorem dX3_priceAt_54 : decode cX3_priceAt 54 = .ok (.aload_n 0, 1) := by decide +kernel
theorem dX3_priceAt_55 : decode cX3_priceAt 55 = .ok (.iload 4, 2) := by decide +kernel
theorem dX3_priceAt_57 : decode cX3_priceAt 57 = .ok (.iload_n 1, 1) := by decide +kernel
theorem dX3_priceAt_58 : decode cX3_priceAt 58 = .ok (.invokevirtual 36, 3) := by decide +kernel
theorem dX3_priceAt_61 : decode cX3_priceAt 61 = .ok (.ifCond .eq 29, 3) := by decide +kernel
theorem dX3_priceAt_64 : decode cX3_priceAt 64 = .ok (.aload_n 0, 1) := by decide +kernel
theorem dX3_priceAt_65 : decode cX3_priceAt 65 = .ok (.iload 4, 2) := by decide +kernel
theorem dX3_priceAt_67 : decode cX3_priceAt 67 = .ok (.iload_n 1, 1) := by decide +kernel
theorem dX3_priceAt_68 : decode cX3_priceAt 68 = .ok (.iload_n 2, 1) := by decide +kernel
theorem dX3_priceAt_69 : decode cX3_priceAt 69 = .ok (.invokevirtual 40, 3) := by decide +kernel
theorem dX3_priceAt_72 : decode cX3_priceAt 72 = .ok (.istore 5, 2) := by decide +kernel
theorem dX3_priceAt_74 : decode cX3_priceAt 74 = .ok (.iload_n 3, 1) := by decide +kernel
theorem dX3_priceAt_75 : decode cX3_priceAt 75 = .ok (.ifCond .ge 8, 3) := by decide +kernel
theorem dX3_priceAt_78 : decode cX3_priceAt 78 = .ok (.iload 5, 2) := by decide +kernel
theorem dX3_priceAt_80 : decode cX3_priceAt 80 = .ok (.goto 9, 3) := by decide +kernel
theorem dX3_priceAt_83 : decode cX3_priceAt 83 = .ok (.iload_n 3, 1) := by decide +kernel
theorem dX3_priceAt_84 : decode cX3_priceAt 84 = .ok (.iload 5, 2) := by decide +kernel
theorem dX3_priceAt_86 : decode cX3_priceAt 86 = .ok (.invokestatic 64, 3) := by decide +kernel
theorem dX3_priceAt_89 : decode cX3_priceAt 89 = .ok (.istore_n 3, 1) := by decide +kernel
theorem dX3_priceAt_90 : decode cX3_priceAt 90 = .ok (.iinc 4 1, 3) := by decide +kernel
theorem dX3_priceAt_93 : decode cX3_priceAt 93 = .ok (.goto (-51), 3) := by decide +kernel
theorem dX3_priceAt_96 : decode cX3_priceAt 96 = .ok (.iconst 0, 1) := by decide +kernel
theorem dX3_priceAt_97 : decode cX3_priceAt 97 = .ok (.iload_n 3, 1) := by decide +kernel
theorem dX3_priceAt_98 : decode cX3_priceAt 98 = .ok (.invokestatic 69, 3) := by decide +kernel
theorem dX3_priceAt_101 : decode cX3_priceAt 101 = .ok (.istore_n 3, 1) := by decide +kernel
theorem dX3_priceAt_102 : decode cX3_priceAt 102 = .ok (.aload_n 0, 1) := by decide +kernel
theorem dX3_priceAt_103 : decode cX3_priceAt 103 = .ok (.getfield 9, 3) := by decide +kernel
theorem dX3_priceAt_106 : decode cX3_priceAt 106 = .ok (.iload_n 1, 1) := by decide +kernel
theorem dX3_priceAt_107 : decode cX3_priceAt 107 = .ok (.iload_n 3, 1) := by decide +kernel
theorem dX3_priceAt_108 : decode cX3_priceAt 108 = .ok (.iconst 1, 1) := by decide +kernel
theorem dX3_priceAt_109 : decode cX3_priceAt 109 = .ok (.iadd, 1) := by decide +kernel
theorem dX3_priceAt_110 : decode cX3_priceAt 110 = .ok (.iastore, 1) := by decide +kernel
theorem dX3_priceAt_111 : decode cX3_priceAt 111 = .ok (.iload_n 3, 1) := by decide +kernel
theorem dX3_priceAt_112 : decode cX3_priceAt 112 = .ok (.ireturn, 1) := by decide +kernel
theorem dX3_priceBy_0 : decode cX3_priceBy 0 = .ok (.aload_n 0, 1) := by decide +kernel
theorem dX3_priceBy_1 : decode cX3_priceBy 1 = .ok (.iload_n 2, 1) := by decide +kernel
theorem dX3_priceBy_2 : decode cX3_priceBy 2 = .ok (.aload_n 0, 1) := by decide +kernel
theorem dX3_priceBy_3 : decode cX3_priceBy 3 = .ok (.getfield 15, 3) := by decide +kernel
theorem dX3_priceBy_6 : decode cX3_priceBy 6 = .ok (.getfield 53, 3) := by decide +kernel
theorem dX3_priceBy_9 : decode cX3_priceBy 9 = .ok (.iload_n 1, 1) := by decide +kernel
theorem dX3_priceBy_10 : decode cX3_priceBy 10 = .ok (.iaload, 1) := by decide +kernel
theorem dX3_priceBy_11 : decode cX3_priceBy 11 = .ok (.iand, 1) := by decide +kernel
theorem dX3_priceBy_12 : decode cX3_priceBy 12 = .ok (.iload_n 3, 1) := by decide +kernel
theorem dX3_priceBy_13 : decode cX3_priceBy 13 = .ok (.iconst 1, 1) := by decide +kernel
theorem dX3_priceBy_14 : decode cX3_priceBy 14 = .ok (.iadd, 1) := by decide +kernel
theorem dX3_priceBy_15 : decode cX3_priceBy 15 = .ok (.invokevirtual 26, 3) := by decide +kernel
theorem dX3_priceBy_18 : decode cX3_priceBy 18 = .ok (.istore 4, 2) := by decide +kernel
theorem dX3_priceBy_20 : decode cX3_priceBy 20 = .ok (.aload_n 0, 1) := by decide +kernel
theorem dX3_priceBy_21 : decode cX3_priceBy 21 = .ok (.iload_n 2, 1) := by decide +kernel
theorem dX3_priceBy_22 : decode cX3_priceBy 22 = .ok (.aload_n 0, 1) := by decide +kernel
theorem dX3_priceBy_23 : decode cX3_priceBy 23 = .ok (.getfield 15, 3) := by decide +kernel
theorem dX3_priceBy_26 : decode cX3_priceBy 26 = .ok (.getfield 53, 3) := by decide +kernel
theorem dX3_priceBy_29 : decode cX3_priceBy 29 = .ok (.iload_n 1, 1) := by decide +kernel
theorem dX3_priceBy_30 : decode cX3_priceBy 30 = .ok (.iaload, 1) := by decide +kernel
theorem dX3_priceBy_31 : decode cX3_priceBy 31 = .ok (.iconst (-1), 1) := by decide +kernel
theorem dX3_priceBy_32 : decode cX3_priceBy 32 = .ok (.ixor, 1) := by decide +kernel
theorem dX3_priceBy_33 : decode cX3_priceBy 33 = .ok (.iand, 1) := by decide +kernel
theorem dX3_priceBy_34 : decode cX3_priceBy 34 = .ok (.iload_n 3, 1) := by decide +kernel
theorem dX3_priceBy_35 : decode cX3_priceBy 35 = .ok (.iconst 1, 1) := by decide +kernel
theorem dX3_priceBy_36 : decode cX3_priceBy 36 = .ok (.iadd, 1) := by decide +kernel
theorem dX3_priceBy_37 : decode cX3_priceBy 37 = .ok (.invokevirtual 26, 3) := by decide +kernel
theorem dX3_priceBy_40 : decode cX3_priceBy 40 = .ok (.istore 5, 2) := by decide +kernel
theorem dX3_priceBy_42 : decode cX3_priceBy 42 = .ok (.aload_n 0, 1) := by decide +kernel
theorem dX3_priceBy_43 : decode cX3_priceBy 43 = .ok (.getfield 19, 3) := by decide +kernel
theorem dX3_priceBy_46 : decode cX3_priceBy 46 = .ok (.ifCond .eq 28, 3) := by decide +kernel
theorem dX3_priceBy_49 : decode cX3_priceBy 49 = .ok (.aload_n 0, 1) := by decide +kernel
theorem dX3_priceBy_50 : decode cX3_priceBy 50 = .ok (.getfield 15, 3) := by decide +kernel
theorem dX3_priceBy_53 : decode cX3_priceBy 53 = .ok (.getfield 72, 3) := by decide +kernel
theorem dX3_priceBy_56 : decode cX3_priceBy 56 = .ok (.iload_n 1, 1) := by decide +kernel
theorem dX3_priceBy_57 : decode cX3_priceBy 57 = .ok (.iaload, 1) := by decide +kernel
theorem dX3_priceBy_58 : decode cX3_priceBy 58 = .ok (.aload_n 0, 1) := by decide +kernel
theorem dX3_priceBy_59 : decode cX3_priceBy 59 = .ok (.getfield 15, 3) := by decide +kernel
theorem dX3_priceBy_62 : decode cX3_priceBy 62 = .ok (.iload_n 2, 1) := by decide +kernel
theorem dX3_priceBy_63 : decode cX3_priceBy 63 = .ok (.invokevirtual 75, 3) := by decide +kernel
theorem dX3_priceBy_66 : decode cX3_priceBy 66 = .ok (.imul, 1) := by decide +kernel
theorem dX3_priceBy_67 : decode cX3_priceBy 67 = .ok (.iload 4, 2) := by decide +kernel
theorem dX3_priceBy_69 : decode cX3_priceBy 69 = .ok (.iadd, 1) := by decide +kernel
theorem dX3_priceBy_70 : decode cX3_priceBy 70 = .ok (.iload 5, 2) := by decide +kernel
theorem dX3_priceBy_72 : decode cX3_priceBy 72 = .ok (.iadd, 1) := by decide +kernel
theorem dX3_priceBy_73 : decode cX3_priceBy 73 = .ok (.ireturn, 1) := by decide +kernel
theorem dX3_priceBy_74 : decode cX3_priceBy 74 = .ok (.iconst 1, 1) := by decide +kernel
theorem dX3_priceBy_75 : decode cX3_priceBy 75 = .ok (.iload 4, 2) := by decide +kernel
theorem dX3_priceBy_77 : decode cX3_priceBy 77 = .ok (.iload 5, 2) := by decide +kernel
theorem dX3_priceBy_79 : decode cX3_priceBy 79 = .ok (.invokestatic 69, 3) := by decide +kernel
theorem dX3_priceBy_82 : decode cX3_priceBy 82 = .ok (.iadd, 1) := by decide +kernel
theorem dX3_priceBy_83 : decode cX3_priceBy 83 = .ok (.ireturn, 1) := by decide +kernel
theorem dX4_init_0 : decode cX4_init 0 = .ok (.aload_n 0, 1) := by decide +kernel
theorem dX4_init_1 : decode cX4_init 1 = .ok (.invokespecial 3, 3) := by decide +kernel
theorem dX4_init_4 : decode cX4_init 4 = .ok (.aload_n 0, 1) := by decide +kernel
theorem dX4_init_5 : decode cX4_init 5 = .ok (.iconst 5, 1) := by decide +kernel
theorem dX4_init_6 : decode cX4_init 6 = .ok (.newarray .int, 2) := by decide +kernel
theorem dX4_init_8 : decode cX4_init 8 = .ok (.putfield 9, 3) := by decide +kernel
theorem dX4_init_11 : decode cX4_init 11 = .ok (.aload_n 0, 1) := by decide +kernel
theorem dX4_init_12 : decode cX4_init 12 = .ok (.sipush 210, 3) := by decide +kernel
theorem dX4_init_15 : decode cX4_init 15 = .ok (.newarray .int, 2) := by decide +kernel
theorem dX4_init_17 : decode cX4_init 17 = .ok (.putfield 15, 3) := by decide +kernel
theorem dX4_init_20 : decode cX4_init 20 = .ok (.aload_n 0, 1) := by decide +kernel
theorem dX4_init_21 : decode cX4_init 21 = .ok (.sipush 210, 3) := by decide +kernel
theorem dX4_init_24 : decode cX4_init 24 = .ok (.newarray .long, 2) := by decide +kernel
theorem dX4_init_26 : decode cX4_init 26 = .ok (.putfield 18, 3) := by decide +kernel
theorem dX4_init_29 : decode cX4_init 29 = .ok (.aload_n 0, 1) := by decide +kernel
theorem dX4_init_30 : decode cX4_init 30 = .ok (.sipush 210, 3) := by decide +kernel
theorem dX4_init_33 : decode cX4_init 33 = .ok (.newarray .int, 2) := by decide +kernel
theorem dX4_init_35 : decode cX4_init 35 = .ok (.putfield 22, 3) := by decide +kernel
theorem dX4_init_38 : decode cX4_init 38 = .ok (.aload_n 0, 1) := by decide +kernel
theorem dX4_init_39 : decode cX4_init 39 = .ok (.aload_n 1, 1) := by decide +kernel
theorem dX4_init_40 : decode cX4_init 40 = .ok (.putfield 25, 3) := by decide +kernel
theorem dX4_init_43 : decode cX4_init 43 = .ok (.aload_n 0, 1) := by decide +kernel
theorem dX4_init_44 : decode cX4_init 44 = .ok (.aload_n 2, 1) := by decide +kernel
theorem dX4_init_45 : decode cX4_init 45 = .ok (.putfield 29, 3) := by decide +kernel
theorem dX4_init_48 : decode cX4_init 48 = .ok (.aload_n 0, 1) := by decide +kernel
theorem dX4_init_49 : decode cX4_init 49 = .ok (.getfield 9, 3) := by decide +kernel
theorem dX4_init_52 : decode cX4_init 52 = .ok (.iconst 2, 1) := by decide +kernel
theorem dX4_init_53 : decode cX4_init 53 = .ok (.iconst 1, 1) := by decide +kernel
theorem dX4_init_54 : decode cX4_init 54 = .ok (.iastore, 1) := by decide +kernel
theorem dX4_init_55 : decode cX4_init 55 = .ok (.return_, 1) := by decide +kernel
theorem dX4_failingOf_0 : decode cX4_failingOf 0 = .ok (.aload_n 0, 1) := by decide +kernel
theorem dX4_failingOf_1 : decode cX4_failingOf 1 = .ok (.getfield 25, 3) := by decide +kernel
theorem dX4_failingOf_4 : decode cX4_failingOf 4 = .ok (.getfield 33, 3) := by decide +kernel
theorem dX4_failingOf_7 : decode cX4_failingOf 7 = .ok (.iload_n 2, 1) := by decide +kernel
theorem dX4_failingOf_8 : decode cX4_failingOf 8 = .ok (.iaload, 1) := by decide +kernel
theorem dX4_failingOf_9 : decode cX4_failingOf 9 = .ok (.istore 4, 2) := by decide +kernel
theorem dX4_failingOf_11 : decode cX4_failingOf 11 = .ok (.iload_n 1, 1) := by decide +kernel
theorem dX4_failingOf_12 : decode cX4_failingOf 12 = .ok (.lookupswitch 56 #[(1, 28), (2, 41)], 28) := by decide +kernel
theorem dX4_failingOf_40 : decode cX4_failingOf 40 = .ok (.iload 4, 2) := by decide +kernel
theorem dX4_failingOf_42 : decode cX4_failingOf 42 = .ok (.aload_n 0, 1) := by decide +kernel
theorem dX4_failingOf_43 : decode cX4_failingOf 43 = .ok (.getfield 25, 3) := by decide +kernel
theorem dX4_failingOf_46 : decode cX4_failingOf 46 = .ok (.getfield 33, 3) := by decide +kernel
theorem dX4_failingOf_49 : decode cX4_failingOf 49 = .ok (.iload_n 3, 1) := by decide +kernel
theorem dX4_failingOf_50 : decode cX4_failingOf 50 = .ok (.iaload, 1) := by decide +kernel
theorem dX4_failingOf_51 : decode cX4_failingOf 51 = .ok (.iand, 1) := by decide +kernel
theorem dX4_failingOf_52 : decode cX4_failingOf 52 = .ok (.ireturn, 1) := by decide +kernel
theorem dX4_failingOf_53 : decode cX4_failingOf 53 = .ok (.iload 4, 2) := by decide +kernel
theorem dX4_failingOf_55 : decode cX4_failingOf 55 = .ok (.aload_n 0, 1) := by decide +kernel
theorem dX4_failingOf_56 : decode cX4_failingOf 56 = .ok (.getfield 25, 3) := by decide +kernel
theorem dX4_failingOf_59 : decode cX4_failingOf 59 = .ok (.getfield 33, 3) := by decide +kernel
theorem dX4_failingOf_62 : decode cX4_failingOf 62 = .ok (.iload_n 3, 1) := by decide +kernel
theorem dX4_failingOf_63 : decode cX4_failingOf 63 = .ok (.iaload, 1) := by decide +kernel
theorem dX4_failingOf_64 : decode cX4_failingOf 64 = .ok (.iconst (-1), 1) := by decide +kernel
theorem dX4_failingOf_65 : decode cX4_failingOf 65 = .ok (.ixor, 1) := by decide +kernel
theorem dX4_failingOf_66 : decode cX4_failingOf 66 = .ok (.iand, 1) := by decide +kernel
theorem dX4_failingOf_67 : decode cX4_failingOf 67 = .ok (.ireturn, 1) := by decide +kernel
theorem dX4_failingOf_68 : decode cX4_failingOf 68 = .ok (.iload 4, 2) := by decide +kernel
theorem dX4_failingOf_70 : decode cX4_failingOf 70 = .ok (.ireturn, 1) := by decide +kernel
theorem dX4_tenths_0 : decode cX4_tenths 0 = .ok (.iload_n 1, 1) := by decide +kernel
theorem dX4_tenths_1 : decode cX4_tenths 1 = .ok (.ifCond .eq 26, 3) := by decide +kernel
theorem dX4_tenths_4 : decode cX4_tenths 4 = .ok (.iload_n 2, 1) := by decide +kernel
theorem dX4_tenths_5 : decode cX4_tenths 5 = .ok (.ifCond .eq 12, 3) := by decide +kernel
theorem dX4_tenths_8 : decode cX4_tenths 8 = .ok (.aload_n 0, 1) := by decide +kernel
theorem dX4_tenths_9 : decode cX4_tenths 9 = .ok (.getfield 9, 3) := by decide +kernel
theorem dX4_tenths_12 : decode cX4_tenths 12 = .ok (.iconst 0, 1) := by decide +kernel
theorem dX4_tenths_13 : decode cX4_tenths 13 = .ok (.iaload, 1) := by decide +kernel
theorem dX4_tenths_14 : decode cX4_tenths 14 = .ok (.goto 12, 3) := by decide +kernel
theorem dX4_tenths_17 : decode cX4_tenths 17 = .ok (.bipush 10, 2) := by decide +kernel
theorem dX4_tenths_19 : decode cX4_tenths 19 = .ok (.aload_n 0, 1) := by decide +kernel
theorem dX4_tenths_20 : decode cX4_tenths 20 = .ok (.getfield 9, 3) := by decide +kernel
theorem dX4_tenths_23 : decode cX4_tenths 23 = .ok (.iconst 0, 1) := by decide +kernel
theorem dX4_tenths_24 : decode cX4_tenths 24 = .ok (.iaload, 1) := by decide +kernel
theorem dX4_tenths_25 : decode cX4_tenths 25 = .ok (.isub, 1) := by decide +kernel
theorem dX4_tenths_26 : decode cX4_tenths 26 = .ok (.ireturn, 1) := by decide +kernel
theorem dX4_tenths_27 : decode cX4_tenths 27 = .ok (.iload_n 2, 1) := by decide +kernel
theorem dX4_tenths_28 : decode cX4_tenths 28 = .ok (.ifCond .eq 15, 3) := by decide +kernel
theorem dX4_tenths_31 : decode cX4_tenths 31 = .ok (.bipush 10, 2) := by decide +kernel
theorem dX4_tenths_33 : decode cX4_tenths 33 = .ok (.aload_n 0, 1) := by decide +kernel
theorem dX4_tenths_34 : decode cX4_tenths 34 = .ok (.getfield 9, 3) := by decide +kernel
theorem dX4_tenths_37 : decode cX4_tenths 37 = .ok (.iconst 1, 1) := by decide +kernel
theorem dX4_tenths_38 : decode cX4_tenths 38 = .ok (.iaload, 1) := by decide +kernel
theorem dX4_tenths_39 : decode cX4_tenths 39 = .ok (.isub, 1) := by decide +kernel
theorem dX4_tenths_40 : decode cX4_tenths 40 = .ok (.goto 9, 3) := by decide +kernel
theorem dX4_tenths_43 : decode cX4_tenths 43 = .ok (.aload_n 0, 1) := by decide +kernel
theorem dX4_tenths_44 : decode cX4_tenths 44 = .ok (.getfield 9, 3) := by decide +kernel
theorem dX4_tenths_47 : decode cX4_tenths 47 = .ok (.iconst 1, 1) := by decide +kernel
theorem dX4_tenths_48 : decode cX4_tenths 48 = .ok (.iaload, 1) := by decide +kernel
theorem dX4_tenths_49 : decode cX4_tenths 49 = .ok (.ireturn, 1) := by decide +kernel
theorem dX4_weightOf_0 : decode cX4_weightOf 0 = .ok (.aload_n 0, 1) := by decide +kernel
theorem dX4_weightOf_1 : decode cX4_weightOf 1 = .ok (.getfield 9, 3) := by decide +kernel
theorem dX4_weightOf_4 : decode cX4_weightOf 4 = .ok (.iconst 2, 1) := by decide +kernel
theorem dX4_weightOf_5 : decode cX4_weightOf 5 = .ok (.iload_n 1, 1) := by decide +kernel
theorem dX4_weightOf_6 : decode cX4_weightOf 6 = .ok (.iadd, 1) := by decide +kernel
theorem dX4_weightOf_7 : decode cX4_weightOf 7 = .ok (.iaload, 1) := by decide +kernel
theorem dX4_weightOf_8 : decode cX4_weightOf 8 = .ok (.aload_n 0, 1) := by decide +kernel
theorem dX4_weightOf_9 : decode cX4_weightOf 9 = .ok (.getfield 25, 3) := by decide +kernel
theorem dX4_weightOf_12 : decode cX4_weightOf 12 = .ok (.getfield 38, 3) := by decide +kernel
theorem dX4_weightOf_15 : decode cX4_weightOf 15 = .ok (.iload_n 2, 1) := by decide +kernel
theorem dX4_weightOf_16 : decode cX4_weightOf 16 = .ok (.iaload, 1) := by decide +kernel
theorem dX4_weightOf_17 : decode cX4_weightOf 17 = .ok (.imul, 1) := by decide +kernel
theorem dX4_weightOf_18 : decode cX4_weightOf 18 = .ok (.i2l, 1) := by decide +kernel
theorem dX4_weightOf_19 : decode cX4_weightOf 19 = .ok (.lstore 4, 2) := by decide +kernel
theorem dX4_weightOf_21 : decode cX4_weightOf 21 = .ok (.iload_n 1, 1) := by decide +kernel
theorem dX4_weightOf_22 : decode cX4_weightOf 22 = .ok (.ifCond .eq 18, 3) := by decide +kernel
theorem dX4_weightOf_25 : decode cX4_weightOf 25 = .ok (.lload 4, 2) := by decide +kernel
theorem dX4_weightOf_27 : decode cX4_weightOf 27 = .ok (.aload_n 0, 1) := by decide +kernel
theorem dX4_weightOf_28 : decode cX4_weightOf 28 = .ok (.getfield 25, 3) := by decide +kernel
theorem dX4_weightOf_31 : decode cX4_weightOf 31 = .ok (.getfield 38, 3) := by decide +kernel
theorem dX4_weightOf_34 : decode cX4_weightOf 34 = .ok (.iload_n 3, 1) := by decide +kernel
theorem dX4_weightOf_35 : decode cX4_weightOf 35 = .ok (.iaload, 1) := by decide +kernel
theorem dX4_weightOf_36 : decode cX4_weightOf 36 = .ok (.i2l, 1) := by decide +kernel
theorem dX4_weightOf_37 : decode cX4_weightOf 37 = .ok (.lmul, 1) := by decide +kernel
theorem dX4_weightOf_38 : decode cX4_weightOf 38 = .ok (.lstore 4, 2) := by decide +kernel
theorem dX4_weightOf_40 : decode cX4_weightOf 40 = .ok (.aload_n 0, 1) := by decide +kernel
theorem dX4_weightOf_41 : decode cX4_weightOf 41 = .ok (.iload_n 1, 1) := by decide +kernel
theorem dX4_weightOf_42 : decode cX4_weightOf 42 = .ok (.iload_n 2, 1) := by decide +kernel
theorem dX4_weightOf_43 : decode cX4_weightOf 43 = .ok (.iload_n 3, 1) := by decide +kernel
theorem dX4_weightOf_44 : decode cX4_weightOf 44 = .ok (.invokevirtual 41, 3) := by decide +kernel
theorem dX4_weightOf_47 : decode cX4_weightOf 47 = .ok (.istore 6, 2) := by decide +kernel
theorem dX4_weightOf_49 : decode cX4_weightOf 49 = .ok (.iconst 0, 1) := by decide +kernel
theorem dX4_weightOf_50 : decode cX4_weightOf 50 = .ok (.istore 7, 2) := by decide +kernel
theorem dX4_weightOf_52 : decode cX4_weightOf 52 = .ok (.iload 7, 2) := by decide +kernel
theorem dX4_weightOf_54 : decode cX4_weightOf 54 = .ok (.aload_n 0, 1) := by decide +kernel
theorem dX4_weightOf_55 : decode cX4_weightOf 55 = .ok (.getfield 29, 3) := by decide +kernel
theorem dX4_weightOf_58 : decode cX4_weightOf 58 = .ok (.getfield 45, 3) := by decide +kernel
theorem dX4_weightOf_61 : decode cX4_weightOf 61 = .ok (.if_icmp .ge 51, 3) := by decide +kernel
theorem dX4_weightOf_64 : decode cX4_weightOf 64 = .ok (.lload 4, 2) := by decide +kernel
theorem dX4_weightOf_66 : decode cX4_weightOf 66 = .ok (.lconst 0, 1) := by decide +kernel
theorem dX4_weightOf_67 : decode cX4_weightOf 67 = .ok (.lcmp, 1) := by decide +kernel
theorem dX4_weightOf_68 : decode cX4_weightOf 68 = .ok (.ifCond .eq 44, 3) := by decide +kernel
theorem dX4_weightOf_71 : decode cX4_weightOf 71 = .ok (.lload 4, 2) := by decide +kernel
theorem dX4_weightOf_73 : decode cX4_weightOf 73 = .ok (.aload_n 0, 1) := by decide +kernel
theorem dX4_weightOf_74 : decode cX4_weightOf 74 = .ok (.iload 6, 2) := by decide +kernel
theorem dX4_weightOf_76 : decode cX4_weightOf 76 = .ok (.aload_n 0, 1) := by decide +kernel
theorem dX4_weightOf_77 : decode cX4_weightOf 77 = .ok (.getfield 29, 3) := by decide +kernel
theorem dX4_weightOf_80 : decode cX4_weightOf 80 = .ok (.getfield 51, 3) := by decide +kernel
theorem dX4_weightOf_83 : decode cX4_weightOf 83 = .ok (.iload 7, 2) := by decide +kernel
theorem dX4_weightOf_85 : decode cX4_weightOf 85 = .ok (.iaload, 1) := by decide +kernel
theorem dX4_weightOf_86 : decode cX4_weightOf 86 = .ok (.invokestatic 54, 3) := by decide +kernel
theorem dX4_weightOf_89 : decode cX4_weightOf 89 = .ok (.aload_n 0, 1) := by decide +kernel
theorem dX4_weightOf_90 : decode cX4_weightOf 90 = .ok (.getfield 29, 3) := by decide +kernel
theorem dX4_weightOf_93 : decode cX4_weightOf 93 = .ok (.getfield 58, 3) := by decide +kernel
theorem dX4_weightOf_96 : decode cX4_weightOf 96 = .ok (.iload 7, 2) := by decide +kernel
theorem dX4_weightOf_98 : decode cX4_weightOf 98 = .ok (.baload, 1) := by decide +kernel
theorem dX4_weightOf_99 : decode cX4_weightOf 99 = .ok (.invokevirtual 62, 3) := by decide +kernel
theorem dX4_weightOf_102 : decode cX4_weightOf 102 = .ok (.i2l, 1) := by decide +kernel
theorem dX4_weightOf_103 : decode cX4_weightOf 103 = .ok (.lmul, 1) := by decide +kernel
theorem dX4_weightOf_104 : decode cX4_weightOf 104 = .ok (.lstore 4, 2) := by decide +kernel
theorem dX4_weightOf_106 : decode cX4_weightOf 106 = .ok (.iinc 7 1, 3) := by decide +kernel
theorem dX4_weightOf_109 : decode cX4_weightOf 109 = .ok (.goto (-57), 3) := by decide +kernel
theorem dX4_weightOf_112 : decode cX4_weightOf 112 = .ok (.lload 4, 2) := by decide +kernel
theorem dX4_weightOf_114 : decode cX4_weightOf 114 = .ok (.lreturn, 1) := by decide +kernel
theorem dX4_weigh_0 : decode cX4_weigh 0 = .ok (.aload_n 0, 1) := by decide +kernel
theorem dX4_weigh_1 : decode cX4_weigh 1 = .ok (.iconst 0, 1) := by decide +kernel
theorem dX4_weigh_2 : decode cX4_weigh 2 = .ok (.putfield 66, 3) := by decide +kernel
theorem dX4_weigh_5 : decode cX4_weigh 5 = .ok (.aload_n 0, 1) := by decide +kernel
theorem dX4_weigh_6 : decode cX4_weigh 6 = .ok (.lconst 0, 1) := by decide +kernel
theorem dX4_weigh_7 : decode cX4_weigh 7 = .ok (.putfield 67, 3) := by decide +kernel
theorem dX4_weigh_10 : decode cX4_weigh 10 = .ok (.aload_n 0, 1) := by decide +kernel
theorem dX4_weigh_11 : decode cX4_weigh 11 = .ok (.iconst 0, 1) := by decide +kernel
theorem dX4_weigh_12 : decode cX4_weigh 12 = .ok (.putfield 71, 3) := by decide +kernel
theorem dX4_weigh_15 : decode cX4_weigh 15 = .ok (.aload_n 0, 1) := by decide +kernel
theorem dX4_weigh_16 : decode cX4_weigh 16 = .ok (.lconst 0, 1) := by decide +kernel
theorem dX4_weigh_17 : decode cX4_weigh 17 = .ok (.putfield 74, 3) := by decide +kernel
theorem dX4_weigh_20 : decode cX4_weigh 20 = .ok (.iconst 0, 1) := by decide +kernel
theorem dX4_weigh_21 : decode cX4_weigh 21 = .ok (.istore_n 1, 1) := by decide +kernel
theorem dX4_weigh_22 : decode cX4_weigh 22 = .ok (.iload_n 1, 1) := by decide +kernel
theorem dX4_weigh_23 : decode cX4_weigh 23 = .ok (.iconst 3, 1) := by decide +kernel
theorem dX4_weigh_24 : decode cX4_weigh 24 = .ok (.if_icmp .ge 34, 3) := by decide +kernel
theorem dX4_weigh_27 : decode cX4_weigh 27 = .ok (.iconst 0, 1) := by decide +kernel
theorem dX4_weigh_28 : decode cX4_weigh 28 = .ok (.istore_n 2, 1) := by decide +kernel
theorem dX4_weigh_29 : decode cX4_weigh 29 = .ok (.iload_n 2, 1) := by decide +kernel
theorem dX4_weigh_30 : decode cX4_weigh 30 = .ok (.aload_n 0, 1) := by decide +kernel
theorem dX4_weigh_31 : decode cX4_weigh 31 = .ok (.getfield 25, 3) := by decide +kernel
theorem dX4_weigh_34 : decode cX4_weigh 34 = .ok (.getfield 77, 3) := by decide +kernel
theorem dX4_weigh_37 : decode cX4_weigh 37 = .ok (.if_icmp .ge 15, 3) := by decide +kernel
theorem dX4_weigh_40 : decode cX4_weigh 40 = .ok (.aload_n 0, 1) := by decide +kernel
theorem dX4_weigh_41 : decode cX4_weigh 41 = .ok (.iload_n 1, 1) := by decide +kernel
theorem dX4_weigh_42 : decode cX4_weigh 42 = .ok (.iload_n 2, 1) := by decide +kernel
theorem dX4_weigh_43 : decode cX4_weigh 43 = .ok (.invokevirtual 78, 3) := by decide +kernel
theorem dX4_weigh_46 : decode cX4_weigh 46 = .ok (.iinc 2 1, 3) := by decide +kernel
theorem dX4_weigh_49 : decode cX4_weigh 49 = .ok (.goto (-20), 3) := by decide +kernel
theorem dX4_weigh_52 : decode cX4_weigh 52 = .ok (.iinc 1 1, 3) := by decide +kernel
theorem dX4_weigh_55 : decode cX4_weigh 55 = .ok (.goto (-33), 3) := by decide +kernel
theorem dX4_weigh_58 : decode cX4_weigh 58 = .ok (.return_, 1) := by decide +kernel
theorem dX4_weighFrom_0 : decode cX4_weighFrom 0 = .ok (.iload_n 1, 1) := by decide +kernel
theorem dX4_weighFrom_1 : decode cX4_weighFrom 1 = .ok (.ifCond .ne 7, 3) := by decide +kernel
theorem dX4_weighFrom_4 : decode cX4_weighFrom 4 = .ok (.iload_n 2, 1) := by decide +kernel
theorem dX4_weighFrom_5 : decode cX4_weighFrom 5 = .ok (.goto 15, 3) := by decide +kernel
theorem dX4_weighFrom_8 : decode cX4_weighFrom 8 = .ok (.iload_n 1, 1) := by decide +kernel
theorem dX4_weighFrom_9 : decode cX4_weighFrom 9 = .ok (.iconst 1, 1) := by decide +kernel
theorem dX4_weighFrom_10 : decode cX4_weighFrom 10 = .ok (.if_icmp .ne 9, 3) := by decide +kernel
theorem dX4_weighFrom_13 : decode cX4_weighFrom 13 = .ok (.iload_n 2, 1) := by decide +kernel
theorem dX4_weighFrom_14 : decode cX4_weighFrom 14 = .ok (.iconst 1, 1) := by decide +kernel
theorem dX4_weighFrom_15 : decode cX4_weighFrom 15 = .ok (.iadd, 1) := by decide +kernel
theorem dX4_weighFrom_16 : decode cX4_weighFrom 16 = .ok (.goto 4, 3) := by decide +kernel
theorem dX4_weighFrom_19 : decode cX4_weighFrom 19 = .ok (.iconst 0, 1) := by decide +kernel
theorem dX4_weighFrom_20 : decode cX4_weighFrom 20 = .ok (.istore_n 3, 1) := by decide +kernel
theorem dX4_weighFrom_21 : decode cX4_weighFrom 21 = .ok (.iload_n 1, 1) := by decide +kernel
theorem dX4_weighFrom_22 : decode cX4_weighFrom 22 = .ok (.ifCond .ne 9, 3) := by decide +kernel
theorem dX4_weighFrom_25 : decode cX4_weighFrom 25 = .ok (.iload_n 2, 1) := by decide +kernel
theorem dX4_weighFrom_26 : decode cX4_weighFrom 26 = .ok (.iconst 1, 1) := by decide +kernel
theorem dX4_weighFrom_27 : decode cX4_weighFrom 27 = .ok (.iadd, 1) := by decide +kernel
theorem dX4_weighFrom_28 : decode cX4_weighFrom 28 = .ok (.goto 10, 3) := by decide +kernel
theorem dX4_weighFrom_31 : decode cX4_weighFrom 31 = .ok (.aload_n 0, 1) := by decide +kernel
theorem dX4_weighFrom_32 : decode cX4_weighFrom 32 = .ok (.getfield 25, 3) := by decide +kernel
theorem dX4_weighFrom_35 : decode cX4_weighFrom 35 = .ok (.getfield 77, 3) := by decide +kernel
theorem dX4_weighFrom_38 : decode cX4_weighFrom 38 = .ok (.istore 4, 2) := by decide +kernel
theorem dX4_weighFrom_40 : decode cX4_weighFrom 40 = .ok (.iload_n 3, 1) := by decide +kernel
theorem dX4_weighFrom_41 : decode cX4_weighFrom 41 = .ok (.istore 5, 2) := by decide +kernel
theorem dX4_weighFrom_43 : decode cX4_weighFrom 43 = .ok (.iload 5, 2) := by decide +kernel
theorem dX4_weighFrom_45 : decode cX4_weighFrom 45 = .ok (.iload 4, 2) := by decide +kernel
theorem dX4_weighFrom_47 : decode cX4_weighFrom 47 = .ok (.if_icmp .ge 28, 3) := by decide +kernel
theorem dX4_weighFrom_50 : decode cX4_weighFrom 50 = .ok (.iload_n 1, 1) := by decide +kernel
theorem dX4_weighFrom_51 : decode cX4_weighFrom 51 = .ok (.iconst 2, 1) := by decide +kernel
theorem dX4_weighFrom_52 : decode cX4_weighFrom 52 = .ok (.if_icmp .ne 9, 3) := by decide +kernel
theorem dX4_weighFrom_55 : decode cX4_weighFrom 55 = .ok (.iload 5, 2) := by decide +kernel
theorem dX4_weighFrom_57 : decode cX4_weighFrom 57 = .ok (.iload_n 2, 1) := by decide +kernel
theorem dX4_weighFrom_58 : decode cX4_weighFrom 58 = .ok (.if_icmp .eq 11, 3) := by decide +kernel
theorem dX4_weighFrom_61 : decode cX4_weighFrom 61 = .ok (.aload_n 0, 1) := by decide +kernel
theorem dX4_weighFrom_62 : decode cX4_weighFrom 62 = .ok (.iload_n 1, 1) := by decide +kernel
theorem dX4_weighFrom_63 : decode cX4_weighFrom 63 = .ok (.iload_n 2, 1) := by decide +kernel
theorem dX4_weighFrom_64 : decode cX4_weighFrom 64 = .ok (.iload 5, 2) := by decide +kernel
theorem dX4_weighFrom_66 : decode cX4_weighFrom 66 = .ok (.invokevirtual 82, 3) := by decide +kernel
theorem dX4_weighFrom_69 : decode cX4_weighFrom 69 = .ok (.iinc 5 1, 3) := by decide +kernel
theorem dX4_weighFrom_72 : decode cX4_weighFrom 72 = .ok (.goto (-29), 3) := by decide +kernel
theorem dX4_weighFrom_75 : decode cX4_weighFrom 75 = .ok (.return_, 1) := by decide +kernel
theorem dX4_take_0 : decode cX4_take 0 = .ok (.aload_n 0, 1) := by decide +kernel
theorem dX4_take_1 : decode cX4_take 1 = .ok (.iload_n 1, 1) := by decide +kernel
theorem dX4_take_2 : decode cX4_take 2 = .ok (.iload_n 2, 1) := by decide +kernel
theorem dX4_take_3 : decode cX4_take 3 = .ok (.iload_n 3, 1) := by decide +kernel
theorem dX4_take_4 : decode cX4_take 4 = .ok (.invokevirtual 86, 3) := by decide +kernel
theorem dX4_take_7 : decode cX4_take 7 = .ok (.lstore 4, 2) := by decide +kernel
theorem dX4_take_9 : decode cX4_take 9 = .ok (.lload 4, 2) := by decide +kernel
theorem dX4_take_11 : decode cX4_take 11 = .ok (.lconst 0, 1) := by decide +kernel
theorem dX4_take_12 : decode cX4_take 12 = .ok (.lcmp, 1) := by decide +kernel
theorem dX4_take_13 : decode cX4_take 13 = .ok (.ifCond .eq 13, 3) := by decide +kernel
theorem dX4_take_16 : decode cX4_take 16 = .ok (.aload_n 0, 1) := by decide +kernel
theorem dX4_take_17 : decode cX4_take 17 = .ok (.getfield 66, 3) := by decide +kernel
theorem dX4_take_20 : decode cX4_take 20 = .ok (.sipush 210, 3) := by decide +kernel
theorem dX4_take_23 : decode cX4_take 23 = .ok (.if_icmp .lt 4, 3) := by decide +kernel
theorem dX4_take_26 : decode cX4_take 26 = .ok (.return_, 1) := by decide +kernel
theorem dX4_take_27 : decode cX4_take 27 = .ok (.aload_n 0, 1) := by decide +kernel
theorem dX4_take_28 : decode cX4_take 28 = .ok (.getfield 15, 3) := by decide +kernel
theorem dX4_take_31 : decode cX4_take 31 = .ok (.aload_n 0, 1) := by decide +kernel
theorem dX4_take_32 : decode cX4_take 32 = .ok (.getfield 66, 3) := by decide +kernel
theorem dX4_take_35 : decode cX4_take 35 = .ok (.iload_n 1, 1) := by decide +kernel
theorem dX4_take_36 : decode cX4_take 36 = .ok (.iload_n 2, 1) := by decide +kernel
theorem dX4_take_37 : decode cX4_take 37 = .ok (.iload_n 3, 1) := by decide +kernel
theorem dX4_take_38 : decode cX4_take 38 = .ok (.invokestatic 90, 3) := by decide +kernel
theorem dX4_take_41 : decode cX4_take 41 = .ok (.iastore, 1) := by decide +kernel
theorem dX4_take_42 : decode cX4_take 42 = .ok (.aload_n 0, 1) := by decide +kernel
theorem dX4_take_43 : decode cX4_take 43 = .ok (.getfield 18, 3) := by decide +kernel
theorem dX4_take_46 : decode cX4_take 46 = .ok (.aload_n 0, 1) := by decide +kernel
theorem dX4_take_47 : decode cX4_take 47 = .ok (.getfield 66, 3) := by decide +kernel
theorem dX4_take_50 : decode cX4_take 50 = .ok (.lload 4, 2) := by decide +kernel
theorem dX4_take_52 : decode cX4_take 52 = .ok (.lastore, 1) := by decide +kernel
theorem dX4_take_53 : decode cX4_take 53 = .ok (.aload_n 0, 1) := by decide +kernel
theorem dX4_take_54 : decode cX4_take 54 = .ok (.getfield 22, 3) := by decide +kernel
theorem dX4_take_57 : decode cX4_take 57 = .ok (.aload_n 0, 1) := by decide +kernel
theorem dX4_take_58 : decode cX4_take 58 = .ok (.getfield 66, 3) := by decide +kernel
theorem dX4_take_61 : decode cX4_take 61 = .ok (.aload_n 0, 1) := by decide +kernel
theorem dX4_take_62 : decode cX4_take 62 = .ok (.iload_n 1, 1) := by decide +kernel
theorem dX4_take_63 : decode cX4_take 63 = .ok (.iload_n 2, 1) := by decide +kernel
theorem dX4_take_64 : decode cX4_take 64 = .ok (.iload_n 3, 1) := by decide +kernel
theorem dX4_take_65 : decode cX4_take 65 = .ok (.invokevirtual 41, 3) := by decide +kernel
theorem dX4_take_68 : decode cX4_take 68 = .ok (.iastore, 1) := by decide +kernel
theorem dX4_take_69 : decode cX4_take 69 = .ok (.aload_n 0, 1) := by decide +kernel
theorem dX4_take_70 : decode cX4_take 70 = .ok (.dup, 1) := by decide +kernel
theorem dX4_take_71 : decode cX4_take 71 = .ok (.getfield 67, 3) := by decide +kernel
theorem dX4_take_74 : decode cX4_take 74 = .ok (.lload 4, 2) := by decide +kernel
theorem dX4_take_76 : decode cX4_take 76 = .ok (.ladd, 1) := by decide +kernel
theorem dX4_take_77 : decode cX4_take 77 = .ok (.putfield 67, 3) := by decide +kernel
theorem dX4_take_80 : decode cX4_take 80 = .ok (.lload 4, 2) := by decide +kernel
theorem dX4_take_82 : decode cX4_take 82 = .ok (.aload_n 0, 1) := by decide +kernel
theorem dX4_take_83 : decode cX4_take 83 = .ok (.getfield 74, 3) := by decide +kernel
theorem dX4_take_86 : decode cX4_take 86 = .ok (.lcmp, 1) := by decide +kernel
theorem dX4_take_87 : decode cX4_take 87 = .ok (.ifCond .le 22, 3) := by decide +kernel
theorem dX4_take_90 : decode cX4_take 90 = .ok (.aload_n 0, 1) := by decide +kernel
theorem dX4_take_91 : decode cX4_take 91 = .ok (.lload 4, 2) := by decide +kernel
theorem dX4_take_93 : decode cX4_take 93 = .ok (.putfield 74, 3) := by decide +kernel
theorem dX4_take_96 : decode cX4_take 96 = .ok (.aload_n 0, 1) := by decide +kernel
theorem dX4_take_97 : decode cX4_take 97 = .ok (.aload_n 0, 1) := by decide +kernel
theorem dX4_take_98 : decode cX4_take 98 = .ok (.getfield 15, 3) := by decide +kernel
theorem dX4_take_101 : decode cX4_take 101 = .ok (.aload_n 0, 1) := by decide +kernel
theorem dX4_take_102 : decode cX4_take 102 = .ok (.getfield 66, 3) := by decide +kernel
theorem dX4_take_105 : decode cX4_take 105 = .ok (.iaload, 1) := by decide +kernel
theorem dX4_take_106 : decode cX4_take 106 = .ok (.putfield 71, 3) := by decide +kernel
theorem dX4_take_109 : decode cX4_take 109 = .ok (.aload_n 0, 1) := by decide +kernel
theorem dX4_take_110 : decode cX4_take 110 = .ok (.dup, 1) := by decide +kernel
theorem dX4_take_111 : decode cX4_take 111 = .ok (.getfield 66, 3) := by decide +kernel
theorem dX4_take_114 : decode cX4_take 114 = .ok (.iconst 1, 1) := by decide +kernel
theorem dX4_take_115 : decode cX4_take 115 = .ok (.iadd, 1) := by decide +kernel
theorem dX4_take_116 : decode cX4_take 116 = .ok (.putfield 66, 3) := by decide +kernel
theorem dX4_take_119 : decode cX4_take 119 = .ok (.return_, 1) := by decide +kernel
theorem dX4_weightOfSort_0 : decode cX4_weightOfSort 0 = .ok (.lconst 0, 1) := by decide +kernel
theorem dX4_weightOfSort_1 : decode cX4_weightOfSort 1 = .ok (.lstore_n 2, 1) := by decide +kernel
theorem dX4_weightOfSort_2 : decode cX4_weightOfSort 2 = .ok (.iconst 0, 1) := by decide +kernel
theorem dX4_weightOfSort_3 : decode cX4_weightOfSort 3 = .ok (.istore 4, 2) := by decide +kernel
theorem dX4_weightOfSort_5 : decode cX4_weightOfSort 5 = .ok (.iload 4, 2) := by decide +kernel
theorem dX4_weightOfSort_7 : decode cX4_weightOfSort 7 = .ok (.aload_n 0, 1) := by decide +kernel
theorem dX4_weightOfSort_8 : decode cX4_weightOfSort 8 = .ok (.getfield 66, 3) := by decide +kernel
theorem dX4_weightOfSort_11 : decode cX4_weightOfSort 11 = .ok (.if_icmp .ge 33, 3) := by decide +kernel
theorem dX4_weightOfSort_14 : decode cX4_weightOfSort 14 = .ok (.aload_n 0, 1) := by decide +kernel
theorem dX4_weightOfSort_15 : decode cX4_weightOfSort 15 = .ok (.getfield 15, 3) := by decide +kernel
theorem dX4_weightOfSort_18 : decode cX4_weightOfSort 18 = .ok (.iload 4, 2) := by decide +kernel
theorem dX4_weightOfSort_20 : decode cX4_weightOfSort 20 = .ok (.iaload, 1) := by decide +kernel
theorem dX4_weightOfSort_21 : decode cX4_weightOfSort 21 = .ok (.invokestatic 93, 3) := by decide +kernel
theorem dX4_weightOfSort_24 : decode cX4_weightOfSort 24 = .ok (.iload_n 1, 1) := by decide +kernel
theorem dX4_weightOfSort_25 : decode cX4_weightOfSort 25 = .ok (.if_icmp .ne 13, 3) := by decide +kernel
theorem dX4_weightOfSort_28 : decode cX4_weightOfSort 28 = .ok (.lload_n 2, 1) := by decide +kernel
theorem dX4_weightOfSort_29 : decode cX4_weightOfSort 29 = .ok (.aload_n 0, 1) := by decide +kernel
theorem dX4_weightOfSort_30 : decode cX4_weightOfSort 30 = .ok (.getfield 18, 3) := by decide +kernel
theorem dX4_weightOfSort_33 : decode cX4_weightOfSort 33 = .ok (.iload 4, 2) := by decide +kernel
theorem dX4_weightOfSort_35 : decode cX4_weightOfSort 35 = .ok (.laload, 1) := by decide +kernel
theorem dX4_weightOfSort_36 : decode cX4_weightOfSort 36 = .ok (.ladd, 1) := by decide +kernel
theorem dX4_weightOfSort_37 : decode cX4_weightOfSort 37 = .ok (.lstore_n 2, 1) := by decide +kernel
theorem dX4_weightOfSort_38 : decode cX4_weightOfSort 38 = .ok (.iinc 4 1, 3) := by decide +kernel
theorem dX4_weightOfSort_41 : decode cX4_weightOfSort 41 = .ok (.goto (-36), 3) := by decide +kernel
theorem dX4_weightOfSort_44 : decode cX4_weightOfSort 44 = .ok (.lload_n 2, 1) := by decide +kernel
theorem dX4_weightOfSort_45 : decode cX4_weightOfSort 45 = .ok (.lreturn, 1) := by decide +kernel
theorem dX4_weightBlaming_0 : decode cX4_weightBlaming 0 = .ok (.lconst 0, 1) := by decide +kernel
theorem dX4_weightBlaming_1 : decode cX4_weightBlaming 1 = .ok (.lstore_n 2, 1) := by decide +kernel
theorem dX4_weightBlaming_2 : decode cX4_weightBlaming 2 = .ok (.iconst 0, 1) := by decide +kernel
theorem dX4_weightBlaming_3 : decode cX4_weightBlaming 3 = .ok (.istore 4, 2) := by decide +kernel
theorem dX4_weightBlaming_5 : decode cX4_weightBlaming 5 = .ok (.iload 4, 2) := by decide +kernel
theorem dX4_weightBlaming_7 : decode cX4_weightBlaming 7 = .ok (.aload_n 0, 1) := by decide +kernel
theorem dX4_weightBlaming_8 : decode cX4_weightBlaming 8 = .ok (.getfield 66, 3) := by decide +kernel
theorem dX4_weightBlaming_11 : decode cX4_weightBlaming 11 = .ok (.if_icmp .ge 73, 3) := by decide +kernel
theorem dX4_weightBlaming_14 : decode cX4_weightBlaming 14 = .ok (.aload_n 0, 1) := by decide +kernel
theorem dX4_weightBlaming_15 : decode cX4_weightBlaming 15 = .ok (.getfield 15, 3) := by decide +kernel
theorem dX4_weightBlaming_18 : decode cX4_weightBlaming 18 = .ok (.iload 4, 2) := by decide +kernel
theorem dX4_weightBlaming_20 : decode cX4_weightBlaming 20 = .ok (.iaload, 1) := by decide +kernel
theorem dX4_weightBlaming_21 : decode cX4_weightBlaming 21 = .ok (.invokestatic 93, 3) := by decide +kernel
theorem dX4_weightBlaming_24 : decode cX4_weightBlaming 24 = .ok (.iconst 1, 1) := by decide +kernel
theorem dX4_weightBlaming_25 : decode cX4_weightBlaming 25 = .ok (.if_icmp .ne 21, 3) := by decide +kernel
theorem dX4_weightBlaming_28 : decode cX4_weightBlaming 28 = .ok (.aload_n 0, 1) := by decide +kernel
theorem dX4_weightBlaming_29 : decode cX4_weightBlaming 29 = .ok (.getfield 15, 3) := by decide +kernel
theorem dX4_weightBlaming_32 : decode cX4_weightBlaming 32 = .ok (.iload 4, 2) := by decide +kernel
theorem dX4_weightBlaming_34 : decode cX4_weightBlaming 34 = .ok (.iaload, 1) := by decide +kernel
theorem dX4_weightBlaming_35 : decode cX4_weightBlaming 35 = .ok (.invokestatic 97, 3) := by decide +kernel
theorem dX4_weightBlaming_38 : decode cX4_weightBlaming 38 = .ok (.iload_n 1, 1) := by decide +kernel
theorem dX4_weightBlaming_39 : decode cX4_weightBlaming 39 = .ok (.if_icmp .ne 7, 3) := by decide +kernel
theorem dX4_weightBlaming_42 : decode cX4_weightBlaming 42 = .ok (.iconst 1, 1) := by decide +kernel
theorem dX4_weightBlaming_43 : decode cX4_weightBlaming 43 = .ok (.goto 4, 3) := by decide +kernel
theorem dX4_weightBlaming_46 : decode cX4_weightBlaming 46 = .ok (.iconst 0, 1) := by decide +kernel
theorem dX4_weightBlaming_47 : decode cX4_weightBlaming 47 = .ok (.istore 5, 2) := by decide +kernel
theorem dX4_weightBlaming_49 : decode cX4_weightBlaming 49 = .ok (.aload_n 0, 1) := by decide +kernel
theorem dX4_weightBlaming_50 : decode cX4_weightBlaming 50 = .ok (.getfield 15, 3) := by decide +kernel
theorem dX4_weightBlaming_53 : decode cX4_weightBlaming 53 = .ok (.iload 4, 2) := by decide +kernel
theorem dX4_weightBlaming_55 : decode cX4_weightBlaming 55 = .ok (.iaload, 1) := by decide +kernel
theorem dX4_weightBlaming_56 : decode cX4_weightBlaming 56 = .ok (.invokestatic 100, 3) := by decide +kernel
theorem dX4_weightBlaming_59 : decode cX4_weightBlaming 59 = .ok (.iload_n 1, 1) := by decide +kernel
theorem dX4_weightBlaming_60 : decode cX4_weightBlaming 60 = .ok (.if_icmp .eq 8, 3) := by decide +kernel
theorem dX4_weightBlaming_63 : decode cX4_weightBlaming 63 = .ok (.iload 5, 2) := by decide +kernel
theorem dX4_weightBlaming_65 : decode cX4_weightBlaming 65 = .ok (.ifCond .eq 13, 3) := by decide +kernel
theorem dX4_weightBlaming_68 : decode cX4_weightBlaming 68 = .ok (.lload_n 2, 1) := by decide +kernel
theorem dX4_weightBlaming_69 : decode cX4_weightBlaming 69 = .ok (.aload_n 0, 1) := by decide +kernel
theorem dX4_weightBlaming_70 : decode cX4_weightBlaming 70 = .ok (.getfield 18, 3) := by decide +kernel
theorem dX4_weightBlaming_73 : decode cX4_weightBlaming 73 = .ok (.iload 4, 2) := by decide +kernel
theorem dX4_weightBlaming_75 : decode cX4_weightBlaming 75 = .ok (.laload, 1) := by decide +kernel
theorem dX4_weightBlaming_76 : decode cX4_weightBlaming 76 = .ok (.ladd, 1) := by decide +kernel
theorem dX4_weightBlaming_77 : decode cX4_weightBlaming 77 = .ok (.lstore_n 2, 1) := by decide +kernel
theorem dX4_weightBlaming_78 : decode cX4_weightBlaming 78 = .ok (.iinc 4 1, 3) := by decide +kernel
theorem dX4_weightBlaming_81 : decode cX4_weightBlaming 81 = .ok (.goto (-76), 3) := by decide +kernel
theorem dX4_weightBlaming_84 : decode cX4_weightBlaming 84 = .ok (.lload_n 2, 1) := by decide +kernel
theorem dX4_weightBlaming_85 : decode cX4_weightBlaming 85 = .ok (.lreturn, 1) := by decide +kernel
theorem dX4_hopeWeight_0 : decode cX4_hopeWeight 0 = .ok (.lconst 0, 1) := by decide +kernel
theorem dX4_hopeWeight_1 : decode cX4_hopeWeight 1 = .ok (.lstore_n 2, 1) := by decide +kernel
theorem dX4_hopeWeight_2 : decode cX4_hopeWeight 2 = .ok (.lconst 0, 1) := by decide +kernel
theorem dX4_hopeWeight_3 : decode cX4_hopeWeight 3 = .ok (.lstore 4, 2) := by decide +kernel
theorem dX4_hopeWeight_5 : decode cX4_hopeWeight 5 = .ok (.iconst 0, 1) := by decide +kernel
theorem dX4_hopeWeight_6 : decode cX4_hopeWeight 6 = .ok (.istore 6, 2) := by decide +kernel
theorem dX4_hopeWeight_8 : decode cX4_hopeWeight 8 = .ok (.iload 6, 2) := by decide +kernel
theorem dX4_hopeWeight_10 : decode cX4_hopeWeight 10 = .ok (.aload_n 0, 1) := by decide +kernel
theorem dX4_hopeWeight_11 : decode cX4_hopeWeight 11 = .ok (.getfield 66, 3) := by decide +kernel
theorem dX4_hopeWeight_14 : decode cX4_hopeWeight 14 = .ok (.if_icmp .ge 66, 3) := by decide +kernel
theorem dX4_hopeWeight_17 : decode cX4_hopeWeight 17 = .ok (.aload_n 0, 1) := by decide +kernel
theorem dX4_hopeWeight_18 : decode cX4_hopeWeight 18 = .ok (.getfield 22, 3) := by decide +kernel
theorem dX4_hopeWeight_21 : decode cX4_hopeWeight 21 = .ok (.iload 6, 2) := by decide +kernel
theorem dX4_hopeWeight_23 : decode cX4_hopeWeight 23 = .ok (.iaload, 1) := by decide +kernel
theorem dX4_hopeWeight_24 : decode cX4_hopeWeight 24 = .ok (.iload_n 1, 1) := by decide +kernel
theorem dX4_hopeWeight_25 : decode cX4_hopeWeight 25 = .ok (.invokestatic 54, 3) := by decide +kernel
theorem dX4_hopeWeight_28 : decode cX4_hopeWeight 28 = .ok (.istore 7, 2) := by decide +kernel
theorem dX4_hopeWeight_30 : decode cX4_hopeWeight 30 = .ok (.lload_n 2, 1) := by decide +kernel
theorem dX4_hopeWeight_31 : decode cX4_hopeWeight 31 = .ok (.aload_n 0, 1) := by decide +kernel
theorem dX4_hopeWeight_32 : decode cX4_hopeWeight 32 = .ok (.getfield 18, 3) := by decide +kernel
theorem dX4_hopeWeight_35 : decode cX4_hopeWeight 35 = .ok (.iload 6, 2) := by decide +kernel
theorem dX4_hopeWeight_37 : decode cX4_hopeWeight 37 = .ok (.laload, 1) := by decide +kernel
theorem dX4_hopeWeight_38 : decode cX4_hopeWeight 38 = .ok (.aload_n 0, 1) := by decide +kernel
theorem dX4_hopeWeight_39 : decode cX4_hopeWeight 39 = .ok (.iload 7, 2) := by decide +kernel
theorem dX4_hopeWeight_41 : decode cX4_hopeWeight 41 = .ok (.iconst 1, 1) := by decide +kernel
theorem dX4_hopeWeight_42 : decode cX4_hopeWeight 42 = .ok (.invokevirtual 62, 3) := by decide +kernel
theorem dX4_hopeWeight_45 : decode cX4_hopeWeight 45 = .ok (.i2l, 1) := by decide +kernel
theorem dX4_hopeWeight_46 : decode cX4_hopeWeight 46 = .ok (.lmul, 1) := by decide +kernel
theorem dX4_hopeWeight_47 : decode cX4_hopeWeight 47 = .ok (.invokestatic 103, 3) := by decide +kernel
theorem dX4_hopeWeight_50 : decode cX4_hopeWeight 50 = .ok (.lstore_n 2, 1) := by decide +kernel
theorem dX4_hopeWeight_51 : decode cX4_hopeWeight 51 = .ok (.lload 4, 2) := by decide +kernel
theorem dX4_hopeWeight_53 : decode cX4_hopeWeight 53 = .ok (.aload_n 0, 1) := by decide +kernel
theorem dX4_hopeWeight_54 : decode cX4_hopeWeight 54 = .ok (.getfield 18, 3) := by decide +kernel
theorem dX4_hopeWeight_57 : decode cX4_hopeWeight 57 = .ok (.iload 6, 2) := by decide +kernel
theorem dX4_hopeWeight_59 : decode cX4_hopeWeight 59 = .ok (.laload, 1) := by decide +kernel
theorem dX4_hopeWeight_60 : decode cX4_hopeWeight 60 = .ok (.aload_n 0, 1) := by decide +kernel
theorem dX4_hopeWeight_61 : decode cX4_hopeWeight 61 = .ok (.iload 7, 2) := by decide +kernel
theorem dX4_hopeWeight_63 : decode cX4_hopeWeight 63 = .ok (.iconst 0, 1) := by decide +kernel
theorem dX4_hopeWeight_64 : decode cX4_hopeWeight 64 = .ok (.invokevirtual 62, 3) := by decide +kernel
theorem dX4_hopeWeight_67 : decode cX4_hopeWeight 67 = .ok (.i2l, 1) := by decide +kernel
theorem dX4_hopeWeight_68 : decode cX4_hopeWeight 68 = .ok (.lmul, 1) := by decide +kernel
theorem dX4_hopeWeight_69 : decode cX4_hopeWeight 69 = .ok (.invokestatic 103, 3) := by decide +kernel
theorem dX4_hopeWeight_72 : decode cX4_hopeWeight 72 = .ok (.lstore 4, 2) := by decide +kernel
theorem dX4_hopeWeight_74 : decode cX4_hopeWeight 74 = .ok (.iinc 6 1, 3) := by decide +kernel
theorem dX4_hopeWeight_77 : decode cX4_hopeWeight 77 = .ok (.goto (-69), 3) := by decide +kernel
theorem dX4_hopeWeight_80 : decode cX4_hopeWeight 80 = .ok (.lload_n 2, 1) := by decide +kernel
theorem dX4_hopeWeight_81 : decode cX4_hopeWeight 81 = .ok (.lload 4, 2) := by decide +kernel
theorem dX4_hopeWeight_83 : decode cX4_hopeWeight 83 = .ok (.ladd, 1) := by decide +kernel
theorem dX4_hopeWeight_84 : decode cX4_hopeWeight 84 = .ok (.lreturn, 1) := by decide +kernel
theorem dX4_gap_0 : decode cX4_gap 0 = .ok (.lconst 0, 1) := by decide +kernel
theorem dX4_gap_1 : decode cX4_gap 1 = .ok (.lstore_n 2, 1) := by decide +kernel
theorem dX4_gap_2 : decode cX4_gap 2 = .ok (.iconst 0, 1) := by decide +kernel
theorem dX4_gap_3 : decode cX4_gap 3 = .ok (.istore 4, 2) := by decide +kernel
theorem dX4_gap_5 : decode cX4_gap 5 = .ok (.iload 4, 2) := by decide +kernel
theorem dX4_gap_7 : decode cX4_gap 7 = .ok (.aload_n 0, 1) := by decide +kernel
theorem dX4_gap_8 : decode cX4_gap 8 = .ok (.getfield 66, 3) := by decide +kernel
theorem dX4_gap_11 : decode cX4_gap 11 = .ok (.if_icmp .ge 33, 3) := by decide +kernel
theorem dX4_gap_14 : decode cX4_gap 14 = .ok (.aload_n 0, 1) := by decide +kernel
theorem dX4_gap_15 : decode cX4_gap 15 = .ok (.getfield 22, 3) := by decide +kernel
theorem dX4_gap_18 : decode cX4_gap 18 = .ok (.iload 4, 2) := by decide +kernel
theorem dX4_gap_20 : decode cX4_gap 20 = .ok (.iaload, 1) := by decide +kernel
theorem dX4_gap_21 : decode cX4_gap 21 = .ok (.iload_n 1, 1) := by decide +kernel
theorem dX4_gap_22 : decode cX4_gap 22 = .ok (.invokestatic 54, 3) := by decide +kernel
theorem dX4_gap_25 : decode cX4_gap 25 = .ok (.ifCond .eq 13, 3) := by decide +kernel
theorem dX4_gap_28 : decode cX4_gap 28 = .ok (.lload_n 2, 1) := by decide +kernel
theorem dX4_gap_29 : decode cX4_gap 29 = .ok (.aload_n 0, 1) := by decide +kernel
theorem dX4_gap_30 : decode cX4_gap 30 = .ok (.getfield 18, 3) := by decide +kernel
theorem dX4_gap_33 : decode cX4_gap 33 = .ok (.iload 4, 2) := by decide +kernel
theorem dX4_gap_35 : decode cX4_gap 35 = .ok (.laload, 1) := by decide +kernel
theorem dX4_gap_36 : decode cX4_gap 36 = .ok (.ladd, 1) := by decide +kernel
theorem dX4_gap_37 : decode cX4_gap 37 = .ok (.lstore_n 2, 1) := by decide +kernel
theorem dX4_gap_38 : decode cX4_gap 38 = .ok (.iinc 4 1, 3) := by decide +kernel
theorem dX4_gap_41 : decode cX4_gap 41 = .ok (.goto (-36), 3) := by decide +kernel
theorem dX4_gap_44 : decode cX4_gap 44 = .ok (.aload_n 0, 1) := by decide +kernel
theorem dX4_gap_45 : decode cX4_gap 45 = .ok (.getfield 67, 3) := by decide +kernel
theorem dX4_gap_48 : decode cX4_gap 48 = .ok (.ldc2_w 109, 3) := by decide +kernel
theorem dX4_gap_51 : decode cX4_gap 51 = .ok (.lload_n 2, 1) := by decide +kernel
theorem dX4_gap_52 : decode cX4_gap 52 = .ok (.lmul, 1) := by decide +kernel
theorem dX4_gap_53 : decode cX4_gap 53 = .ok (.lsub, 1) := by decide +kernel
theorem dX4_gap_54 : decode cX4_gap 54 = .ok (.invokestatic 111, 3) := by decide +kernel
theorem dX4_gap_57 : decode cX4_gap 57 = .ok (.lreturn, 1) := by decide +kernel
theorem dX4_nextVersion_0 : decode cX4_nextVersion 0 = .ok (.bipush (-6), 2) := by decide +kernel
theorem dX4_nextVersion_2 : decode cX4_nextVersion 2 = .ok (.istore_n 2, 1) := by decide +kernel
theorem dX4_nextVersion_3 : decode cX4_nextVersion 3 = .ok (.lconst 0, 1) := by decide +kernel
theorem dX4_nextVersion_4 : decode cX4_nextVersion 4 = .ok (.lstore_n 3, 1) := by decide +kernel
theorem dX4_nextVersion_5 : decode cX4_nextVersion 5 = .ok (.iconst 0, 1) := by decide +kernel
theorem dX4_nextVersion_6 : decode cX4_nextVersion 6 = .ok (.istore 5, 2) := by decide +kernel
theorem dX4_nextVersion_8 : decode cX4_nextVersion 8 = .ok (.iload 5, 2) := by decide +kernel
theorem dX4_nextVersion_10 : decode cX4_nextVersion 10 = .ok (.aload_n 0, 1) := by decide +kernel
theorem dX4_nextVersion_11 : decode cX4_nextVersion 11 = .ok (.getfield 25, 3) := by decide +kernel
theorem dX4_nextVersion_14 : decode cX4_nextVersion 14 = .ok (.getfield 77, 3) := by decide +kernel
theorem dX4_nextVersion_17 : decode cX4_nextVersion 17 = .ok (.if_icmp .ge 112, 3) := by decide +kernel
theorem dX4_nextVersion_20 : decode cX4_nextVersion 20 = .ok (.aload_n 0, 1) := by decide +kernel
theorem dX4_nextVersion_21 : decode cX4_nextVersion 21 = .ok (.getfield 25, 3) := by decide +kernel
theorem dX4_nextVersion_24 : decode cX4_nextVersion 24 = .ok (.iload 5, 2) := by decide +kernel
theorem dX4_nextVersion_26 : decode cX4_nextVersion 26 = .ok (.invokevirtual 115, 3) := by decide +kernel
theorem dX4_nextVersion_29 : decode cX4_nextVersion 29 = .ok (.ifCond .ne 6, 3) := by decide +kernel
theorem dX4_nextVersion_32 : decode cX4_nextVersion 32 = .ok (.goto 91, 3) := by decide +kernel
theorem dX4_nextVersion_35 : decode cX4_nextVersion 35 = .ok (.iload_n 1, 1) := by decide +kernel
theorem dX4_nextVersion_36 : decode cX4_nextVersion 36 = .ok (.ifCond .ne 12, 3) := by decide +kernel
theorem dX4_nextVersion_39 : decode cX4_nextVersion 39 = .ok (.aload_n 0, 1) := by decide +kernel
theorem dX4_nextVersion_40 : decode cX4_nextVersion 40 = .ok (.iload 5, 2) := by decide +kernel
theorem dX4_nextVersion_42 : decode cX4_nextVersion 42 = .ok (.invokevirtual 119, 3) := by decide +kernel
theorem dX4_nextVersion_45 : decode cX4_nextVersion 45 = .ok (.goto 10, 3) := by decide +kernel
theorem dX4_nextVersion_48 : decode cX4_nextVersion 48 = .ok (.aload_n 0, 1) := by decide +kernel
theorem dX4_nextVersion_49 : decode cX4_nextVersion 49 = .ok (.iload 5, 2) := by decide +kernel
theorem dX4_nextVersion_51 : decode cX4_nextVersion 51 = .ok (.invokevirtual 123, 3) := by decide +kernel
theorem dX4_nextVersion_54 : decode cX4_nextVersion 54 = .ok (.lneg, 1) := by decide +kernel
theorem dX4_nextVersion_55 : decode cX4_nextVersion 55 = .ok (.lstore 6, 2) := by decide +kernel
theorem dX4_nextVersion_57 : decode cX4_nextVersion 57 = .ok (.iload_n 2, 1) := by decide +kernel
theorem dX4_nextVersion_58 : decode cX4_nextVersion 58 = .ok (.bipush (-6), 2) := by decide +kernel
theorem dX4_nextVersion_60 : decode cX4_nextVersion 60 = .ok (.if_icmp .eq 36, 3) := by decide +kernel
theorem dX4_nextVersion_63 : decode cX4_nextVersion 63 = .ok (.lload 6, 2) := by decide +kernel
theorem dX4_nextVersion_65 : decode cX4_nextVersion 65 = .ok (.lload_n 3, 1) := by decide +kernel
theorem dX4_nextVersion_66 : decode cX4_nextVersion 66 = .ok (.lcmp, 1) := by decide +kernel
theorem dX4_nextVersion_67 : decode cX4_nextVersion 67 = .ok (.ifCond .ne 29, 3) := by decide +kernel
theorem dX4_nextVersion_70 : decode cX4_nextVersion 70 = .ok (.aload_n 0, 1) := by decide +kernel
theorem dX4_nextVersion_71 : decode cX4_nextVersion 71 = .ok (.getfield 25, 3) := by decide +kernel
theorem dX4_nextVersion_74 : decode cX4_nextVersion 74 = .ok (.getfield 126, 3) := by decide +kernel
theorem dX4_nextVersion_77 : decode cX4_nextVersion 77 = .ok (.iload 5, 2) := by decide +kernel
theorem dX4_nextVersion_79 : decode cX4_nextVersion 79 = .ok (.iaload, 1) := by decide +kernel
theorem dX4_nextVersion_80 : decode cX4_nextVersion 80 = .ok (.aload_n 0, 1) := by decide +kernel
theorem dX4_nextVersion_81 : decode cX4_nextVersion 81 = .ok (.getfield 25, 3) := by decide +kernel
theorem dX4_nextVersion_84 : decode cX4_nextVersion 84 = .ok (.getfield 126, 3) := by decide +kernel
theorem dX4_nextVersion_87 : decode cX4_nextVersion 87 = .ok (.iload_n 2, 1) := by decide +kernel
theorem dX4_nextVersion_88 : decode cX4_nextVersion 88 = .ok (.iaload, 1) := by decide +kernel
theorem dX4_nextVersion_89 : decode cX4_nextVersion 89 = .ok (.if_icmp .ge 7, 3) := by decide +kernel
theorem dX4_nextVersion_92 : decode cX4_nextVersion 92 = .ok (.iconst 1, 1) := by decide +kernel
theorem dX4_nextVersion_93 : decode cX4_nextVersion 93 = .ok (.goto 4, 3) := by decide +kernel
theorem dX4_nextVersion_96 : decode cX4_nextVersion 96 = .ok (.iconst 0, 1) := by decide +kernel
theorem dX4_nextVersion_97 : decode cX4_nextVersion 97 = .ok (.istore 8, 2) := by decide +kernel
theorem dX4_nextVersion_99 : decode cX4_nextVersion 99 = .ok (.iload_n 2, 1) := by decide +kernel
theorem dX4_nextVersion_100 : decode cX4_nextVersion 100 = .ok (.bipush (-6), 2) := by decide +kernel
theorem dX4_nextVersion_102 : decode cX4_nextVersion 102 = .ok (.if_icmp .eq 15, 3) := by decide +kernel
theorem dX4_nextVersion_105 : decode cX4_nextVersion 105 = .ok (.lload 6, 2) := by decide +kernel
theorem dX4_nextVersion_107 : decode cX4_nextVersion 107 = .ok (.lload_n 3, 1) := by decide +kernel
theorem dX4_nextVersion_108 : decode cX4_nextVersion 108 = .ok (.lcmp, 1) := by decide +kernel
theorem dX4_nextVersion_109 : decode cX4_nextVersion 109 = .ok (.ifCond .lt 8, 3) := by decide +kernel
theorem dX4_nextVersion_112 : decode cX4_nextVersion 112 = .ok (.iload 8, 2) := by decide +kernel
theorem dX4_nextVersion_114 : decode cX4_nextVersion 114 = .ok (.ifCond .eq 9, 3) := by decide +kernel
theorem dX4_nextVersion_117 : decode cX4_nextVersion 117 = .ok (.iload 5, 2) := by decide +kernel
theorem dX4_nextVersion_119 : decode cX4_nextVersion 119 = .ok (.istore_n 2, 1) := by decide +kernel
theorem dX4_nextVersion_120 : decode cX4_nextVersion 120 = .ok (.lload 6, 2) := by decide +kernel
theorem dX4_nextVersion_122 : decode cX4_nextVersion 122 = .ok (.lstore_n 3, 1) := by decide +kernel
theorem dX4_nextVersion_123 : decode cX4_nextVersion 123 = .ok (.iinc 5 1, 3) := by decide +kernel
theorem dX4_nextVersion_126 : decode cX4_nextVersion 126 = .ok (.goto (-118), 3) := by decide +kernel
theorem dX4_nextVersion_129 : decode cX4_nextVersion 129 = .ok (.iload_n 2, 1) := by decide +kernel
theorem dX4_nextVersion_130 : decode cX4_nextVersion 130 = .ok (.ireturn, 1) := by decide +kernel
theorem dX4_guessIsBelow_0 : decode cX4_guessIsBelow 0 = .ok (.aload_n 0, 1) := by decide +kernel
theorem dX4_guessIsBelow_1 : decode cX4_guessIsBelow 1 = .ok (.getfield 67, 3) := by decide +kernel
theorem dX4_guessIsBelow_4 : decode cX4_guessIsBelow 4 = .ok (.lconst 0, 1) := by decide +kernel
theorem dX4_guessIsBelow_5 : decode cX4_guessIsBelow 5 = .ok (.lcmp, 1) := by decide +kernel
theorem dX4_guessIsBelow_6 : decode cX4_guessIsBelow 6 = .ok (.ifCond .eq 22, 3) := by decide +kernel
theorem dX4_guessIsBelow_9 : decode cX4_guessIsBelow 9 = .ok (.ldc2_w 129, 3) := by decide +kernel
theorem dX4_guessIsBelow_12 : decode cX4_guessIsBelow 12 = .ok (.aload_n 0, 1) := by decide +kernel
theorem dX4_guessIsBelow_13 : decode cX4_guessIsBelow 13 = .ok (.getfield 74, 3) := by decide +kernel
theorem dX4_guessIsBelow_16 : decode cX4_guessIsBelow 16 = .ok (.lmul, 1) := by decide +kernel
theorem dX4_guessIsBelow_17 : decode cX4_guessIsBelow 17 = .ok (.iload_n 1, 1) := by decide +kernel
theorem dX4_guessIsBelow_18 : decode cX4_guessIsBelow 18 = .ok (.i2l, 1) := by decide +kernel
theorem dX4_guessIsBelow_19 : decode cX4_guessIsBelow 19 = .ok (.aload_n 0, 1) := by decide +kernel
theorem dX4_guessIsBelow_20 : decode cX4_guessIsBelow 20 = .ok (.getfield 67, 3) := by decide +kernel
theorem dX4_guessIsBelow_23 : decode cX4_guessIsBelow 23 = .ok (.lmul, 1) := by decide +kernel
theorem dX4_guessIsBelow_24 : decode cX4_guessIsBelow 24 = .ok (.lcmp, 1) := by decide +kernel
theorem dX4_guessIsBelow_25 : decode cX4_guessIsBelow 25 = .ok (.ifCond .ge 7, 3) := by decide +kernel
theorem dX4_guessIsBelow_28 : decode cX4_guessIsBelow 28 = .ok (.iconst 1, 1) := by decide +kernel
theorem dX4_guessIsBelow_29 : decode cX4_guessIsBelow 29 = .ok (.goto 4, 3) := by decide +kernel
theorem dX4_guessIsBelow_32 : decode cX4_guessIsBelow 32 = .ok (.iconst 0, 1) := by decide +kernel
theorem dX4_guessIsBelow_33 : decode cX4_guessIsBelow 33 = .ok (.ireturn, 1) := by decide +kernel
theorem dX5_init_0 : decode cX5_init 0 = .ok (.aload_n 0, 1) := by decide +kernel
theorem dX5_init_1 : decode cX5_init 1 = .ok (.invokespecial 3, 3) := by decide +kernel
theorem dX5_init_4 : decode cX5_init 4 = .ok (.aload_n 0, 1) := by decide +kernel
theorem dX5_init_5 : decode cX5_init 5 = .ok (.bipush 40, 2) := by decide +kernel
theorem dX5_init_7 : decode cX5_init 7 = .ok (.newarray .int, 2) := by decide +kernel
theorem dX5_init_9 : decode cX5_init 9 = .ok (.putfield 9, 3) := by decide +kernel
theorem dX5_init_12 : decode cX5_init 12 = .ok (.aload_n 0, 1) := by decide +kernel
theorem dX5_init_13 : decode cX5_init 13 = .ok (.bipush 42, 2) := by decide +kernel
theorem dX5_init_15 : decode cX5_init 15 = .ok (.newarray .int, 2) := by decide +kernel
theorem dX5_init_17 : decode cX5_init 17 = .ok (.putfield 15, 3) := by decide +kernel
theorem dX5_init_20 : decode cX5_init 20 = .ok (.return_, 1) := by decide +kernel
theorem dX5_add_0 : decode cX5_add 0 = .ok (.aload_n 0, 1) := by decide +kernel
theorem dX5_add_1 : decode cX5_add 1 = .ok (.getfield 18, 3) := by decide +kernel
theorem dX5_add_4 : decode cX5_add 4 = .ok (.bipush 40, 2) := by decide +kernel
theorem dX5_add_6 : decode cX5_add 6 = .ok (.if_icmp .lt 6, 3) := by decide +kernel
theorem dX5_add_9 : decode cX5_add 9 = .ok (.bipush (-4), 2) := by decide +kernel
theorem dX5_add_11 : decode cX5_add 11 = .ok (.ireturn, 1) := by decide +kernel
theorem dX5_add_12 : decode cX5_add 12 = .ok (.aload_n 0, 1) := by decide +kernel
theorem dX5_add_13 : decode cX5_add 13 = .ok (.getfield 9, 3) := by decide +kernel
theorem dX5_add_16 : decode cX5_add 16 = .ok (.aload_n 0, 1) := by decide +kernel
theorem dX5_add_17 : decode cX5_add 17 = .ok (.getfield 18, 3) := by decide +kernel
theorem dX5_add_20 : decode cX5_add 20 = .ok (.iload_n 1, 1) := by decide +kernel
theorem dX5_add_21 : decode cX5_add 21 = .ok (.iastore, 1) := by decide +kernel
theorem dX5_add_22 : decode cX5_add 22 = .ok (.aload_n 0, 1) := by decide +kernel
theorem dX5_add_23 : decode cX5_add 23 = .ok (.dup, 1) := by decide +kernel
theorem dX5_add_24 : decode cX5_add 24 = .ok (.getfield 18, 3) := by decide +kernel
theorem dX5_add_27 : decode cX5_add 27 = .ok (.iconst 1, 1) := by decide +kernel
theorem dX5_add_28 : decode cX5_add 28 = .ok (.iadd, 1) := by decide +kernel
theorem dX5_add_29 : decode cX5_add 29 = .ok (.putfield 18, 3) := by decide +kernel
theorem dX5_add_32 : decode cX5_add 32 = .ok (.aload_n 0, 1) := by decide +kernel
theorem dX5_add_33 : decode cX5_add 33 = .ok (.getfield 18, 3) := by decide +kernel
theorem dX5_add_36 : decode cX5_add 36 = .ok (.ireturn, 1) := by decide +kernel
theorem dX5_textsOf_0 : decode cX5_textsOf 0 = .ok (.iload_n 0, 1) := by decide +kernel
theorem dX5_textsOf_1 : decode cX5_textsOf 1 = .ok (.bipush 97, 2) := by decide +kernel
theorem dX5_textsOf_3 : decode cX5_textsOf 3 = .ok (.if_icmp .lt 11, 3) := by decide +kernel
theorem dX5_textsOf_6 : decode cX5_textsOf 6 = .ok (.iload_n 0, 1) := by decide +kernel
theorem dX5_textsOf_7 : decode cX5_textsOf 7 = .ok (.bipush 109, 2) := by decide +kernel
theorem dX5_textsOf_9 : decode cX5_textsOf 9 = .ok (.if_icmp .ge 5, 3) := by decide +kernel
theorem dX5_textsOf_12 : decode cX5_textsOf 12 = .ok (.iconst 0, 1) := by decide +kernel
theorem dX5_textsOf_13 : decode cX5_textsOf 13 = .ok (.ireturn, 1) := by decide +kernel
theorem dX5_textsOf_14 : decode cX5_textsOf 14 = .ok (.iload_n 0, 1) := by decide +kernel
theorem dX5_textsOf_15 : decode cX5_textsOf 15 = .ok (.lookupswitch 37 #[(33, 33), (38, 35), (124, 35)], 33) := by decide +kernel
theorem dX5_textsOf_48 : decode cX5_textsOf 48 = .ok (.iconst 1, 1) := by decide +kernel
theorem dX5_textsOf_49 : decode cX5_textsOf 49 = .ok (.ireturn, 1) := by decide +kernel
theorem dX5_textsOf_50 : decode cX5_textsOf 50 = .ok (.iconst 2, 1) := by decide +kernel
theorem dX5_textsOf_51 : decode cX5_textsOf 51 = .ok (.ireturn, 1) := by decide +kernel
theorem dX5_textsOf_52 : decode cX5_textsOf 52 = .ok (.iconst (-1), 1) := by decide +kernel
theorem dX5_textsOf_53 : decode cX5_textsOf 53 = .ok (.ireturn, 1) := by decide +kernel
theorem dX5_firstFault_0 : decode cX5_firstFault 0 = .ok (.iconst 1, 1) := by decide +kernel
theorem dX5_firstFault_1 : decode cX5_firstFault 1 = .ok (.istore_n 1, 1) := by decide +kernel
theorem dX5_firstFault_2 : decode cX5_firstFault 2 = .ok (.aload_n 0, 1) := by decide +kernel
theorem dX5_firstFault_3 : decode cX5_firstFault 3 = .ok (.getfield 15, 3) := by decide +kernel
theorem dX5_firstFault_6 : decode cX5_firstFault 6 = .ok (.iconst 0, 1) := by decide +kernel
theorem dX5_firstFault_7 : decode cX5_firstFault 7 = .ok (.iconst 0, 1) := by decide +kernel
theorem dX5_firstFault_8 : decode cX5_firstFault 8 = .ok (.iastore, 1) := by decide +kernel
theorem dX5_firstFault_9 : decode cX5_firstFault 9 = .ok (.iconst 0, 1) := by decide +kernel
theorem dX5_firstFault_10 : decode cX5_firstFault 10 = .ok (.istore_n 2, 1) := by decide +kernel
theorem dX5_firstFault_11 : decode cX5_firstFault 11 = .ok (.iload_n 2, 1) := by decide +kernel
theorem dX5_firstFault_12 : decode cX5_firstFault 12 = .ok (.aload_n 0, 1) := by decide +kernel
theorem dX5_firstFault_13 : decode cX5_firstFault 13 = .ok (.getfield 18, 3) := by decide +kernel
theorem dX5_firstFault_16 : decode cX5_firstFault 16 = .ok (.if_icmp .ge 83, 3) := by decide +kernel
theorem dX5_firstFault_19 : decode cX5_firstFault 19 = .ok (.iload_n 1, 1) := by decide +kernel
theorem dX5_firstFault_20 : decode cX5_firstFault 20 = .ok (.ifCond .ne 5, 3) := by decide +kernel
theorem dX5_firstFault_23 : decode cX5_firstFault 23 = .ok (.iload_n 2, 1) := by decide +kernel
theorem dX5_firstFault_24 : decode cX5_firstFault 24 = .ok (.ireturn, 1) := by decide +kernel
theorem dX5_firstFault_25 : decode cX5_firstFault 25 = .ok (.iinc 1 (-1), 3) := by decide +kernel
theorem dX5_firstFault_28 : decode cX5_firstFault 28 = .ok (.aload_n 0, 1) := by decide +kernel
theorem dX5_firstFault_29 : decode cX5_firstFault 29 = .ok (.getfield 15, 3) := by decide +kernel
theorem dX5_firstFault_32 : decode cX5_firstFault 32 = .ok (.iload_n 1, 1) := by decide +kernel
theorem dX5_firstFault_33 : decode cX5_firstFault 33 = .ok (.iaload, 1) := by decide +kernel
end
section
theorem dX5_firstFault_34 : decode cX5_firstFault 34 = .ok (.istore_n 3, 1) := by decide +kernel
theorem dX5_firstFault_35 : decode cX5_firstFault 35 = .ok (.aload_n 0, 1) := by decide +kernel
theorem dX5_firstFault_36 : decode cX5_firstFault 36 = .ok (.getfield 9, 3) := by decide +kernel
theorem dX5_firstFault_39 : decode cX5_firstFault 39 = .ok (.iload_n 2, 1) := by decide +kernel
theorem dX5_firstFault_40 : decode cX5_firstFault 40 = .ok (.iaload, 1) := by decide +kernel
theorem dX5_firstFault_41 : decode cX5_firstFault 41 = .ok (.invokestatic 22, 3) := by decide +kernel
theorem dX5_firstFault_44 : decode cX5_firstFault 44 = .ok (.istore 4, 2) := by decide +kernel
theorem dX5_firstFault_46 : decode cX5_firstFault 46 = .ok (.iload 4, 2) := by decide +kernel
theorem dX5_firstFault_48 : decode cX5_firstFault 48 = .ok (.iconst (-1), 1) := by decide +kernel
theorem dX5_firstFault_49 : decode cX5_firstFault 49 = .ok (.if_icmp .eq 14, 3) := by decide +kernel
theorem dX5_firstFault_52 : decode cX5_firstFault 52 = .ok (.iload 4, 2) := by decide +kernel
theorem dX5_firstFault_54 : decode cX5_firstFault 54 = .ok (.ifCond .le 11, 3) := by decide +kernel
theorem dX5_firstFault_57 : decode cX5_firstFault 57 = .ok (.iload_n 3, 1) := by decide +kernel
theorem dX5_firstFault_58 : decode cX5_firstFault 58 = .ok (.bipush 9, 2) := by decide +kernel
theorem dX5_firstFault_60 : decode cX5_firstFault 60 = .ok (.if_icmp .lt 5, 3) := by decide +kernel
theorem dX5_firstFault_63 : decode cX5_firstFault 63 = .ok (.iload_n 2, 1) := by decide +kernel
theorem dX5_firstFault_64 : decode cX5_firstFault 64 = .ok (.ireturn, 1) := by decide +kernel
theorem dX5_firstFault_65 : decode cX5_firstFault 65 = .ok (.iconst 0, 1) := by decide +kernel
theorem dX5_firstFault_66 : decode cX5_firstFault 66 = .ok (.istore 5, 2) := by decide +kernel
theorem dX5_firstFault_68 : decode cX5_firstFault 68 = .ok (.iload 5, 2) := by decide +kernel
theorem dX5_firstFault_70 : decode cX5_firstFault 70 = .ok (.iload 4, 2) := by decide +kernel
theorem dX5_firstFault_72 : decode cX5_firstFault 72 = .ok (.if_icmp .ge 21, 3) := by decide +kernel
theorem dX5_firstFault_75 : decode cX5_firstFault 75 = .ok (.aload_n 0, 1) := by decide +kernel
theorem dX5_firstFault_76 : decode cX5_firstFault 76 = .ok (.getfield 15, 3) := by decide +kernel
theorem dX5_firstFault_79 : decode cX5_firstFault 79 = .ok (.iload_n 1, 1) := by decide +kernel
theorem dX5_firstFault_80 : decode cX5_firstFault 80 = .ok (.iload_n 3, 1) := by decide +kernel
theorem dX5_firstFault_81 : decode cX5_firstFault 81 = .ok (.iconst 1, 1) := by decide +kernel
theorem dX5_firstFault_82 : decode cX5_firstFault 82 = .ok (.iadd, 1) := by decide +kernel
theorem dX5_firstFault_83 : decode cX5_firstFault 83 = .ok (.iastore, 1) := by decide +kernel
theorem dX5_firstFault_84 : decode cX5_firstFault 84 = .ok (.iinc 1 1, 3) := by decide +kernel
theorem dX5_firstFault_87 : decode cX5_firstFault 87 = .ok (.iinc 5 1, 3) := by decide +kernel
theorem dX5_firstFault_90 : decode cX5_firstFault 90 = .ok (.goto (-22), 3) := by decide +kernel
theorem dX5_firstFault_93 : decode cX5_firstFault 93 = .ok (.iinc 2 1, 3) := by decide +kernel
theorem dX5_firstFault_96 : decode cX5_firstFault 96 = .ok (.goto (-85), 3) := by decide +kernel
theorem dX5_firstFault_99 : decode cX5_firstFault 99 = .ok (.iload_n 1, 1) := by decide +kernel
theorem dX5_firstFault_100 : decode cX5_firstFault 100 = .ok (.ifCond .ne 8, 3) := by decide +kernel
theorem dX5_firstFault_103 : decode cX5_firstFault 103 = .ok (.bipush (-6), 2) := by decide +kernel
theorem dX5_firstFault_105 : decode cX5_firstFault 105 = .ok (.goto 7, 3) := by decide +kernel
theorem dX5_firstFault_108 : decode cX5_firstFault 108 = .ok (.aload_n 0, 1) := by decide +kernel
theorem dX5_firstFault_109 : decode cX5_firstFault 109 = .ok (.getfield 18, 3) := by decide +kernel
theorem dX5_firstFault_112 : decode cX5_firstFault 112 = .ok (.ireturn, 1) := by decide +kernel
theorem dX6_init_0 : decode cX6_init 0 = .ok (.aload_n 0, 1) := by decide +kernel
theorem dX6_init_1 : decode cX6_init 1 = .ok (.invokespecial 3, 3) := by decide +kernel
theorem dX6_init_4 : decode cX6_init 4 = .ok (.aload_n 0, 1) := by decide +kernel
theorem dX6_init_5 : decode cX6_init 5 = .ok (.bipush 64, 2) := by decide +kernel
theorem dX6_init_7 : decode cX6_init 7 = .ok (.newarray .long, 2) := by decide +kernel
theorem dX6_init_9 : decode cX6_init 9 = .ok (.putfield 9, 3) := by decide +kernel
theorem dX6_init_12 : decode cX6_init 12 = .ok (.aload_n 0, 1) := by decide +kernel
theorem dX6_init_13 : decode cX6_init 13 = .ok (.bipush 40, 2) := by decide +kernel
theorem dX6_init_15 : decode cX6_init 15 = .ok (.newarray .long, 2) := by decide +kernel
theorem dX6_init_17 : decode cX6_init 17 = .ok (.putfield 15, 3) := by decide +kernel
theorem dX6_init_20 : decode cX6_init 20 = .ok (.return_, 1) := by decide +kernel
theorem dX6_take_0 : decode cX6_take 0 = .ok (.aload_n 0, 1) := by decide +kernel
theorem dX6_take_1 : decode cX6_take 1 = .ok (.aload_n 1, 1) := by decide +kernel
theorem dX6_take_2 : decode cX6_take 2 = .ok (.getfield 18, 3) := by decide +kernel
theorem dX6_take_5 : decode cX6_take 5 = .ok (.putfield 24, 3) := by decide +kernel
theorem dX6_take_8 : decode cX6_take 8 = .ok (.iconst 0, 1) := by decide +kernel
theorem dX6_take_9 : decode cX6_take 9 = .ok (.istore_n 2, 1) := by decide +kernel
theorem dX6_take_10 : decode cX6_take 10 = .ok (.iload_n 2, 1) := by decide +kernel
theorem dX6_take_11 : decode cX6_take 11 = .ok (.bipush 64, 2) := by decide +kernel
theorem dX6_take_13 : decode cX6_take 13 = .ok (.if_icmp .ge 21, 3) := by decide +kernel
theorem dX6_take_16 : decode cX6_take 16 = .ok (.aload_n 0, 1) := by decide +kernel
theorem dX6_take_17 : decode cX6_take 17 = .ok (.getfield 9, 3) := by decide +kernel
theorem dX6_take_20 : decode cX6_take 20 = .ok (.iload_n 2, 1) := by decide +kernel
theorem dX6_take_21 : decode cX6_take 21 = .ok (.aload_n 0, 1) := by decide +kernel
theorem dX6_take_22 : decode cX6_take 22 = .ok (.aload_n 1, 1) := by decide +kernel
theorem dX6_take_23 : decode cX6_take 23 = .ok (.iload_n 2, 1) := by decide +kernel
theorem dX6_take_24 : decode cX6_take 24 = .ok (.invokevirtual 25, 3) := by decide +kernel
theorem dX6_take_27 : decode cX6_take 27 = .ok (.lastore, 1) := by decide +kernel
theorem dX6_take_28 : decode cX6_take 28 = .ok (.iinc 2 1, 3) := by decide +kernel
theorem dX6_take_31 : decode cX6_take 31 = .ok (.goto (-21), 3) := by decide +kernel
theorem dX6_take_34 : decode cX6_take 34 = .ok (.return_, 1) := by decide +kernel
theorem dX6_valueOf_0 : decode cX6_valueOf 0 = .ok (.iconst 0, 1) := by decide +kernel
theorem dX6_valueOf_1 : decode cX6_valueOf 1 = .ok (.istore_n 3, 1) := by decide +kernel
theorem dX6_valueOf_2 : decode cX6_valueOf 2 = .ok (.aload_n 1, 1) := by decide +kernel
theorem dX6_valueOf_3 : decode cX6_valueOf 3 = .ok (.getfield 18, 3) := by decide +kernel
theorem dX6_valueOf_6 : decode cX6_valueOf 6 = .ok (.iconst 1, 1) := by decide +kernel
theorem dX6_valueOf_7 : decode cX6_valueOf 7 = .ok (.isub, 1) := by decide +kernel
theorem dX6_valueOf_8 : decode cX6_valueOf 8 = .ok (.istore 4, 2) := by decide +kernel
theorem dX6_valueOf_10 : decode cX6_valueOf 10 = .ok (.iload 4, 2) := by decide +kernel
theorem dX6_valueOf_12 : decode cX6_valueOf 12 = .ok (.ifCond .lt 143, 3) := by decide +kernel
theorem dX6_valueOf_15 : decode cX6_valueOf 15 = .ok (.aload_n 1, 1) := by decide +kernel
theorem dX6_valueOf_16 : decode cX6_valueOf 16 = .ok (.getfield 29, 3) := by decide +kernel
theorem dX6_valueOf_19 : decode cX6_valueOf 19 = .ok (.iload 4, 2) := by decide +kernel
theorem dX6_valueOf_21 : decode cX6_valueOf 21 = .ok (.iaload, 1) := by decide +kernel
theorem dX6_valueOf_22 : decode cX6_valueOf 22 = .ok (.istore 5, 2) := by decide +kernel
theorem dX6_valueOf_24 : decode cX6_valueOf 24 = .ok (.iload 5, 2) := by decide +kernel
theorem dX6_valueOf_26 : decode cX6_valueOf 26 = .ok (.invokestatic 33, 3) := by decide +kernel
theorem dX6_valueOf_29 : decode cX6_valueOf 29 = .ok (.istore 6, 2) := by decide +kernel
theorem dX6_valueOf_31 : decode cX6_valueOf 31 = .ok (.iload 6, 2) := by decide +kernel
theorem dX6_valueOf_33 : decode cX6_valueOf 33 = .ok (.iconst (-1), 1) := by decide +kernel
theorem dX6_valueOf_34 : decode cX6_valueOf 34 = .ok (.if_icmp .eq 9, 3) := by decide +kernel
theorem dX6_valueOf_37 : decode cX6_valueOf 37 = .ok (.iload 6, 2) := by decide +kernel
theorem dX6_valueOf_39 : decode cX6_valueOf 39 = .ok (.iload_n 3, 1) := by decide +kernel
theorem dX6_valueOf_40 : decode cX6_valueOf 40 = .ok (.if_icmp .le 5, 3) := by decide +kernel
theorem dX6_valueOf_43 : decode cX6_valueOf 43 = .ok (.lconst 0, 1) := by decide +kernel
theorem dX6_valueOf_44 : decode cX6_valueOf 44 = .ok (.lreturn, 1) := by decide +kernel
theorem dX6_valueOf_45 : decode cX6_valueOf 45 = .ok (.iload 6, 2) := by decide +kernel
theorem dX6_valueOf_47 : decode cX6_valueOf 47 = .ok (.ifCond .ne 24, 3) := by decide +kernel
theorem dX6_valueOf_50 : decode cX6_valueOf 50 = .ok (.aload_n 0, 1) := by decide +kernel
theorem dX6_valueOf_51 : decode cX6_valueOf 51 = .ok (.getfield 15, 3) := by decide +kernel
theorem dX6_valueOf_54 : decode cX6_valueOf 54 = .ok (.iload_n 3, 1) := by decide +kernel
theorem dX6_valueOf_55 : decode cX6_valueOf 55 = .ok (.iload 5, 2) := by decide +kernel
theorem dX6_valueOf_57 : decode cX6_valueOf 57 = .ok (.bipush 97, 2) := by decide +kernel
theorem dX6_valueOf_59 : decode cX6_valueOf 59 = .ok (.isub, 1) := by decide +kernel
theorem dX6_valueOf_60 : decode cX6_valueOf 60 = .ok (.iload_n 2, 1) := by decide +kernel
theorem dX6_valueOf_61 : decode cX6_valueOf 61 = .ok (.invokestatic 37, 3) := by decide +kernel
theorem dX6_valueOf_64 : decode cX6_valueOf 64 = .ok (.lastore, 1) := by decide +kernel
theorem dX6_valueOf_65 : decode cX6_valueOf 65 = .ok (.iinc 3 1, 3) := by decide +kernel
theorem dX6_valueOf_68 : decode cX6_valueOf 68 = .ok (.goto 81, 3) := by decide +kernel
theorem dX6_valueOf_71 : decode cX6_valueOf 71 = .ok (.iload 6, 2) := by decide +kernel
theorem dX6_valueOf_73 : decode cX6_valueOf 73 = .ok (.iconst 1, 1) := by decide +kernel
theorem dX6_valueOf_74 : decode cX6_valueOf 74 = .ok (.if_icmp .ne 26, 3) := by decide +kernel
theorem dX6_valueOf_77 : decode cX6_valueOf 77 = .ok (.aload_n 0, 1) := by decide +kernel
theorem dX6_valueOf_78 : decode cX6_valueOf 78 = .ok (.getfield 15, 3) := by decide +kernel
theorem dX6_valueOf_81 : decode cX6_valueOf 81 = .ok (.iload_n 3, 1) := by decide +kernel
theorem dX6_valueOf_82 : decode cX6_valueOf 82 = .ok (.iconst 1, 1) := by decide +kernel
theorem dX6_valueOf_83 : decode cX6_valueOf 83 = .ok (.isub, 1) := by decide +kernel
theorem dX6_valueOf_84 : decode cX6_valueOf 84 = .ok (.aload_n 0, 1) := by decide +kernel
theorem dX6_valueOf_85 : decode cX6_valueOf 85 = .ok (.getfield 15, 3) := by decide +kernel
theorem dX6_valueOf_88 : decode cX6_valueOf 88 = .ok (.iload_n 3, 1) := by decide +kernel
theorem dX6_valueOf_89 : decode cX6_valueOf 89 = .ok (.iconst 1, 1) := by decide +kernel
theorem dX6_valueOf_90 : decode cX6_valueOf 90 = .ok (.isub, 1) := by decide +kernel
theorem dX6_valueOf_91 : decode cX6_valueOf 91 = .ok (.laload, 1) := by decide +kernel
theorem dX6_valueOf_92 : decode cX6_valueOf 92 = .ok (.ldc2_w 41, 3) := by decide +kernel
theorem dX6_valueOf_95 : decode cX6_valueOf 95 = .ok (.lxor, 1) := by decide +kernel
theorem dX6_valueOf_96 : decode cX6_valueOf 96 = .ok (.lastore, 1) := by decide +kernel
theorem dX6_valueOf_97 : decode cX6_valueOf 97 = .ok (.goto 52, 3) := by decide +kernel
theorem dX6_valueOf_100 : decode cX6_valueOf 100 = .ok (.iinc 3 (-1), 3) := by decide +kernel
theorem dX6_valueOf_103 : decode cX6_valueOf 103 = .ok (.aload_n 0, 1) := by decide +kernel
theorem dX6_valueOf_104 : decode cX6_valueOf 104 = .ok (.getfield 15, 3) := by decide +kernel
theorem dX6_valueOf_107 : decode cX6_valueOf 107 = .ok (.iload_n 3, 1) := by decide +kernel
theorem dX6_valueOf_108 : decode cX6_valueOf 108 = .ok (.laload, 1) := by decide +kernel
theorem dX6_valueOf_109 : decode cX6_valueOf 109 = .ok (.lstore 7, 2) := by decide +kernel
theorem dX6_valueOf_111 : decode cX6_valueOf 111 = .ok (.aload_n 0, 1) := by decide +kernel
theorem dX6_valueOf_112 : decode cX6_valueOf 112 = .ok (.getfield 15, 3) := by decide +kernel
theorem dX6_valueOf_115 : decode cX6_valueOf 115 = .ok (.iload_n 3, 1) := by decide +kernel
theorem dX6_valueOf_116 : decode cX6_valueOf 116 = .ok (.iconst 1, 1) := by decide +kernel
theorem dX6_valueOf_117 : decode cX6_valueOf 117 = .ok (.isub, 1) := by decide +kernel
theorem dX6_valueOf_118 : decode cX6_valueOf 118 = .ok (.laload, 1) := by decide +kernel
theorem dX6_valueOf_119 : decode cX6_valueOf 119 = .ok (.lstore 9, 2) := by decide +kernel
theorem dX6_valueOf_121 : decode cX6_valueOf 121 = .ok (.aload_n 0, 1) := by decide +kernel
theorem dX6_valueOf_122 : decode cX6_valueOf 122 = .ok (.getfield 15, 3) := by decide +kernel
theorem dX6_valueOf_125 : decode cX6_valueOf 125 = .ok (.iload_n 3, 1) := by decide +kernel
theorem dX6_valueOf_126 : decode cX6_valueOf 126 = .ok (.iconst 1, 1) := by decide +kernel
theorem dX6_valueOf_127 : decode cX6_valueOf 127 = .ok (.isub, 1) := by decide +kernel
theorem dX6_valueOf_128 : decode cX6_valueOf 128 = .ok (.iload 5, 2) := by decide +kernel
theorem dX6_valueOf_130 : decode cX6_valueOf 130 = .ok (.bipush 38, 2) := by decide +kernel
theorem dX6_valueOf_132 : decode cX6_valueOf 132 = .ok (.if_icmp .ne 11, 3) := by decide +kernel
theorem dX6_valueOf_135 : decode cX6_valueOf 135 = .ok (.lload 7, 2) := by decide +kernel
theorem dX6_valueOf_137 : decode cX6_valueOf 137 = .ok (.lload 9, 2) := by decide +kernel
theorem dX6_valueOf_139 : decode cX6_valueOf 139 = .ok (.land, 1) := by decide +kernel
theorem dX6_valueOf_140 : decode cX6_valueOf 140 = .ok (.goto 8, 3) := by decide +kernel
theorem dX6_valueOf_143 : decode cX6_valueOf 143 = .ok (.lload 7, 2) := by decide +kernel
theorem dX6_valueOf_145 : decode cX6_valueOf 145 = .ok (.lload 9, 2) := by decide +kernel
theorem dX6_valueOf_147 : decode cX6_valueOf 147 = .ok (.lor, 1) := by decide +kernel
theorem dX6_valueOf_148 : decode cX6_valueOf 148 = .ok (.lastore, 1) := by decide +kernel
theorem dX6_valueOf_149 : decode cX6_valueOf 149 = .ok (.iinc 4 (-1), 3) := by decide +kernel
theorem dX6_valueOf_152 : decode cX6_valueOf 152 = .ok (.goto (-142), 3) := by decide +kernel
theorem dX6_valueOf_155 : decode cX6_valueOf 155 = .ok (.iload_n 3, 1) := by decide +kernel
theorem dX6_valueOf_156 : decode cX6_valueOf 156 = .ok (.iconst 1, 1) := by decide +kernel
theorem dX6_valueOf_157 : decode cX6_valueOf 157 = .ok (.if_icmp .ne 12, 3) := by decide +kernel
theorem dX6_valueOf_160 : decode cX6_valueOf 160 = .ok (.aload_n 0, 1) := by decide +kernel
theorem dX6_valueOf_161 : decode cX6_valueOf 161 = .ok (.getfield 15, 3) := by decide +kernel
theorem dX6_valueOf_164 : decode cX6_valueOf 164 = .ok (.iconst 0, 1) := by decide +kernel
theorem dX6_valueOf_165 : decode cX6_valueOf 165 = .ok (.laload, 1) := by decide +kernel
theorem dX6_valueOf_166 : decode cX6_valueOf 166 = .ok (.goto 4, 3) := by decide +kernel
theorem dX6_valueOf_169 : decode cX6_valueOf 169 = .ok (.lconst 0, 1) := by decide +kernel
theorem dX6_valueOf_170 : decode cX6_valueOf 170 = .ok (.lreturn, 1) := by decide +kernel
theorem dX7_init_0 : decode cX7_init 0 = .ok (.aload_n 0, 1) := by decide +kernel
theorem dX7_init_1 : decode cX7_init 1 = .ok (.invokespecial 3, 3) := by decide +kernel
theorem dX7_init_4 : decode cX7_init 4 = .ok (.aload_n 0, 1) := by decide +kernel
theorem dX7_init_5 : decode cX7_init 5 = .ok (.new 9, 3) := by decide +kernel
theorem dX7_init_8 : decode cX7_init 8 = .ok (.dup, 1) := by decide +kernel
theorem dX7_init_9 : decode cX7_init 9 = .ok (.invokespecial 11, 3) := by decide +kernel
theorem dX7_init_12 : decode cX7_init 12 = .ok (.putfield 12, 3) := by decide +kernel
theorem dX7_init_15 : decode cX7_init 15 = .ok (.aload_n 0, 1) := by decide +kernel
theorem dX7_init_16 : decode cX7_init 16 = .ok (.new 16, 3) := by decide +kernel
theorem dX7_init_19 : decode cX7_init 19 = .ok (.dup, 1) := by decide +kernel
theorem dX7_init_20 : decode cX7_init 20 = .ok (.invokespecial 18, 3) := by decide +kernel
theorem dX7_init_23 : decode cX7_init 23 = .ok (.putfield 19, 3) := by decide +kernel
theorem dX7_init_26 : decode cX7_init 26 = .ok (.aload_n 0, 1) := by decide +kernel
theorem dX7_init_27 : decode cX7_init 27 = .ok (.new 23, 3) := by decide +kernel
theorem dX7_init_30 : decode cX7_init 30 = .ok (.dup, 1) := by decide +kernel
theorem dX7_init_31 : decode cX7_init 31 = .ok (.aload_n 0, 1) := by decide +kernel
theorem dX7_init_32 : decode cX7_init 32 = .ok (.getfield 12, 3) := by decide +kernel
theorem dX7_init_35 : decode cX7_init 35 = .ok (.aload_n 0, 1) := by decide +kernel
theorem dX7_init_36 : decode cX7_init 36 = .ok (.getfield 19, 3) := by decide +kernel
theorem dX7_init_39 : decode cX7_init 39 = .ok (.invokespecial 25, 3) := by decide +kernel
theorem dX7_init_42 : decode cX7_init 42 = .ok (.putfield 28, 3) := by decide +kernel
theorem dX7_init_45 : decode cX7_init 45 = .ok (.aload_n 0, 1) := by decide +kernel
theorem dX7_init_46 : decode cX7_init 46 = .ok (.new 32, 3) := by decide +kernel
theorem dX7_init_49 : decode cX7_init 49 = .ok (.dup, 1) := by decide +kernel
theorem dX7_init_50 : decode cX7_init 50 = .ok (.aload_n 0, 1) := by decide +kernel
theorem dX7_init_51 : decode cX7_init 51 = .ok (.getfield 12, 3) := by decide +kernel
theorem dX7_init_54 : decode cX7_init 54 = .ok (.iconst 0, 1) := by decide +kernel
theorem dX7_init_55 : decode cX7_init 55 = .ok (.invokespecial 34, 3) := by decide +kernel
theorem dX7_init_58 : decode cX7_init 58 = .ok (.putfield 37, 3) := by decide +kernel
theorem dX7_init_61 : decode cX7_init 61 = .ok (.aload_n 0, 1) := by decide +kernel
theorem dX7_init_62 : decode cX7_init 62 = .ok (.new 32, 3) := by decide +kernel
theorem dX7_init_65 : decode cX7_init 65 = .ok (.dup, 1) := by decide +kernel
theorem dX7_init_66 : decode cX7_init 66 = .ok (.aload_n 0, 1) := by decide +kernel
theorem dX7_init_67 : decode cX7_init 67 = .ok (.getfield 12, 3) := by decide +kernel
theorem dX7_init_70 : decode cX7_init 70 = .ok (.iconst 1, 1) := by decide +kernel
theorem dX7_init_71 : decode cX7_init 71 = .ok (.invokespecial 34, 3) := by decide +kernel
theorem dX7_init_74 : decode cX7_init 74 = .ok (.putfield 41, 3) := by decide +kernel
theorem dX7_init_77 : decode cX7_init 77 = .ok (.aload_n 0, 1) := by decide +kernel
theorem dX7_init_78 : decode cX7_init 78 = .ok (.new 44, 3) := by decide +kernel
theorem dX7_init_81 : decode cX7_init 81 = .ok (.dup, 1) := by decide +kernel
theorem dX7_init_82 : decode cX7_init 82 = .ok (.invokespecial 46, 3) := by decide +kernel
theorem dX7_init_85 : decode cX7_init 85 = .ok (.putfield 47, 3) := by decide +kernel
theorem dX7_init_88 : decode cX7_init 88 = .ok (.aload_n 0, 1) := by decide +kernel
theorem dX7_init_89 : decode cX7_init 89 = .ok (.new 51, 3) := by decide +kernel
theorem dX7_init_92 : decode cX7_init 92 = .ok (.dup, 1) := by decide +kernel
theorem dX7_init_93 : decode cX7_init 93 = .ok (.invokespecial 53, 3) := by decide +kernel
theorem dX7_init_96 : decode cX7_init 96 = .ok (.putfield 54, 3) := by decide +kernel
theorem dX7_init_99 : decode cX7_init 99 = .ok (.aload_n 0, 1) := by decide +kernel
theorem dX7_init_100 : decode cX7_init 100 = .ok (.new 58, 3) := by decide +kernel
theorem dX7_init_103 : decode cX7_init 103 = .ok (.dup, 1) := by decide +kernel
theorem dX7_init_104 : decode cX7_init 104 = .ok (.aload_n 0, 1) := by decide +kernel
theorem dX7_init_105 : decode cX7_init 105 = .ok (.getfield 12, 3) := by decide +kernel
theorem dX7_init_108 : decode cX7_init 108 = .ok (.aload_n 0, 1) := by decide +kernel
theorem dX7_init_109 : decode cX7_init 109 = .ok (.getfield 54, 3) := by decide +kernel
theorem dX7_init_112 : decode cX7_init 112 = .ok (.invokespecial 60, 3) := by decide +kernel
theorem dX7_init_115 : decode cX7_init 115 = .ok (.putfield 63, 3) := by decide +kernel
theorem dX7_init_118 : decode cX7_init 118 = .ok (.return_, 1) := by decide +kernel
theorem dX7_version_0 : decode cX7_version 0 = .ok (.aload_n 0, 1) := by decide +kernel
theorem dX7_version_1 : decode cX7_version 1 = .ok (.getfield 12, 3) := by decide +kernel
theorem dX7_version_4 : decode cX7_version 4 = .ok (.iload_n 1, 1) := by decide +kernel
theorem dX7_version_5 : decode cX7_version 5 = .ok (.iload_n 2, 1) := by decide +kernel
theorem dX7_version_6 : decode cX7_version 6 = .ok (.invokevirtual 67, 3) := by decide +kernel
theorem dX7_version_9 : decode cX7_version 9 = .ok (.ifCond .ne 5, 3) := by decide +kernel
theorem dX7_version_12 : decode cX7_version 12 = .ok (.iconst (-1), 1) := by decide +kernel
theorem dX7_version_13 : decode cX7_version 13 = .ok (.ireturn, 1) := by decide +kernel
theorem dX7_version_14 : decode cX7_version 14 = .ok (.iload_n 3, 1) := by decide +kernel
theorem dX7_version_15 : decode cX7_version 15 = .ok (.iconst 1, 1) := by decide +kernel
theorem dX7_version_16 : decode cX7_version 16 = .ok (.bipush 9, 2) := by decide +kernel
theorem dX7_version_18 : decode cX7_version 18 = .ok (.invokestatic 71, 3) := by decide +kernel
theorem dX7_version_21 : decode cX7_version 21 = .ok (.ifCond .ne 6, 3) := by decide +kernel
theorem dX7_version_24 : decode cX7_version 24 = .ok (.bipush (-2), 2) := by decide +kernel
theorem dX7_version_26 : decode cX7_version 26 = .ok (.ireturn, 1) := by decide +kernel
theorem dX7_version_27 : decode cX7_version 27 = .ok (.aload_n 0, 1) := by decide +kernel
theorem dX7_version_28 : decode cX7_version 28 = .ok (.getfield 12, 3) := by decide +kernel
theorem dX7_version_31 : decode cX7_version 31 = .ok (.getfield 75, 3) := by decide +kernel
theorem dX7_version_34 : decode cX7_version 34 = .ok (.bipush 12, 2) := by decide +kernel
theorem dX7_version_36 : decode cX7_version 36 = .ok (.if_icmp .lt 6, 3) := by decide +kernel
theorem dX7_version_39 : decode cX7_version 39 = .ok (.bipush (-4), 2) := by decide +kernel
theorem dX7_version_41 : decode cX7_version 41 = .ok (.ireturn, 1) := by decide +kernel
theorem dX7_version_42 : decode cX7_version 42 = .ok (.aload_n 0, 1) := by decide +kernel
theorem dX7_version_43 : decode cX7_version 43 = .ok (.invokevirtual 79, 3) := by decide +kernel
theorem dX7_version_46 : decode cX7_version 46 = .ok (.aload_n 0, 1) := by decide +kernel
theorem dX7_version_47 : decode cX7_version 47 = .ok (.getfield 12, 3) := by decide +kernel
theorem dX7_version_50 : decode cX7_version 50 = .ok (.iload_n 1, 1) := by decide +kernel
theorem dX7_version_51 : decode cX7_version 51 = .ok (.iload_n 2, 1) := by decide +kernel
theorem dX7_version_52 : decode cX7_version 52 = .ok (.iload_n 3, 1) := by decide +kernel
theorem dX7_version_53 : decode cX7_version 53 = .ok (.invokevirtual 82, 3) := by decide +kernel
theorem dX7_version_56 : decode cX7_version 56 = .ok (.ireturn, 1) := by decide +kernel
theorem dX7_has_0 : decode cX7_has 0 = .ok (.aload_n 0, 1) := by decide +kernel
theorem dX7_has_1 : decode cX7_has 1 = .ok (.getfield 12, 3) := by decide +kernel
theorem dX7_has_4 : decode cX7_has 4 = .ok (.iload_n 1, 1) := by decide +kernel
theorem dX7_has_5 : decode cX7_has 5 = .ok (.invokevirtual 86, 3) := by decide +kernel
theorem dX7_has_8 : decode cX7_has 8 = .ok (.ifCond .eq 15, 3) := by decide +kernel
theorem dX7_has_11 : decode cX7_has 11 = .ok (.aload_n 0, 1) := by decide +kernel
theorem dX7_has_12 : decode cX7_has 12 = .ok (.getfield 12, 3) := by decide +kernel
theorem dX7_has_15 : decode cX7_has 15 = .ok (.getfield 90, 3) := by decide +kernel
theorem dX7_has_18 : decode cX7_has 18 = .ok (.iload_n 1, 1) := by decide +kernel
theorem dX7_has_19 : decode cX7_has 19 = .ok (.iaload, 1) := by decide +kernel
theorem dX7_has_20 : decode cX7_has 20 = .ok (.goto 4, 3) := by decide +kernel
theorem dX7_has_23 : decode cX7_has 23 = .ok (.iconst (-1), 1) := by decide +kernel
theorem dX7_has_24 : decode cX7_has 24 = .ok (.ireturn, 1) := by decide +kernel
theorem dX7_set_0 : decode cX7_set 0 = .ok (.aload_n 0, 1) := by decide +kernel
theorem dX7_set_1 : decode cX7_set 1 = .ok (.getfield 12, 3) := by decide +kernel
theorem dX7_set_4 : decode cX7_set 4 = .ok (.iload_n 1, 1) := by decide +kernel
theorem dX7_set_5 : decode cX7_set 5 = .ok (.invokevirtual 86, 3) := by decide +kernel
theorem dX7_set_8 : decode cX7_set 8 = .ok (.ifCond .ne 5, 3) := by decide +kernel
theorem dX7_set_11 : decode cX7_set 11 = .ok (.iconst (-1), 1) := by decide +kernel
theorem dX7_set_12 : decode cX7_set 12 = .ok (.ireturn, 1) := by decide +kernel
theorem dX7_set_13 : decode cX7_set 13 = .ok (.aload_n 0, 1) := by decide +kernel
theorem dX7_set_14 : decode cX7_set 14 = .ok (.getfield 12, 3) := by decide +kernel
theorem dX7_set_17 : decode cX7_set 17 = .ok (.iload_n 1, 1) := by decide +kernel
theorem dX7_set_18 : decode cX7_set 18 = .ok (.iload_n 2, 1) := by decide +kernel
theorem dX7_set_19 : decode cX7_set 19 = .ok (.iload_n 3, 1) := by decide +kernel
theorem dX7_set_20 : decode cX7_set 20 = .ok (.invokevirtual 94, 3) := by decide +kernel
theorem dX7_set_23 : decode cX7_set 23 = .ok (.ifCond .ne 6, 3) := by decide +kernel
theorem dX7_set_26 : decode cX7_set 26 = .ok (.bipush (-2), 2) := by decide +kernel
theorem dX7_set_28 : decode cX7_set 28 = .ok (.ireturn, 1) := by decide +kernel
theorem dX7_set_29 : decode cX7_set 29 = .ok (.iload_n 2, 1) := by decide +kernel
theorem dX7_set_30 : decode cX7_set 30 = .ok (.iconst 3, 1) := by decide +kernel
theorem dX7_set_31 : decode cX7_set 31 = .ok (.if_icmp .ne 22, 3) := by decide +kernel
theorem dX7_set_34 : decode cX7_set 34 = .ok (.iload_n 3, 1) := by decide +kernel
theorem dX7_set_35 : decode cX7_set 35 = .ok (.iconst 1, 1) := by decide +kernel
theorem dX7_set_36 : decode cX7_set 36 = .ok (.if_icmp .ne 17, 3) := by decide +kernel
theorem dX7_set_39 : decode cX7_set 39 = .ok (.aload_n 0, 1) := by decide +kernel
theorem dX7_set_40 : decode cX7_set 40 = .ok (.getfield 19, 3) := by decide +kernel
theorem dX7_set_43 : decode cX7_set 43 = .ok (.iload_n 1, 1) := by decide +kernel
theorem dX7_set_44 : decode cX7_set 44 = .ok (.invokevirtual 97, 3) := by decide +kernel
theorem dX7_set_47 : decode cX7_set 47 = .ok (.ifCond .eq 6, 3) := by decide +kernel
theorem dX7_set_50 : decode cX7_set 50 = .ok (.bipush (-3), 2) := by decide +kernel
theorem dX7_set_52 : decode cX7_set 52 = .ok (.ireturn, 1) := by decide +kernel
theorem dX7_set_53 : decode cX7_set 53 = .ok (.aload_n 0, 1) := by decide +kernel
theorem dX7_set_54 : decode cX7_set 54 = .ok (.invokevirtual 79, 3) := by decide +kernel
theorem dX7_set_57 : decode cX7_set 57 = .ok (.aload_n 0, 1) := by decide +kernel
theorem dX7_set_58 : decode cX7_set 58 = .ok (.getfield 12, 3) := by decide +kernel
theorem dX7_set_61 : decode cX7_set 61 = .ok (.iload_n 2, 1) := by decide +kernel
theorem dX7_set_62 : decode cX7_set 62 = .ok (.invokevirtual 100, 3) := by decide +kernel
theorem dX7_set_65 : decode cX7_set 65 = .ok (.iload_n 1, 1) := by decide +kernel
theorem dX7_set_66 : decode cX7_set 66 = .ok (.iload_n 3, 1) := by decide +kernel
theorem dX7_set_67 : decode cX7_set 67 = .ok (.invokestatic 104, 3) := by decide +kernel
theorem dX7_set_70 : decode cX7_set 70 = .ok (.ireturn, 1) := by decide +kernel
theorem dX7_trust_0 : decode cX7_trust 0 = .ok (.iload_n 1, 1) := by decide +kernel
theorem dX7_trust_1 : decode cX7_trust 1 = .ok (.iconst 0, 1) := by decide +kernel
theorem dX7_trust_2 : decode cX7_trust 2 = .ok (.iconst 4, 1) := by decide +kernel
theorem dX7_trust_3 : decode cX7_trust 3 = .ok (.invokestatic 71, 3) := by decide +kernel
theorem dX7_trust_6 : decode cX7_trust 6 = .ok (.ifCond .eq 22, 3) := by decide +kernel
theorem dX7_trust_9 : decode cX7_trust 9 = .ok (.iload_n 2, 1) := by decide +kernel
theorem dX7_trust_10 : decode cX7_trust 10 = .ok (.iconst 0, 1) := by decide +kernel
theorem dX7_trust_11 : decode cX7_trust 11 = .ok (.iload_n 1, 1) := by decide +kernel
theorem dX7_trust_12 : decode cX7_trust 12 = .ok (.iconst 2, 1) := by decide +kernel
theorem dX7_trust_13 : decode cX7_trust 13 = .ok (.if_icmp .ge 7, 3) := by decide +kernel
theorem dX7_trust_16 : decode cX7_trust 16 = .ok (.iconst 5, 1) := by decide +kernel
theorem dX7_trust_17 : decode cX7_trust 17 = .ok (.goto 5, 3) := by decide +kernel
theorem dX7_trust_20 : decode cX7_trust 20 = .ok (.bipush 9, 2) := by decide +kernel
theorem dX7_trust_22 : decode cX7_trust 22 = .ok (.invokestatic 71, 3) := by decide +kernel
theorem dX7_trust_25 : decode cX7_trust 25 = .ok (.ifCond .ne 6, 3) := by decide +kernel
theorem dX7_trust_28 : decode cX7_trust 28 = .ok (.bipush (-2), 2) := by decide +kernel
theorem dX7_trust_30 : decode cX7_trust 30 = .ok (.ireturn, 1) := by decide +kernel
theorem dX7_trust_31 : decode cX7_trust 31 = .ok (.aload_n 0, 1) := by decide +kernel
theorem dX7_trust_32 : decode cX7_trust 32 = .ok (.getfield 28, 3) := by decide +kernel
theorem dX7_trust_35 : decode cX7_trust 35 = .ok (.getfield 108, 3) := by decide +kernel
theorem dX7_trust_38 : decode cX7_trust 38 = .ok (.iload_n 1, 1) := by decide +kernel
theorem dX7_trust_39 : decode cX7_trust 39 = .ok (.iload_n 2, 1) := by decide +kernel
theorem dX7_trust_40 : decode cX7_trust 40 = .ok (.invokestatic 104, 3) := by decide +kernel
theorem dX7_trust_43 : decode cX7_trust 43 = .ok (.ireturn, 1) := by decide +kernel
theorem dX7_test_0 : decode cX7_test 0 = .ok (.aload_n 0, 1) := by decide +kernel
theorem dX7_test_1 : decode cX7_test 1 = .ok (.getfield 12, 3) := by decide +kernel
theorem dX7_test_4 : decode cX7_test 4 = .ok (.iload_n 1, 1) := by decide +kernel
theorem dX7_test_5 : decode cX7_test 5 = .ok (.invokevirtual 86, 3) := by decide +kernel
theorem dX7_test_8 : decode cX7_test 8 = .ok (.ifCond .ne 5, 3) := by decide +kernel
theorem dX7_test_11 : decode cX7_test 11 = .ok (.iconst (-1), 1) := by decide +kernel
theorem dX7_test_12 : decode cX7_test 12 = .ok (.ireturn, 1) := by decide +kernel
theorem dX7_test_13 : decode cX7_test 13 = .ok (.aload_n 0, 1) := by decide +kernel
theorem dX7_test_14 : decode cX7_test 14 = .ok (.getfield 12, 3) := by decide +kernel
theorem dX7_test_17 : decode cX7_test 17 = .ok (.iload_n 1, 1) := by decide +kernel
theorem dX7_test_18 : decode cX7_test 18 = .ok (.invokevirtual 111, 3) := by decide +kernel
theorem dX7_test_21 : decode cX7_test 21 = .ok (.ifCond .ne 6, 3) := by decide +kernel
theorem dX7_test_24 : decode cX7_test 24 = .ok (.bipush (-3), 2) := by decide +kernel
theorem dX7_test_26 : decode cX7_test 26 = .ok (.ireturn, 1) := by decide +kernel
theorem dX7_test_27 : decode cX7_test 27 = .ok (.aload_n 0, 1) := by decide +kernel
theorem dX7_test_28 : decode cX7_test 28 = .ok (.getfield 19, 3) := by decide +kernel
theorem dX7_test_31 : decode cX7_test 31 = .ok (.iload_n 1, 1) := by decide +kernel
theorem dX7_test_32 : decode cX7_test 32 = .ok (.iload_n 2, 1) := by decide +kernel
theorem dX7_test_33 : decode cX7_test 33 = .ok (.invokevirtual 114, 3) := by decide +kernel
theorem dX7_test_36 : decode cX7_test 36 = .ok (.ireturn, 1) := by decide +kernel
theorem dX7_tested_0 : decode cX7_tested 0 = .ok (.iload_n 1, 1) := by decide +kernel
theorem dX7_tested_1 : decode cX7_tested 1 = .ok (.iconst 0, 1) := by decide +kernel
theorem dX7_tested_2 : decode cX7_tested 2 = .ok (.aload_n 0, 1) := by decide +kernel
theorem dX7_tested_3 : decode cX7_tested 3 = .ok (.getfield 19, 3) := by decide +kernel
theorem dX7_tested_6 : decode cX7_tested 6 = .ok (.getfield 117, 3) := by decide +kernel
theorem dX7_tested_9 : decode cX7_tested 9 = .ok (.iconst 1, 1) := by decide +kernel
theorem dX7_tested_10 : decode cX7_tested 10 = .ok (.isub, 1) := by decide +kernel
theorem dX7_tested_11 : decode cX7_tested 11 = .ok (.invokestatic 71, 3) := by decide +kernel
theorem dX7_tested_14 : decode cX7_tested 14 = .ok (.ifCond .ne 5, 3) := by decide +kernel
theorem dX7_tested_17 : decode cX7_tested 17 = .ok (.iconst (-1), 1) := by decide +kernel
theorem dX7_tested_18 : decode cX7_tested 18 = .ok (.ireturn, 1) := by decide +kernel
theorem dX7_tested_19 : decode cX7_tested 19 = .ok (.iload_n 2, 1) := by decide +kernel
theorem dX7_tested_20 : decode cX7_tested 20 = .ok (.iconst 0, 1) := by decide +kernel
theorem dX7_tested_21 : decode cX7_tested 21 = .ok (.iconst 1, 1) := by decide +kernel
theorem dX7_tested_22 : decode cX7_tested 22 = .ok (.invokestatic 71, 3) := by decide +kernel
theorem dX7_tested_25 : decode cX7_tested 25 = .ok (.ifCond .ne 6, 3) := by decide +kernel
theorem dX7_tested_28 : decode cX7_tested 28 = .ok (.bipush (-2), 2) := by decide +kernel
theorem dX7_tested_30 : decode cX7_tested 30 = .ok (.ireturn, 1) := by decide +kernel
theorem dX7_tested_31 : decode cX7_tested 31 = .ok (.iload_n 2, 1) := by decide +kernel
theorem dX7_tested_32 : decode cX7_tested 32 = .ok (.ifCond .ne 15, 3) := by decide +kernel
theorem dX7_tested_35 : decode cX7_tested 35 = .ok (.aload_n 0, 1) := by decide +kernel
theorem dX7_tested_36 : decode cX7_tested 36 = .ok (.getfield 19, 3) := by decide +kernel
theorem dX7_tested_39 : decode cX7_tested 39 = .ok (.getfield 118, 3) := by decide +kernel
theorem dX7_tested_42 : decode cX7_tested 42 = .ok (.iload_n 1, 1) := by decide +kernel
theorem dX7_tested_43 : decode cX7_tested 43 = .ok (.iaload, 1) := by decide +kernel
theorem dX7_tested_44 : decode cX7_tested 44 = .ok (.goto 15, 3) := by decide +kernel
theorem dX7_tested_47 : decode cX7_tested 47 = .ok (.aload_n 0, 1) := by decide +kernel
theorem dX7_tested_48 : decode cX7_tested 48 = .ok (.getfield 19, 3) := by decide +kernel
theorem dX7_tested_51 : decode cX7_tested 51 = .ok (.getfield 121, 3) := by decide +kernel
theorem dX7_tested_54 : decode cX7_tested 54 = .ok (.iload_n 1, 1) := by decide +kernel
theorem dX7_tested_55 : decode cX7_tested 55 = .ok (.baload, 1) := by decide +kernel
theorem dX7_tested_56 : decode cX7_tested 56 = .ok (.invokestatic 125, 3) := by decide +kernel
theorem dX7_tested_59 : decode cX7_tested 59 = .ok (.ireturn, 1) := by decide +kernel
theorem dX7_untest_0 : decode cX7_untest 0 = .ok (.aload_n 0, 1) := by decide +kernel
theorem dX7_untest_1 : decode cX7_untest 1 = .ok (.getfield 19, 3) := by decide +kernel
theorem dX7_untest_4 : decode cX7_untest 4 = .ok (.getfield 117, 3) := by decide +kernel
theorem dX7_untest_7 : decode cX7_untest 7 = .ok (.iconst 1, 1) := by decide +kernel
theorem dX7_untest_8 : decode cX7_untest 8 = .ok (.if_icmp .ge 6, 3) := by decide +kernel
theorem dX7_untest_11 : decode cX7_untest 11 = .ok (.bipush (-5), 2) := by decide +kernel
theorem dX7_untest_13 : decode cX7_untest 13 = .ok (.ireturn, 1) := by decide +kernel
theorem dX7_untest_14 : decode cX7_untest 14 = .ok (.aload_n 0, 1) := by decide +kernel
theorem dX7_untest_15 : decode cX7_untest 15 = .ok (.getfield 19, 3) := by decide +kernel
theorem dX7_untest_18 : decode cX7_untest 18 = .ok (.dup, 1) := by decide +kernel
theorem dX7_untest_19 : decode cX7_untest 19 = .ok (.getfield 117, 3) := by decide +kernel
theorem dX7_untest_22 : decode cX7_untest 22 = .ok (.iconst 1, 1) := by decide +kernel
theorem dX7_untest_23 : decode cX7_untest 23 = .ok (.isub, 1) := by decide +kernel
theorem dX7_untest_24 : decode cX7_untest 24 = .ok (.putfield 117, 3) := by decide +kernel
theorem dX7_untest_27 : decode cX7_untest 27 = .ok (.aload_n 0, 1) := by decide +kernel
theorem dX7_untest_28 : decode cX7_untest 28 = .ok (.getfield 19, 3) := by decide +kernel
theorem dX7_untest_31 : decode cX7_untest 31 = .ok (.getfield 117, 3) := by decide +kernel
theorem dX7_untest_34 : decode cX7_untest 34 = .ok (.ireturn, 1) := by decide +kernel
theorem dX7_weight_0 : decode cX7_weight 0 = .ok (.aload_n 0, 1) := by decide +kernel
theorem dX7_weight_1 : decode cX7_weight 1 = .ok (.iload_n 1, 1) := by decide +kernel
theorem dX7_weight_2 : decode cX7_weight 2 = .ok (.iload_n 2, 1) := by decide +kernel
theorem dX7_weight_3 : decode cX7_weight 3 = .ok (.iload_n 3, 1) := by decide +kernel
theorem dX7_weight_4 : decode cX7_weight 4 = .ok (.invokevirtual 129, 3) := by decide +kernel
theorem dX7_weight_7 : decode cX7_weight 7 = .ok (.istore 4, 2) := by decide +kernel
theorem dX7_weight_9 : decode cX7_weight 9 = .ok (.iload 4, 2) := by decide +kernel
theorem dX7_weight_11 : decode cX7_weight 11 = .ok (.ifCond .ne 16, 3) := by decide +kernel
theorem dX7_weight_14 : decode cX7_weight 14 = .ok (.aload_n 0, 1) := by decide +kernel
theorem dX7_weight_15 : decode cX7_weight 15 = .ok (.getfield 28, 3) := by decide +kernel
theorem dX7_weight_18 : decode cX7_weight 18 = .ok (.iload_n 1, 1) := by decide +kernel
theorem dX7_weight_19 : decode cX7_weight 19 = .ok (.iload_n 2, 1) := by decide +kernel
theorem dX7_weight_20 : decode cX7_weight 20 = .ok (.iload_n 3, 1) := by decide +kernel
theorem dX7_weight_21 : decode cX7_weight 21 = .ok (.invokevirtual 132, 3) := by decide +kernel
theorem dX7_weight_24 : decode cX7_weight 24 = .ok (.goto 10, 3) := by decide +kernel
theorem dX7_weight_27 : decode cX7_weight 27 = .ok (.ldc2_w 136, 3) := by decide +kernel
theorem dX7_weight_30 : decode cX7_weight 30 = .ok (.iload 4, 2) := by decide +kernel
theorem dX7_weight_32 : decode cX7_weight 32 = .ok (.i2l, 1) := by decide +kernel
theorem dX7_weight_33 : decode cX7_weight 33 = .ok (.ladd, 1) := by decide +kernel
theorem dX7_weight_34 : decode cX7_weight 34 = .ok (.lreturn, 1) := by decide +kernel
theorem dX7_odds_0 : decode cX7_odds 0 = .ok (.aload_n 0, 1) := by decide +kernel
theorem dX7_odds_1 : decode cX7_odds 1 = .ok (.iload_n 1, 1) := by decide +kernel
theorem dX7_odds_2 : decode cX7_odds 2 = .ok (.iload_n 2, 1) := by decide +kernel
theorem dX7_odds_3 : decode cX7_odds 3 = .ok (.iload_n 3, 1) := by decide +kernel
theorem dX7_odds_4 : decode cX7_odds 4 = .ok (.invokevirtual 129, 3) := by decide +kernel
theorem dX7_odds_7 : decode cX7_odds 7 = .ok (.istore 5, 2) := by decide +kernel
theorem dX7_odds_9 : decode cX7_odds 9 = .ok (.iload 5, 2) := by decide +kernel
theorem dX7_odds_11 : decode cX7_odds 11 = .ok (.ifCond .eq 11, 3) := by decide +kernel
theorem dX7_odds_14 : decode cX7_odds 14 = .ok (.ldc2_w 136, 3) := by decide +kernel
theorem dX7_odds_17 : decode cX7_odds 17 = .ok (.iload 5, 2) := by decide +kernel
theorem dX7_odds_19 : decode cX7_odds 19 = .ok (.i2l, 1) := by decide +kernel
theorem dX7_odds_20 : decode cX7_odds 20 = .ok (.ladd, 1) := by decide +kernel
theorem dX7_odds_21 : decode cX7_odds 21 = .ok (.lreturn, 1) := by decide +kernel
theorem dX7_odds_22 : decode cX7_odds 22 = .ok (.iload 4, 2) := by decide +kernel
theorem dX7_odds_24 : decode cX7_odds 24 = .ok (.iconst 0, 1) := by decide +kernel
theorem dX7_odds_25 : decode cX7_odds 25 = .ok (.iconst 1, 1) := by decide +kernel
theorem dX7_odds_26 : decode cX7_odds 26 = .ok (.invokestatic 71, 3) := by decide +kernel
theorem dX7_odds_29 : decode cX7_odds 29 = .ok (.ifCond .ne 7, 3) := by decide +kernel
theorem dX7_odds_32 : decode cX7_odds 32 = .ok (.ldc2_w 138, 3) := by decide +kernel
theorem dX7_odds_35 : decode cX7_odds 35 = .ok (.lreturn, 1) := by decide +kernel
theorem dX7_odds_36 : decode cX7_odds 36 = .ok (.aload_n 0, 1) := by decide +kernel
theorem dX7_odds_37 : decode cX7_odds 37 = .ok (.getfield 28, 3) := by decide +kernel
theorem dX7_odds_40 : decode cX7_odds 40 = .ok (.invokevirtual 140, 3) := by decide +kernel
theorem dX7_odds_43 : decode cX7_odds 43 = .ok (.aload_n 0, 1) := by decide +kernel
theorem dX7_odds_44 : decode cX7_odds 44 = .ok (.getfield 28, 3) := by decide +kernel
theorem dX7_odds_47 : decode cX7_odds 47 = .ok (.iload_n 1, 1) := by decide +kernel
theorem dX7_odds_48 : decode cX7_odds 48 = .ok (.iload_n 2, 1) := by decide +kernel
theorem dX7_odds_49 : decode cX7_odds 49 = .ok (.iload_n 3, 1) := by decide +kernel
theorem dX7_odds_50 : decode cX7_odds 50 = .ok (.invokevirtual 132, 3) := by decide +kernel
theorem dX7_odds_53 : decode cX7_odds 53 = .ok (.aload_n 0, 1) := by decide +kernel
theorem dX7_odds_54 : decode cX7_odds 54 = .ok (.getfield 28, 3) := by decide +kernel
theorem dX7_odds_57 : decode cX7_odds 57 = .ok (.getfield 143, 3) := by decide +kernel
theorem dX7_odds_60 : decode cX7_odds 60 = .ok (.iload 4, 2) := by decide +kernel
theorem dX7_odds_62 : decode cX7_odds 62 = .ok (.invokestatic 147, 3) := by decide +kernel
theorem dX7_odds_65 : decode cX7_odds 65 = .ok (.lreturn, 1) := by decide +kernel
theorem dX7_sorts_0 : decode cX7_sorts 0 = .ok (.iload_n 1, 1) := by decide +kernel
theorem dX7_sorts_1 : decode cX7_sorts 1 = .ok (.iconst 0, 1) := by decide +kernel
theorem dX7_sorts_2 : decode cX7_sorts 2 = .ok (.iconst 2, 1) := by decide +kernel
theorem dX7_sorts_3 : decode cX7_sorts 3 = .ok (.invokestatic 71, 3) := by decide +kernel
theorem dX7_sorts_6 : decode cX7_sorts 6 = .ok (.ifCond .eq 12, 3) := by decide +kernel
theorem dX7_sorts_9 : decode cX7_sorts 9 = .ok (.iload_n 2, 1) := by decide +kernel
theorem dX7_sorts_10 : decode cX7_sorts 10 = .ok (.iconst 0, 1) := by decide +kernel
theorem dX7_sorts_11 : decode cX7_sorts 11 = .ok (.iconst 1, 1) := by decide +kernel
theorem dX7_sorts_12 : decode cX7_sorts 12 = .ok (.invokestatic 71, 3) := by decide +kernel
theorem dX7_sorts_15 : decode cX7_sorts 15 = .ok (.ifCond .ne 7, 3) := by decide +kernel
theorem dX7_sorts_18 : decode cX7_sorts 18 = .ok (.ldc2_w 138, 3) := by decide +kernel
theorem dX7_sorts_21 : decode cX7_sorts 21 = .ok (.lreturn, 1) := by decide +kernel
theorem dX7_sorts_22 : decode cX7_sorts 22 = .ok (.aload_n 0, 1) := by decide +kernel
theorem dX7_sorts_23 : decode cX7_sorts 23 = .ok (.getfield 28, 3) := by decide +kernel
theorem dX7_sorts_26 : decode cX7_sorts 26 = .ok (.invokevirtual 140, 3) := by decide +kernel
theorem dX7_sorts_29 : decode cX7_sorts 29 = .ok (.aload_n 0, 1) := by decide +kernel
theorem dX7_sorts_30 : decode cX7_sorts 30 = .ok (.getfield 28, 3) := by decide +kernel
theorem dX7_sorts_33 : decode cX7_sorts 33 = .ok (.iload_n 1, 1) := by decide +kernel
theorem dX7_sorts_34 : decode cX7_sorts 34 = .ok (.invokevirtual 151, 3) := by decide +kernel
theorem dX7_sorts_37 : decode cX7_sorts 37 = .ok (.aload_n 0, 1) := by decide +kernel
theorem dX7_sorts_38 : decode cX7_sorts 38 = .ok (.getfield 28, 3) := by decide +kernel
theorem dX7_sorts_41 : decode cX7_sorts 41 = .ok (.getfield 143, 3) := by decide +kernel
theorem dX7_sorts_44 : decode cX7_sorts 44 = .ok (.iload_n 2, 1) := by decide +kernel
theorem dX7_sorts_45 : decode cX7_sorts 45 = .ok (.invokestatic 147, 3) := by decide +kernel
theorem dX7_sorts_48 : decode cX7_sorts 48 = .ok (.lreturn, 1) := by decide +kernel
theorem dX7_blame_0 : decode cX7_blame 0 = .ok (.aload_n 0, 1) := by decide +kernel
theorem dX7_blame_1 : decode cX7_blame 1 = .ok (.getfield 12, 3) := by decide +kernel
theorem dX7_blame_4 : decode cX7_blame 4 = .ok (.iload_n 1, 1) := by decide +kernel
theorem dX7_blame_5 : decode cX7_blame 5 = .ok (.invokevirtual 86, 3) := by decide +kernel
theorem dX7_blame_8 : decode cX7_blame 8 = .ok (.ifCond .ne 7, 3) := by decide +kernel
theorem dX7_blame_11 : decode cX7_blame 11 = .ok (.ldc2_w 155, 3) := by decide +kernel
theorem dX7_blame_14 : decode cX7_blame 14 = .ok (.lreturn, 1) := by decide +kernel
theorem dX7_blame_15 : decode cX7_blame 15 = .ok (.iload_n 2, 1) := by decide +kernel
theorem dX7_blame_16 : decode cX7_blame 16 = .ok (.iconst 0, 1) := by decide +kernel
theorem dX7_blame_17 : decode cX7_blame 17 = .ok (.iconst 1, 1) := by decide +kernel
theorem dX7_blame_18 : decode cX7_blame 18 = .ok (.invokestatic 71, 3) := by decide +kernel
theorem dX7_blame_21 : decode cX7_blame 21 = .ok (.ifCond .ne 7, 3) := by decide +kernel
theorem dX7_blame_24 : decode cX7_blame 24 = .ok (.ldc2_w 138, 3) := by decide +kernel
theorem dX7_blame_27 : decode cX7_blame 27 = .ok (.lreturn, 1) := by decide +kernel
theorem dX7_blame_28 : decode cX7_blame 28 = .ok (.aload_n 0, 1) := by decide +kernel
theorem dX7_blame_29 : decode cX7_blame 29 = .ok (.getfield 28, 3) := by decide +kernel
theorem dX7_blame_32 : decode cX7_blame 32 = .ok (.invokevirtual 140, 3) := by decide +kernel
theorem dX7_blame_35 : decode cX7_blame 35 = .ok (.aload_n 0, 1) := by decide +kernel
theorem dX7_blame_36 : decode cX7_blame 36 = .ok (.getfield 28, 3) := by decide +kernel
theorem dX7_blame_39 : decode cX7_blame 39 = .ok (.iload_n 1, 1) := by decide +kernel
theorem dX7_blame_40 : decode cX7_blame 40 = .ok (.invokevirtual 157, 3) := by decide +kernel
theorem dX7_blame_43 : decode cX7_blame 43 = .ok (.aload_n 0, 1) := by decide +kernel
theorem dX7_blame_44 : decode cX7_blame 44 = .ok (.getfield 28, 3) := by decide +kernel
theorem dX7_blame_47 : decode cX7_blame 47 = .ok (.getfield 143, 3) := by decide +kernel
theorem dX7_blame_50 : decode cX7_blame 50 = .ok (.iload_n 2, 1) := by decide +kernel
theorem dX7_blame_51 : decode cX7_blame 51 = .ok (.invokestatic 147, 3) := by decide +kernel
theorem dX7_blame_54 : decode cX7_blame 54 = .ok (.lreturn, 1) := by decide +kernel
theorem dX7_guess_0 : decode cX7_guess 0 = .ok (.iload_n 1, 1) := by decide +kernel
theorem dX7_guess_1 : decode cX7_guess 1 = .ok (.iconst 0, 1) := by decide +kernel
theorem dX7_guess_2 : decode cX7_guess 2 = .ok (.iconst 2, 1) := by decide +kernel
theorem dX7_guess_3 : decode cX7_guess 3 = .ok (.invokestatic 71, 3) := by decide +kernel
theorem dX7_guess_6 : decode cX7_guess 6 = .ok (.ifCond .ne 6, 3) := by decide +kernel
theorem dX7_guess_9 : decode cX7_guess 9 = .ok (.bipush (-2), 2) := by decide +kernel
theorem dX7_guess_11 : decode cX7_guess 11 = .ok (.ireturn, 1) := by decide +kernel
theorem dX7_guess_12 : decode cX7_guess 12 = .ok (.aload_n 0, 1) := by decide +kernel
theorem dX7_guess_13 : decode cX7_guess 13 = .ok (.getfield 28, 3) := by decide +kernel
theorem dX7_guess_16 : decode cX7_guess 16 = .ok (.invokevirtual 140, 3) := by decide +kernel
theorem dX7_guess_19 : decode cX7_guess 19 = .ok (.aload_n 0, 1) := by decide +kernel
theorem dX7_guess_20 : decode cX7_guess 20 = .ok (.getfield 28, 3) := by decide +kernel
theorem dX7_guess_23 : decode cX7_guess 23 = .ok (.getfield 143, 3) := by decide +kernel
theorem dX7_guess_26 : decode cX7_guess 26 = .ok (.lconst 0, 1) := by decide +kernel
theorem dX7_guess_27 : decode cX7_guess 27 = .ok (.lcmp, 1) := by decide +kernel
theorem dX7_guess_28 : decode cX7_guess 28 = .ok (.ifCond .ne 6, 3) := by decide +kernel
theorem dX7_guess_31 : decode cX7_guess 31 = .ok (.bipush (-5), 2) := by decide +kernel
theorem dX7_guess_33 : decode cX7_guess 33 = .ok (.ireturn, 1) := by decide +kernel
theorem dX7_guess_34 : decode cX7_guess 34 = .ok (.aload_n 0, 1) := by decide +kernel
theorem dX7_guess_35 : decode cX7_guess 35 = .ok (.getfield 28, 3) := by decide +kernel
theorem dX7_guess_38 : decode cX7_guess 38 = .ok (.getfield 160, 3) := by decide +kernel
theorem dX7_guess_41 : decode cX7_guess 41 = .ok (.istore_n 2, 1) := by decide +kernel
theorem dX7_guess_42 : decode cX7_guess 42 = .ok (.iload_n 2, 1) := by decide +kernel
theorem dX7_guess_43 : decode cX7_guess 43 = .ok (.invokestatic 163, 3) := by decide +kernel
theorem dX7_guess_46 : decode cX7_guess 46 = .ok (.istore_n 3, 1) := by decide +kernel
theorem dX7_guess_47 : decode cX7_guess 47 = .ok (.iload_n 1, 1) := by decide +kernel
theorem dX7_guess_48 : decode cX7_guess 48 = .ok (.lookupswitch 35 #[(0, 28), (1, 30)], 28) := by decide +kernel
theorem dX7_guess_76 : decode cX7_guess 76 = .ok (.iload_n 3, 1) := by decide +kernel
theorem dX7_guess_77 : decode cX7_guess 77 = .ok (.ireturn, 1) := by decide +kernel
theorem dX7_guess_78 : decode cX7_guess 78 = .ok (.iload_n 2, 1) := by decide +kernel
theorem dX7_guess_79 : decode cX7_guess 79 = .ok (.invokestatic 167, 3) := by decide +kernel
theorem dX7_guess_82 : decode cX7_guess 82 = .ok (.ireturn, 1) := by decide +kernel
theorem dX7_guess_83 : decode cX7_guess 83 = .ok (.iload_n 3, 1) := by decide +kernel
theorem dX7_guess_84 : decode cX7_guess 84 = .ok (.ifCond .ne 8, 3) := by decide +kernel
theorem dX7_guess_87 : decode cX7_guess 87 = .ok (.bipush (-6), 2) := by decide +kernel
theorem dX7_guess_89 : decode cX7_guess 89 = .ok (.goto 7, 3) := by decide +kernel
theorem dX7_guess_92 : decode cX7_guess 92 = .ok (.iload_n 2, 1) := by decide +kernel
theorem dX7_guess_93 : decode cX7_guess 93 = .ok (.invokestatic 170, 3) := by decide +kernel
theorem dX7_guess_96 : decode cX7_guess 96 = .ok (.ireturn, 1) := by decide +kernel
theorem dX7_hope_0 : decode cX7_hope 0 = .ok (.aload_n 0, 1) := by decide +kernel
theorem dX7_hope_1 : decode cX7_hope 1 = .ok (.getfield 12, 3) := by decide +kernel
theorem dX7_hope_4 : decode cX7_hope 4 = .ok (.iload_n 1, 1) := by decide +kernel
theorem dX7_hope_5 : decode cX7_hope 5 = .ok (.invokevirtual 111, 3) := by decide +kernel
theorem dX7_hope_8 : decode cX7_hope 8 = .ok (.ifCond .ne 7, 3) := by decide +kernel
theorem dX7_hope_11 : decode cX7_hope 11 = .ok (.ldc2_w 155, 3) := by decide +kernel
theorem dX7_hope_14 : decode cX7_hope 14 = .ok (.lreturn, 1) := by decide +kernel
theorem dX7_hope_15 : decode cX7_hope 15 = .ok (.iload_n 2, 1) := by decide +kernel
theorem dX7_hope_16 : decode cX7_hope 16 = .ok (.iconst 0, 1) := by decide +kernel
theorem dX7_hope_17 : decode cX7_hope 17 = .ok (.iconst 1, 1) := by decide +kernel
theorem dX7_hope_18 : decode cX7_hope 18 = .ok (.invokestatic 71, 3) := by decide +kernel
theorem dX7_hope_21 : decode cX7_hope 21 = .ok (.ifCond .ne 7, 3) := by decide +kernel
theorem dX7_hope_24 : decode cX7_hope 24 = .ok (.ldc2_w 138, 3) := by decide +kernel
theorem dX7_hope_27 : decode cX7_hope 27 = .ok (.lreturn, 1) := by decide +kernel
theorem dX7_hope_28 : decode cX7_hope 28 = .ok (.aload_n 0, 1) := by decide +kernel
theorem dX7_hope_29 : decode cX7_hope 29 = .ok (.getfield 28, 3) := by decide +kernel
theorem dX7_hope_32 : decode cX7_hope 32 = .ok (.invokevirtual 140, 3) := by decide +kernel
theorem dX7_hope_35 : decode cX7_hope 35 = .ok (.aload_n 0, 1) := by decide +kernel
theorem dX7_hope_36 : decode cX7_hope 36 = .ok (.getfield 28, 3) := by decide +kernel
theorem dX7_hope_39 : decode cX7_hope 39 = .ok (.iload_n 1, 1) := by decide +kernel
theorem dX7_hope_40 : decode cX7_hope 40 = .ok (.invokevirtual 173, 3) := by decide +kernel
theorem dX7_hope_43 : decode cX7_hope 43 = .ok (.ldc2_w 176, 3) := by decide +kernel
theorem dX7_hope_46 : decode cX7_hope 46 = .ok (.aload_n 0, 1) := by decide +kernel
theorem dX7_hope_47 : decode cX7_hope 47 = .ok (.getfield 28, 3) := by decide +kernel
theorem dX7_hope_50 : decode cX7_hope 50 = .ok (.getfield 143, 3) := by decide +kernel
theorem dX7_hope_53 : decode cX7_hope 53 = .ok (.lmul, 1) := by decide +kernel
theorem dX7_hope_54 : decode cX7_hope 54 = .ok (.iload_n 2, 1) := by decide +kernel
theorem dX7_hope_55 : decode cX7_hope 55 = .ok (.invokestatic 147, 3) := by decide +kernel
theorem dX7_hope_58 : decode cX7_hope 58 = .ok (.lreturn, 1) := by decide +kernel
theorem dX7_next_0 : decode cX7_next 0 = .ok (.iload_n 1, 1) := by decide +kernel
theorem dX7_next_1 : decode cX7_next 1 = .ok (.iconst 0, 1) := by decide +kernel
theorem dX7_next_2 : decode cX7_next 2 = .ok (.iconst 1, 1) := by decide +kernel
theorem dX7_next_3 : decode cX7_next 3 = .ok (.invokestatic 71, 3) := by decide +kernel
theorem dX7_next_6 : decode cX7_next 6 = .ok (.ifCond .ne 6, 3) := by decide +kernel
theorem dX7_next_9 : decode cX7_next 9 = .ok (.bipush (-2), 2) := by decide +kernel
theorem dX7_next_11 : decode cX7_next 11 = .ok (.ireturn, 1) := by decide +kernel
theorem dX7_next_12 : decode cX7_next 12 = .ok (.aload_n 0, 1) := by decide +kernel
theorem dX7_next_13 : decode cX7_next 13 = .ok (.getfield 28, 3) := by decide +kernel
theorem dX7_next_16 : decode cX7_next 16 = .ok (.invokevirtual 140, 3) := by decide +kernel
theorem dX7_next_19 : decode cX7_next 19 = .ok (.aload_n 0, 1) := by decide +kernel
theorem dX7_next_20 : decode cX7_next 20 = .ok (.getfield 28, 3) := by decide +kernel
theorem dX7_next_23 : decode cX7_next 23 = .ok (.iload_n 1, 1) := by decide +kernel
theorem dX7_next_24 : decode cX7_next 24 = .ok (.invokevirtual 178, 3) := by decide +kernel
theorem dX7_next_27 : decode cX7_next 27 = .ok (.ireturn, 1) := by decide +kernel
theorem dX7_worst_0 : decode cX7_worst 0 = .ok (.aload_n 0, 1) := by decide +kernel
theorem dX7_worst_1 : decode cX7_worst 1 = .ok (.aload_n 0, 1) := by decide +kernel
theorem dX7_worst_2 : decode cX7_worst 2 = .ok (.getfield 37, 3) := by decide +kernel
theorem dX7_worst_5 : decode cX7_worst 5 = .ok (.iload_n 1, 1) := by decide +kernel
theorem dX7_worst_6 : decode cX7_worst 6 = .ok (.iload_n 2, 1) := by decide +kernel
theorem dX7_worst_7 : decode cX7_worst 7 = .ok (.invokevirtual 181, 3) := by decide +kernel
theorem dX7_worst_10 : decode cX7_worst 10 = .ok (.ireturn, 1) := by decide +kernel
theorem dX7_mean_0 : decode cX7_mean 0 = .ok (.aload_n 0, 1) := by decide +kernel
theorem dX7_mean_1 : decode cX7_mean 1 = .ok (.aload_n 0, 1) := by decide +kernel
theorem dX7_mean_2 : decode cX7_mean 2 = .ok (.getfield 41, 3) := by decide +kernel
theorem dX7_mean_5 : decode cX7_mean 5 = .ok (.iload_n 1, 1) := by decide +kernel
theorem dX7_mean_6 : decode cX7_mean 6 = .ok (.iload_n 2, 1) := by decide +kernel
theorem dX7_mean_7 : decode cX7_mean 7 = .ok (.invokevirtual 181, 3) := by decide +kernel
theorem dX7_mean_10 : decode cX7_mean 10 = .ok (.ireturn, 1) := by decide +kernel
theorem dX7_twins_0 : decode cX7_twins 0 = .ok (.aload_n 0, 1) := by decide +kernel
theorem dX7_twins_1 : decode cX7_twins 1 = .ok (.getfield 12, 3) := by decide +kernel
theorem dX7_twins_4 : decode cX7_twins 4 = .ok (.iload_n 1, 1) := by decide +kernel
theorem dX7_twins_5 : decode cX7_twins 5 = .ok (.invokevirtual 86, 3) := by decide +kernel
theorem dX7_twins_8 : decode cX7_twins 8 = .ok (.ifCond .eq 14, 3) := by decide +kernel
theorem dX7_twins_11 : decode cX7_twins 11 = .ok (.aload_n 0, 1) := by decide +kernel
theorem dX7_twins_12 : decode cX7_twins 12 = .ok (.getfield 12, 3) := by decide +kernel
theorem dX7_twins_15 : decode cX7_twins 15 = .ok (.iload_n 1, 1) := by decide +kernel
theorem dX7_twins_16 : decode cX7_twins 16 = .ok (.invokevirtual 185, 3) := by decide +kernel
theorem dX7_twins_19 : decode cX7_twins 19 = .ok (.goto 4, 3) := by decide +kernel
theorem dX7_twins_22 : decode cX7_twins 22 = .ok (.iconst (-1), 1) := by decide +kernel
theorem dX7_twins_23 : decode cX7_twins 23 = .ok (.ireturn, 1) := by decide +kernel
theorem dX7_say_0 : decode cX7_say 0 = .ok (.iload_n 1, 1) := by decide +kernel
theorem dX7_say_1 : decode cX7_say 1 = .ok (.bipush 33, 2) := by decide +kernel
theorem dX7_say_3 : decode cX7_say 3 = .ok (.bipush 126, 2) := by decide +kernel
theorem dX7_say_5 : decode cX7_say 5 = .ok (.invokestatic 71, 3) := by decide +kernel
theorem dX7_say_8 : decode cX7_say 8 = .ok (.ifCond .ne 6, 3) := by decide +kernel
theorem dX7_say_11 : decode cX7_say 11 = .ok (.bipush (-2), 2) := by decide +kernel
theorem dX7_say_13 : decode cX7_say 13 = .ok (.ireturn, 1) := by decide +kernel
theorem dX7_say_14 : decode cX7_say 14 = .ok (.aload_n 0, 1) := by decide +kernel
theorem dX7_say_15 : decode cX7_say 15 = .ok (.getfield 47, 3) := by decide +kernel
theorem dX7_say_18 : decode cX7_say 18 = .ok (.iload_n 1, 1) := by decide +kernel
theorem dX7_say_19 : decode cX7_say 19 = .ok (.invokevirtual 188, 3) := by decide +kernel
theorem dX7_say_22 : decode cX7_say 22 = .ok (.ireturn, 1) := by decide +kernel
theorem dX7_wipe_0 : decode cX7_wipe 0 = .ok (.aload_n 0, 1) := by decide +kernel
theorem dX7_wipe_1 : decode cX7_wipe 1 = .ok (.getfield 47, 3) := by decide +kernel
theorem dX7_wipe_4 : decode cX7_wipe 4 = .ok (.getfield 190, 3) := by decide +kernel
theorem dX7_wipe_7 : decode cX7_wipe 7 = .ok (.istore_n 1, 1) := by decide +kernel
theorem dX7_wipe_8 : decode cX7_wipe 8 = .ok (.aload_n 0, 1) := by decide +kernel
theorem dX7_wipe_9 : decode cX7_wipe 9 = .ok (.getfield 47, 3) := by decide +kernel
theorem dX7_wipe_12 : decode cX7_wipe 12 = .ok (.iconst 0, 1) := by decide +kernel
theorem dX7_wipe_13 : decode cX7_wipe 13 = .ok (.putfield 190, 3) := by decide +kernel
theorem dX7_wipe_16 : decode cX7_wipe 16 = .ok (.iload_n 1, 1) := by decide +kernel
theorem dX7_wipe_17 : decode cX7_wipe 17 = .ok (.ireturn, 1) := by decide +kernel
theorem dX7_fault_0 : decode cX7_fault 0 = .ok (.aload_n 0, 1) := by decide +kernel
theorem dX7_fault_1 : decode cX7_fault 1 = .ok (.getfield 47, 3) := by decide +kernel
theorem dX7_fault_4 : decode cX7_fault 4 = .ok (.invokevirtual 193, 3) := by decide +kernel
theorem dX7_fault_7 : decode cX7_fault 7 = .ok (.ireturn, 1) := by decide +kernel
theorem dX7_truth_0 : decode cX7_truth 0 = .ok (.aload_n 0, 1) := by decide +kernel
theorem dX7_truth_1 : decode cX7_truth 1 = .ok (.getfield 47, 3) := by decide +kernel
theorem dX7_truth_4 : decode cX7_truth 4 = .ok (.invokevirtual 193, 3) := by decide +kernel
theorem dX7_truth_7 : decode cX7_truth 7 = .ok (.bipush (-6), 2) := by decide +kernel
theorem dX7_truth_9 : decode cX7_truth 9 = .ok (.if_icmp .eq 6, 3) := by decide +kernel
theorem dX7_truth_12 : decode cX7_truth 12 = .ok (.bipush (-5), 2) := by decide +kernel
theorem dX7_truth_14 : decode cX7_truth 14 = .ok (.ireturn, 1) := by decide +kernel
theorem dX7_truth_15 : decode cX7_truth 15 = .ok (.aload_n 0, 1) := by decide +kernel
theorem dX7_truth_16 : decode cX7_truth 16 = .ok (.getfield 54, 3) := by decide +kernel
theorem dX7_truth_19 : decode cX7_truth 19 = .ok (.aload_n 0, 1) := by decide +kernel
theorem dX7_truth_20 : decode cX7_truth 20 = .ok (.getfield 47, 3) := by decide +kernel
theorem dX7_truth_23 : decode cX7_truth 23 = .ok (.invokevirtual 197, 3) := by decide +kernel
theorem dX7_truth_26 : decode cX7_truth 26 = .ok (.aload_n 0, 1) := by decide +kernel
theorem dX7_truth_27 : decode cX7_truth 27 = .ok (.getfield 47, 3) := by decide +kernel
theorem dX7_truth_30 : decode cX7_truth 30 = .ok (.iconst 0, 1) := by decide +kernel
theorem dX7_truth_31 : decode cX7_truth 31 = .ok (.putfield 190, 3) := by decide +kernel
theorem dX7_truth_34 : decode cX7_truth 34 = .ok (.aload_n 0, 1) := by decide +kernel
theorem dX7_truth_35 : decode cX7_truth 35 = .ok (.getfield 54, 3) := by decide +kernel
theorem dX7_truth_38 : decode cX7_truth 38 = .ok (.getfield 201, 3) := by decide +kernel
theorem dX7_truth_41 : decode cX7_truth 41 = .ok (.ireturn, 1) := by decide +kernel
theorem dX7_fails_0 : decode cX7_fails 0 = .ok (.iload_n 1, 1) := by decide +kernel
theorem dX7_fails_1 : decode cX7_fails 1 = .ok (.iconst 0, 1) := by decide +kernel
theorem dX7_fails_2 : decode cX7_fails 2 = .ok (.sipush 4095, 3) := by decide +kernel
theorem dX7_fails_5 : decode cX7_fails 5 = .ok (.invokestatic 71, 3) := by decide +kernel
theorem dX7_fails_8 : decode cX7_fails 8 = .ok (.ifCond .eq 12, 3) := by decide +kernel
theorem dX7_fails_11 : decode cX7_fails 11 = .ok (.iload_n 2, 1) := by decide +kernel
theorem dX7_fails_12 : decode cX7_fails 12 = .ok (.iconst 0, 1) := by decide +kernel
theorem dX7_fails_13 : decode cX7_fails 13 = .ok (.iconst 1, 1) := by decide +kernel
theorem dX7_fails_14 : decode cX7_fails 14 = .ok (.invokestatic 71, 3) := by decide +kernel
theorem dX7_fails_17 : decode cX7_fails 17 = .ok (.ifCond .ne 6, 3) := by decide +kernel
theorem dX7_fails_20 : decode cX7_fails 20 = .ok (.bipush (-2), 2) := by decide +kernel
theorem dX7_fails_22 : decode cX7_fails 22 = .ok (.ireturn, 1) := by decide +kernel
theorem dX7_fails_23 : decode cX7_fails 23 = .ok (.iload_n 2, 1) := by decide +kernel
theorem dX7_fails_24 : decode cX7_fails 24 = .ok (.iconst 1, 1) := by decide +kernel
theorem dX7_fails_25 : decode cX7_fails 25 = .ok (.if_icmp .ne 15, 3) := by decide +kernel
theorem dX7_fails_28 : decode cX7_fails 28 = .ok (.aload_n 0, 1) := by decide +kernel
theorem dX7_fails_29 : decode cX7_fails 29 = .ok (.getfield 63, 3) := by decide +kernel
theorem dX7_fails_32 : decode cX7_fails 32 = .ok (.iload_n 1, 1) := by decide +kernel
theorem dX7_fails_33 : decode cX7_fails 33 = .ok (.invokevirtual 202, 3) := by decide +kernel
theorem dX7_fails_36 : decode cX7_fails 36 = .ok (.invokestatic 125, 3) := by decide +kernel
theorem dX7_fails_39 : decode cX7_fails 39 = .ok (.ireturn, 1) := by decide +kernel
theorem dX7_fails_40 : decode cX7_fails 40 = .ok (.aload_n 0, 1) := by decide +kernel
theorem dX7_fails_41 : decode cX7_fails 41 = .ok (.getfield 54, 3) := by decide +kernel
theorem dX7_fails_44 : decode cX7_fails 44 = .ok (.getfield 201, 3) := by decide +kernel
theorem dX7_fails_47 : decode cX7_fails 47 = .ok (.iconst 1, 1) := by decide +kernel
theorem dX7_fails_48 : decode cX7_fails 48 = .ok (.if_icmp .ge 6, 3) := by decide +kernel
theorem dX7_fails_51 : decode cX7_fails 51 = .ok (.bipush (-3), 2) := by decide +kernel
theorem dX7_fails_53 : decode cX7_fails 53 = .ok (.ireturn, 1) := by decide +kernel
theorem dX7_fails_54 : decode cX7_fails 54 = .ok (.aload_n 0, 1) := by decide +kernel
theorem dX7_fails_55 : decode cX7_fails 55 = .ok (.getfield 54, 3) := by decide +kernel
theorem dX7_fails_58 : decode cX7_fails 58 = .ok (.getfield 205, 3) := by decide +kernel
theorem dX7_fails_61 : decode cX7_fails 61 = .ok (.iload_n 1, 1) := by decide +kernel
theorem dX7_fails_62 : decode cX7_fails 62 = .ok (.invokestatic 209, 3) := by decide +kernel
theorem dX7_fails_65 : decode cX7_fails 65 = .ok (.invokestatic 125, 3) := by decide +kernel
theorem dX7_fails_68 : decode cX7_fails 68 = .ok (.ireturn, 1) := by decide +kernel
theorem dX7_play_0 : decode cX7_play 0 = .ok (.iload_n 1, 1) := by decide +kernel
theorem dX7_play_1 : decode cX7_play 1 = .ok (.iconst 1, 1) := by decide +kernel
theorem dX7_play_2 : decode cX7_play 2 = .ok (.bipush 10, 2) := by decide +kernel
theorem dX7_play_4 : decode cX7_play 4 = .ok (.invokestatic 71, 3) := by decide +kernel
theorem dX7_play_7 : decode cX7_play 7 = .ok (.ifCond .ne 6, 3) := by decide +kernel
theorem dX7_play_10 : decode cX7_play 10 = .ok (.bipush (-2), 2) := by decide +kernel
theorem dX7_play_12 : decode cX7_play 12 = .ok (.ireturn, 1) := by decide +kernel
theorem dX7_play_13 : decode cX7_play 13 = .ok (.aload_n 0, 1) := by decide +kernel
theorem dX7_play_14 : decode cX7_play 14 = .ok (.getfield 54, 3) := by decide +kernel
theorem dX7_play_17 : decode cX7_play 17 = .ok (.getfield 201, 3) := by decide +kernel
theorem dX7_play_20 : decode cX7_play 20 = .ok (.iconst 1, 1) := by decide +kernel
theorem dX7_play_21 : decode cX7_play 21 = .ok (.if_icmp .ge 6, 3) := by decide +kernel
theorem dX7_play_24 : decode cX7_play 24 = .ok (.bipush (-3), 2) := by decide +kernel
theorem dX7_play_26 : decode cX7_play 26 = .ok (.ireturn, 1) := by decide +kernel
theorem dX7_play_27 : decode cX7_play 27 = .ok (.aload_n 0, 1) := by decide +kernel
theorem dX7_play_28 : decode cX7_play 28 = .ok (.getfield 12, 3) := by decide +kernel
theorem dX7_play_31 : decode cX7_play 31 = .ok (.invokevirtual 213, 3) := by decide +kernel
theorem dX7_play_34 : decode cX7_play 34 = .ok (.ifCond .ne 6, 3) := by decide +kernel
theorem dX7_play_37 : decode cX7_play 37 = .ok (.bipush (-5), 2) := by decide +kernel
theorem dX7_play_39 : decode cX7_play 39 = .ok (.ireturn, 1) := by decide +kernel
theorem dX7_play_40 : decode cX7_play 40 = .ok (.aload_n 0, 1) := by decide +kernel
theorem dX7_play_41 : decode cX7_play 41 = .ok (.getfield 19, 3) := by decide +kernel
theorem dX7_play_44 : decode cX7_play 44 = .ok (.iconst 0, 1) := by decide +kernel
theorem dX7_play_45 : decode cX7_play 45 = .ok (.putfield 117, 3) := by decide +kernel
theorem dX7_play_48 : decode cX7_play 48 = .ok (.iconst 0, 1) := by decide +kernel
theorem dX7_play_49 : decode cX7_play 49 = .ok (.istore_n 2, 1) := by decide +kernel
theorem dX7_play_50 : decode cX7_play 50 = .ok (.iload_n 2, 1) := by decide +kernel
theorem dX7_play_51 : decode cX7_play 51 = .ok (.bipush 12, 2) := by decide +kernel
theorem dX7_play_53 : decode cX7_play 53 = .ok (.if_icmp .ge 89, 3) := by decide +kernel
theorem dX7_play_56 : decode cX7_play 56 = .ok (.aload_n 0, 1) := by decide +kernel
theorem dX7_play_57 : decode cX7_play 57 = .ok (.getfield 28, 3) := by decide +kernel
theorem dX7_play_60 : decode cX7_play 60 = .ok (.invokevirtual 140, 3) := by decide +kernel
theorem dX7_play_63 : decode cX7_play 63 = .ok (.aload_n 0, 1) := by decide +kernel
theorem dX7_play_64 : decode cX7_play 64 = .ok (.getfield 28, 3) := by decide +kernel
theorem dX7_play_67 : decode cX7_play 67 = .ok (.iload_n 1, 1) := by decide +kernel
theorem dX7_play_68 : decode cX7_play 68 = .ok (.invokevirtual 216, 3) := by decide +kernel
theorem dX7_play_71 : decode cX7_play 71 = .ok (.ifCond .ne 6, 3) := by decide +kernel
theorem dX7_play_74 : decode cX7_play 74 = .ok (.goto 68, 3) := by decide +kernel
theorem dX7_play_77 : decode cX7_play 77 = .ok (.aload_n 0, 1) := by decide +kernel
theorem dX7_play_78 : decode cX7_play 78 = .ok (.getfield 28, 3) := by decide +kernel
theorem dX7_play_81 : decode cX7_play 81 = .ok (.iconst 1, 1) := by decide +kernel
theorem dX7_play_82 : decode cX7_play 82 = .ok (.invokevirtual 178, 3) := by decide +kernel
theorem dX7_play_85 : decode cX7_play 85 = .ok (.istore_n 3, 1) := by decide +kernel
theorem dX7_play_86 : decode cX7_play 86 = .ok (.aload_n 0, 1) := by decide +kernel
theorem dX7_play_87 : decode cX7_play 87 = .ok (.getfield 12, 3) := by decide +kernel
theorem dX7_play_90 : decode cX7_play 90 = .ok (.iload_n 3, 1) := by decide +kernel
theorem dX7_play_91 : decode cX7_play 91 = .ok (.invokevirtual 111, 3) := by decide +kernel
theorem dX7_play_94 : decode cX7_play 94 = .ok (.ifCond .ne 6, 3) := by decide +kernel
theorem dX7_play_97 : decode cX7_play 97 = .ok (.goto 45, 3) := by decide +kernel
theorem dX7_play_100 : decode cX7_play 100 = .ok (.aload_n 0, 1) := by decide +kernel
theorem dX7_play_101 : decode cX7_play 101 = .ok (.getfield 19, 3) := by decide +kernel
theorem dX7_play_104 : decode cX7_play 104 = .ok (.iload_n 3, 1) := by decide +kernel
theorem dX7_play_105 : decode cX7_play 105 = .ok (.aload_n 0, 1) := by decide +kernel
theorem dX7_play_106 : decode cX7_play 106 = .ok (.getfield 54, 3) := by decide +kernel
theorem dX7_play_109 : decode cX7_play 109 = .ok (.getfield 205, 3) := by decide +kernel
theorem dX7_play_112 : decode cX7_play 112 = .ok (.aload_n 0, 1) := by decide +kernel
theorem dX7_play_113 : decode cX7_play 113 = .ok (.getfield 12, 3) := by decide +kernel
theorem dX7_play_116 : decode cX7_play 116 = .ok (.getfield 90, 3) := by decide +kernel
theorem dX7_play_119 : decode cX7_play 119 = .ok (.iload_n 3, 1) := by decide +kernel
theorem dX7_play_120 : decode cX7_play 120 = .ok (.iaload, 1) := by decide +kernel
theorem dX7_play_121 : decode cX7_play 121 = .ok (.invokestatic 209, 3) := by decide +kernel
theorem dX7_play_124 : decode cX7_play 124 = .ok (.ifCond .ne 7, 3) := by decide +kernel
theorem dX7_play_127 : decode cX7_play 127 = .ok (.iconst 1, 1) := by decide +kernel
theorem dX7_play_128 : decode cX7_play 128 = .ok (.goto 4, 3) := by decide +kernel
theorem dX7_play_131 : decode cX7_play 131 = .ok (.iconst 0, 1) := by decide +kernel
theorem dX7_play_132 : decode cX7_play 132 = .ok (.invokevirtual 114, 3) := by decide +kernel
theorem dX7_play_135 : decode cX7_play 135 = .ok (.pop, 1) := by decide +kernel
theorem dX7_play_136 : decode cX7_play 136 = .ok (.iinc 2 1, 3) := by decide +kernel
theorem dX7_play_139 : decode cX7_play 139 = .ok (.goto (-89), 3) := by decide +kernel
theorem dX7_play_142 : decode cX7_play 142 = .ok (.aload_n 0, 1) := by decide +kernel
theorem dX7_play_143 : decode cX7_play 143 = .ok (.getfield 19, 3) := by decide +kernel
theorem dX7_play_146 : decode cX7_play 146 = .ok (.getfield 117, 3) := by decide +kernel
theorem dX7_play_149 : decode cX7_play 149 = .ok (.ireturn, 1) := by decide +kernel
theorem dX7_out_0 : decode cX7_out 0 = .ok (.aload_n 0, 1) := by decide +kernel
theorem dX7_out_1 : decode cX7_out 1 = .ok (.getfield 12, 3) := by decide +kernel
theorem dX7_out_4 : decode cX7_out 4 = .ok (.iload_n 1, 1) := by decide +kernel
theorem dX7_out_5 : decode cX7_out 5 = .ok (.invokevirtual 86, 3) := by decide +kernel
theorem dX7_out_8 : decode cX7_out 8 = .ok (.ifCond .ne 5, 3) := by decide +kernel
theorem dX7_out_11 : decode cX7_out 11 = .ok (.iconst (-1), 1) := by decide +kernel
theorem dX7_out_12 : decode cX7_out 12 = .ok (.ireturn, 1) := by decide +kernel
theorem dX7_out_13 : decode cX7_out 13 = .ok (.iload_n 2, 1) := by decide +kernel
theorem dX7_out_14 : decode cX7_out 14 = .ok (.iconst 0, 1) := by decide +kernel
theorem dX7_out_15 : decode cX7_out 15 = .ok (.iconst 1, 1) := by decide +kernel
theorem dX7_out_16 : decode cX7_out 16 = .ok (.invokestatic 71, 3) := by decide +kernel
theorem dX7_out_19 : decode cX7_out 19 = .ok (.ifCond .ne 6, 3) := by decide +kernel
theorem dX7_out_22 : decode cX7_out 22 = .ok (.bipush (-2), 2) := by decide +kernel
theorem dX7_out_24 : decode cX7_out 24 = .ok (.ireturn, 1) := by decide +kernel
theorem dX7_out_25 : decode cX7_out 25 = .ok (.aload_n 0, 1) := by decide +kernel
theorem dX7_out_26 : decode cX7_out 26 = .ok (.getfield 54, 3) := by decide +kernel
theorem dX7_out_29 : decode cX7_out 29 = .ok (.getfield 201, 3) := by decide +kernel
theorem dX7_out_32 : decode cX7_out 32 = .ok (.iconst 1, 1) := by decide +kernel
theorem dX7_out_33 : decode cX7_out 33 = .ok (.if_icmp .ge 6, 3) := by decide +kernel
theorem dX7_out_36 : decode cX7_out 36 = .ok (.bipush (-3), 2) := by decide +kernel
theorem dX7_out_38 : decode cX7_out 38 = .ok (.ireturn, 1) := by decide +kernel
theorem dX7_out_39 : decode cX7_out 39 = .ok (.aload_n 0, 1) := by decide +kernel
theorem dX7_out_40 : decode cX7_out 40 = .ok (.getfield 63, 3) := by decide +kernel
theorem dX7_out_43 : decode cX7_out 43 = .ok (.aload_n 0, 1) := by decide +kernel
theorem dX7_out_44 : decode cX7_out 44 = .ok (.getfield 12, 3) := by decide +kernel
theorem dX7_out_47 : decode cX7_out 47 = .ok (.getfield 90, 3) := by decide +kernel
theorem dX7_out_50 : decode cX7_out 50 = .ok (.iload_n 1, 1) := by decide +kernel
theorem dX7_out_51 : decode cX7_out 51 = .ok (.iaload, 1) := by decide +kernel
theorem dX7_out_52 : decode cX7_out 52 = .ok (.invokevirtual 219, 3) := by decide +kernel
theorem dX7_out_55 : decode cX7_out 55 = .ok (.istore_n 3, 1) := by decide +kernel
theorem dX7_out_56 : decode cX7_out 56 = .ok (.iload_n 3, 1) := by decide +kernel
theorem dX7_out_57 : decode cX7_out 57 = .ok (.bipush (-5), 2) := by decide +kernel
theorem dX7_out_59 : decode cX7_out 59 = .ok (.if_icmp .eq 7, 3) := by decide +kernel
theorem dX7_out_62 : decode cX7_out 62 = .ok (.iload_n 2, 1) := by decide +kernel
theorem dX7_out_63 : decode cX7_out 63 = .ok (.ifCond .ne 7, 3) := by decide +kernel
theorem dX7_out_66 : decode cX7_out 66 = .ok (.iload_n 3, 1) := by decide +kernel
theorem dX7_out_67 : decode cX7_out 67 = .ok (.goto 11, 3) := by decide +kernel
theorem dX7_out_70 : decode cX7_out 70 = .ok (.aload_n 0, 1) := by decide +kernel
theorem dX7_out_71 : decode cX7_out 71 = .ok (.getfield 12, 3) := by decide +kernel
theorem dX7_out_74 : decode cX7_out 74 = .ok (.iload_n 3, 1) := by decide +kernel
theorem dX7_out_75 : decode cX7_out 75 = .ok (.invokevirtual 222, 3) := by decide +kernel
theorem dX7_out_78 : decode cX7_out 78 = .ok (.ireturn, 1) := by decide +kernel
theorem dX7_core_0 : decode cX7_core 0 = .ok (.aload_n 0, 1) := by decide +kernel
theorem dX7_core_1 : decode cX7_core 1 = .ok (.getfield 12, 3) := by decide +kernel
theorem dX7_core_4 : decode cX7_core 4 = .ok (.iload_n 1, 1) := by decide +kernel
theorem dX7_core_5 : decode cX7_core 5 = .ok (.invokevirtual 86, 3) := by decide +kernel
theorem dX7_core_8 : decode cX7_core 8 = .ok (.ifCond .ne 5, 3) := by decide +kernel
theorem dX7_core_11 : decode cX7_core 11 = .ok (.iconst (-1), 1) := by decide +kernel
theorem dX7_core_12 : decode cX7_core 12 = .ok (.ireturn, 1) := by decide +kernel
theorem dX7_core_13 : decode cX7_core 13 = .ok (.aload_n 0, 1) := by decide +kernel
theorem dX7_core_14 : decode cX7_core 14 = .ok (.getfield 54, 3) := by decide +kernel
theorem dX7_core_17 : decode cX7_core 17 = .ok (.getfield 201, 3) := by decide +kernel
theorem dX7_core_20 : decode cX7_core 20 = .ok (.iconst 1, 1) := by decide +kernel
theorem dX7_core_21 : decode cX7_core 21 = .ok (.if_icmp .ge 6, 3) := by decide +kernel
theorem dX7_core_24 : decode cX7_core 24 = .ok (.bipush (-3), 2) := by decide +kernel
theorem dX7_core_26 : decode cX7_core 26 = .ok (.ireturn, 1) := by decide +kernel
theorem dX7_core_27 : decode cX7_core 27 = .ok (.aload_n 0, 1) := by decide +kernel
theorem dX7_core_28 : decode cX7_core 28 = .ok (.getfield 63, 3) := by decide +kernel
theorem dX7_core_31 : decode cX7_core 31 = .ok (.aload_n 0, 1) := by decide +kernel
theorem dX7_core_32 : decode cX7_core 32 = .ok (.getfield 12, 3) := by decide +kernel
theorem dX7_core_35 : decode cX7_core 35 = .ok (.getfield 90, 3) := by decide +kernel
theorem dX7_core_38 : decode cX7_core 38 = .ok (.iload_n 1, 1) := by decide +kernel
theorem dX7_core_39 : decode cX7_core 39 = .ok (.iaload, 1) := by decide +kernel
theorem dX7_core_40 : decode cX7_core 40 = .ok (.invokevirtual 225, 3) := by decide +kernel
theorem dX7_core_43 : decode cX7_core 43 = .ok (.iload_n 2, 1) := by decide +kernel
theorem dX7_core_44 : decode cX7_core 44 = .ok (.iconst (-1), 1) := by decide +kernel
theorem dX7_core_45 : decode cX7_core 45 = .ok (.if_icmp .ne 13, 3) := by decide +kernel
theorem dX7_core_48 : decode cX7_core 48 = .ok (.aload_n 0, 1) := by decide +kernel
theorem dX7_core_49 : decode cX7_core 49 = .ok (.getfield 63, 3) := by decide +kernel
theorem dX7_core_52 : decode cX7_core 52 = .ok (.invokevirtual 229, 3) := by decide +kernel
theorem dX7_core_55 : decode cX7_core 55 = .ok (.goto 11, 3) := by decide +kernel
theorem dX7_core_58 : decode cX7_core 58 = .ok (.aload_n 0, 1) := by decide +kernel
theorem dX7_core_59 : decode cX7_core 59 = .ok (.getfield 63, 3) := by decide +kernel
theorem dX7_core_62 : decode cX7_core 62 = .ok (.iload_n 2, 1) := by decide +kernel
theorem dX7_core_63 : decode cX7_core 63 = .ok (.invokevirtual 232, 3) := by decide +kernel
theorem dX7_core_66 : decode cX7_core 66 = .ok (.ireturn, 1) := by decide +kernel
theorem dX7_told_0 : decode cX7_told 0 = .ok (.iload_n 1, 1) := by decide +kernel
theorem dX7_told_1 : decode cX7_told 1 = .ok (.tableswitch 105 0 9 #[55, 63, 71, 79, 105, 105, 105, 105, 105, 87], 55) := by decide +kernel
theorem dX7_told_56 : decode cX7_told 56 = .ok (.aload_n 0, 1) := by decide +kernel
theorem dX7_told_57 : decode cX7_told 57 = .ok (.getfield 12, 3) := by decide +kernel
theorem dX7_told_60 : decode cX7_told 60 = .ok (.getfield 75, 3) := by decide +kernel
theorem dX7_told_63 : decode cX7_told 63 = .ok (.ireturn, 1) := by decide +kernel
theorem dX7_told_64 : decode cX7_told 64 = .ok (.aload_n 0, 1) := by decide +kernel
theorem dX7_told_65 : decode cX7_told 65 = .ok (.getfield 19, 3) := by decide +kernel
theorem dX7_told_68 : decode cX7_told 68 = .ok (.getfield 117, 3) := by decide +kernel
theorem dX7_told_71 : decode cX7_told 71 = .ok (.ireturn, 1) := by decide +kernel
theorem dX7_told_72 : decode cX7_told 72 = .ok (.aload_n 0, 1) := by decide +kernel
theorem dX7_told_73 : decode cX7_told 73 = .ok (.getfield 47, 3) := by decide +kernel
theorem dX7_told_76 : decode cX7_told 76 = .ok (.getfield 190, 3) := by decide +kernel
theorem dX7_told_79 : decode cX7_told 79 = .ok (.ireturn, 1) := by decide +kernel
theorem dX7_told_80 : decode cX7_told 80 = .ok (.aload_n 0, 1) := by decide +kernel
theorem dX7_told_81 : decode cX7_told 81 = .ok (.getfield 54, 3) := by decide +kernel
theorem dX7_told_84 : decode cX7_told 84 = .ok (.getfield 201, 3) := by decide +kernel
theorem dX7_told_87 : decode cX7_told 87 = .ok (.ireturn, 1) := by decide +kernel
theorem dX7_told_88 : decode cX7_told 88 = .ok (.aload_n 0, 1) := by decide +kernel
theorem dX7_told_89 : decode cX7_told 89 = .ok (.getfield 12, 3) := by decide +kernel
theorem dX7_told_92 : decode cX7_told 92 = .ok (.invokevirtual 235, 3) := by decide +kernel
theorem dX7_told_95 : decode cX7_told 95 = .ok (.aload_n 0, 1) := by decide +kernel
theorem dX7_told_96 : decode cX7_told 96 = .ok (.getfield 12, 3) := by decide +kernel
theorem dX7_told_99 : decode cX7_told 99 = .ok (.invokevirtual 213, 3) := by decide +kernel
theorem dX7_told_102 : decode cX7_told 102 = .ok (.iconst (-1), 1) := by decide +kernel
theorem dX7_told_103 : decode cX7_told 103 = .ok (.ixor, 1) := by decide +kernel
theorem dX7_told_104 : decode cX7_told 104 = .ok (.iand, 1) := by decide +kernel
theorem dX7_told_105 : decode cX7_told 105 = .ok (.ireturn, 1) := by decide +kernel
theorem dX7_told_106 : decode cX7_told 106 = .ok (.iload_n 1, 1) := by decide +kernel
theorem dX7_told_107 : decode cX7_told 107 = .ok (.iconst 4, 1) := by decide +kernel
theorem dX7_told_108 : decode cX7_told 108 = .ok (.bipush 8, 2) := by decide +kernel
theorem dX7_told_110 : decode cX7_told 110 = .ok (.invokestatic 71, 3) := by decide +kernel
theorem dX7_told_113 : decode cX7_told 113 = .ok (.ifCond .eq 15, 3) := by decide +kernel
theorem dX7_told_116 : decode cX7_told 116 = .ok (.aload_n 0, 1) := by decide +kernel
theorem dX7_told_117 : decode cX7_told 117 = .ok (.getfield 28, 3) := by decide +kernel
theorem dX7_told_120 : decode cX7_told 120 = .ok (.getfield 108, 3) := by decide +kernel
theorem dX7_told_123 : decode cX7_told 123 = .ok (.iload_n 1, 1) := by decide +kernel
theorem dX7_told_124 : decode cX7_told 124 = .ok (.iconst 4, 1) := by decide +kernel
theorem dX7_told_125 : decode cX7_told 125 = .ok (.isub, 1) := by decide +kernel
theorem dX7_told_126 : decode cX7_told 126 = .ok (.iaload, 1) := by decide +kernel
theorem dX7_told_127 : decode cX7_told 127 = .ok (.ireturn, 1) := by decide +kernel
theorem dX7_told_128 : decode cX7_told 128 = .ok (.iconst 0, 1) := by decide +kernel
theorem dX7_told_129 : decode cX7_told 129 = .ok (.istore_n 2, 1) := by decide +kernel
theorem dX7_told_130 : decode cX7_told 130 = .ok (.iload_n 2, 1) := by decide +kernel
theorem dX7_told_131 : decode cX7_told 131 = .ok (.iconst 2, 1) := by decide +kernel
theorem dX7_told_132 : decode cX7_told 132 = .ok (.if_icmp .gt 62, 3) := by decide +kernel
theorem dX7_told_135 : decode cX7_told 135 = .ok (.bipush 10, 2) := by decide +kernel
theorem dX7_told_137 : decode cX7_told 137 = .ok (.bipush 20, 2) := by decide +kernel
theorem dX7_told_139 : decode cX7_told 139 = .ok (.iload_n 2, 1) := by decide +kernel
theorem dX7_told_140 : decode cX7_told 140 = .ok (.imul, 1) := by decide +kernel
theorem dX7_told_141 : decode cX7_told 141 = .ok (.iadd, 1) := by decide +kernel
theorem dX7_told_142 : decode cX7_told 142 = .ok (.istore_n 3, 1) := by decide +kernel
theorem dX7_told_143 : decode cX7_told 143 = .ok (.iload_n 1, 1) := by decide +kernel
theorem dX7_told_144 : decode cX7_told 144 = .ok (.iload_n 3, 1) := by decide +kernel
theorem dX7_told_145 : decode cX7_told 145 = .ok (.iload_n 3, 1) := by decide +kernel
theorem dX7_told_146 : decode cX7_told 146 = .ok (.bipush 12, 2) := by decide +kernel
theorem dX7_told_148 : decode cX7_told 148 = .ok (.iadd, 1) := by decide +kernel
theorem dX7_told_149 : decode cX7_told 149 = .ok (.iconst 1, 1) := by decide +kernel
theorem dX7_told_150 : decode cX7_told 150 = .ok (.isub, 1) := by decide +kernel
theorem dX7_told_151 : decode cX7_told 151 = .ok (.invokestatic 71, 3) := by decide +kernel
theorem dX7_told_154 : decode cX7_told 154 = .ok (.ifCond .eq 34, 3) := by decide +kernel
theorem dX7_told_157 : decode cX7_told 157 = .ok (.aload_n 0, 1) := by decide +kernel
theorem dX7_told_158 : decode cX7_told 158 = .ok (.getfield 12, 3) := by decide +kernel
theorem dX7_told_161 : decode cX7_told 161 = .ok (.iload_n 1, 1) := by decide +kernel
theorem dX7_told_162 : decode cX7_told 162 = .ok (.iload_n 3, 1) := by decide +kernel
theorem dX7_told_163 : decode cX7_told 163 = .ok (.isub, 1) := by decide +kernel
theorem dX7_told_164 : decode cX7_told 164 = .ok (.invokevirtual 86, 3) := by decide +kernel
theorem dX7_told_167 : decode cX7_told 167 = .ok (.ifCond .eq 18, 3) := by decide +kernel
theorem dX7_told_170 : decode cX7_told 170 = .ok (.aload_n 0, 1) := by decide +kernel
theorem dX7_told_171 : decode cX7_told 171 = .ok (.getfield 12, 3) := by decide +kernel
theorem dX7_told_174 : decode cX7_told 174 = .ok (.iload_n 2, 1) := by decide +kernel
theorem dX7_told_175 : decode cX7_told 175 = .ok (.invokevirtual 100, 3) := by decide +kernel
theorem dX7_told_178 : decode cX7_told 178 = .ok (.iload_n 1, 1) := by decide +kernel
theorem dX7_told_179 : decode cX7_told 179 = .ok (.iload_n 3, 1) := by decide +kernel
theorem dX7_told_180 : decode cX7_told 180 = .ok (.isub, 1) := by decide +kernel
theorem dX7_told_181 : decode cX7_told 181 = .ok (.iaload, 1) := by decide +kernel
theorem dX7_told_182 : decode cX7_told 182 = .ok (.goto 5, 3) := by decide +kernel
theorem dX7_told_185 : decode cX7_told 185 = .ok (.bipush (-6), 2) := by decide +kernel
theorem dX7_told_187 : decode cX7_told 187 = .ok (.ireturn, 1) := by decide +kernel
theorem dX7_told_188 : decode cX7_told 188 = .ok (.iinc 2 1, 3) := by decide +kernel
theorem dX7_told_191 : decode cX7_told 191 = .ok (.goto (-61), 3) := by decide +kernel
theorem dX7_told_194 : decode cX7_told 194 = .ok (.bipush (-2), 2) := by decide +kernel
theorem dX7_told_196 : decode cX7_told 196 = .ok (.ireturn, 1) := by decide +kernel
theorem dX7_forgetPartings_0 : decode cX7_forgetPartings 0 = .ok (.aload_n 0, 1) := by decide +kernel
theorem dX7_forgetPartings_1 : decode cX7_forgetPartings 1 = .ok (.getfield 37, 3) := by decide +kernel
theorem dX7_forgetPartings_4 : decode cX7_forgetPartings 4 = .ok (.iconst 1, 1) := by decide +kernel
theorem dX7_forgetPartings_5 : decode cX7_forgetPartings 5 = .ok (.putfield 238, 3) := by decide +kernel
theorem dX7_forgetPartings_8 : decode cX7_forgetPartings 8 = .ok (.aload_n 0, 1) := by decide +kernel
theorem dX7_forgetPartings_9 : decode cX7_forgetPartings 9 = .ok (.getfield 41, 3) := by decide +kernel
theorem dX7_forgetPartings_12 : decode cX7_forgetPartings 12 = .ok (.iconst 1, 1) := by decide +kernel
theorem dX7_forgetPartings_13 : decode cX7_forgetPartings 13 = .ok (.putfield 238, 3) := by decide +kernel
theorem dX7_forgetPartings_16 : decode cX7_forgetPartings 16 = .ok (.return_, 1) := by decide +kernel
theorem dX7_storyRefusal_0 : decode cX7_storyRefusal 0 = .ok (.iload_n 1, 1) := by decide +kernel
theorem dX7_storyRefusal_1 : decode cX7_storyRefusal 1 = .ok (.iconst 0, 1) := by decide +kernel
theorem dX7_storyRefusal_2 : decode cX7_storyRefusal 2 = .ok (.iconst 2, 1) := by decide +kernel
theorem dX7_storyRefusal_3 : decode cX7_storyRefusal 3 = .ok (.invokestatic 71, 3) := by decide +kernel
theorem dX7_storyRefusal_6 : decode cX7_storyRefusal 6 = .ok (.ifCond .ne 6, 3) := by decide +kernel
theorem dX7_storyRefusal_9 : decode cX7_storyRefusal 9 = .ok (.bipush (-2), 2) := by decide +kernel
theorem dX7_storyRefusal_11 : decode cX7_storyRefusal 11 = .ok (.ireturn, 1) := by decide +kernel
theorem dX7_storyRefusal_12 : decode cX7_storyRefusal 12 = .ok (.aload_n 0, 1) := by decide +kernel
theorem dX7_storyRefusal_13 : decode cX7_storyRefusal 13 = .ok (.getfield 12, 3) := by decide +kernel
theorem dX7_storyRefusal_16 : decode cX7_storyRefusal 16 = .ok (.iload_n 2, 1) := by decide +kernel
theorem dX7_storyRefusal_17 : decode cX7_storyRefusal 17 = .ok (.invokevirtual 86, 3) := by decide +kernel
theorem dX7_storyRefusal_20 : decode cX7_storyRefusal 20 = .ok (.ifCond .ne 5, 3) := by decide +kernel
theorem dX7_storyRefusal_23 : decode cX7_storyRefusal 23 = .ok (.iconst (-1), 1) := by decide +kernel
theorem dX7_storyRefusal_24 : decode cX7_storyRefusal 24 = .ok (.ireturn, 1) := by decide +kernel
theorem dX7_storyRefusal_25 : decode cX7_storyRefusal 25 = .ok (.iload_n 1, 1) := by decide +kernel
theorem dX7_storyRefusal_26 : decode cX7_storyRefusal 26 = .ok (.ifCond .ne 5, 3) := by decide +kernel
theorem dX7_storyRefusal_29 : decode cX7_storyRefusal 29 = .ok (.iconst 0, 1) := by decide +kernel
theorem dX7_storyRefusal_30 : decode cX7_storyRefusal 30 = .ok (.ireturn, 1) := by decide +kernel
theorem dX7_storyRefusal_31 : decode cX7_storyRefusal 31 = .ok (.aload_n 0, 1) := by decide +kernel
theorem dX7_storyRefusal_32 : decode cX7_storyRefusal 32 = .ok (.getfield 12, 3) := by decide +kernel
theorem dX7_storyRefusal_35 : decode cX7_storyRefusal 35 = .ok (.iload_n 3, 1) := by decide +kernel
theorem dX7_storyRefusal_36 : decode cX7_storyRefusal 36 = .ok (.invokevirtual 86, 3) := by decide +kernel
theorem dX7_storyRefusal_39 : decode cX7_storyRefusal 39 = .ok (.ifCond .eq 25, 3) := by decide +kernel
theorem dX7_storyRefusal_42 : decode cX7_storyRefusal 42 = .ok (.iload_n 1, 1) := by decide +kernel
theorem dX7_storyRefusal_43 : decode cX7_storyRefusal 43 = .ok (.iconst 1, 1) := by decide +kernel
theorem dX7_storyRefusal_44 : decode cX7_storyRefusal 44 = .ok (.if_icmp .ne 11, 3) := by decide +kernel
theorem dX7_storyRefusal_47 : decode cX7_storyRefusal 47 = .ok (.iload_n 2, 1) := by decide +kernel
theorem dX7_storyRefusal_48 : decode cX7_storyRefusal 48 = .ok (.iload_n 3, 1) := by decide +kernel
theorem dX7_storyRefusal_49 : decode cX7_storyRefusal 49 = .ok (.if_icmp .ge 15, 3) := by decide +kernel
theorem dX7_storyRefusal_52 : decode cX7_storyRefusal 52 = .ok (.goto 8, 3) := by decide +kernel
theorem dX7_storyRefusal_55 : decode cX7_storyRefusal 55 = .ok (.iload_n 2, 1) := by decide +kernel
theorem dX7_storyRefusal_56 : decode cX7_storyRefusal 56 = .ok (.iload_n 3, 1) := by decide +kernel
theorem dX7_storyRefusal_57 : decode cX7_storyRefusal 57 = .ok (.if_icmp .eq 7, 3) := by decide +kernel
theorem dX7_storyRefusal_60 : decode cX7_storyRefusal 60 = .ok (.iconst 1, 1) := by decide +kernel
theorem dX7_storyRefusal_61 : decode cX7_storyRefusal 61 = .ok (.goto 4, 3) := by decide +kernel
theorem dX7_storyRefusal_64 : decode cX7_storyRefusal 64 = .ok (.iconst 0, 1) := by decide +kernel
theorem dX7_storyRefusal_65 : decode cX7_storyRefusal 65 = .ok (.istore 4, 2) := by decide +kernel
theorem dX7_storyRefusal_67 : decode cX7_storyRefusal 67 = .ok (.iload 4, 2) := by decide +kernel
theorem dX7_storyRefusal_69 : decode cX7_storyRefusal 69 = .ok (.ifCond .eq 7, 3) := by decide +kernel
theorem dX7_storyRefusal_72 : decode cX7_storyRefusal 72 = .ok (.iconst 0, 1) := by decide +kernel
theorem dX7_storyRefusal_73 : decode cX7_storyRefusal 73 = .ok (.goto 4, 3) := by decide +kernel
theorem dX7_storyRefusal_76 : decode cX7_storyRefusal 76 = .ok (.iconst (-1), 1) := by decide +kernel
theorem dX7_storyRefusal_77 : decode cX7_storyRefusal 77 = .ok (.ireturn, 1) := by decide +kernel
theorem dX7_parting_0 : decode cX7_parting 0 = .ok (.iload_n 2, 1) := by decide +kernel
theorem dX7_parting_1 : decode cX7_parting 1 = .ok (.aload_n 0, 1) := by decide +kernel
theorem dX7_parting_2 : decode cX7_parting 2 = .ok (.getfield 12, 3) := by decide +kernel
theorem dX7_parting_5 : decode cX7_parting 5 = .ok (.invokevirtual 235, 3) := by decide +kernel
theorem dX7_parting_8 : decode cX7_parting 8 = .ok (.iconst (-1), 1) := by decide +kernel
theorem dX7_parting_9 : decode cX7_parting 9 = .ok (.ixor, 1) := by decide +kernel
theorem dX7_parting_10 : decode cX7_parting 10 = .ok (.iand, 1) := by decide +kernel
theorem dX7_parting_11 : decode cX7_parting 11 = .ok (.ifCond .ne 12, 3) := by decide +kernel
theorem dX7_parting_14 : decode cX7_parting 14 = .ok (.iload_n 3, 1) := by decide +kernel
theorem dX7_parting_15 : decode cX7_parting 15 = .ok (.iconst 0, 1) := by decide +kernel
theorem dX7_parting_16 : decode cX7_parting 16 = .ok (.iconst 1, 1) := by decide +kernel
theorem dX7_parting_17 : decode cX7_parting 17 = .ok (.invokestatic 71, 3) := by decide +kernel
theorem dX7_parting_20 : decode cX7_parting 20 = .ok (.ifCond .ne 6, 3) := by decide +kernel
theorem dX7_parting_23 : decode cX7_parting 23 = .ok (.bipush (-2), 2) := by decide +kernel
theorem dX7_parting_25 : decode cX7_parting 25 = .ok (.ireturn, 1) := by decide +kernel
theorem dX7_parting_26 : decode cX7_parting 26 = .ok (.iload_n 3, 1) := by decide +kernel
theorem dX7_parting_27 : decode cX7_parting 27 = .ok (.ifCond .ne 11, 3) := by decide +kernel
theorem dX7_parting_30 : decode cX7_parting 30 = .ok (.aload_n 1, 1) := by decide +kernel
theorem dX7_parting_31 : decode cX7_parting 31 = .ok (.iload_n 2, 1) := by decide +kernel
theorem dX7_parting_32 : decode cX7_parting 32 = .ok (.invokevirtual 242, 3) := by decide +kernel
theorem dX7_parting_35 : decode cX7_parting 35 = .ok (.goto 8, 3) := by decide +kernel
theorem dX7_parting_38 : decode cX7_parting 38 = .ok (.aload_n 1, 1) := by decide +kernel
theorem dX7_parting_39 : decode cX7_parting 39 = .ok (.iload_n 2, 1) := by decide +kernel
theorem dX7_parting_40 : decode cX7_parting 40 = .ok (.invokevirtual 245, 3) := by decide +kernel
theorem dX7_parting_43 : decode cX7_parting 43 = .ok (.ireturn, 1) := by decide +kernel
theorem dX7_isFrom_0 : decode cX7_isFrom 0 = .ok (.iload_n 0, 1) := by decide +kernel
theorem dX7_isFrom_1 : decode cX7_isFrom 1 = .ok (.iload_n 1, 1) := by decide +kernel
theorem dX7_isFrom_2 : decode cX7_isFrom 2 = .ok (.if_icmp .lt 12, 3) := by decide +kernel
theorem dX7_isFrom_5 : decode cX7_isFrom 5 = .ok (.iload_n 0, 1) := by decide +kernel
theorem dX7_isFrom_6 : decode cX7_isFrom 6 = .ok (.iload_n 2, 1) := by decide +kernel
theorem dX7_isFrom_7 : decode cX7_isFrom 7 = .ok (.if_icmp .gt 7, 3) := by decide +kernel
theorem dX7_isFrom_10 : decode cX7_isFrom 10 = .ok (.iconst 1, 1) := by decide +kernel
theorem dX7_isFrom_11 : decode cX7_isFrom 11 = .ok (.goto 4, 3) := by decide +kernel
theorem dX7_isFrom_14 : decode cX7_isFrom 14 = .ok (.iconst 0, 1) := by decide +kernel
theorem dX7_isFrom_15 : decode cX7_isFrom 15 = .ok (.ireturn, 1) := by decide +kernel
theorem dX7_asNumber_0 : decode cX7_asNumber 0 = .ok (.iload_n 0, 1) := by decide +kernel
theorem dX7_asNumber_1 : decode cX7_asNumber 1 = .ok (.ifCond .eq 7, 3) := by decide +kernel
theorem dX7_asNumber_4 : decode cX7_asNumber 4 = .ok (.iconst 1, 1) := by decide +kernel
theorem dX7_asNumber_5 : decode cX7_asNumber 5 = .ok (.goto 4, 3) := by decide +kernel
theorem dX7_asNumber_8 : decode cX7_asNumber 8 = .ok (.iconst 0, 1) := by decide +kernel
theorem dX7_asNumber_9 : decode cX7_asNumber 9 = .ok (.ireturn, 1) := by decide +kernel
theorem dX7_isBit_0 : decode cX7_isBit 0 = .ok (.iload_n 0, 1) := by decide +kernel
theorem dX7_isBit_1 : decode cX7_isBit 1 = .ok (.iload_n 1, 1) := by decide +kernel
theorem dX7_isBit_2 : decode cX7_isBit 2 = .ok (.ishr, 1) := by decide +kernel
theorem dX7_isBit_3 : decode cX7_isBit 3 = .ok (.iconst 1, 1) := by decide +kernel
theorem dX7_isBit_4 : decode cX7_isBit 4 = .ok (.iand, 1) := by decide +kernel
theorem dX7_isBit_5 : decode cX7_isBit 5 = .ok (.ifCond .eq 7, 3) := by decide +kernel
theorem dX7_isBit_8 : decode cX7_isBit 8 = .ok (.iconst 1, 1) := by decide +kernel
theorem dX7_isBit_9 : decode cX7_isBit 9 = .ok (.goto 4, 3) := by decide +kernel
theorem dX7_isBit_12 : decode cX7_isBit 12 = .ok (.iconst 0, 1) := by decide +kernel
theorem dX7_isBit_13 : decode cX7_isBit 13 = .ok (.ireturn, 1) := by decide +kernel
theorem dX7_swap_0 : decode cX7_swap 0 = .ok (.aload_n 0, 1) := by decide +kernel
theorem dX7_swap_1 : decode cX7_swap 1 = .ok (.iload_n 1, 1) := by decide +kernel
theorem dX7_swap_2 : decode cX7_swap 2 = .ok (.iaload, 1) := by decide +kernel
theorem dX7_swap_3 : decode cX7_swap 3 = .ok (.istore_n 3, 1) := by decide +kernel
theorem dX7_swap_4 : decode cX7_swap 4 = .ok (.aload_n 0, 1) := by decide +kernel
theorem dX7_swap_5 : decode cX7_swap 5 = .ok (.iload_n 1, 1) := by decide +kernel
theorem dX7_swap_6 : decode cX7_swap 6 = .ok (.iload_n 2, 1) := by decide +kernel
theorem dX7_swap_7 : decode cX7_swap 7 = .ok (.iastore, 1) := by decide +kernel
theorem dX7_swap_8 : decode cX7_swap 8 = .ok (.iload_n 3, 1) := by decide +kernel
theorem dX7_swap_9 : decode cX7_swap 9 = .ok (.ireturn, 1) := by decide +kernel
theorem dX7_fraction_0 : decode cX7_fraction 0 = .ok (.lload_n 0, 1) := by decide +kernel
theorem dX7_fraction_1 : decode cX7_fraction 1 = .ok (.lconst 0, 1) := by decide +kernel
theorem dX7_fraction_2 : decode cX7_fraction 2 = .ok (.lcmp, 1) := by decide +kernel
theorem dX7_fraction_3 : decode cX7_fraction 3 = .ok (.ifCond .le 9, 3) := by decide +kernel
theorem dX7_fraction_6 : decode cX7_fraction 6 = .ok (.lload_n 2, 1) := by decide +kernel
theorem dX7_fraction_7 : decode cX7_fraction 7 = .ok (.lconst 0, 1) := by decide +kernel
theorem dX7_fraction_8 : decode cX7_fraction 8 = .ok (.lcmp, 1) := by decide +kernel
theorem dX7_fraction_9 : decode cX7_fraction 9 = .ok (.ifCond .gt 7, 3) := by decide +kernel
theorem dX7_fraction_12 : decode cX7_fraction 12 = .ok (.iload 4, 2) := by decide +kernel
theorem dX7_fraction_14 : decode cX7_fraction 14 = .ok (.i2l, 1) := by decide +kernel
theorem dX7_fraction_15 : decode cX7_fraction 15 = .ok (.lreturn, 1) := by decide +kernel
theorem dX7_fraction_16 : decode cX7_fraction 16 = .ok (.iload 4, 2) := by decide +kernel
theorem dX7_fraction_18 : decode cX7_fraction 18 = .ok (.ifCond .ne 7, 3) := by decide +kernel
theorem dX7_fraction_21 : decode cX7_fraction 21 = .ok (.lload_n 0, 1) := by decide +kernel
theorem dX7_fraction_22 : decode cX7_fraction 22 = .ok (.goto 4, 3) := by decide +kernel
theorem dX7_fraction_25 : decode cX7_fraction 25 = .ok (.lload_n 2, 1) := by decide +kernel
theorem dX7_fraction_26 : decode cX7_fraction 26 = .ok (.lload_n 0, 1) := by decide +kernel
theorem dX7_fraction_27 : decode cX7_fraction 27 = .ok (.lload_n 2, 1) := by decide +kernel
theorem dX7_fraction_28 : decode cX7_fraction 28 = .ok (.invokestatic 248, 3) := by decide +kernel
theorem dX7_fraction_31 : decode cX7_fraction 31 = .ok (.ldiv, 1) := by decide +kernel
theorem dX7_fraction_32 : decode cX7_fraction 32 = .ok (.lreturn, 1) := by decide +kernel
theorem dX7_commonDivisor_0 : decode cX7_commonDivisor 0 = .ok (.iconst 0, 1) := by decide +kernel
theorem dX7_commonDivisor_1 : decode cX7_commonDivisor 1 = .ok (.istore 4, 2) := by decide +kernel
theorem dX7_commonDivisor_3 : decode cX7_commonDivisor 3 = .ok (.iload 4, 2) := by decide +kernel
theorem dX7_commonDivisor_5 : decode cX7_commonDivisor 5 = .ok (.sipush 200, 3) := by decide +kernel
theorem dX7_commonDivisor_8 : decode cX7_commonDivisor 8 = .ok (.if_icmp .ge 25, 3) := by decide +kernel
theorem dX7_commonDivisor_11 : decode cX7_commonDivisor 11 = .ok (.lload_n 2, 1) := by decide +kernel
theorem dX7_commonDivisor_12 : decode cX7_commonDivisor 12 = .ok (.lconst 0, 1) := by decide +kernel
theorem dX7_commonDivisor_13 : decode cX7_commonDivisor 13 = .ok (.lcmp, 1) := by decide +kernel
theorem dX7_commonDivisor_14 : decode cX7_commonDivisor 14 = .ok (.ifCond .eq 19, 3) := by decide +kernel
theorem dX7_commonDivisor_17 : decode cX7_commonDivisor 17 = .ok (.lload_n 0, 1) := by decide +kernel
theorem dX7_commonDivisor_18 : decode cX7_commonDivisor 18 = .ok (.lload_n 2, 1) := by decide +kernel
theorem dX7_commonDivisor_19 : decode cX7_commonDivisor 19 = .ok (.lrem, 1) := by decide +kernel
theorem dX7_commonDivisor_20 : decode cX7_commonDivisor 20 = .ok (.lstore 5, 2) := by decide +kernel
theorem dX7_commonDivisor_22 : decode cX7_commonDivisor 22 = .ok (.lload_n 2, 1) := by decide +kernel
theorem dX7_commonDivisor_23 : decode cX7_commonDivisor 23 = .ok (.lstore_n 0, 1) := by decide +kernel
theorem dX7_commonDivisor_24 : decode cX7_commonDivisor 24 = .ok (.lload 5, 2) := by decide +kernel
theorem dX7_commonDivisor_26 : decode cX7_commonDivisor 26 = .ok (.lstore_n 2, 1) := by decide +kernel
theorem dX7_commonDivisor_27 : decode cX7_commonDivisor 27 = .ok (.iinc 4 1, 3) := by decide +kernel
theorem dX7_commonDivisor_30 : decode cX7_commonDivisor 30 = .ok (.goto (-27), 3) := by decide +kernel
theorem dX7_commonDivisor_33 : decode cX7_commonDivisor 33 = .ok (.lconst 1, 1) := by decide +kernel
theorem dX7_commonDivisor_34 : decode cX7_commonDivisor 34 = .ok (.lload_n 0, 1) := by decide +kernel
theorem dX7_commonDivisor_35 : decode cX7_commonDivisor 35 = .ok (.invokestatic 252, 3) := by decide +kernel
theorem dX7_commonDivisor_38 : decode cX7_commonDivisor 38 = .ok (.lreturn, 1) := by decide +kernel
theorem dX7_storyAt_0 : decode cX7_storyAt 0 = .ok (.iload_n 0, 1) := by decide +kernel
theorem dX7_storyAt_1 : decode cX7_storyAt 1 = .ok (.bipush 12, 2) := by decide +kernel
theorem dX7_storyAt_3 : decode cX7_storyAt 3 = .ok (.imul, 1) := by decide +kernel
theorem dX7_storyAt_4 : decode cX7_storyAt 4 = .ok (.iload_n 1, 1) := by decide +kernel
theorem dX7_storyAt_5 : decode cX7_storyAt 5 = .ok (.iadd, 1) := by decide +kernel
theorem dX7_storyAt_6 : decode cX7_storyAt 6 = .ok (.bipush 12, 2) := by decide +kernel
theorem dX7_storyAt_8 : decode cX7_storyAt 8 = .ok (.imul, 1) := by decide +kernel
theorem dX7_storyAt_9 : decode cX7_storyAt 9 = .ok (.iload_n 2, 1) := by decide +kernel
theorem dX7_storyAt_10 : decode cX7_storyAt 10 = .ok (.iadd, 1) := by decide +kernel
theorem dX7_storyAt_11 : decode cX7_storyAt 11 = .ok (.ireturn, 1) := by decide +kernel
theorem dX7_sortAt_0 : decode cX7_sortAt 0 = .ok (.iload_n 0, 1) := by decide +kernel
theorem dX7_sortAt_1 : decode cX7_sortAt 1 = .ok (.sipush 144, 3) := by decide +kernel
theorem dX7_sortAt_4 : decode cX7_sortAt 4 = .ok (.idiv, 1) := by decide +kernel
theorem dX7_sortAt_5 : decode cX7_sortAt 5 = .ok (.ireturn, 1) := by decide +kernel
theorem dX7_firstAt_0 : decode cX7_firstAt 0 = .ok (.iload_n 0, 1) := by decide +kernel
theorem dX7_firstAt_1 : decode cX7_firstAt 1 = .ok (.bipush 12, 2) := by decide +kernel
theorem dX7_firstAt_3 : decode cX7_firstAt 3 = .ok (.idiv, 1) := by decide +kernel
theorem dX7_firstAt_4 : decode cX7_firstAt 4 = .ok (.bipush 12, 2) := by decide +kernel
theorem dX7_firstAt_6 : decode cX7_firstAt 6 = .ok (.irem, 1) := by decide +kernel
theorem dX7_firstAt_7 : decode cX7_firstAt 7 = .ok (.ireturn, 1) := by decide +kernel
theorem dX7_secondAt_0 : decode cX7_secondAt 0 = .ok (.iload_n 0, 1) := by decide +kernel
theorem dX7_secondAt_1 : decode cX7_secondAt 1 = .ok (.bipush 12, 2) := by decide +kernel
theorem dX7_secondAt_3 : decode cX7_secondAt 3 = .ok (.irem, 1) := by decide +kernel
theorem dX7_secondAt_4 : decode cX7_secondAt 4 = .ok (.ireturn, 1) := by decide +kernel
theorem dX7_setsWith_0 : decode cX7_setsWith 0 = .ok (.iload_n 0, 1) := by decide +kernel
theorem dX7_setsWith_1 : decode cX7_setsWith 1 = .ok (.bipush 6, 2) := by decide +kernel
theorem dX7_setsWith_3 : decode cX7_setsWith 3 = .ok (.if_icmp .ge 9, 3) := by decide +kernel
theorem dX7_setsWith_6 : decode cX7_setsWith 6 = .ok (.getstatic 257, 3) := by decide +kernel
theorem dX7_setsWith_9 : decode cX7_setsWith 9 = .ok (.iload_n 0, 1) := by decide +kernel
theorem dX7_setsWith_10 : decode cX7_setsWith 10 = .ok (.laload, 1) := by decide +kernel
theorem dX7_setsWith_11 : decode cX7_setsWith 11 = .ok (.lreturn, 1) := by decide +kernel
theorem dX7_setsWith_12 : decode cX7_setsWith 12 = .ok (.iload_n 1, 1) := by decide +kernel
theorem dX7_setsWith_13 : decode cX7_setsWith 13 = .ok (.iload_n 0, 1) := by decide +kernel
theorem dX7_setsWith_14 : decode cX7_setsWith 14 = .ok (.bipush 6, 2) := by decide +kernel
theorem dX7_setsWith_16 : decode cX7_setsWith 16 = .ok (.isub, 1) := by decide +kernel
theorem dX7_setsWith_17 : decode cX7_setsWith 17 = .ok (.invokestatic 260, 3) := by decide +kernel
theorem dX7_setsWith_20 : decode cX7_setsWith 20 = .ok (.ifCond .eq 9, 3) := by decide +kernel
theorem dX7_setsWith_23 : decode cX7_setsWith 23 = .ok (.ldc2_w 263, 3) := by decide +kernel
theorem dX7_setsWith_26 : decode cX7_setsWith 26 = .ok (.goto 4, 3) := by decide +kernel
theorem dX7_setsWith_29 : decode cX7_setsWith 29 = .ok (.lconst 0, 1) := by decide +kernel
theorem dX7_setsWith_30 : decode cX7_setsWith 30 = .ok (.lreturn, 1) := by decide +kernel
theorem dX7_setsWithAll_0 : decode cX7_setsWithAll 0 = .ok (.ldc2_w 263, 3) := by decide +kernel
theorem dX7_setsWithAll_3 : decode cX7_setsWithAll 3 = .ok (.lstore_n 2, 1) := by decide +kernel
theorem dX7_setsWithAll_4 : decode cX7_setsWithAll 4 = .ok (.iconst 0, 1) := by decide +kernel
theorem dX7_setsWithAll_5 : decode cX7_setsWithAll 5 = .ok (.istore 4, 2) := by decide +kernel
theorem dX7_setsWithAll_7 : decode cX7_setsWithAll 7 = .ok (.iload 4, 2) := by decide +kernel
theorem dX7_setsWithAll_9 : decode cX7_setsWithAll 9 = .ok (.bipush 12, 2) := by decide +kernel
theorem dX7_setsWithAll_11 : decode cX7_setsWithAll 11 = .ok (.if_icmp .ge 27, 3) := by decide +kernel
theorem dX7_setsWithAll_14 : decode cX7_setsWithAll 14 = .ok (.iload_n 0, 1) := by decide +kernel
theorem dX7_setsWithAll_15 : decode cX7_setsWithAll 15 = .ok (.iload 4, 2) := by decide +kernel
theorem dX7_setsWithAll_17 : decode cX7_setsWithAll 17 = .ok (.invokestatic 260, 3) := by decide +kernel
theorem dX7_setsWithAll_20 : decode cX7_setsWithAll 20 = .ok (.ifCond .eq 12, 3) := by decide +kernel
theorem dX7_setsWithAll_23 : decode cX7_setsWithAll 23 = .ok (.lload_n 2, 1) := by decide +kernel
theorem dX7_setsWithAll_24 : decode cX7_setsWithAll 24 = .ok (.iload 4, 2) := by decide +kernel
theorem dX7_setsWithAll_26 : decode cX7_setsWithAll 26 = .ok (.iload_n 1, 1) := by decide +kernel
theorem dX7_setsWithAll_27 : decode cX7_setsWithAll 27 = .ok (.invokestatic 265, 3) := by decide +kernel
theorem dX7_setsWithAll_30 : decode cX7_setsWithAll 30 = .ok (.land, 1) := by decide +kernel
theorem dX7_setsWithAll_31 : decode cX7_setsWithAll 31 = .ok (.lstore_n 2, 1) := by decide +kernel
theorem dX7_setsWithAll_32 : decode cX7_setsWithAll 32 = .ok (.iinc 4 1, 3) := by decide +kernel
theorem dX7_setsWithAll_35 : decode cX7_setsWithAll 35 = .ok (.goto (-28), 3) := by decide +kernel
theorem dX7_setsWithAll_38 : decode cX7_setsWithAll 38 = .ok (.lload_n 2, 1) := by decide +kernel
theorem dX7_setsWithAll_39 : decode cX7_setsWithAll 39 = .ok (.lreturn, 1) := by decide +kernel
theorem dX7_setsWithin_0 : decode cX7_setsWithin 0 = .ok (.ldc2_w 263, 3) := by decide +kernel
theorem dX7_setsWithin_3 : decode cX7_setsWithin 3 = .ok (.lstore_n 2, 1) := by decide +kernel
theorem dX7_setsWithin_4 : decode cX7_setsWithin 4 = .ok (.iconst 0, 1) := by decide +kernel
theorem dX7_setsWithin_5 : decode cX7_setsWithin 5 = .ok (.istore 4, 2) := by decide +kernel
theorem dX7_setsWithin_7 : decode cX7_setsWithin 7 = .ok (.iload 4, 2) := by decide +kernel
theorem dX7_setsWithin_9 : decode cX7_setsWithin 9 = .ok (.bipush 12, 2) := by decide +kernel
theorem dX7_setsWithin_11 : decode cX7_setsWithin 11 = .ok (.if_icmp .ge 31, 3) := by decide +kernel
theorem dX7_setsWithin_14 : decode cX7_setsWithin 14 = .ok (.iload_n 0, 1) := by decide +kernel
theorem dX7_setsWithin_15 : decode cX7_setsWithin 15 = .ok (.iload 4, 2) := by decide +kernel
theorem dX7_setsWithin_17 : decode cX7_setsWithin 17 = .ok (.invokestatic 260, 3) := by decide +kernel
theorem dX7_setsWithin_20 : decode cX7_setsWithin 20 = .ok (.ifCond .ne 16, 3) := by decide +kernel
theorem dX7_setsWithin_23 : decode cX7_setsWithin 23 = .ok (.lload_n 2, 1) := by decide +kernel
theorem dX7_setsWithin_24 : decode cX7_setsWithin 24 = .ok (.iload 4, 2) := by decide +kernel
theorem dX7_setsWithin_26 : decode cX7_setsWithin 26 = .ok (.iload_n 1, 1) := by decide +kernel
theorem dX7_setsWithin_27 : decode cX7_setsWithin 27 = .ok (.invokestatic 265, 3) := by decide +kernel
theorem dX7_setsWithin_30 : decode cX7_setsWithin 30 = .ok (.ldc2_w 263, 3) := by decide +kernel
theorem dX7_setsWithin_33 : decode cX7_setsWithin 33 = .ok (.lxor, 1) := by decide +kernel
theorem dX7_setsWithin_34 : decode cX7_setsWithin 34 = .ok (.land, 1) := by decide +kernel
theorem dX7_setsWithin_35 : decode cX7_setsWithin 35 = .ok (.lstore_n 2, 1) := by decide +kernel
theorem dX7_setsWithin_36 : decode cX7_setsWithin 36 = .ok (.iinc 4 1, 3) := by decide +kernel
theorem dX7_setsWithin_39 : decode cX7_setsWithin 39 = .ok (.goto (-32), 3) := by decide +kernel
theorem dX7_setsWithin_42 : decode cX7_setsWithin 42 = .ok (.lload_n 2, 1) := by decide +kernel
theorem dX7_setsWithin_43 : decode cX7_setsWithin 43 = .ok (.lreturn, 1) := by decide +kernel
theorem dX7_setsGiven_0 : decode cX7_setsGiven 0 = .ok (.iload_n 0, 1) := by decide +kernel
theorem dX7_setsGiven_1 : decode cX7_setsGiven 1 = .ok (.bipush 6, 2) := by decide +kernel
theorem dX7_setsGiven_3 : decode cX7_setsGiven 3 = .ok (.if_icmp .ge 21, 3) := by decide +kernel
theorem dX7_setsGiven_6 : decode cX7_setsGiven 6 = .ok (.aload_n 1, 1) := by decide +kernel
theorem dX7_setsGiven_7 : decode cX7_setsGiven 7 = .ok (.iload_n 2, 1) := by decide +kernel
theorem dX7_setsGiven_8 : decode cX7_setsGiven 8 = .ok (.laload, 1) := by decide +kernel
theorem dX7_setsGiven_9 : decode cX7_setsGiven 9 = .ok (.getstatic 257, 3) := by decide +kernel
theorem dX7_setsGiven_12 : decode cX7_setsGiven 12 = .ok (.iload_n 0, 1) := by decide +kernel
theorem dX7_setsGiven_13 : decode cX7_setsGiven 13 = .ok (.laload, 1) := by decide +kernel
theorem dX7_setsGiven_14 : decode cX7_setsGiven 14 = .ok (.ldc2_w 263, 3) := by decide +kernel
theorem dX7_setsGiven_17 : decode cX7_setsGiven 17 = .ok (.lxor, 1) := by decide +kernel
theorem dX7_setsGiven_18 : decode cX7_setsGiven 18 = .ok (.land, 1) := by decide +kernel
theorem dX7_setsGiven_19 : decode cX7_setsGiven 19 = .ok (.iconst 1, 1) := by decide +kernel
theorem dX7_setsGiven_20 : decode cX7_setsGiven 20 = .ok (.iload_n 0, 1) := by decide +kernel
theorem dX7_setsGiven_21 : decode cX7_setsGiven 21 = .ok (.ishl, 1) := by decide +kernel
theorem dX7_setsGiven_22 : decode cX7_setsGiven 22 = .ok (.lshl, 1) := by decide +kernel
theorem dX7_setsGiven_23 : decode cX7_setsGiven 23 = .ok (.lreturn, 1) := by decide +kernel
theorem dX7_setsGiven_24 : decode cX7_setsGiven 24 = .ok (.iconst 1, 1) := by decide +kernel
theorem dX7_setsGiven_25 : decode cX7_setsGiven 25 = .ok (.iload_n 0, 1) := by decide +kernel
theorem dX7_setsGiven_26 : decode cX7_setsGiven 26 = .ok (.bipush 6, 2) := by decide +kernel
theorem dX7_setsGiven_28 : decode cX7_setsGiven 28 = .ok (.isub, 1) := by decide +kernel
theorem dX7_setsGiven_29 : decode cX7_setsGiven 29 = .ok (.ishl, 1) := by decide +kernel
theorem dX7_setsGiven_30 : decode cX7_setsGiven 30 = .ok (.istore_n 3, 1) := by decide +kernel
theorem dX7_setsGiven_31 : decode cX7_setsGiven 31 = .ok (.iload_n 2, 1) := by decide +kernel
theorem dX7_setsGiven_32 : decode cX7_setsGiven 32 = .ok (.iload_n 3, 1) := by decide +kernel
theorem dX7_setsGiven_33 : decode cX7_setsGiven 33 = .ok (.iand, 1) := by decide +kernel
theorem dX7_setsGiven_34 : decode cX7_setsGiven 34 = .ok (.ifCond .eq 11, 3) := by decide +kernel
theorem dX7_setsGiven_37 : decode cX7_setsGiven 37 = .ok (.aload_n 1, 1) := by decide +kernel
theorem dX7_setsGiven_38 : decode cX7_setsGiven 38 = .ok (.iload_n 2, 1) := by decide +kernel
theorem dX7_setsGiven_39 : decode cX7_setsGiven 39 = .ok (.iload_n 3, 1) := by decide +kernel
theorem dX7_setsGiven_40 : decode cX7_setsGiven 40 = .ok (.ixor, 1) := by decide +kernel
theorem dX7_setsGiven_41 : decode cX7_setsGiven 41 = .ok (.laload, 1) := by decide +kernel
theorem dX7_setsGiven_42 : decode cX7_setsGiven 42 = .ok (.goto 4, 3) := by decide +kernel
theorem dX7_setsGiven_45 : decode cX7_setsGiven 45 = .ok (.lconst 0, 1) := by decide +kernel
theorem dX7_setsGiven_46 : decode cX7_setsGiven 46 = .ok (.lreturn, 1) := by decide +kernel
theorem dX7_isAmong_0 : decode cX7_isAmong 0 = .ok (.aload_n 0, 1) := by decide +kernel
theorem dX7_isAmong_1 : decode cX7_isAmong 1 = .ok (.iload_n 1, 1) := by decide +kernel
theorem dX7_isAmong_2 : decode cX7_isAmong 2 = .ok (.bipush 6, 2) := by decide +kernel
theorem dX7_isAmong_4 : decode cX7_isAmong 4 = .ok (.ishr, 1) := by decide +kernel
theorem dX7_isAmong_5 : decode cX7_isAmong 5 = .ok (.laload, 1) := by decide +kernel
theorem dX7_isAmong_6 : decode cX7_isAmong 6 = .ok (.iload_n 1, 1) := by decide +kernel
theorem dX7_isAmong_7 : decode cX7_isAmong 7 = .ok (.invokestatic 269, 3) := by decide +kernel
theorem dX7_isAmong_10 : decode cX7_isAmong 10 = .ok (.ireturn, 1) := by decide +kernel
theorem dX7_isOfWord_0 : decode cX7_isOfWord 0 = .ok (.lload_n 0, 1) := by decide +kernel
theorem dX7_isOfWord_1 : decode cX7_isOfWord 1 = .ok (.iload_n 2, 1) := by decide +kernel
theorem dX7_isOfWord_2 : decode cX7_isOfWord 2 = .ok (.bipush 63, 2) := by decide +kernel
theorem dX7_isOfWord_4 : decode cX7_isOfWord 4 = .ok (.iand, 1) := by decide +kernel
theorem dX7_isOfWord_5 : decode cX7_isOfWord 5 = .ok (.lushr, 1) := by decide +kernel
theorem dX7_isOfWord_6 : decode cX7_isOfWord 6 = .ok (.lconst 1, 1) := by decide +kernel
theorem dX7_isOfWord_7 : decode cX7_isOfWord 7 = .ok (.land, 1) := by decide +kernel
theorem dX7_isOfWord_8 : decode cX7_isOfWord 8 = .ok (.lconst 0, 1) := by decide +kernel
theorem dX7_isOfWord_9 : decode cX7_isOfWord 9 = .ok (.lcmp, 1) := by decide +kernel
theorem dX7_isOfWord_10 : decode cX7_isOfWord 10 = .ok (.ifCond .eq 7, 3) := by decide +kernel
theorem dX7_isOfWord_13 : decode cX7_isOfWord 13 = .ok (.iconst 1, 1) := by decide +kernel
theorem dX7_isOfWord_14 : decode cX7_isOfWord 14 = .ok (.goto 4, 3) := by decide +kernel
theorem dX7_isOfWord_17 : decode cX7_isOfWord 17 = .ok (.iconst 0, 1) := by decide +kernel
theorem dX7_isOfWord_18 : decode cX7_isOfWord 18 = .ok (.ireturn, 1) := by decide +kernel
theorem dX8_init_0 : decode cX8_init 0 = .ok (.aload_n 0, 1) := by decide +kernel
theorem dX8_init_1 : decode cX8_init 1 = .ok (.invokespecial 1, 3) := by decide +kernel
theorem dX8_init_4 : decode cX8_init 4 = .ok (.aload_n 0, 1) := by decide +kernel
theorem dX8_init_5 : decode cX8_init 5 = .ok (.bipush 12, 2) := by decide +kernel
theorem dX8_init_7 : decode cX8_init 7 = .ok (.newarray .int, 2) := by decide +kernel
theorem dX8_init_9 : decode cX8_init 9 = .ok (.putfield 7, 3) := by decide +kernel
theorem dX8_init_12 : decode cX8_init 12 = .ok (.aload_n 0, 1) := by decide +kernel
theorem dX8_init_13 : decode cX8_init 13 = .ok (.bipush 12, 2) := by decide +kernel
theorem dX8_init_15 : decode cX8_init 15 = .ok (.newarray .int, 2) := by decide +kernel
theorem dX8_init_17 : decode cX8_init 17 = .ok (.putfield 13, 3) := by decide +kernel
theorem dX8_init_20 : decode cX8_init 20 = .ok (.aload_n 0, 1) := by decide +kernel
theorem dX8_init_21 : decode cX8_init 21 = .ok (.bipush 12, 2) := by decide +kernel
theorem dX8_init_23 : decode cX8_init 23 = .ok (.newarray .int, 2) := by decide +kernel
theorem dX8_init_25 : decode cX8_init 25 = .ok (.putfield 16, 3) := by decide +kernel
theorem dX8_init_28 : decode cX8_init 28 = .ok (.aload_n 0, 1) := by decide +kernel
theorem dX8_init_29 : decode cX8_init 29 = .ok (.bipush 12, 2) := by decide +kernel
theorem dX8_init_31 : decode cX8_init 31 = .ok (.newarray .int, 2) := by decide +kernel
theorem dX8_init_33 : decode cX8_init 33 = .ok (.putfield 19, 3) := by decide +kernel
theorem dX8_init_36 : decode cX8_init 36 = .ok (.aload_n 0, 1) := by decide +kernel
theorem dX8_init_37 : decode cX8_init 37 = .ok (.bipush 12, 2) := by decide +kernel
theorem dX8_init_39 : decode cX8_init 39 = .ok (.newarray .boolean, 2) := by decide +kernel
theorem dX8_init_41 : decode cX8_init 41 = .ok (.putfield 22, 3) := by decide +kernel
theorem dX8_init_44 : decode cX8_init 44 = .ok (.aload_n 0, 1) := by decide +kernel
theorem dX8_init_45 : decode cX8_init 45 = .ok (.bipush 12, 2) := by decide +kernel
theorem dX8_init_47 : decode cX8_init 47 = .ok (.newarray .int, 2) := by decide +kernel
theorem dX8_init_49 : decode cX8_init 49 = .ok (.putfield 26, 3) := by decide +kernel
theorem dX8_init_52 : decode cX8_init 52 = .ok (.aload_n 0, 1) := by decide +kernel
theorem dX8_init_53 : decode cX8_init 53 = .ok (.bipush 12, 2) := by decide +kernel
theorem dX8_init_55 : decode cX8_init 55 = .ok (.newarray .boolean, 2) := by decide +kernel
theorem dX8_init_57 : decode cX8_init 57 = .ok (.putfield 29, 3) := by decide +kernel
theorem dX8_init_60 : decode cX8_init 60 = .ok (.aload_n 0, 1) := by decide +kernel
theorem dX8_init_61 : decode cX8_init 61 = .ok (.iconst 5, 1) := by decide +kernel
theorem dX8_init_62 : decode cX8_init 62 = .ok (.newarray .int, 2) := by decide +kernel
theorem dX8_init_64 : decode cX8_init 64 = .ok (.putfield 32, 3) := by decide +kernel
theorem dX8_init_67 : decode cX8_init 67 = .ok (.aload_n 0, 1) := by decide +kernel
theorem dX8_init_68 : decode cX8_init 68 = .ok (.bipush 40, 2) := by decide +kernel
theorem dX8_init_70 : decode cX8_init 70 = .ok (.newarray .int, 2) := by decide +kernel
theorem dX8_init_72 : decode cX8_init 72 = .ok (.putfield 35, 3) := by decide +kernel
theorem dX8_init_75 : decode cX8_init 75 = .ok (.aload_n 0, 1) := by decide +kernel
theorem dX8_init_76 : decode cX8_init 76 = .ok (.bipush 40, 2) := by decide +kernel
theorem dX8_init_78 : decode cX8_init 78 = .ok (.newarray .int, 2) := by decide +kernel
theorem dX8_init_80 : decode cX8_init 80 = .ok (.putfield 38, 3) := by decide +kernel
theorem dX8_init_83 : decode cX8_init 83 = .ok (.aload_n 0, 1) := by decide +kernel
theorem dX8_init_84 : decode cX8_init 84 = .ok (.sipush 210, 3) := by decide +kernel
theorem dX8_init_87 : decode cX8_init 87 = .ok (.newarray .int, 2) := by decide +kernel
theorem dX8_init_89 : decode cX8_init 89 = .ok (.putfield 41, 3) := by decide +kernel
theorem dX8_init_92 : decode cX8_init 92 = .ok (.aload_n 0, 1) := by decide +kernel
theorem dX8_init_93 : decode cX8_init 93 = .ok (.sipush 210, 3) := by decide +kernel
theorem dX8_init_96 : decode cX8_init 96 = .ok (.newarray .int, 2) := by decide +kernel
theorem dX8_init_98 : decode cX8_init 98 = .ok (.putfield 44, 3) := by decide +kernel
theorem dX8_init_101 : decode cX8_init 101 = .ok (.aload_n 0, 1) := by decide +kernel
theorem dX8_init_102 : decode cX8_init 102 = .ok (.sipush 210, 3) := by decide +kernel
theorem dX8_init_105 : decode cX8_init 105 = .ok (.newarray .int, 2) := by decide +kernel
theorem dX8_init_107 : decode cX8_init 107 = .ok (.putfield 47, 3) := by decide +kernel
theorem dX8_init_110 : decode cX8_init 110 = .ok (.aload_n 0, 1) := by decide +kernel
theorem dX8_init_111 : decode cX8_init 111 = .ok (.sipush 210, 3) := by decide +kernel
theorem dX8_init_114 : decode cX8_init 114 = .ok (.newarray .long, 2) := by decide +kernel
theorem dX8_init_116 : decode cX8_init 116 = .ok (.putfield 50, 3) := by decide +kernel
theorem dX8_init_119 : decode cX8_init 119 = .ok (.aload_n 0, 1) := by decide +kernel
theorem dX8_init_120 : decode cX8_init 120 = .ok (.sipush 4096, 3) := by decide +kernel
theorem dX8_init_123 : decode cX8_init 123 = .ok (.newarray .int, 2) := by decide +kernel
theorem dX8_init_125 : decode cX8_init 125 = .ok (.putfield 54, 3) := by decide +kernel
theorem dX8_init_128 : decode cX8_init 128 = .ok (.aload_n 0, 1) := by decide +kernel
theorem dX8_init_129 : decode cX8_init 129 = .ok (.sipush 4096, 3) := by decide +kernel
theorem dX8_init_132 : decode cX8_init 132 = .ok (.newarray .int, 2) := by decide +kernel
theorem dX8_init_134 : decode cX8_init 134 = .ok (.putfield 57, 3) := by decide +kernel
theorem dX8_init_137 : decode cX8_init 137 = .ok (.aload_n 0, 1) := by decide +kernel
theorem dX8_init_138 : decode cX8_init 138 = .ok (.sipush 4096, 3) := by decide +kernel
theorem dX8_init_141 : decode cX8_init 141 = .ok (.newarray .int, 2) := by decide +kernel
theorem dX8_init_143 : decode cX8_init 143 = .ok (.putfield 60, 3) := by decide +kernel
theorem dX8_init_146 : decode cX8_init 146 = .ok (.aload_n 0, 1) := by decide +kernel
theorem dX8_init_147 : decode cX8_init 147 = .ok (.sipush 4096, 3) := by decide +kernel
theorem dX8_init_150 : decode cX8_init 150 = .ok (.newarray .int, 2) := by decide +kernel
theorem dX8_init_152 : decode cX8_init 152 = .ok (.putfield 63, 3) := by decide +kernel
theorem dX8_init_155 : decode cX8_init 155 = .ok (.aload_n 0, 1) := by decide +kernel
theorem dX8_init_156 : decode cX8_init 156 = .ok (.bipush 10, 2) := by decide +kernel
theorem dX8_init_158 : decode cX8_init 158 = .ok (.newarray .int, 2) := by decide +kernel
theorem dX8_init_160 : decode cX8_init 160 = .ok (.putfield 66, 3) := by decide +kernel
theorem dX8_init_163 : decode cX8_init 163 = .ok (.aload_n 0, 1) := by decide +kernel
theorem dX8_init_164 : decode cX8_init 164 = .ok (.bipush 41, 2) := by decide +kernel
theorem dX8_init_166 : decode cX8_init 166 = .ok (.newarray .boolean, 2) := by decide +kernel
theorem dX8_init_168 : decode cX8_init 168 = .ok (.putfield 69, 3) := by decide +kernel
theorem dX8_init_171 : decode cX8_init 171 = .ok (.aload_n 0, 1) := by decide +kernel
theorem dX8_init_172 : decode cX8_init 172 = .ok (.sipush 4096, 3) := by decide +kernel
theorem dX8_init_175 : decode cX8_init 175 = .ok (.newarray .boolean, 2) := by decide +kernel
theorem dX8_init_177 : decode cX8_init 177 = .ok (.putfield 72, 3) := by decide +kernel
theorem dX8_init_180 : decode cX8_init 180 = .ok (.aload_n 0, 1) := by decide +kernel
theorem dX8_init_181 : decode cX8_init 181 = .ok (.getfield 32, 3) := by decide +kernel
theorem dX8_init_184 : decode cX8_init 184 = .ok (.iconst 2, 1) := by decide +kernel
theorem dX8_init_185 : decode cX8_init 185 = .ok (.iconst 1, 1) := by decide +kernel
theorem dX8_init_186 : decode cX8_init 186 = .ok (.iastore, 1) := by decide +kernel
theorem dX8_init_187 : decode cX8_init 187 = .ok (.return_, 1) := by decide +kernel
theorem dX8_in_0 : decode cX8_in 0 = .ok (.iload_n 0, 1) := by decide +kernel
theorem dX8_in_1 : decode cX8_in 1 = .ok (.iload_n 1, 1) := by decide +kernel
theorem dX8_in_2 : decode cX8_in 2 = .ok (.if_icmp .lt 12, 3) := by decide +kernel
theorem dX8_in_5 : decode cX8_in 5 = .ok (.iload_n 0, 1) := by decide +kernel
theorem dX8_in_6 : decode cX8_in 6 = .ok (.iload_n 2, 1) := by decide +kernel
theorem dX8_in_7 : decode cX8_in 7 = .ok (.if_icmp .gt 7, 3) := by decide +kernel
theorem dX8_in_10 : decode cX8_in 10 = .ok (.iconst 1, 1) := by decide +kernel
theorem dX8_in_11 : decode cX8_in 11 = .ok (.goto 4, 3) := by decide +kernel
theorem dX8_in_14 : decode cX8_in 14 = .ok (.iconst 0, 1) := by decide +kernel
theorem dX8_in_15 : decode cX8_in 15 = .ok (.ireturn, 1) := by decide +kernel
theorem dX8_isVersion_0 : decode cX8_isVersion 0 = .ok (.iload_n 1, 1) := by decide +kernel
theorem dX8_isVersion_1 : decode cX8_isVersion 1 = .ok (.iconst 0, 1) := by decide +kernel
theorem dX8_isVersion_2 : decode cX8_isVersion 2 = .ok (.aload_n 0, 1) := by decide +kernel
theorem dX8_isVersion_3 : decode cX8_isVersion 3 = .ok (.getfield 75, 3) := by decide +kernel
theorem dX8_isVersion_6 : decode cX8_isVersion 6 = .ok (.iconst 1, 1) := by decide +kernel
theorem dX8_isVersion_7 : decode cX8_isVersion 7 = .ok (.isub, 1) := by decide +kernel
theorem dX8_isVersion_8 : decode cX8_isVersion 8 = .ok (.invokestatic 79, 3) := by decide +kernel
theorem dX8_isVersion_11 : decode cX8_isVersion 11 = .ok (.ireturn, 1) := by decide +kernel
theorem dX8_isPart_0 : decode cX8_isPart 0 = .ok (.iload_n 0, 1) := by decide +kernel
theorem dX8_isPart_1 : decode cX8_isPart 1 = .ok (.iconst 0, 1) := by decide +kernel
theorem dX8_isPart_2 : decode cX8_isPart 2 = .ok (.iconst 1, 1) := by decide +kernel
theorem dX8_isPart_3 : decode cX8_isPart 3 = .ok (.invokestatic 79, 3) := by decide +kernel
theorem dX8_isPart_6 : decode cX8_isPart 6 = .ok (.ireturn, 1) := by decide +kernel
theorem dX8_hasBit_0 : decode cX8_hasBit 0 = .ok (.iload_n 0, 1) := by decide +kernel
theorem dX8_hasBit_1 : decode cX8_hasBit 1 = .ok (.iload_n 1, 1) := by decide +kernel
theorem dX8_hasBit_2 : decode cX8_hasBit 2 = .ok (.ishr, 1) := by decide +kernel
theorem dX8_hasBit_3 : decode cX8_hasBit 3 = .ok (.iconst 1, 1) := by decide +kernel
theorem dX8_hasBit_4 : decode cX8_hasBit 4 = .ok (.iand, 1) := by decide +kernel
theorem dX8_hasBit_5 : decode cX8_hasBit 5 = .ok (.iconst 1, 1) := by decide +kernel
theorem dX8_hasBit_6 : decode cX8_hasBit 6 = .ok (.if_icmp .ne 7, 3) := by decide +kernel
theorem dX8_hasBit_9 : decode cX8_hasBit 9 = .ok (.iconst 1, 1) := by decide +kernel
theorem dX8_hasBit_10 : decode cX8_hasBit 10 = .ok (.goto 4, 3) := by decide +kernel
theorem dX8_hasBit_13 : decode cX8_hasBit 13 = .ok (.iconst 0, 1) := by decide +kernel
theorem dX8_hasBit_14 : decode cX8_hasBit 14 = .ok (.ireturn, 1) := by decide +kernel
theorem dX8_version_0 : decode cX8_version 0 = .ok (.iload_n 1, 1) := by decide +kernel
theorem dX8_version_1 : decode cX8_version 1 = .ok (.iconst (-1), 1) := by decide +kernel
theorem dX8_version_2 : decode cX8_version 2 = .ok (.if_icmp .ne 16, 3) := by decide +kernel
theorem dX8_version_5 : decode cX8_version 5 = .ok (.iload_n 2, 1) := by decide +kernel
theorem dX8_version_6 : decode cX8_version 6 = .ok (.iconst (-1), 1) := by decide +kernel
theorem dX8_version_7 : decode cX8_version 7 = .ok (.if_icmp .ne 7, 3) := by decide +kernel
theorem dX8_version_10 : decode cX8_version 10 = .ok (.iconst 1, 1) := by decide +kernel
theorem dX8_version_11 : decode cX8_version 11 = .ok (.goto 38, 3) := by decide +kernel
theorem dX8_version_14 : decode cX8_version 14 = .ok (.iconst 0, 1) := by decide +kernel
theorem dX8_version_15 : decode cX8_version 15 = .ok (.goto 34, 3) := by decide +kernel
theorem dX8_version_18 : decode cX8_version 18 = .ok (.aload_n 0, 1) := by decide +kernel
theorem dX8_version_19 : decode cX8_version 19 = .ok (.iload_n 1, 1) := by decide +kernel
theorem dX8_version_20 : decode cX8_version 20 = .ok (.invokevirtual 83, 3) := by decide +kernel
theorem dX8_version_23 : decode cX8_version 23 = .ok (.ifCond .eq 25, 3) := by decide +kernel
theorem dX8_version_26 : decode cX8_version 26 = .ok (.iload_n 2, 1) := by decide +kernel
theorem dX8_version_27 : decode cX8_version 27 = .ok (.iconst (-1), 1) := by decide +kernel
theorem dX8_version_28 : decode cX8_version 28 = .ok (.if_icmp .eq 16, 3) := by decide +kernel
theorem dX8_version_31 : decode cX8_version 31 = .ok (.aload_n 0, 1) := by decide +kernel
theorem dX8_version_32 : decode cX8_version 32 = .ok (.iload_n 2, 1) := by decide +kernel
theorem dX8_version_33 : decode cX8_version 33 = .ok (.invokevirtual 83, 3) := by decide +kernel
theorem dX8_version_36 : decode cX8_version 36 = .ok (.ifCond .eq 12, 3) := by decide +kernel
theorem dX8_version_39 : decode cX8_version 39 = .ok (.iload_n 2, 1) := by decide +kernel
theorem dX8_version_40 : decode cX8_version 40 = .ok (.iload_n 1, 1) := by decide +kernel
theorem dX8_version_41 : decode cX8_version 41 = .ok (.if_icmp .eq 7, 3) := by decide +kernel
theorem dX8_version_44 : decode cX8_version 44 = .ok (.iconst 1, 1) := by decide +kernel
theorem dX8_version_45 : decode cX8_version 45 = .ok (.goto 4, 3) := by decide +kernel
theorem dX8_version_48 : decode cX8_version 48 = .ok (.iconst 0, 1) := by decide +kernel
theorem dX8_version_49 : decode cX8_version 49 = .ok (.istore 4, 2) := by decide +kernel
theorem dX8_version_51 : decode cX8_version 51 = .ok (.iload 4, 2) := by decide +kernel
theorem dX8_version_53 : decode cX8_version 53 = .ok (.ifCond .ne 5, 3) := by decide +kernel
theorem dX8_version_56 : decode cX8_version 56 = .ok (.iconst (-1), 1) := by decide +kernel
theorem dX8_version_57 : decode cX8_version 57 = .ok (.ireturn, 1) := by decide +kernel
theorem dX8_version_58 : decode cX8_version 58 = .ok (.iload_n 3, 1) := by decide +kernel
theorem dX8_version_59 : decode cX8_version 59 = .ok (.iconst 1, 1) := by decide +kernel
theorem dX8_version_60 : decode cX8_version 60 = .ok (.bipush 9, 2) := by decide +kernel
theorem dX8_version_62 : decode cX8_version 62 = .ok (.invokestatic 79, 3) := by decide +kernel
theorem dX8_version_65 : decode cX8_version 65 = .ok (.ifCond .ne 6, 3) := by decide +kernel
theorem dX8_version_68 : decode cX8_version 68 = .ok (.bipush (-2), 2) := by decide +kernel
theorem dX8_version_70 : decode cX8_version 70 = .ok (.ireturn, 1) := by decide +kernel
theorem dX8_version_71 : decode cX8_version 71 = .ok (.aload_n 0, 1) := by decide +kernel
theorem dX8_version_72 : decode cX8_version 72 = .ok (.getfield 75, 3) := by decide +kernel
theorem dX8_version_75 : decode cX8_version 75 = .ok (.bipush 12, 2) := by decide +kernel
theorem dX8_version_77 : decode cX8_version 77 = .ok (.if_icmp .ne 6, 3) := by decide +kernel
theorem dX8_version_80 : decode cX8_version 80 = .ok (.bipush (-4), 2) := by decide +kernel
theorem dX8_version_82 : decode cX8_version 82 = .ok (.ireturn, 1) := by decide +kernel
theorem dX8_version_83 : decode cX8_version 83 = .ok (.aload_n 0, 1) := by decide +kernel
theorem dX8_version_84 : decode cX8_version 84 = .ok (.getfield 7, 3) := by decide +kernel
theorem dX8_version_87 : decode cX8_version 87 = .ok (.aload_n 0, 1) := by decide +kernel
theorem dX8_version_88 : decode cX8_version 88 = .ok (.getfield 75, 3) := by decide +kernel
theorem dX8_version_91 : decode cX8_version 91 = .ok (.iconst 1, 1) := by decide +kernel
theorem dX8_version_92 : decode cX8_version 92 = .ok (.aload_n 0, 1) := by decide +kernel
theorem dX8_version_93 : decode cX8_version 93 = .ok (.getfield 75, 3) := by decide +kernel
theorem dX8_version_96 : decode cX8_version 96 = .ok (.ishl, 1) := by decide +kernel
theorem dX8_version_97 : decode cX8_version 97 = .ok (.iload_n 1, 1) := by decide +kernel
theorem dX8_version_98 : decode cX8_version 98 = .ok (.ifCond .ge 7, 3) := by decide +kernel
theorem dX8_version_101 : decode cX8_version 101 = .ok (.iconst 0, 1) := by decide +kernel
theorem dX8_version_102 : decode cX8_version 102 = .ok (.goto 9, 3) := by decide +kernel
theorem dX8_version_105 : decode cX8_version 105 = .ok (.aload_n 0, 1) := by decide +kernel
theorem dX8_version_106 : decode cX8_version 106 = .ok (.getfield 7, 3) := by decide +kernel
theorem dX8_version_109 : decode cX8_version 109 = .ok (.iload_n 1, 1) := by decide +kernel
theorem dX8_version_110 : decode cX8_version 110 = .ok (.iaload, 1) := by decide +kernel
theorem dX8_version_111 : decode cX8_version 111 = .ok (.ior, 1) := by decide +kernel
theorem dX8_version_112 : decode cX8_version 112 = .ok (.iload_n 2, 1) := by decide +kernel
theorem dX8_version_113 : decode cX8_version 113 = .ok (.ifCond .ge 7, 3) := by decide +kernel
theorem dX8_version_116 : decode cX8_version 116 = .ok (.iconst 0, 1) := by decide +kernel
theorem dX8_version_117 : decode cX8_version 117 = .ok (.goto 9, 3) := by decide +kernel
theorem dX8_version_120 : decode cX8_version 120 = .ok (.aload_n 0, 1) := by decide +kernel
theorem dX8_version_121 : decode cX8_version 121 = .ok (.getfield 7, 3) := by decide +kernel
theorem dX8_version_124 : decode cX8_version 124 = .ok (.iload_n 2, 1) := by decide +kernel
theorem dX8_version_125 : decode cX8_version 125 = .ok (.iaload, 1) := by decide +kernel
theorem dX8_version_126 : decode cX8_version 126 = .ok (.ior, 1) := by decide +kernel
theorem dX8_version_127 : decode cX8_version 127 = .ok (.iastore, 1) := by decide +kernel
theorem dX8_version_128 : decode cX8_version 128 = .ok (.aload_n 0, 1) := by decide +kernel
theorem dX8_version_129 : decode cX8_version 129 = .ok (.getfield 13, 3) := by decide +kernel
theorem dX8_version_132 : decode cX8_version 132 = .ok (.aload_n 0, 1) := by decide +kernel
theorem dX8_version_133 : decode cX8_version 133 = .ok (.getfield 75, 3) := by decide +kernel
theorem dX8_version_136 : decode cX8_version 136 = .ok (.iload_n 3, 1) := by decide +kernel
theorem dX8_version_137 : decode cX8_version 137 = .ok (.iastore, 1) := by decide +kernel
theorem dX8_version_138 : decode cX8_version 138 = .ok (.aload_n 0, 1) := by decide +kernel
theorem dX8_version_139 : decode cX8_version 139 = .ok (.getfield 16, 3) := by decide +kernel
theorem dX8_version_142 : decode cX8_version 142 = .ok (.aload_n 0, 1) := by decide +kernel
theorem dX8_version_143 : decode cX8_version 143 = .ok (.getfield 75, 3) := by decide +kernel
theorem dX8_version_146 : decode cX8_version 146 = .ok (.iconst 1, 1) := by decide +kernel
theorem dX8_version_147 : decode cX8_version 147 = .ok (.iastore, 1) := by decide +kernel
theorem dX8_version_148 : decode cX8_version 148 = .ok (.aload_n 0, 1) := by decide +kernel
theorem dX8_version_149 : decode cX8_version 149 = .ok (.getfield 19, 3) := by decide +kernel
theorem dX8_version_152 : decode cX8_version 152 = .ok (.aload_n 0, 1) := by decide +kernel
theorem dX8_version_153 : decode cX8_version 153 = .ok (.getfield 75, 3) := by decide +kernel
theorem dX8_version_156 : decode cX8_version 156 = .ok (.iconst 0, 1) := by decide +kernel
theorem dX8_version_157 : decode cX8_version 157 = .ok (.iastore, 1) := by decide +kernel
theorem dX8_version_158 : decode cX8_version 158 = .ok (.aload_n 0, 1) := by decide +kernel
theorem dX8_version_159 : decode cX8_version 159 = .ok (.getfield 22, 3) := by decide +kernel
end
section
theorem dX8_version_162 : decode cX8_version 162 = .ok (.aload_n 0, 1) := by decide +kernel
theorem dX8_version_163 : decode cX8_version 163 = .ok (.getfield 75, 3) := by decide +kernel
theorem dX8_version_166 : decode cX8_version 166 = .ok (.iconst 0, 1) := by decide +kernel
theorem dX8_version_167 : decode cX8_version 167 = .ok (.bastore, 1) := by decide +kernel
theorem dX8_version_168 : decode cX8_version 168 = .ok (.aload_n 0, 1) := by decide +kernel
theorem dX8_version_169 : decode cX8_version 169 = .ok (.dup, 1) := by decide +kernel
theorem dX8_version_170 : decode cX8_version 170 = .ok (.getfield 75, 3) := by decide +kernel
theorem dX8_version_173 : decode cX8_version 173 = .ok (.iconst 1, 1) := by decide +kernel
theorem dX8_version_174 : decode cX8_version 174 = .ok (.iadd, 1) := by decide +kernel
theorem dX8_version_175 : decode cX8_version 175 = .ok (.putfield 75, 3) := by decide +kernel
theorem dX8_version_178 : decode cX8_version 178 = .ok (.aload_n 0, 1) := by decide +kernel
theorem dX8_version_179 : decode cX8_version 179 = .ok (.iconst 0, 1) := by decide +kernel
theorem dX8_version_180 : decode cX8_version 180 = .ok (.putfield 87, 3) := by decide +kernel
theorem dX8_version_183 : decode cX8_version 183 = .ok (.aload_n 0, 1) := by decide +kernel
theorem dX8_version_184 : decode cX8_version 184 = .ok (.getfield 75, 3) := by decide +kernel
theorem dX8_version_187 : decode cX8_version 187 = .ok (.iconst 1, 1) := by decide +kernel
theorem dX8_version_188 : decode cX8_version 188 = .ok (.isub, 1) := by decide +kernel
theorem dX8_version_189 : decode cX8_version 189 = .ok (.ireturn, 1) := by decide +kernel
theorem dX8_has_0 : decode cX8_has 0 = .ok (.aload_n 0, 1) := by decide +kernel
theorem dX8_has_1 : decode cX8_has 1 = .ok (.iload_n 1, 1) := by decide +kernel
theorem dX8_has_2 : decode cX8_has 2 = .ok (.invokevirtual 83, 3) := by decide +kernel
theorem dX8_has_5 : decode cX8_has 5 = .ok (.ifCond .eq 12, 3) := by decide +kernel
theorem dX8_has_8 : decode cX8_has 8 = .ok (.aload_n 0, 1) := by decide +kernel
theorem dX8_has_9 : decode cX8_has 9 = .ok (.getfield 7, 3) := by decide +kernel
theorem dX8_has_12 : decode cX8_has 12 = .ok (.iload_n 1, 1) := by decide +kernel
theorem dX8_has_13 : decode cX8_has 13 = .ok (.iaload, 1) := by decide +kernel
theorem dX8_has_14 : decode cX8_has 14 = .ok (.goto 4, 3) := by decide +kernel
theorem dX8_has_17 : decode cX8_has 17 = .ok (.iconst (-1), 1) := by decide +kernel
theorem dX8_has_18 : decode cX8_has 18 = .ok (.ireturn, 1) := by decide +kernel
theorem dX8_isTested_0 : decode cX8_isTested 0 = .ok (.iconst 0, 1) := by decide +kernel
theorem dX8_isTested_1 : decode cX8_isTested 1 = .ok (.istore_n 2, 1) := by decide +kernel
theorem dX8_isTested_2 : decode cX8_isTested 2 = .ok (.iconst 0, 1) := by decide +kernel
theorem dX8_isTested_3 : decode cX8_isTested 3 = .ok (.istore_n 3, 1) := by decide +kernel
theorem dX8_isTested_4 : decode cX8_isTested 4 = .ok (.iload_n 3, 1) := by decide +kernel
theorem dX8_isTested_5 : decode cX8_isTested 5 = .ok (.aload_n 0, 1) := by decide +kernel
theorem dX8_isTested_6 : decode cX8_isTested 6 = .ok (.getfield 91, 3) := by decide +kernel
theorem dX8_isTested_9 : decode cX8_isTested 9 = .ok (.if_icmp .ge 29, 3) := by decide +kernel
theorem dX8_isTested_12 : decode cX8_isTested 12 = .ok (.iload_n 2, 1) := by decide +kernel
theorem dX8_isTested_13 : decode cX8_isTested 13 = .ok (.ifCond .ne 13, 3) := by decide +kernel
theorem dX8_isTested_16 : decode cX8_isTested 16 = .ok (.aload_n 0, 1) := by decide +kernel
theorem dX8_isTested_17 : decode cX8_isTested 17 = .ok (.getfield 26, 3) := by decide +kernel
theorem dX8_isTested_20 : decode cX8_isTested 20 = .ok (.iload_n 3, 1) := by decide +kernel
theorem dX8_isTested_21 : decode cX8_isTested 21 = .ok (.iaload, 1) := by decide +kernel
theorem dX8_isTested_22 : decode cX8_isTested 22 = .ok (.iload_n 1, 1) := by decide +kernel
theorem dX8_isTested_23 : decode cX8_isTested 23 = .ok (.if_icmp .ne 7, 3) := by decide +kernel
theorem dX8_isTested_26 : decode cX8_isTested 26 = .ok (.iconst 1, 1) := by decide +kernel
theorem dX8_isTested_27 : decode cX8_isTested 27 = .ok (.goto 4, 3) := by decide +kernel
theorem dX8_isTested_30 : decode cX8_isTested 30 = .ok (.iconst 0, 1) := by decide +kernel
theorem dX8_isTested_31 : decode cX8_isTested 31 = .ok (.istore_n 2, 1) := by decide +kernel
theorem dX8_isTested_32 : decode cX8_isTested 32 = .ok (.iinc 3 1, 3) := by decide +kernel
theorem dX8_isTested_35 : decode cX8_isTested 35 = .ok (.goto (-31), 3) := by decide +kernel
theorem dX8_isTested_38 : decode cX8_isTested 38 = .ok (.iload_n 2, 1) := by decide +kernel
theorem dX8_isTested_39 : decode cX8_isTested 39 = .ok (.ireturn, 1) := by decide +kernel
theorem dX8_set_0 : decode cX8_set 0 = .ok (.aload_n 0, 1) := by decide +kernel
theorem dX8_set_1 : decode cX8_set 1 = .ok (.iload_n 1, 1) := by decide +kernel
theorem dX8_set_2 : decode cX8_set 2 = .ok (.invokevirtual 83, 3) := by decide +kernel
theorem dX8_set_5 : decode cX8_set 5 = .ok (.ifCond .ne 5, 3) := by decide +kernel
theorem dX8_set_8 : decode cX8_set 8 = .ok (.iconst (-1), 1) := by decide +kernel
theorem dX8_set_9 : decode cX8_set 9 = .ok (.ireturn, 1) := by decide +kernel
theorem dX8_set_10 : decode cX8_set 10 = .ok (.iload_n 2, 1) := by decide +kernel
theorem dX8_set_11 : decode cX8_set 11 = .ok (.ifCond .eq 8, 3) := by decide +kernel
theorem dX8_set_14 : decode cX8_set 14 = .ok (.iload_n 2, 1) := by decide +kernel
theorem dX8_set_15 : decode cX8_set 15 = .ok (.iconst 1, 1) := by decide +kernel
theorem dX8_set_16 : decode cX8_set 16 = .ok (.if_icmp .ne 13, 3) := by decide +kernel
theorem dX8_set_19 : decode cX8_set 19 = .ok (.iload_n 3, 1) := by decide +kernel
theorem dX8_set_20 : decode cX8_set 20 = .ok (.iconst 1, 1) := by decide +kernel
theorem dX8_set_21 : decode cX8_set 21 = .ok (.bipush 9, 2) := by decide +kernel
theorem dX8_set_23 : decode cX8_set 23 = .ok (.invokestatic 79, 3) := by decide +kernel
theorem dX8_set_26 : decode cX8_set 26 = .ok (.goto 38, 3) := by decide +kernel
theorem dX8_set_29 : decode cX8_set 29 = .ok (.iload_n 2, 1) := by decide +kernel
theorem dX8_set_30 : decode cX8_set 30 = .ok (.iconst 2, 1) := by decide +kernel
theorem dX8_set_31 : decode cX8_set 31 = .ok (.if_icmp .ne 16, 3) := by decide +kernel
theorem dX8_set_34 : decode cX8_set 34 = .ok (.iload_n 3, 1) := by decide +kernel
theorem dX8_set_35 : decode cX8_set 35 = .ok (.iconst 0, 1) := by decide +kernel
theorem dX8_set_36 : decode cX8_set 36 = .ok (.iconst 1, 1) := by decide +kernel
theorem dX8_set_37 : decode cX8_set 37 = .ok (.iload_n 1, 1) := by decide +kernel
theorem dX8_set_38 : decode cX8_set 38 = .ok (.ishl, 1) := by decide +kernel
theorem dX8_set_39 : decode cX8_set 39 = .ok (.iconst 1, 1) := by decide +kernel
theorem dX8_set_40 : decode cX8_set 40 = .ok (.isub, 1) := by decide +kernel
theorem dX8_set_41 : decode cX8_set 41 = .ok (.invokestatic 79, 3) := by decide +kernel
theorem dX8_set_44 : decode cX8_set 44 = .ok (.goto 20, 3) := by decide +kernel
theorem dX8_set_47 : decode cX8_set 47 = .ok (.iload_n 2, 1) := by decide +kernel
theorem dX8_set_48 : decode cX8_set 48 = .ok (.iconst 3, 1) := by decide +kernel
theorem dX8_set_49 : decode cX8_set 49 = .ok (.if_icmp .ne 14, 3) := by decide +kernel
theorem dX8_set_52 : decode cX8_set 52 = .ok (.iload_n 3, 1) := by decide +kernel
theorem dX8_set_53 : decode cX8_set 53 = .ok (.invokestatic 94, 3) := by decide +kernel
theorem dX8_set_56 : decode cX8_set 56 = .ok (.ifCond .eq 7, 3) := by decide +kernel
theorem dX8_set_59 : decode cX8_set 59 = .ok (.iconst 1, 1) := by decide +kernel
theorem dX8_set_60 : decode cX8_set 60 = .ok (.goto 4, 3) := by decide +kernel
theorem dX8_set_63 : decode cX8_set 63 = .ok (.iconst 0, 1) := by decide +kernel
theorem dX8_set_64 : decode cX8_set 64 = .ok (.istore 4, 2) := by decide +kernel
theorem dX8_set_66 : decode cX8_set 66 = .ok (.iload 4, 2) := by decide +kernel
theorem dX8_set_68 : decode cX8_set 68 = .ok (.ifCond .ne 6, 3) := by decide +kernel
theorem dX8_set_71 : decode cX8_set 71 = .ok (.bipush (-2), 2) := by decide +kernel
theorem dX8_set_73 : decode cX8_set 73 = .ok (.ireturn, 1) := by decide +kernel
theorem dX8_set_74 : decode cX8_set 74 = .ok (.iload_n 2, 1) := by decide +kernel
theorem dX8_set_75 : decode cX8_set 75 = .ok (.iconst 3, 1) := by decide +kernel
theorem dX8_set_76 : decode cX8_set 76 = .ok (.if_icmp .ne 19, 3) := by decide +kernel
theorem dX8_set_79 : decode cX8_set 79 = .ok (.iload_n 3, 1) := by decide +kernel
theorem dX8_set_80 : decode cX8_set 80 = .ok (.iconst 1, 1) := by decide +kernel
theorem dX8_set_81 : decode cX8_set 81 = .ok (.if_icmp .ne 14, 3) := by decide +kernel
theorem dX8_set_84 : decode cX8_set 84 = .ok (.aload_n 0, 1) := by decide +kernel
theorem dX8_set_85 : decode cX8_set 85 = .ok (.iload_n 1, 1) := by decide +kernel
theorem dX8_set_86 : decode cX8_set 86 = .ok (.invokevirtual 97, 3) := by decide +kernel
theorem dX8_set_89 : decode cX8_set 89 = .ok (.ifCond .eq 6, 3) := by decide +kernel
theorem dX8_set_92 : decode cX8_set 92 = .ok (.bipush (-3), 2) := by decide +kernel
theorem dX8_set_94 : decode cX8_set 94 = .ok (.ireturn, 1) := by decide +kernel
theorem dX8_set_95 : decode cX8_set 95 = .ok (.iload_n 2, 1) := by decide +kernel
theorem dX8_set_96 : decode cX8_set 96 = .ok (.ifCond .ne 12, 3) := by decide +kernel
theorem dX8_set_99 : decode cX8_set 99 = .ok (.aload_n 0, 1) := by decide +kernel
theorem dX8_set_100 : decode cX8_set 100 = .ok (.getfield 13, 3) := by decide +kernel
theorem dX8_set_103 : decode cX8_set 103 = .ok (.iload_n 1, 1) := by decide +kernel
theorem dX8_set_104 : decode cX8_set 104 = .ok (.iaload, 1) := by decide +kernel
theorem dX8_set_105 : decode cX8_set 105 = .ok (.goto 45, 3) := by decide +kernel
theorem dX8_set_108 : decode cX8_set 108 = .ok (.iload_n 2, 1) := by decide +kernel
theorem dX8_set_109 : decode cX8_set 109 = .ok (.iconst 1, 1) := by decide +kernel
theorem dX8_set_110 : decode cX8_set 110 = .ok (.if_icmp .ne 12, 3) := by decide +kernel
theorem dX8_set_113 : decode cX8_set 113 = .ok (.aload_n 0, 1) := by decide +kernel
theorem dX8_set_114 : decode cX8_set 114 = .ok (.getfield 16, 3) := by decide +kernel
theorem dX8_set_117 : decode cX8_set 117 = .ok (.iload_n 1, 1) := by decide +kernel
theorem dX8_set_118 : decode cX8_set 118 = .ok (.iaload, 1) := by decide +kernel
theorem dX8_set_119 : decode cX8_set 119 = .ok (.goto 31, 3) := by decide +kernel
theorem dX8_set_122 : decode cX8_set 122 = .ok (.iload_n 2, 1) := by decide +kernel
theorem dX8_set_123 : decode cX8_set 123 = .ok (.iconst 2, 1) := by decide +kernel
theorem dX8_set_124 : decode cX8_set 124 = .ok (.if_icmp .ne 12, 3) := by decide +kernel
theorem dX8_set_127 : decode cX8_set 127 = .ok (.aload_n 0, 1) := by decide +kernel
theorem dX8_set_128 : decode cX8_set 128 = .ok (.getfield 19, 3) := by decide +kernel
theorem dX8_set_131 : decode cX8_set 131 = .ok (.iload_n 1, 1) := by decide +kernel
theorem dX8_set_132 : decode cX8_set 132 = .ok (.iaload, 1) := by decide +kernel
theorem dX8_set_133 : decode cX8_set 133 = .ok (.goto 17, 3) := by decide +kernel
theorem dX8_set_136 : decode cX8_set 136 = .ok (.aload_n 0, 1) := by decide +kernel
theorem dX8_set_137 : decode cX8_set 137 = .ok (.getfield 22, 3) := by decide +kernel
theorem dX8_set_140 : decode cX8_set 140 = .ok (.iload_n 1, 1) := by decide +kernel
theorem dX8_set_141 : decode cX8_set 141 = .ok (.baload, 1) := by decide +kernel
theorem dX8_set_142 : decode cX8_set 142 = .ok (.ifCond .eq 7, 3) := by decide +kernel
theorem dX8_set_145 : decode cX8_set 145 = .ok (.iconst 1, 1) := by decide +kernel
theorem dX8_set_146 : decode cX8_set 146 = .ok (.goto 4, 3) := by decide +kernel
theorem dX8_set_149 : decode cX8_set 149 = .ok (.iconst 0, 1) := by decide +kernel
theorem dX8_set_150 : decode cX8_set 150 = .ok (.istore 5, 2) := by decide +kernel
theorem dX8_set_152 : decode cX8_set 152 = .ok (.iload_n 2, 1) := by decide +kernel
theorem dX8_set_153 : decode cX8_set 153 = .ok (.ifCond .ne 13, 3) := by decide +kernel
theorem dX8_set_156 : decode cX8_set 156 = .ok (.aload_n 0, 1) := by decide +kernel
theorem dX8_set_157 : decode cX8_set 157 = .ok (.getfield 13, 3) := by decide +kernel
theorem dX8_set_160 : decode cX8_set 160 = .ok (.iload_n 1, 1) := by decide +kernel
theorem dX8_set_161 : decode cX8_set 161 = .ok (.iload_n 3, 1) := by decide +kernel
theorem dX8_set_162 : decode cX8_set 162 = .ok (.iastore, 1) := by decide +kernel
theorem dX8_set_163 : decode cX8_set 163 = .ok (.goto 49, 3) := by decide +kernel
theorem dX8_set_166 : decode cX8_set 166 = .ok (.iload_n 2, 1) := by decide +kernel
theorem dX8_set_167 : decode cX8_set 167 = .ok (.iconst 1, 1) := by decide +kernel
theorem dX8_set_168 : decode cX8_set 168 = .ok (.if_icmp .ne 13, 3) := by decide +kernel
theorem dX8_set_171 : decode cX8_set 171 = .ok (.aload_n 0, 1) := by decide +kernel
theorem dX8_set_172 : decode cX8_set 172 = .ok (.getfield 16, 3) := by decide +kernel
theorem dX8_set_175 : decode cX8_set 175 = .ok (.iload_n 1, 1) := by decide +kernel
theorem dX8_set_176 : decode cX8_set 176 = .ok (.iload_n 3, 1) := by decide +kernel
theorem dX8_set_177 : decode cX8_set 177 = .ok (.iastore, 1) := by decide +kernel
theorem dX8_set_178 : decode cX8_set 178 = .ok (.goto 34, 3) := by decide +kernel
theorem dX8_set_181 : decode cX8_set 181 = .ok (.iload_n 2, 1) := by decide +kernel
theorem dX8_set_182 : decode cX8_set 182 = .ok (.iconst 2, 1) := by decide +kernel
theorem dX8_set_183 : decode cX8_set 183 = .ok (.if_icmp .ne 13, 3) := by decide +kernel
theorem dX8_set_186 : decode cX8_set 186 = .ok (.aload_n 0, 1) := by decide +kernel
theorem dX8_set_187 : decode cX8_set 187 = .ok (.getfield 19, 3) := by decide +kernel
theorem dX8_set_190 : decode cX8_set 190 = .ok (.iload_n 1, 1) := by decide +kernel
theorem dX8_set_191 : decode cX8_set 191 = .ok (.iload_n 3, 1) := by decide +kernel
theorem dX8_set_192 : decode cX8_set 192 = .ok (.iastore, 1) := by decide +kernel
theorem dX8_set_193 : decode cX8_set 193 = .ok (.goto 19, 3) := by decide +kernel
theorem dX8_set_196 : decode cX8_set 196 = .ok (.aload_n 0, 1) := by decide +kernel
theorem dX8_set_197 : decode cX8_set 197 = .ok (.getfield 22, 3) := by decide +kernel
theorem dX8_set_200 : decode cX8_set 200 = .ok (.iload_n 1, 1) := by decide +kernel
theorem dX8_set_201 : decode cX8_set 201 = .ok (.iload_n 3, 1) := by decide +kernel
theorem dX8_set_202 : decode cX8_set 202 = .ok (.iconst 1, 1) := by decide +kernel
theorem dX8_set_203 : decode cX8_set 203 = .ok (.if_icmp .ne 7, 3) := by decide +kernel
theorem dX8_set_206 : decode cX8_set 206 = .ok (.iconst 1, 1) := by decide +kernel
theorem dX8_set_207 : decode cX8_set 207 = .ok (.goto 4, 3) := by decide +kernel
theorem dX8_set_210 : decode cX8_set 210 = .ok (.iconst 0, 1) := by decide +kernel
theorem dX8_set_211 : decode cX8_set 211 = .ok (.bastore, 1) := by decide +kernel
theorem dX8_set_212 : decode cX8_set 212 = .ok (.aload_n 0, 1) := by decide +kernel
theorem dX8_set_213 : decode cX8_set 213 = .ok (.iconst 0, 1) := by decide +kernel
theorem dX8_set_214 : decode cX8_set 214 = .ok (.putfield 87, 3) := by decide +kernel
theorem dX8_set_217 : decode cX8_set 217 = .ok (.iload 5, 2) := by decide +kernel
theorem dX8_set_219 : decode cX8_set 219 = .ok (.ireturn, 1) := by decide +kernel
theorem dX8_trust_0 : decode cX8_trust 0 = .ok (.iload_n 1, 1) := by decide +kernel
theorem dX8_trust_1 : decode cX8_trust 1 = .ok (.iconst 0, 1) := by decide +kernel
theorem dX8_trust_2 : decode cX8_trust 2 = .ok (.iconst 4, 1) := by decide +kernel
theorem dX8_trust_3 : decode cX8_trust 3 = .ok (.invokestatic 79, 3) := by decide +kernel
theorem dX8_trust_6 : decode cX8_trust 6 = .ok (.ifCond .eq 22, 3) := by decide +kernel
theorem dX8_trust_9 : decode cX8_trust 9 = .ok (.iload_n 2, 1) := by decide +kernel
theorem dX8_trust_10 : decode cX8_trust 10 = .ok (.iconst 0, 1) := by decide +kernel
theorem dX8_trust_11 : decode cX8_trust 11 = .ok (.iload_n 1, 1) := by decide +kernel
theorem dX8_trust_12 : decode cX8_trust 12 = .ok (.iconst 2, 1) := by decide +kernel
theorem dX8_trust_13 : decode cX8_trust 13 = .ok (.if_icmp .ge 7, 3) := by decide +kernel
theorem dX8_trust_16 : decode cX8_trust 16 = .ok (.iconst 5, 1) := by decide +kernel
theorem dX8_trust_17 : decode cX8_trust 17 = .ok (.goto 5, 3) := by decide +kernel
theorem dX8_trust_20 : decode cX8_trust 20 = .ok (.bipush 9, 2) := by decide +kernel
theorem dX8_trust_22 : decode cX8_trust 22 = .ok (.invokestatic 79, 3) := by decide +kernel
theorem dX8_trust_25 : decode cX8_trust 25 = .ok (.ifCond .ne 6, 3) := by decide +kernel
theorem dX8_trust_28 : decode cX8_trust 28 = .ok (.bipush (-2), 2) := by decide +kernel
theorem dX8_trust_30 : decode cX8_trust 30 = .ok (.ireturn, 1) := by decide +kernel
theorem dX8_trust_31 : decode cX8_trust 31 = .ok (.aload_n 0, 1) := by decide +kernel
theorem dX8_trust_32 : decode cX8_trust 32 = .ok (.getfield 32, 3) := by decide +kernel
theorem dX8_trust_35 : decode cX8_trust 35 = .ok (.iload_n 1, 1) := by decide +kernel
theorem dX8_trust_36 : decode cX8_trust 36 = .ok (.iaload, 1) := by decide +kernel
theorem dX8_trust_37 : decode cX8_trust 37 = .ok (.istore_n 3, 1) := by decide +kernel
theorem dX8_trust_38 : decode cX8_trust 38 = .ok (.aload_n 0, 1) := by decide +kernel
theorem dX8_trust_39 : decode cX8_trust 39 = .ok (.getfield 32, 3) := by decide +kernel
theorem dX8_trust_42 : decode cX8_trust 42 = .ok (.iload_n 1, 1) := by decide +kernel
theorem dX8_trust_43 : decode cX8_trust 43 = .ok (.iload_n 2, 1) := by decide +kernel
theorem dX8_trust_44 : decode cX8_trust 44 = .ok (.iastore, 1) := by decide +kernel
theorem dX8_trust_45 : decode cX8_trust 45 = .ok (.iload_n 3, 1) := by decide +kernel
theorem dX8_trust_46 : decode cX8_trust 46 = .ok (.ireturn, 1) := by decide +kernel
theorem dX8_test_0 : decode cX8_test 0 = .ok (.aload_n 0, 1) := by decide +kernel
theorem dX8_test_1 : decode cX8_test 1 = .ok (.iload_n 1, 1) := by decide +kernel
theorem dX8_test_2 : decode cX8_test 2 = .ok (.invokevirtual 83, 3) := by decide +kernel
theorem dX8_test_5 : decode cX8_test 5 = .ok (.ifCond .ne 5, 3) := by decide +kernel
theorem dX8_test_8 : decode cX8_test 8 = .ok (.iconst (-1), 1) := by decide +kernel
theorem dX8_test_9 : decode cX8_test 9 = .ok (.ireturn, 1) := by decide +kernel
theorem dX8_test_10 : decode cX8_test 10 = .ok (.aload_n 0, 1) := by decide +kernel
theorem dX8_test_11 : decode cX8_test 11 = .ok (.getfield 22, 3) := by decide +kernel
theorem dX8_test_14 : decode cX8_test 14 = .ok (.iload_n 1, 1) := by decide +kernel
theorem dX8_test_15 : decode cX8_test 15 = .ok (.baload, 1) := by decide +kernel
theorem dX8_test_16 : decode cX8_test 16 = .ok (.ifCond .eq 6, 3) := by decide +kernel
theorem dX8_test_19 : decode cX8_test 19 = .ok (.bipush (-3), 2) := by decide +kernel
theorem dX8_test_21 : decode cX8_test 21 = .ok (.ireturn, 1) := by decide +kernel
theorem dX8_test_22 : decode cX8_test 22 = .ok (.aload_n 0, 1) := by decide +kernel
theorem dX8_test_23 : decode cX8_test 23 = .ok (.getfield 91, 3) := by decide +kernel
theorem dX8_test_26 : decode cX8_test 26 = .ok (.bipush 12, 2) := by decide +kernel
theorem dX8_test_28 : decode cX8_test 28 = .ok (.if_icmp .ne 6, 3) := by decide +kernel
theorem dX8_test_31 : decode cX8_test 31 = .ok (.bipush (-4), 2) := by decide +kernel
theorem dX8_test_33 : decode cX8_test 33 = .ok (.ireturn, 1) := by decide +kernel
theorem dX8_test_34 : decode cX8_test 34 = .ok (.aload_n 0, 1) := by decide +kernel
theorem dX8_test_35 : decode cX8_test 35 = .ok (.getfield 26, 3) := by decide +kernel
theorem dX8_test_38 : decode cX8_test 38 = .ok (.aload_n 0, 1) := by decide +kernel
theorem dX8_test_39 : decode cX8_test 39 = .ok (.getfield 91, 3) := by decide +kernel
theorem dX8_test_42 : decode cX8_test 42 = .ok (.iload_n 1, 1) := by decide +kernel
theorem dX8_test_43 : decode cX8_test 43 = .ok (.iastore, 1) := by decide +kernel
theorem dX8_test_44 : decode cX8_test 44 = .ok (.aload_n 0, 1) := by decide +kernel
theorem dX8_test_45 : decode cX8_test 45 = .ok (.getfield 29, 3) := by decide +kernel
theorem dX8_test_48 : decode cX8_test 48 = .ok (.aload_n 0, 1) := by decide +kernel
theorem dX8_test_49 : decode cX8_test 49 = .ok (.getfield 91, 3) := by decide +kernel
theorem dX8_test_52 : decode cX8_test 52 = .ok (.iload_n 2, 1) := by decide +kernel
theorem dX8_test_53 : decode cX8_test 53 = .ok (.bastore, 1) := by decide +kernel
theorem dX8_test_54 : decode cX8_test 54 = .ok (.aload_n 0, 1) := by decide +kernel
theorem dX8_test_55 : decode cX8_test 55 = .ok (.dup, 1) := by decide +kernel
theorem dX8_test_56 : decode cX8_test 56 = .ok (.getfield 91, 3) := by decide +kernel
theorem dX8_test_59 : decode cX8_test 59 = .ok (.iconst 1, 1) := by decide +kernel
theorem dX8_test_60 : decode cX8_test 60 = .ok (.iadd, 1) := by decide +kernel
theorem dX8_test_61 : decode cX8_test 61 = .ok (.putfield 91, 3) := by decide +kernel
theorem dX8_test_64 : decode cX8_test 64 = .ok (.aload_n 0, 1) := by decide +kernel
theorem dX8_test_65 : decode cX8_test 65 = .ok (.getfield 91, 3) := by decide +kernel
theorem dX8_test_68 : decode cX8_test 68 = .ok (.iconst 1, 1) := by decide +kernel
theorem dX8_test_69 : decode cX8_test 69 = .ok (.isub, 1) := by decide +kernel
theorem dX8_test_70 : decode cX8_test 70 = .ok (.ireturn, 1) := by decide +kernel
theorem dX8_tested_0 : decode cX8_tested 0 = .ok (.iload_n 1, 1) := by decide +kernel
theorem dX8_tested_1 : decode cX8_tested 1 = .ok (.iconst 0, 1) := by decide +kernel
theorem dX8_tested_2 : decode cX8_tested 2 = .ok (.aload_n 0, 1) := by decide +kernel
theorem dX8_tested_3 : decode cX8_tested 3 = .ok (.getfield 91, 3) := by decide +kernel
theorem dX8_tested_6 : decode cX8_tested 6 = .ok (.iconst 1, 1) := by decide +kernel
theorem dX8_tested_7 : decode cX8_tested 7 = .ok (.isub, 1) := by decide +kernel
theorem dX8_tested_8 : decode cX8_tested 8 = .ok (.invokestatic 79, 3) := by decide +kernel
theorem dX8_tested_11 : decode cX8_tested 11 = .ok (.ifCond .ne 5, 3) := by decide +kernel
theorem dX8_tested_14 : decode cX8_tested 14 = .ok (.iconst (-1), 1) := by decide +kernel
theorem dX8_tested_15 : decode cX8_tested 15 = .ok (.ireturn, 1) := by decide +kernel
theorem dX8_tested_16 : decode cX8_tested 16 = .ok (.iload_n 2, 1) := by decide +kernel
theorem dX8_tested_17 : decode cX8_tested 17 = .ok (.ifCond .ne 12, 3) := by decide +kernel
theorem dX8_tested_20 : decode cX8_tested 20 = .ok (.aload_n 0, 1) := by decide +kernel
theorem dX8_tested_21 : decode cX8_tested 21 = .ok (.getfield 26, 3) := by decide +kernel
theorem dX8_tested_24 : decode cX8_tested 24 = .ok (.iload_n 1, 1) := by decide +kernel
theorem dX8_tested_25 : decode cX8_tested 25 = .ok (.iaload, 1) := by decide +kernel
theorem dX8_tested_26 : decode cX8_tested 26 = .ok (.goto 27, 3) := by decide +kernel
theorem dX8_tested_29 : decode cX8_tested 29 = .ok (.iload_n 2, 1) := by decide +kernel
theorem dX8_tested_30 : decode cX8_tested 30 = .ok (.iconst 1, 1) := by decide +kernel
theorem dX8_tested_31 : decode cX8_tested 31 = .ok (.if_icmp .ne 20, 3) := by decide +kernel
theorem dX8_tested_34 : decode cX8_tested 34 = .ok (.aload_n 0, 1) := by decide +kernel
theorem dX8_tested_35 : decode cX8_tested 35 = .ok (.getfield 29, 3) := by decide +kernel
theorem dX8_tested_38 : decode cX8_tested 38 = .ok (.iload_n 1, 1) := by decide +kernel
theorem dX8_tested_39 : decode cX8_tested 39 = .ok (.baload, 1) := by decide +kernel
theorem dX8_tested_40 : decode cX8_tested 40 = .ok (.ifCond .eq 7, 3) := by decide +kernel
theorem dX8_tested_43 : decode cX8_tested 43 = .ok (.iconst 1, 1) := by decide +kernel
theorem dX8_tested_44 : decode cX8_tested 44 = .ok (.goto 9, 3) := by decide +kernel
theorem dX8_tested_47 : decode cX8_tested 47 = .ok (.iconst 0, 1) := by decide +kernel
theorem dX8_tested_48 : decode cX8_tested 48 = .ok (.goto 5, 3) := by decide +kernel
theorem dX8_tested_51 : decode cX8_tested 51 = .ok (.bipush (-2), 2) := by decide +kernel
theorem dX8_tested_53 : decode cX8_tested 53 = .ok (.ireturn, 1) := by decide +kernel
theorem dX8_untest_0 : decode cX8_untest 0 = .ok (.aload_n 0, 1) := by decide +kernel
theorem dX8_untest_1 : decode cX8_untest 1 = .ok (.getfield 91, 3) := by decide +kernel
theorem dX8_untest_4 : decode cX8_untest 4 = .ok (.ifCond .ne 6, 3) := by decide +kernel
theorem dX8_untest_7 : decode cX8_untest 7 = .ok (.bipush (-5), 2) := by decide +kernel
theorem dX8_untest_9 : decode cX8_untest 9 = .ok (.ireturn, 1) := by decide +kernel
theorem dX8_untest_10 : decode cX8_untest 10 = .ok (.aload_n 0, 1) := by decide +kernel
theorem dX8_untest_11 : decode cX8_untest 11 = .ok (.dup, 1) := by decide +kernel
theorem dX8_untest_12 : decode cX8_untest 12 = .ok (.getfield 91, 3) := by decide +kernel
theorem dX8_untest_15 : decode cX8_untest 15 = .ok (.iconst 1, 1) := by decide +kernel
theorem dX8_untest_16 : decode cX8_untest 16 = .ok (.isub, 1) := by decide +kernel
theorem dX8_untest_17 : decode cX8_untest 17 = .ok (.putfield 91, 3) := by decide +kernel
theorem dX8_untest_20 : decode cX8_untest 20 = .ok (.aload_n 0, 1) := by decide +kernel
theorem dX8_untest_21 : decode cX8_untest 21 = .ok (.getfield 91, 3) := by decide +kernel
theorem dX8_untest_24 : decode cX8_untest 24 = .ok (.ireturn, 1) := by decide +kernel
theorem dX8_shouldFail_0 : decode cX8_shouldFail 0 = .ok (.aload_n 0, 1) := by decide +kernel
theorem dX8_shouldFail_1 : decode cX8_shouldFail 1 = .ok (.getfield 7, 3) := by decide +kernel
theorem dX8_shouldFail_4 : decode cX8_shouldFail 4 = .ok (.iload_n 1, 1) := by decide +kernel
theorem dX8_shouldFail_5 : decode cX8_shouldFail 5 = .ok (.iaload, 1) := by decide +kernel
theorem dX8_shouldFail_6 : decode cX8_shouldFail 6 = .ok (.iload_n 3, 1) := by decide +kernel
theorem dX8_shouldFail_7 : decode cX8_shouldFail 7 = .ok (.invokestatic 100, 3) := by decide +kernel
theorem dX8_shouldFail_10 : decode cX8_shouldFail 10 = .ok (.istore 5, 2) := by decide +kernel
theorem dX8_shouldFail_12 : decode cX8_shouldFail 12 = .ok (.iload_n 2, 1) := by decide +kernel
theorem dX8_shouldFail_13 : decode cX8_shouldFail 13 = .ok (.ifCond .le 21, 3) := by decide +kernel
theorem dX8_shouldFail_16 : decode cX8_shouldFail 16 = .ok (.aload_n 0, 1) := by decide +kernel
theorem dX8_shouldFail_17 : decode cX8_shouldFail 17 = .ok (.getfield 7, 3) := by decide +kernel
theorem dX8_shouldFail_20 : decode cX8_shouldFail 20 = .ok (.iload_n 1, 1) := by decide +kernel
theorem dX8_shouldFail_21 : decode cX8_shouldFail 21 = .ok (.iaload, 1) := by decide +kernel
theorem dX8_shouldFail_22 : decode cX8_shouldFail 22 = .ok (.iload 4, 2) := by decide +kernel
theorem dX8_shouldFail_24 : decode cX8_shouldFail 24 = .ok (.invokestatic 100, 3) := by decide +kernel
theorem dX8_shouldFail_27 : decode cX8_shouldFail 27 = .ok (.ifCond .eq 7, 3) := by decide +kernel
theorem dX8_shouldFail_30 : decode cX8_shouldFail 30 = .ok (.iconst 1, 1) := by decide +kernel
theorem dX8_shouldFail_31 : decode cX8_shouldFail 31 = .ok (.goto 4, 3) := by decide +kernel
theorem dX8_shouldFail_34 : decode cX8_shouldFail 34 = .ok (.iconst 0, 1) := by decide +kernel
theorem dX8_shouldFail_35 : decode cX8_shouldFail 35 = .ok (.istore 6, 2) := by decide +kernel
theorem dX8_shouldFail_37 : decode cX8_shouldFail 37 = .ok (.iload 5, 2) := by decide +kernel
theorem dX8_shouldFail_39 : decode cX8_shouldFail 39 = .ok (.ifCond .eq 26, 3) := by decide +kernel
theorem dX8_shouldFail_42 : decode cX8_shouldFail 42 = .ok (.iload_n 2, 1) := by decide +kernel
theorem dX8_shouldFail_43 : decode cX8_shouldFail 43 = .ok (.ifCond .eq 18, 3) := by decide +kernel
theorem dX8_shouldFail_46 : decode cX8_shouldFail 46 = .ok (.iload_n 2, 1) := by decide +kernel
theorem dX8_shouldFail_47 : decode cX8_shouldFail 47 = .ok (.iconst 1, 1) := by decide +kernel
theorem dX8_shouldFail_48 : decode cX8_shouldFail 48 = .ok (.if_icmp .ne 7, 3) := by decide +kernel
theorem dX8_shouldFail_51 : decode cX8_shouldFail 51 = .ok (.iconst 1, 1) := by decide +kernel
theorem dX8_shouldFail_52 : decode cX8_shouldFail 52 = .ok (.goto 4, 3) := by decide +kernel
theorem dX8_shouldFail_55 : decode cX8_shouldFail 55 = .ok (.iconst 0, 1) := by decide +kernel
theorem dX8_shouldFail_56 : decode cX8_shouldFail 56 = .ok (.iload 6, 2) := by decide +kernel
theorem dX8_shouldFail_58 : decode cX8_shouldFail 58 = .ok (.if_icmp .ne 7, 3) := by decide +kernel
theorem dX8_shouldFail_61 : decode cX8_shouldFail 61 = .ok (.iconst 1, 1) := by decide +kernel
theorem dX8_shouldFail_62 : decode cX8_shouldFail 62 = .ok (.goto 4, 3) := by decide +kernel
theorem dX8_shouldFail_65 : decode cX8_shouldFail 65 = .ok (.iconst 0, 1) := by decide +kernel
theorem dX8_shouldFail_66 : decode cX8_shouldFail 66 = .ok (.ireturn, 1) := by decide +kernel
theorem dX8_tenths_0 : decode cX8_tenths 0 = .ok (.iload_n 1, 1) := by decide +kernel
theorem dX8_tenths_1 : decode cX8_tenths 1 = .ok (.ifCond .eq 12, 3) := by decide +kernel
theorem dX8_tenths_4 : decode cX8_tenths 4 = .ok (.aload_n 0, 1) := by decide +kernel
theorem dX8_tenths_5 : decode cX8_tenths 5 = .ok (.getfield 32, 3) := by decide +kernel
theorem dX8_tenths_8 : decode cX8_tenths 8 = .ok (.iconst 0, 1) := by decide +kernel
theorem dX8_tenths_9 : decode cX8_tenths 9 = .ok (.iaload, 1) := by decide +kernel
theorem dX8_tenths_10 : decode cX8_tenths 10 = .ok (.goto 9, 3) := by decide +kernel
theorem dX8_tenths_13 : decode cX8_tenths 13 = .ok (.aload_n 0, 1) := by decide +kernel
theorem dX8_tenths_14 : decode cX8_tenths 14 = .ok (.getfield 32, 3) := by decide +kernel
theorem dX8_tenths_17 : decode cX8_tenths 17 = .ok (.iconst 1, 1) := by decide +kernel
theorem dX8_tenths_18 : decode cX8_tenths 18 = .ok (.iaload, 1) := by decide +kernel
theorem dX8_tenths_19 : decode cX8_tenths 19 = .ok (.istore_n 3, 1) := by decide +kernel
theorem dX8_tenths_20 : decode cX8_tenths 20 = .ok (.iload_n 1, 1) := by decide +kernel
theorem dX8_tenths_21 : decode cX8_tenths 21 = .ok (.iload_n 2, 1) := by decide +kernel
theorem dX8_tenths_22 : decode cX8_tenths 22 = .ok (.if_icmp .ne 7, 3) := by decide +kernel
theorem dX8_tenths_25 : decode cX8_tenths 25 = .ok (.iload_n 3, 1) := by decide +kernel
theorem dX8_tenths_26 : decode cX8_tenths 26 = .ok (.goto 7, 3) := by decide +kernel
theorem dX8_tenths_29 : decode cX8_tenths 29 = .ok (.bipush 10, 2) := by decide +kernel
theorem dX8_tenths_31 : decode cX8_tenths 31 = .ok (.iload_n 3, 1) := by decide +kernel
theorem dX8_tenths_32 : decode cX8_tenths 32 = .ok (.isub, 1) := by decide +kernel
theorem dX8_tenths_33 : decode cX8_tenths 33 = .ok (.ireturn, 1) := by decide +kernel
theorem dX8_weightOf_0 : decode cX8_weightOf 0 = .ok (.aload_n 0, 1) := by decide +kernel
theorem dX8_weightOf_1 : decode cX8_weightOf 1 = .ok (.getfield 32, 3) := by decide +kernel
theorem dX8_weightOf_4 : decode cX8_weightOf 4 = .ok (.iconst 2, 1) := by decide +kernel
theorem dX8_weightOf_5 : decode cX8_weightOf 5 = .ok (.iload_n 1, 1) := by decide +kernel
theorem dX8_weightOf_6 : decode cX8_weightOf 6 = .ok (.iadd, 1) := by decide +kernel
theorem dX8_weightOf_7 : decode cX8_weightOf 7 = .ok (.iaload, 1) := by decide +kernel
theorem dX8_weightOf_8 : decode cX8_weightOf 8 = .ok (.i2l, 1) := by decide +kernel
theorem dX8_weightOf_9 : decode cX8_weightOf 9 = .ok (.lstore 4, 2) := by decide +kernel
theorem dX8_weightOf_11 : decode cX8_weightOf 11 = .ok (.lload 4, 2) := by decide +kernel
theorem dX8_weightOf_13 : decode cX8_weightOf 13 = .ok (.aload_n 0, 1) := by decide +kernel
theorem dX8_weightOf_14 : decode cX8_weightOf 14 = .ok (.getfield 13, 3) := by decide +kernel
theorem dX8_weightOf_17 : decode cX8_weightOf 17 = .ok (.iload_n 2, 1) := by decide +kernel
theorem dX8_weightOf_18 : decode cX8_weightOf 18 = .ok (.iaload, 1) := by decide +kernel
theorem dX8_weightOf_19 : decode cX8_weightOf 19 = .ok (.i2l, 1) := by decide +kernel
theorem dX8_weightOf_20 : decode cX8_weightOf 20 = .ok (.lmul, 1) := by decide +kernel
theorem dX8_weightOf_21 : decode cX8_weightOf 21 = .ok (.lstore 4, 2) := by decide +kernel
theorem dX8_weightOf_23 : decode cX8_weightOf 23 = .ok (.lload 4, 2) := by decide +kernel
theorem dX8_weightOf_25 : decode cX8_weightOf 25 = .ok (.iload_n 1, 1) := by decide +kernel
theorem dX8_weightOf_26 : decode cX8_weightOf 26 = .ok (.ifCond .ne 7, 3) := by decide +kernel
theorem dX8_weightOf_29 : decode cX8_weightOf 29 = .ok (.lconst 1, 1) := by decide +kernel
theorem dX8_weightOf_30 : decode cX8_weightOf 30 = .ok (.goto 10, 3) := by decide +kernel
theorem dX8_weightOf_33 : decode cX8_weightOf 33 = .ok (.aload_n 0, 1) := by decide +kernel
theorem dX8_weightOf_34 : decode cX8_weightOf 34 = .ok (.getfield 13, 3) := by decide +kernel
theorem dX8_weightOf_37 : decode cX8_weightOf 37 = .ok (.iload_n 3, 1) := by decide +kernel
theorem dX8_weightOf_38 : decode cX8_weightOf 38 = .ok (.iaload, 1) := by decide +kernel
theorem dX8_weightOf_39 : decode cX8_weightOf 39 = .ok (.i2l, 1) := by decide +kernel
theorem dX8_weightOf_40 : decode cX8_weightOf 40 = .ok (.lmul, 1) := by decide +kernel
theorem dX8_weightOf_41 : decode cX8_weightOf 41 = .ok (.lstore 4, 2) := by decide +kernel
theorem dX8_weightOf_43 : decode cX8_weightOf 43 = .ok (.iconst 0, 1) := by decide +kernel
theorem dX8_weightOf_44 : decode cX8_weightOf 44 = .ok (.istore 6, 2) := by decide +kernel
theorem dX8_weightOf_46 : decode cX8_weightOf 46 = .ok (.iload 6, 2) := by decide +kernel
theorem dX8_weightOf_48 : decode cX8_weightOf 48 = .ok (.aload_n 0, 1) := by decide +kernel
theorem dX8_weightOf_49 : decode cX8_weightOf 49 = .ok (.getfield 91, 3) := by decide +kernel
theorem dX8_weightOf_52 : decode cX8_weightOf 52 = .ok (.if_icmp .ge 40, 3) := by decide +kernel
theorem dX8_weightOf_55 : decode cX8_weightOf 55 = .ok (.lload 4, 2) := by decide +kernel
theorem dX8_weightOf_57 : decode cX8_weightOf 57 = .ok (.aload_n 0, 1) := by decide +kernel
theorem dX8_weightOf_58 : decode cX8_weightOf 58 = .ok (.aload_n 0, 1) := by decide +kernel
theorem dX8_weightOf_59 : decode cX8_weightOf 59 = .ok (.aload_n 0, 1) := by decide +kernel
theorem dX8_weightOf_60 : decode cX8_weightOf 60 = .ok (.getfield 26, 3) := by decide +kernel
theorem dX8_weightOf_63 : decode cX8_weightOf 63 = .ok (.iload 6, 2) := by decide +kernel
theorem dX8_weightOf_65 : decode cX8_weightOf 65 = .ok (.iaload, 1) := by decide +kernel
theorem dX8_weightOf_66 : decode cX8_weightOf 66 = .ok (.iload_n 1, 1) := by decide +kernel
theorem dX8_weightOf_67 : decode cX8_weightOf 67 = .ok (.iload_n 2, 1) := by decide +kernel
theorem dX8_weightOf_68 : decode cX8_weightOf 68 = .ok (.iload_n 3, 1) := by decide +kernel
theorem dX8_weightOf_69 : decode cX8_weightOf 69 = .ok (.invokevirtual 104, 3) := by decide +kernel
theorem dX8_weightOf_72 : decode cX8_weightOf 72 = .ok (.aload_n 0, 1) := by decide +kernel
theorem dX8_weightOf_73 : decode cX8_weightOf 73 = .ok (.getfield 29, 3) := by decide +kernel
theorem dX8_weightOf_76 : decode cX8_weightOf 76 = .ok (.iload 6, 2) := by decide +kernel
theorem dX8_weightOf_78 : decode cX8_weightOf 78 = .ok (.baload, 1) := by decide +kernel
theorem dX8_weightOf_79 : decode cX8_weightOf 79 = .ok (.invokevirtual 108, 3) := by decide +kernel
theorem dX8_weightOf_82 : decode cX8_weightOf 82 = .ok (.i2l, 1) := by decide +kernel
theorem dX8_weightOf_83 : decode cX8_weightOf 83 = .ok (.lmul, 1) := by decide +kernel
theorem dX8_weightOf_84 : decode cX8_weightOf 84 = .ok (.lstore 4, 2) := by decide +kernel
theorem dX8_weightOf_86 : decode cX8_weightOf 86 = .ok (.iinc 6 1, 3) := by decide +kernel
theorem dX8_weightOf_89 : decode cX8_weightOf 89 = .ok (.goto (-43), 3) := by decide +kernel
theorem dX8_weightOf_92 : decode cX8_weightOf 92 = .ok (.lload 4, 2) := by decide +kernel
theorem dX8_weightOf_94 : decode cX8_weightOf 94 = .ok (.lreturn, 1) := by decide +kernel
theorem dX8_add_0 : decode cX8_add 0 = .ok (.aload_n 0, 1) := by decide +kernel
theorem dX8_add_1 : decode cX8_add 1 = .ok (.getfield 41, 3) := by decide +kernel
theorem dX8_add_4 : decode cX8_add 4 = .ok (.aload_n 0, 1) := by decide +kernel
theorem dX8_add_5 : decode cX8_add 5 = .ok (.getfield 112, 3) := by decide +kernel
theorem dX8_add_8 : decode cX8_add 8 = .ok (.iload_n 1, 1) := by decide +kernel
theorem dX8_add_9 : decode cX8_add 9 = .ok (.iastore, 1) := by decide +kernel
theorem dX8_add_10 : decode cX8_add 10 = .ok (.aload_n 0, 1) := by decide +kernel
theorem dX8_add_11 : decode cX8_add 11 = .ok (.getfield 44, 3) := by decide +kernel
theorem dX8_add_14 : decode cX8_add 14 = .ok (.aload_n 0, 1) := by decide +kernel
theorem dX8_add_15 : decode cX8_add 15 = .ok (.getfield 112, 3) := by decide +kernel
theorem dX8_add_18 : decode cX8_add 18 = .ok (.iload_n 2, 1) := by decide +kernel
theorem dX8_add_19 : decode cX8_add 19 = .ok (.iastore, 1) := by decide +kernel
theorem dX8_add_20 : decode cX8_add 20 = .ok (.aload_n 0, 1) := by decide +kernel
theorem dX8_add_21 : decode cX8_add 21 = .ok (.getfield 47, 3) := by decide +kernel
theorem dX8_add_24 : decode cX8_add 24 = .ok (.aload_n 0, 1) := by decide +kernel
theorem dX8_add_25 : decode cX8_add 25 = .ok (.getfield 112, 3) := by decide +kernel
theorem dX8_add_28 : decode cX8_add 28 = .ok (.iload_n 3, 1) := by decide +kernel
theorem dX8_add_29 : decode cX8_add 29 = .ok (.iastore, 1) := by decide +kernel
theorem dX8_add_30 : decode cX8_add 30 = .ok (.aload_n 0, 1) := by decide +kernel
theorem dX8_add_31 : decode cX8_add 31 = .ok (.getfield 50, 3) := by decide +kernel
theorem dX8_add_34 : decode cX8_add 34 = .ok (.aload_n 0, 1) := by decide +kernel
theorem dX8_add_35 : decode cX8_add 35 = .ok (.getfield 112, 3) := by decide +kernel
theorem dX8_add_38 : decode cX8_add 38 = .ok (.aload_n 0, 1) := by decide +kernel
theorem dX8_add_39 : decode cX8_add 39 = .ok (.iload_n 1, 1) := by decide +kernel
theorem dX8_add_40 : decode cX8_add 40 = .ok (.iload_n 2, 1) := by decide +kernel
theorem dX8_add_41 : decode cX8_add 41 = .ok (.iload_n 3, 1) := by decide +kernel
theorem dX8_add_42 : decode cX8_add 42 = .ok (.invokevirtual 115, 3) := by decide +kernel
theorem dX8_add_45 : decode cX8_add 45 = .ok (.lastore, 1) := by decide +kernel
theorem dX8_add_46 : decode cX8_add 46 = .ok (.aload_n 0, 1) := by decide +kernel
theorem dX8_add_47 : decode cX8_add 47 = .ok (.dup, 1) := by decide +kernel
theorem dX8_add_48 : decode cX8_add 48 = .ok (.getfield 119, 3) := by decide +kernel
theorem dX8_add_51 : decode cX8_add 51 = .ok (.aload_n 0, 1) := by decide +kernel
theorem dX8_add_52 : decode cX8_add 52 = .ok (.getfield 50, 3) := by decide +kernel
theorem dX8_add_55 : decode cX8_add 55 = .ok (.aload_n 0, 1) := by decide +kernel
theorem dX8_add_56 : decode cX8_add 56 = .ok (.getfield 112, 3) := by decide +kernel
theorem dX8_add_59 : decode cX8_add 59 = .ok (.laload, 1) := by decide +kernel
theorem dX8_add_60 : decode cX8_add 60 = .ok (.ladd, 1) := by decide +kernel
theorem dX8_add_61 : decode cX8_add 61 = .ok (.putfield 119, 3) := by decide +kernel
theorem dX8_add_64 : decode cX8_add 64 = .ok (.aload_n 0, 1) := by decide +kernel
theorem dX8_add_65 : decode cX8_add 65 = .ok (.dup, 1) := by decide +kernel
theorem dX8_add_66 : decode cX8_add 66 = .ok (.getfield 112, 3) := by decide +kernel
theorem dX8_add_69 : decode cX8_add 69 = .ok (.iconst 1, 1) := by decide +kernel
theorem dX8_add_70 : decode cX8_add 70 = .ok (.iadd, 1) := by decide +kernel
theorem dX8_add_71 : decode cX8_add 71 = .ok (.putfield 112, 3) := by decide +kernel
theorem dX8_add_74 : decode cX8_add 74 = .ok (.return_, 1) := by decide +kernel
theorem dX8_layStories_0 : decode cX8_layStories 0 = .ok (.aload_n 0, 1) := by decide +kernel
theorem dX8_layStories_1 : decode cX8_layStories 1 = .ok (.iconst 0, 1) := by decide +kernel
theorem dX8_layStories_2 : decode cX8_layStories 2 = .ok (.putfield 112, 3) := by decide +kernel
theorem dX8_layStories_5 : decode cX8_layStories 5 = .ok (.aload_n 0, 1) := by decide +kernel
theorem dX8_layStories_6 : decode cX8_layStories 6 = .ok (.lconst 0, 1) := by decide +kernel
theorem dX8_layStories_7 : decode cX8_layStories 7 = .ok (.putfield 119, 3) := by decide +kernel
theorem dX8_layStories_10 : decode cX8_layStories 10 = .ok (.iconst 0, 1) := by decide +kernel
theorem dX8_layStories_11 : decode cX8_layStories 11 = .ok (.istore_n 1, 1) := by decide +kernel
theorem dX8_layStories_12 : decode cX8_layStories 12 = .ok (.iload_n 1, 1) := by decide +kernel
theorem dX8_layStories_13 : decode cX8_layStories 13 = .ok (.iconst 3, 1) := by decide +kernel
theorem dX8_layStories_14 : decode cX8_layStories 14 = .ok (.if_icmp .ge 82, 3) := by decide +kernel
theorem dX8_layStories_17 : decode cX8_layStories 17 = .ok (.iconst 0, 1) := by decide +kernel
theorem dX8_layStories_18 : decode cX8_layStories 18 = .ok (.istore_n 2, 1) := by decide +kernel
theorem dX8_layStories_19 : decode cX8_layStories 19 = .ok (.iload_n 2, 1) := by decide +kernel
theorem dX8_layStories_20 : decode cX8_layStories 20 = .ok (.aload_n 0, 1) := by decide +kernel
theorem dX8_layStories_21 : decode cX8_layStories 21 = .ok (.getfield 75, 3) := by decide +kernel
theorem dX8_layStories_24 : decode cX8_layStories 24 = .ok (.if_icmp .ge 66, 3) := by decide +kernel
theorem dX8_layStories_27 : decode cX8_layStories 27 = .ok (.iload_n 1, 1) := by decide +kernel
theorem dX8_layStories_28 : decode cX8_layStories 28 = .ok (.ifCond .ne 11, 3) := by decide +kernel
theorem dX8_layStories_31 : decode cX8_layStories 31 = .ok (.aload_n 0, 1) := by decide +kernel
theorem dX8_layStories_32 : decode cX8_layStories 32 = .ok (.iload_n 1, 1) := by decide +kernel
theorem dX8_layStories_33 : decode cX8_layStories 33 = .ok (.iload_n 2, 1) := by decide +kernel
theorem dX8_layStories_34 : decode cX8_layStories 34 = .ok (.bipush (-6), 2) := by decide +kernel
theorem dX8_layStories_36 : decode cX8_layStories 36 = .ok (.invokevirtual 123, 3) := by decide +kernel
theorem dX8_layStories_39 : decode cX8_layStories 39 = .ok (.iconst 0, 1) := by decide +kernel
theorem dX8_layStories_40 : decode cX8_layStories 40 = .ok (.istore_n 3, 1) := by decide +kernel
theorem dX8_layStories_41 : decode cX8_layStories 41 = .ok (.iload_n 3, 1) := by decide +kernel
theorem dX8_layStories_42 : decode cX8_layStories 42 = .ok (.aload_n 0, 1) := by decide +kernel
theorem dX8_layStories_43 : decode cX8_layStories 43 = .ok (.getfield 75, 3) := by decide +kernel
theorem dX8_layStories_46 : decode cX8_layStories 46 = .ok (.if_icmp .ge 38, 3) := by decide +kernel
theorem dX8_layStories_49 : decode cX8_layStories 49 = .ok (.iload_n 1, 1) := by decide +kernel
theorem dX8_layStories_50 : decode cX8_layStories 50 = .ok (.ifCond .le 34, 3) := by decide +kernel
theorem dX8_layStories_53 : decode cX8_layStories 53 = .ok (.iload_n 1, 1) := by decide +kernel
theorem dX8_layStories_54 : decode cX8_layStories 54 = .ok (.iconst 1, 1) := by decide +kernel
theorem dX8_layStories_55 : decode cX8_layStories 55 = .ok (.if_icmp .ne 11, 3) := by decide +kernel
theorem dX8_layStories_58 : decode cX8_layStories 58 = .ok (.iload_n 3, 1) := by decide +kernel
theorem dX8_layStories_59 : decode cX8_layStories 59 = .ok (.iload_n 2, 1) := by decide +kernel
theorem dX8_layStories_60 : decode cX8_layStories 60 = .ok (.if_icmp .le 18, 3) := by decide +kernel
theorem dX8_layStories_63 : decode cX8_layStories 63 = .ok (.goto 8, 3) := by decide +kernel
theorem dX8_layStories_66 : decode cX8_layStories 66 = .ok (.iload_n 3, 1) := by decide +kernel
theorem dX8_layStories_67 : decode cX8_layStories 67 = .ok (.iload_n 2, 1) := by decide +kernel
theorem dX8_layStories_68 : decode cX8_layStories 68 = .ok (.if_icmp .eq 10, 3) := by decide +kernel
theorem dX8_layStories_71 : decode cX8_layStories 71 = .ok (.aload_n 0, 1) := by decide +kernel
theorem dX8_layStories_72 : decode cX8_layStories 72 = .ok (.iload_n 1, 1) := by decide +kernel
theorem dX8_layStories_73 : decode cX8_layStories 73 = .ok (.iload_n 2, 1) := by decide +kernel
theorem dX8_layStories_74 : decode cX8_layStories 74 = .ok (.iload_n 3, 1) := by decide +kernel
theorem dX8_layStories_75 : decode cX8_layStories 75 = .ok (.invokevirtual 123, 3) := by decide +kernel
theorem dX8_layStories_78 : decode cX8_layStories 78 = .ok (.iinc 3 1, 3) := by decide +kernel
theorem dX8_layStories_81 : decode cX8_layStories 81 = .ok (.goto (-40), 3) := by decide +kernel
theorem dX8_layStories_84 : decode cX8_layStories 84 = .ok (.iinc 2 1, 3) := by decide +kernel
theorem dX8_layStories_87 : decode cX8_layStories 87 = .ok (.goto (-68), 3) := by decide +kernel
theorem dX8_layStories_90 : decode cX8_layStories 90 = .ok (.iinc 1 1, 3) := by decide +kernel
theorem dX8_layStories_93 : decode cX8_layStories 93 = .ok (.goto (-81), 3) := by decide +kernel
theorem dX8_layStories_96 : decode cX8_layStories 96 = .ok (.return_, 1) := by decide +kernel
theorem dX8_isStory_0 : decode cX8_isStory 0 = .ok (.aload_n 0, 1) := by decide +kernel
theorem dX8_isStory_1 : decode cX8_isStory 1 = .ok (.iload_n 2, 1) := by decide +kernel
theorem dX8_isStory_2 : decode cX8_isStory 2 = .ok (.invokevirtual 83, 3) := by decide +kernel
theorem dX8_isStory_5 : decode cX8_isStory 5 = .ok (.ifCond .eq 37, 3) := by decide +kernel
theorem dX8_isStory_8 : decode cX8_isStory 8 = .ok (.iload_n 1, 1) := by decide +kernel
theorem dX8_isStory_9 : decode cX8_isStory 9 = .ok (.ifCond .eq 29, 3) := by decide +kernel
theorem dX8_isStory_12 : decode cX8_isStory 12 = .ok (.aload_n 0, 1) := by decide +kernel
theorem dX8_isStory_13 : decode cX8_isStory 13 = .ok (.iload_n 3, 1) := by decide +kernel
theorem dX8_isStory_14 : decode cX8_isStory 14 = .ok (.invokevirtual 83, 3) := by decide +kernel
theorem dX8_isStory_17 : decode cX8_isStory 17 = .ok (.ifCond .eq 25, 3) := by decide +kernel
theorem dX8_isStory_20 : decode cX8_isStory 20 = .ok (.iload_n 1, 1) := by decide +kernel
theorem dX8_isStory_21 : decode cX8_isStory 21 = .ok (.iconst 1, 1) := by decide +kernel
theorem dX8_isStory_22 : decode cX8_isStory 22 = .ok (.if_icmp .ne 11, 3) := by decide +kernel
theorem dX8_isStory_25 : decode cX8_isStory 25 = .ok (.iload_n 2, 1) := by decide +kernel
theorem dX8_isStory_26 : decode cX8_isStory 26 = .ok (.iload_n 3, 1) := by decide +kernel
theorem dX8_isStory_27 : decode cX8_isStory 27 = .ok (.if_icmp .ge 15, 3) := by decide +kernel
theorem dX8_isStory_30 : decode cX8_isStory 30 = .ok (.goto 8, 3) := by decide +kernel
theorem dX8_isStory_33 : decode cX8_isStory 33 = .ok (.iload_n 2, 1) := by decide +kernel
theorem dX8_isStory_34 : decode cX8_isStory 34 = .ok (.iload_n 3, 1) := by decide +kernel
theorem dX8_isStory_35 : decode cX8_isStory 35 = .ok (.if_icmp .eq 7, 3) := by decide +kernel
theorem dX8_isStory_38 : decode cX8_isStory 38 = .ok (.iconst 1, 1) := by decide +kernel
theorem dX8_isStory_39 : decode cX8_isStory 39 = .ok (.goto 4, 3) := by decide +kernel
theorem dX8_isStory_42 : decode cX8_isStory 42 = .ok (.iconst 0, 1) := by decide +kernel
theorem dX8_isStory_43 : decode cX8_isStory 43 = .ok (.ireturn, 1) := by decide +kernel
theorem dX8_weight_0 : decode cX8_weight 0 = .ok (.iload_n 1, 1) := by decide +kernel
theorem dX8_weight_1 : decode cX8_weight 1 = .ok (.iconst 0, 1) := by decide +kernel
theorem dX8_weight_2 : decode cX8_weight 2 = .ok (.iconst 2, 1) := by decide +kernel
theorem dX8_weight_3 : decode cX8_weight 3 = .ok (.invokestatic 79, 3) := by decide +kernel
theorem dX8_weight_6 : decode cX8_weight 6 = .ok (.ifCond .ne 7, 3) := by decide +kernel
theorem dX8_weight_9 : decode cX8_weight 9 = .ok (.ldc2_w 127, 3) := by decide +kernel
theorem dX8_weight_12 : decode cX8_weight 12 = .ok (.lreturn, 1) := by decide +kernel
theorem dX8_weight_13 : decode cX8_weight 13 = .ok (.aload_n 0, 1) := by decide +kernel
theorem dX8_weight_14 : decode cX8_weight 14 = .ok (.iload_n 1, 1) := by decide +kernel
theorem dX8_weight_15 : decode cX8_weight 15 = .ok (.iload_n 2, 1) := by decide +kernel
theorem dX8_weight_16 : decode cX8_weight 16 = .ok (.iload_n 3, 1) := by decide +kernel
theorem dX8_weight_17 : decode cX8_weight 17 = .ok (.invokevirtual 129, 3) := by decide +kernel
theorem dX8_weight_20 : decode cX8_weight 20 = .ok (.ifCond .eq 13, 3) := by decide +kernel
theorem dX8_weight_23 : decode cX8_weight 23 = .ok (.aload_n 0, 1) := by decide +kernel
theorem dX8_weight_24 : decode cX8_weight 24 = .ok (.iload_n 1, 1) := by decide +kernel
theorem dX8_weight_25 : decode cX8_weight 25 = .ok (.iload_n 2, 1) := by decide +kernel
theorem dX8_weight_26 : decode cX8_weight 26 = .ok (.iload_n 3, 1) := by decide +kernel
theorem dX8_weight_27 : decode cX8_weight 27 = .ok (.invokevirtual 115, 3) := by decide +kernel
theorem dX8_weight_30 : decode cX8_weight 30 = .ok (.goto 6, 3) := by decide +kernel
theorem dX8_weight_33 : decode cX8_weight 33 = .ok (.ldc2_w 132, 3) := by decide +kernel
theorem dX8_weight_36 : decode cX8_weight 36 = .ok (.lreturn, 1) := by decide +kernel
theorem dX8_term_0 : decode cX8_term 0 = .ok (.lload_n 2, 1) := by decide +kernel
theorem dX8_term_1 : decode cX8_term 1 = .ok (.lconst 0, 1) := by decide +kernel
theorem dX8_term_2 : decode cX8_term 2 = .ok (.lcmp, 1) := by decide +kernel
theorem dX8_term_3 : decode cX8_term 3 = .ok (.ifCond .ne 7, 3) := by decide +kernel
theorem dX8_term_6 : decode cX8_term 6 = .ok (.iload 4, 2) := by decide +kernel
theorem dX8_term_8 : decode cX8_term 8 = .ok (.i2l, 1) := by decide +kernel
theorem dX8_term_9 : decode cX8_term 9 = .ok (.lreturn, 1) := by decide +kernel
theorem dX8_term_10 : decode cX8_term 10 = .ok (.lload_n 0, 1) := by decide +kernel
theorem dX8_term_11 : decode cX8_term 11 = .ok (.lstore 5, 2) := by decide +kernel
theorem dX8_term_13 : decode cX8_term 13 = .ok (.lload_n 2, 1) := by decide +kernel
theorem dX8_term_14 : decode cX8_term 14 = .ok (.lstore 7, 2) := by decide +kernel
theorem dX8_term_16 : decode cX8_term 16 = .ok (.lload 7, 2) := by decide +kernel
theorem dX8_term_18 : decode cX8_term 18 = .ok (.lconst 0, 1) := by decide +kernel
theorem dX8_term_19 : decode cX8_term 19 = .ok (.lcmp, 1) := by decide +kernel
theorem dX8_term_20 : decode cX8_term 20 = .ok (.ifCond .eq 21, 3) := by decide +kernel
theorem dX8_term_23 : decode cX8_term 23 = .ok (.lload 5, 2) := by decide +kernel
theorem dX8_term_25 : decode cX8_term 25 = .ok (.lload 7, 2) := by decide +kernel
theorem dX8_term_27 : decode cX8_term 27 = .ok (.lrem, 1) := by decide +kernel
theorem dX8_term_28 : decode cX8_term 28 = .ok (.lstore 9, 2) := by decide +kernel
theorem dX8_term_30 : decode cX8_term 30 = .ok (.lload 7, 2) := by decide +kernel
theorem dX8_term_32 : decode cX8_term 32 = .ok (.lstore 5, 2) := by decide +kernel
theorem dX8_term_34 : decode cX8_term 34 = .ok (.lload 9, 2) := by decide +kernel
theorem dX8_term_36 : decode cX8_term 36 = .ok (.lstore 7, 2) := by decide +kernel
theorem dX8_term_38 : decode cX8_term 38 = .ok (.goto (-22), 3) := by decide +kernel
theorem dX8_term_41 : decode cX8_term 41 = .ok (.iload 4, 2) := by decide +kernel
theorem dX8_term_43 : decode cX8_term 43 = .ok (.ifCond .ne 10, 3) := by decide +kernel
theorem dX8_term_46 : decode cX8_term 46 = .ok (.lload_n 0, 1) := by decide +kernel
theorem dX8_term_47 : decode cX8_term 47 = .ok (.lload 5, 2) := by decide +kernel
theorem dX8_term_49 : decode cX8_term 49 = .ok (.ldiv, 1) := by decide +kernel
theorem dX8_term_50 : decode cX8_term 50 = .ok (.goto 7, 3) := by decide +kernel
theorem dX8_term_53 : decode cX8_term 53 = .ok (.lload_n 2, 1) := by decide +kernel
theorem dX8_term_54 : decode cX8_term 54 = .ok (.lload 5, 2) := by decide +kernel
theorem dX8_term_56 : decode cX8_term 56 = .ok (.ldiv, 1) := by decide +kernel
theorem dX8_term_57 : decode cX8_term 57 = .ok (.lreturn, 1) := by decide +kernel
theorem dX8_odds_0 : decode cX8_odds 0 = .ok (.iload_n 1, 1) := by decide +kernel
theorem dX8_odds_1 : decode cX8_odds 1 = .ok (.iconst 0, 1) := by decide +kernel
theorem dX8_odds_2 : decode cX8_odds 2 = .ok (.iconst 2, 1) := by decide +kernel
theorem dX8_odds_3 : decode cX8_odds 3 = .ok (.invokestatic 79, 3) := by decide +kernel
theorem dX8_odds_6 : decode cX8_odds 6 = .ok (.ifCond .ne 7, 3) := by decide +kernel
theorem dX8_odds_9 : decode cX8_odds 9 = .ok (.ldc2_w 127, 3) := by decide +kernel
theorem dX8_odds_12 : decode cX8_odds 12 = .ok (.lreturn, 1) := by decide +kernel
theorem dX8_odds_13 : decode cX8_odds 13 = .ok (.aload_n 0, 1) := by decide +kernel
theorem dX8_odds_14 : decode cX8_odds 14 = .ok (.iload_n 1, 1) := by decide +kernel
theorem dX8_odds_15 : decode cX8_odds 15 = .ok (.iload_n 2, 1) := by decide +kernel
theorem dX8_odds_16 : decode cX8_odds 16 = .ok (.iload_n 3, 1) := by decide +kernel
theorem dX8_odds_17 : decode cX8_odds 17 = .ok (.invokevirtual 129, 3) := by decide +kernel
theorem dX8_odds_20 : decode cX8_odds 20 = .ok (.ifCond .ne 7, 3) := by decide +kernel
theorem dX8_odds_23 : decode cX8_odds 23 = .ok (.ldc2_w 132, 3) := by decide +kernel
theorem dX8_odds_26 : decode cX8_odds 26 = .ok (.lreturn, 1) := by decide +kernel
theorem dX8_odds_27 : decode cX8_odds 27 = .ok (.iload 4, 2) := by decide +kernel
theorem dX8_odds_29 : decode cX8_odds 29 = .ok (.invokestatic 94, 3) := by decide +kernel
theorem dX8_odds_32 : decode cX8_odds 32 = .ok (.ifCond .ne 7, 3) := by decide +kernel
theorem dX8_odds_35 : decode cX8_odds 35 = .ok (.ldc2_w 127, 3) := by decide +kernel
theorem dX8_odds_38 : decode cX8_odds 38 = .ok (.lreturn, 1) := by decide +kernel
theorem dX8_odds_39 : decode cX8_odds 39 = .ok (.aload_n 0, 1) := by decide +kernel
theorem dX8_odds_40 : decode cX8_odds 40 = .ok (.invokevirtual 134, 3) := by decide +kernel
theorem dX8_odds_43 : decode cX8_odds 43 = .ok (.aload_n 0, 1) := by decide +kernel
theorem dX8_odds_44 : decode cX8_odds 44 = .ok (.iload_n 1, 1) := by decide +kernel
theorem dX8_odds_45 : decode cX8_odds 45 = .ok (.iload_n 2, 1) := by decide +kernel
theorem dX8_odds_46 : decode cX8_odds 46 = .ok (.iload_n 3, 1) := by decide +kernel
theorem dX8_odds_47 : decode cX8_odds 47 = .ok (.invokevirtual 115, 3) := by decide +kernel
theorem dX8_odds_50 : decode cX8_odds 50 = .ok (.aload_n 0, 1) := by decide +kernel
theorem dX8_odds_51 : decode cX8_odds 51 = .ok (.getfield 119, 3) := by decide +kernel
theorem dX8_odds_54 : decode cX8_odds 54 = .ok (.iload 4, 2) := by decide +kernel
theorem dX8_odds_56 : decode cX8_odds 56 = .ok (.invokestatic 137, 3) := by decide +kernel
theorem dX8_odds_59 : decode cX8_odds 59 = .ok (.lreturn, 1) := by decide +kernel
theorem dX8_sorts_0 : decode cX8_sorts 0 = .ok (.iload_n 1, 1) := by decide +kernel
theorem dX8_sorts_1 : decode cX8_sorts 1 = .ok (.iconst 0, 1) := by decide +kernel
theorem dX8_sorts_2 : decode cX8_sorts 2 = .ok (.iconst 2, 1) := by decide +kernel
theorem dX8_sorts_3 : decode cX8_sorts 3 = .ok (.invokestatic 79, 3) := by decide +kernel
theorem dX8_sorts_6 : decode cX8_sorts 6 = .ok (.ifCond .eq 10, 3) := by decide +kernel
theorem dX8_sorts_9 : decode cX8_sorts 9 = .ok (.iload_n 2, 1) := by decide +kernel
theorem dX8_sorts_10 : decode cX8_sorts 10 = .ok (.invokestatic 94, 3) := by decide +kernel
theorem dX8_sorts_13 : decode cX8_sorts 13 = .ok (.ifCond .ne 7, 3) := by decide +kernel
theorem dX8_sorts_16 : decode cX8_sorts 16 = .ok (.ldc2_w 127, 3) := by decide +kernel
theorem dX8_sorts_19 : decode cX8_sorts 19 = .ok (.lreturn, 1) := by decide +kernel
theorem dX8_sorts_20 : decode cX8_sorts 20 = .ok (.aload_n 0, 1) := by decide +kernel
theorem dX8_sorts_21 : decode cX8_sorts 21 = .ok (.invokevirtual 134, 3) := by decide +kernel
theorem dX8_sorts_24 : decode cX8_sorts 24 = .ok (.lconst 0, 1) := by decide +kernel
theorem dX8_sorts_25 : decode cX8_sorts 25 = .ok (.lstore_n 3, 1) := by decide +kernel
theorem dX8_sorts_26 : decode cX8_sorts 26 = .ok (.iconst 0, 1) := by decide +kernel
theorem dX8_sorts_27 : decode cX8_sorts 27 = .ok (.istore 5, 2) := by decide +kernel
theorem dX8_sorts_29 : decode cX8_sorts 29 = .ok (.iload 5, 2) := by decide +kernel
theorem dX8_sorts_31 : decode cX8_sorts 31 = .ok (.aload_n 0, 1) := by decide +kernel
theorem dX8_sorts_32 : decode cX8_sorts 32 = .ok (.getfield 112, 3) := by decide +kernel
theorem dX8_sorts_35 : decode cX8_sorts 35 = .ok (.if_icmp .ge 34, 3) := by decide +kernel
theorem dX8_sorts_38 : decode cX8_sorts 38 = .ok (.lload_n 3, 1) := by decide +kernel
theorem dX8_sorts_39 : decode cX8_sorts 39 = .ok (.aload_n 0, 1) := by decide +kernel
theorem dX8_sorts_40 : decode cX8_sorts 40 = .ok (.getfield 41, 3) := by decide +kernel
theorem dX8_sorts_43 : decode cX8_sorts 43 = .ok (.iload 5, 2) := by decide +kernel
theorem dX8_sorts_45 : decode cX8_sorts 45 = .ok (.iaload, 1) := by decide +kernel
theorem dX8_sorts_46 : decode cX8_sorts 46 = .ok (.iload_n 1, 1) := by decide +kernel
theorem dX8_sorts_47 : decode cX8_sorts 47 = .ok (.if_icmp .ne 13, 3) := by decide +kernel
theorem dX8_sorts_50 : decode cX8_sorts 50 = .ok (.aload_n 0, 1) := by decide +kernel
theorem dX8_sorts_51 : decode cX8_sorts 51 = .ok (.getfield 50, 3) := by decide +kernel
theorem dX8_sorts_54 : decode cX8_sorts 54 = .ok (.iload 5, 2) := by decide +kernel
theorem dX8_sorts_56 : decode cX8_sorts 56 = .ok (.laload, 1) := by decide +kernel
theorem dX8_sorts_57 : decode cX8_sorts 57 = .ok (.goto 4, 3) := by decide +kernel
theorem dX8_sorts_60 : decode cX8_sorts 60 = .ok (.lconst 0, 1) := by decide +kernel
theorem dX8_sorts_61 : decode cX8_sorts 61 = .ok (.ladd, 1) := by decide +kernel
theorem dX8_sorts_62 : decode cX8_sorts 62 = .ok (.lstore_n 3, 1) := by decide +kernel
theorem dX8_sorts_63 : decode cX8_sorts 63 = .ok (.iinc 5 1, 3) := by decide +kernel
theorem dX8_sorts_66 : decode cX8_sorts 66 = .ok (.goto (-37), 3) := by decide +kernel
theorem dX8_sorts_69 : decode cX8_sorts 69 = .ok (.lload_n 3, 1) := by decide +kernel
theorem dX8_sorts_70 : decode cX8_sorts 70 = .ok (.aload_n 0, 1) := by decide +kernel
theorem dX8_sorts_71 : decode cX8_sorts 71 = .ok (.getfield 119, 3) := by decide +kernel
theorem dX8_sorts_74 : decode cX8_sorts 74 = .ok (.iload_n 2, 1) := by decide +kernel
theorem dX8_sorts_75 : decode cX8_sorts 75 = .ok (.invokestatic 137, 3) := by decide +kernel
theorem dX8_sorts_78 : decode cX8_sorts 78 = .ok (.lreturn, 1) := by decide +kernel
theorem dX8_blame_0 : decode cX8_blame 0 = .ok (.aload_n 0, 1) := by decide +kernel
theorem dX8_blame_1 : decode cX8_blame 1 = .ok (.iload_n 1, 1) := by decide +kernel
theorem dX8_blame_2 : decode cX8_blame 2 = .ok (.invokevirtual 83, 3) := by decide +kernel
theorem dX8_blame_5 : decode cX8_blame 5 = .ok (.ifCond .ne 7, 3) := by decide +kernel
theorem dX8_blame_8 : decode cX8_blame 8 = .ok (.ldc2_w 132, 3) := by decide +kernel
theorem dX8_blame_11 : decode cX8_blame 11 = .ok (.lreturn, 1) := by decide +kernel
theorem dX8_blame_12 : decode cX8_blame 12 = .ok (.iload_n 2, 1) := by decide +kernel
theorem dX8_blame_13 : decode cX8_blame 13 = .ok (.invokestatic 94, 3) := by decide +kernel
theorem dX8_blame_16 : decode cX8_blame 16 = .ok (.ifCond .ne 7, 3) := by decide +kernel
theorem dX8_blame_19 : decode cX8_blame 19 = .ok (.ldc2_w 127, 3) := by decide +kernel
theorem dX8_blame_22 : decode cX8_blame 22 = .ok (.lreturn, 1) := by decide +kernel
theorem dX8_blame_23 : decode cX8_blame 23 = .ok (.aload_n 0, 1) := by decide +kernel
theorem dX8_blame_24 : decode cX8_blame 24 = .ok (.invokevirtual 134, 3) := by decide +kernel
theorem dX8_blame_27 : decode cX8_blame 27 = .ok (.lconst 0, 1) := by decide +kernel
theorem dX8_blame_28 : decode cX8_blame 28 = .ok (.lstore_n 3, 1) := by decide +kernel
theorem dX8_blame_29 : decode cX8_blame 29 = .ok (.iconst 0, 1) := by decide +kernel
theorem dX8_blame_30 : decode cX8_blame 30 = .ok (.istore 5, 2) := by decide +kernel
theorem dX8_blame_32 : decode cX8_blame 32 = .ok (.iload 5, 2) := by decide +kernel
theorem dX8_blame_34 : decode cX8_blame 34 = .ok (.aload_n 0, 1) := by decide +kernel
theorem dX8_blame_35 : decode cX8_blame 35 = .ok (.getfield 112, 3) := by decide +kernel
theorem dX8_blame_38 : decode cX8_blame 38 = .ok (.if_icmp .ge 56, 3) := by decide +kernel
theorem dX8_blame_41 : decode cX8_blame 41 = .ok (.lload_n 3, 1) := by decide +kernel
theorem dX8_blame_42 : decode cX8_blame 42 = .ok (.aload_n 0, 1) := by decide +kernel
theorem dX8_blame_43 : decode cX8_blame 43 = .ok (.getfield 44, 3) := by decide +kernel
theorem dX8_blame_46 : decode cX8_blame 46 = .ok (.iload 5, 2) := by decide +kernel
theorem dX8_blame_48 : decode cX8_blame 48 = .ok (.iaload, 1) := by decide +kernel
theorem dX8_blame_49 : decode cX8_blame 49 = .ok (.iload_n 1, 1) := by decide +kernel
theorem dX8_blame_50 : decode cX8_blame 50 = .ok (.if_icmp .eq 25, 3) := by decide +kernel
theorem dX8_blame_53 : decode cX8_blame 53 = .ok (.aload_n 0, 1) := by decide +kernel
theorem dX8_blame_54 : decode cX8_blame 54 = .ok (.getfield 41, 3) := by decide +kernel
theorem dX8_blame_57 : decode cX8_blame 57 = .ok (.iload 5, 2) := by decide +kernel
theorem dX8_blame_59 : decode cX8_blame 59 = .ok (.iaload, 1) := by decide +kernel
theorem dX8_blame_60 : decode cX8_blame 60 = .ok (.iconst 1, 1) := by decide +kernel
theorem dX8_blame_61 : decode cX8_blame 61 = .ok (.if_icmp .ne 24, 3) := by decide +kernel
theorem dX8_blame_64 : decode cX8_blame 64 = .ok (.aload_n 0, 1) := by decide +kernel
theorem dX8_blame_65 : decode cX8_blame 65 = .ok (.getfield 47, 3) := by decide +kernel
theorem dX8_blame_68 : decode cX8_blame 68 = .ok (.iload 5, 2) := by decide +kernel
theorem dX8_blame_70 : decode cX8_blame 70 = .ok (.iaload, 1) := by decide +kernel
theorem dX8_blame_71 : decode cX8_blame 71 = .ok (.iload_n 1, 1) := by decide +kernel
theorem dX8_blame_72 : decode cX8_blame 72 = .ok (.if_icmp .ne 13, 3) := by decide +kernel
theorem dX8_blame_75 : decode cX8_blame 75 = .ok (.aload_n 0, 1) := by decide +kernel
theorem dX8_blame_76 : decode cX8_blame 76 = .ok (.getfield 50, 3) := by decide +kernel
theorem dX8_blame_79 : decode cX8_blame 79 = .ok (.iload 5, 2) := by decide +kernel
theorem dX8_blame_81 : decode cX8_blame 81 = .ok (.laload, 1) := by decide +kernel
theorem dX8_blame_82 : decode cX8_blame 82 = .ok (.goto 4, 3) := by decide +kernel
theorem dX8_blame_85 : decode cX8_blame 85 = .ok (.lconst 0, 1) := by decide +kernel
theorem dX8_blame_86 : decode cX8_blame 86 = .ok (.ladd, 1) := by decide +kernel
theorem dX8_blame_87 : decode cX8_blame 87 = .ok (.lstore_n 3, 1) := by decide +kernel
theorem dX8_blame_88 : decode cX8_blame 88 = .ok (.iinc 5 1, 3) := by decide +kernel
theorem dX8_blame_91 : decode cX8_blame 91 = .ok (.goto (-59), 3) := by decide +kernel
theorem dX8_blame_94 : decode cX8_blame 94 = .ok (.lload_n 3, 1) := by decide +kernel
theorem dX8_blame_95 : decode cX8_blame 95 = .ok (.aload_n 0, 1) := by decide +kernel
theorem dX8_blame_96 : decode cX8_blame 96 = .ok (.getfield 119, 3) := by decide +kernel
theorem dX8_blame_99 : decode cX8_blame 99 = .ok (.iload_n 2, 1) := by decide +kernel
theorem dX8_blame_100 : decode cX8_blame 100 = .ok (.invokestatic 137, 3) := by decide +kernel
theorem dX8_blame_103 : decode cX8_blame 103 = .ok (.lreturn, 1) := by decide +kernel
theorem dX8_guessOf_0 : decode cX8_guessOf 0 = .ok (.bipush (-6), 2) := by decide +kernel
theorem dX8_guessOf_2 : decode cX8_guessOf 2 = .ok (.istore_n 1, 1) := by decide +kernel
theorem dX8_guessOf_3 : decode cX8_guessOf 3 = .ok (.iconst 0, 1) := by decide +kernel
theorem dX8_guessOf_4 : decode cX8_guessOf 4 = .ok (.istore_n 2, 1) := by decide +kernel
theorem dX8_guessOf_5 : decode cX8_guessOf 5 = .ok (.iload_n 2, 1) := by decide +kernel
theorem dX8_guessOf_6 : decode cX8_guessOf 6 = .ok (.aload_n 0, 1) := by decide +kernel
theorem dX8_guessOf_7 : decode cX8_guessOf 7 = .ok (.getfield 112, 3) := by decide +kernel
theorem dX8_guessOf_10 : decode cX8_guessOf 10 = .ok (.if_icmp .ge 35, 3) := by decide +kernel
theorem dX8_guessOf_13 : decode cX8_guessOf 13 = .ok (.aload_n 0, 1) := by decide +kernel
theorem dX8_guessOf_14 : decode cX8_guessOf 14 = .ok (.getfield 50, 3) := by decide +kernel
theorem dX8_guessOf_17 : decode cX8_guessOf 17 = .ok (.iload_n 2, 1) := by decide +kernel
theorem dX8_guessOf_18 : decode cX8_guessOf 18 = .ok (.laload, 1) := by decide +kernel
theorem dX8_guessOf_19 : decode cX8_guessOf 19 = .ok (.iload_n 1, 1) := by decide +kernel
theorem dX8_guessOf_20 : decode cX8_guessOf 20 = .ok (.ifCond .ge 7, 3) := by decide +kernel
theorem dX8_guessOf_23 : decode cX8_guessOf 23 = .ok (.lconst 0, 1) := by decide +kernel
theorem dX8_guessOf_24 : decode cX8_guessOf 24 = .ok (.goto 9, 3) := by decide +kernel
theorem dX8_guessOf_27 : decode cX8_guessOf 27 = .ok (.aload_n 0, 1) := by decide +kernel
theorem dX8_guessOf_28 : decode cX8_guessOf 28 = .ok (.getfield 50, 3) := by decide +kernel
theorem dX8_guessOf_31 : decode cX8_guessOf 31 = .ok (.iload_n 1, 1) := by decide +kernel
theorem dX8_guessOf_32 : decode cX8_guessOf 32 = .ok (.laload, 1) := by decide +kernel
theorem dX8_guessOf_33 : decode cX8_guessOf 33 = .ok (.lcmp, 1) := by decide +kernel
theorem dX8_guessOf_34 : decode cX8_guessOf 34 = .ok (.ifCond .le 5, 3) := by decide +kernel
theorem dX8_guessOf_37 : decode cX8_guessOf 37 = .ok (.iload_n 2, 1) := by decide +kernel
theorem dX8_guessOf_38 : decode cX8_guessOf 38 = .ok (.istore_n 1, 1) := by decide +kernel
theorem dX8_guessOf_39 : decode cX8_guessOf 39 = .ok (.iinc 2 1, 3) := by decide +kernel
theorem dX8_guessOf_42 : decode cX8_guessOf 42 = .ok (.goto (-37), 3) := by decide +kernel
theorem dX8_guessOf_45 : decode cX8_guessOf 45 = .ok (.iload_n 1, 1) := by decide +kernel
theorem dX8_guessOf_46 : decode cX8_guessOf 46 = .ok (.ireturn, 1) := by decide +kernel
theorem dX8_guess_0 : decode cX8_guess 0 = .ok (.iload_n 1, 1) := by decide +kernel
theorem dX8_guess_1 : decode cX8_guess 1 = .ok (.iconst 0, 1) := by decide +kernel
theorem dX8_guess_2 : decode cX8_guess 2 = .ok (.iconst 2, 1) := by decide +kernel
theorem dX8_guess_3 : decode cX8_guess 3 = .ok (.invokestatic 79, 3) := by decide +kernel
theorem dX8_guess_6 : decode cX8_guess 6 = .ok (.ifCond .ne 6, 3) := by decide +kernel
theorem dX8_guess_9 : decode cX8_guess 9 = .ok (.bipush (-2), 2) := by decide +kernel
theorem dX8_guess_11 : decode cX8_guess 11 = .ok (.ireturn, 1) := by decide +kernel
theorem dX8_guess_12 : decode cX8_guess 12 = .ok (.aload_n 0, 1) := by decide +kernel
theorem dX8_guess_13 : decode cX8_guess 13 = .ok (.invokevirtual 134, 3) := by decide +kernel
theorem dX8_guess_16 : decode cX8_guess 16 = .ok (.aload_n 0, 1) := by decide +kernel
theorem dX8_guess_17 : decode cX8_guess 17 = .ok (.invokevirtual 141, 3) := by decide +kernel
theorem dX8_guess_20 : decode cX8_guess 20 = .ok (.istore_n 2, 1) := by decide +kernel
theorem dX8_guess_21 : decode cX8_guess 21 = .ok (.iload_n 2, 1) := by decide +kernel
theorem dX8_guess_22 : decode cX8_guess 22 = .ok (.ifCond .ge 8, 3) := by decide +kernel
theorem dX8_guess_25 : decode cX8_guess 25 = .ok (.bipush (-5), 2) := by decide +kernel
theorem dX8_guess_27 : decode cX8_guess 27 = .ok (.goto 36, 3) := by decide +kernel
theorem dX8_guess_30 : decode cX8_guess 30 = .ok (.iload_n 1, 1) := by decide +kernel
theorem dX8_guess_31 : decode cX8_guess 31 = .ok (.ifCond .ne 12, 3) := by decide +kernel
theorem dX8_guess_34 : decode cX8_guess 34 = .ok (.aload_n 0, 1) := by decide +kernel
theorem dX8_guess_35 : decode cX8_guess 35 = .ok (.getfield 41, 3) := by decide +kernel
theorem dX8_guess_38 : decode cX8_guess 38 = .ok (.iload_n 2, 1) := by decide +kernel
theorem dX8_guess_39 : decode cX8_guess 39 = .ok (.iaload, 1) := by decide +kernel
theorem dX8_guess_40 : decode cX8_guess 40 = .ok (.goto 23, 3) := by decide +kernel
theorem dX8_guess_43 : decode cX8_guess 43 = .ok (.iload_n 1, 1) := by decide +kernel
theorem dX8_guess_44 : decode cX8_guess 44 = .ok (.iconst 1, 1) := by decide +kernel
theorem dX8_guess_45 : decode cX8_guess 45 = .ok (.if_icmp .ne 12, 3) := by decide +kernel
theorem dX8_guess_48 : decode cX8_guess 48 = .ok (.aload_n 0, 1) := by decide +kernel
theorem dX8_guess_49 : decode cX8_guess 49 = .ok (.getfield 44, 3) := by decide +kernel
theorem dX8_guess_52 : decode cX8_guess 52 = .ok (.iload_n 2, 1) := by decide +kernel
theorem dX8_guess_53 : decode cX8_guess 53 = .ok (.iaload, 1) := by decide +kernel
theorem dX8_guess_54 : decode cX8_guess 54 = .ok (.goto 9, 3) := by decide +kernel
theorem dX8_guess_57 : decode cX8_guess 57 = .ok (.aload_n 0, 1) := by decide +kernel
theorem dX8_guess_58 : decode cX8_guess 58 = .ok (.getfield 47, 3) := by decide +kernel
theorem dX8_guess_61 : decode cX8_guess 61 = .ok (.iload_n 2, 1) := by decide +kernel
theorem dX8_guess_62 : decode cX8_guess 62 = .ok (.iaload, 1) := by decide +kernel
theorem dX8_guess_63 : decode cX8_guess 63 = .ok (.ireturn, 1) := by decide +kernel
theorem dX8_canTest_0 : decode cX8_canTest 0 = .ok (.aload_n 0, 1) := by decide +kernel
theorem dX8_canTest_1 : decode cX8_canTest 1 = .ok (.iload_n 1, 1) := by decide +kernel
theorem dX8_canTest_2 : decode cX8_canTest 2 = .ok (.invokevirtual 83, 3) := by decide +kernel
theorem dX8_canTest_5 : decode cX8_canTest 5 = .ok (.ifCond .eq 16, 3) := by decide +kernel
theorem dX8_canTest_8 : decode cX8_canTest 8 = .ok (.aload_n 0, 1) := by decide +kernel
theorem dX8_canTest_9 : decode cX8_canTest 9 = .ok (.getfield 22, 3) := by decide +kernel
theorem dX8_canTest_12 : decode cX8_canTest 12 = .ok (.iload_n 1, 1) := by decide +kernel
theorem dX8_canTest_13 : decode cX8_canTest 13 = .ok (.baload, 1) := by decide +kernel
theorem dX8_canTest_14 : decode cX8_canTest 14 = .ok (.ifCond .ne 7, 3) := by decide +kernel
theorem dX8_canTest_17 : decode cX8_canTest 17 = .ok (.iconst 1, 1) := by decide +kernel
theorem dX8_canTest_18 : decode cX8_canTest 18 = .ok (.goto 4, 3) := by decide +kernel
theorem dX8_canTest_21 : decode cX8_canTest 21 = .ok (.iconst 0, 1) := by decide +kernel
theorem dX8_canTest_22 : decode cX8_canTest 22 = .ok (.ireturn, 1) := by decide +kernel
theorem dX8_hopeOf_0 : decode cX8_hopeOf 0 = .ok (.lconst 0, 1) := by decide +kernel
theorem dX8_hopeOf_1 : decode cX8_hopeOf 1 = .ok (.lstore_n 2, 1) := by decide +kernel
theorem dX8_hopeOf_2 : decode cX8_hopeOf 2 = .ok (.lconst 0, 1) := by decide +kernel
theorem dX8_hopeOf_3 : decode cX8_hopeOf 3 = .ok (.lstore 4, 2) := by decide +kernel
theorem dX8_hopeOf_5 : decode cX8_hopeOf 5 = .ok (.iconst 0, 1) := by decide +kernel
theorem dX8_hopeOf_6 : decode cX8_hopeOf 6 = .ok (.istore 6, 2) := by decide +kernel
theorem dX8_hopeOf_8 : decode cX8_hopeOf 8 = .ok (.iload 6, 2) := by decide +kernel
theorem dX8_hopeOf_10 : decode cX8_hopeOf 10 = .ok (.aload_n 0, 1) := by decide +kernel
theorem dX8_hopeOf_11 : decode cX8_hopeOf 11 = .ok (.getfield 112, 3) := by decide +kernel
theorem dX8_hopeOf_14 : decode cX8_hopeOf 14 = .ok (.if_icmp .ge 104, 3) := by decide +kernel
theorem dX8_hopeOf_17 : decode cX8_hopeOf 17 = .ok (.aload_n 0, 1) := by decide +kernel
theorem dX8_hopeOf_18 : decode cX8_hopeOf 18 = .ok (.iload_n 1, 1) := by decide +kernel
theorem dX8_hopeOf_19 : decode cX8_hopeOf 19 = .ok (.aload_n 0, 1) := by decide +kernel
theorem dX8_hopeOf_20 : decode cX8_hopeOf 20 = .ok (.getfield 41, 3) := by decide +kernel
theorem dX8_hopeOf_23 : decode cX8_hopeOf 23 = .ok (.iload 6, 2) := by decide +kernel
theorem dX8_hopeOf_25 : decode cX8_hopeOf 25 = .ok (.iaload, 1) := by decide +kernel
theorem dX8_hopeOf_26 : decode cX8_hopeOf 26 = .ok (.aload_n 0, 1) := by decide +kernel
theorem dX8_hopeOf_27 : decode cX8_hopeOf 27 = .ok (.getfield 44, 3) := by decide +kernel
theorem dX8_hopeOf_30 : decode cX8_hopeOf 30 = .ok (.iload 6, 2) := by decide +kernel
theorem dX8_hopeOf_32 : decode cX8_hopeOf 32 = .ok (.iaload, 1) := by decide +kernel
theorem dX8_hopeOf_33 : decode cX8_hopeOf 33 = .ok (.aload_n 0, 1) := by decide +kernel
theorem dX8_hopeOf_34 : decode cX8_hopeOf 34 = .ok (.getfield 47, 3) := by decide +kernel
theorem dX8_hopeOf_37 : decode cX8_hopeOf 37 = .ok (.iload 6, 2) := by decide +kernel
theorem dX8_hopeOf_39 : decode cX8_hopeOf 39 = .ok (.iaload, 1) := by decide +kernel
theorem dX8_hopeOf_40 : decode cX8_hopeOf 40 = .ok (.invokevirtual 104, 3) := by decide +kernel
theorem dX8_hopeOf_43 : decode cX8_hopeOf 43 = .ok (.istore 7, 2) := by decide +kernel
theorem dX8_hopeOf_45 : decode cX8_hopeOf 45 = .ok (.aload_n 0, 1) := by decide +kernel
theorem dX8_hopeOf_46 : decode cX8_hopeOf 46 = .ok (.getfield 50, 3) := by decide +kernel
theorem dX8_hopeOf_49 : decode cX8_hopeOf 49 = .ok (.iload 6, 2) := by decide +kernel
theorem dX8_hopeOf_51 : decode cX8_hopeOf 51 = .ok (.laload, 1) := by decide +kernel
theorem dX8_hopeOf_52 : decode cX8_hopeOf 52 = .ok (.aload_n 0, 1) := by decide +kernel
theorem dX8_hopeOf_53 : decode cX8_hopeOf 53 = .ok (.iload 7, 2) := by decide +kernel
theorem dX8_hopeOf_55 : decode cX8_hopeOf 55 = .ok (.iconst 1, 1) := by decide +kernel
theorem dX8_hopeOf_56 : decode cX8_hopeOf 56 = .ok (.invokevirtual 108, 3) := by decide +kernel
theorem dX8_hopeOf_59 : decode cX8_hopeOf 59 = .ok (.i2l, 1) := by decide +kernel
theorem dX8_hopeOf_60 : decode cX8_hopeOf 60 = .ok (.lmul, 1) := by decide +kernel
theorem dX8_hopeOf_61 : decode cX8_hopeOf 61 = .ok (.lstore 8, 2) := by decide +kernel
theorem dX8_hopeOf_63 : decode cX8_hopeOf 63 = .ok (.aload_n 0, 1) := by decide +kernel
theorem dX8_hopeOf_64 : decode cX8_hopeOf 64 = .ok (.getfield 50, 3) := by decide +kernel
theorem dX8_hopeOf_67 : decode cX8_hopeOf 67 = .ok (.iload 6, 2) := by decide +kernel
theorem dX8_hopeOf_69 : decode cX8_hopeOf 69 = .ok (.laload, 1) := by decide +kernel
theorem dX8_hopeOf_70 : decode cX8_hopeOf 70 = .ok (.aload_n 0, 1) := by decide +kernel
theorem dX8_hopeOf_71 : decode cX8_hopeOf 71 = .ok (.iload 7, 2) := by decide +kernel
theorem dX8_hopeOf_73 : decode cX8_hopeOf 73 = .ok (.iconst 0, 1) := by decide +kernel
theorem dX8_hopeOf_74 : decode cX8_hopeOf 74 = .ok (.invokevirtual 108, 3) := by decide +kernel
theorem dX8_hopeOf_77 : decode cX8_hopeOf 77 = .ok (.i2l, 1) := by decide +kernel
theorem dX8_hopeOf_78 : decode cX8_hopeOf 78 = .ok (.lmul, 1) := by decide +kernel
theorem dX8_hopeOf_79 : decode cX8_hopeOf 79 = .ok (.lstore 10, 2) := by decide +kernel
theorem dX8_hopeOf_81 : decode cX8_hopeOf 81 = .ok (.lload 8, 2) := by decide +kernel
theorem dX8_hopeOf_83 : decode cX8_hopeOf 83 = .ok (.lload_n 2, 1) := by decide +kernel
theorem dX8_hopeOf_84 : decode cX8_hopeOf 84 = .ok (.lcmp, 1) := by decide +kernel
theorem dX8_hopeOf_85 : decode cX8_hopeOf 85 = .ok (.ifCond .le 8, 3) := by decide +kernel
theorem dX8_hopeOf_88 : decode cX8_hopeOf 88 = .ok (.lload 8, 2) := by decide +kernel
theorem dX8_hopeOf_90 : decode cX8_hopeOf 90 = .ok (.goto 4, 3) := by decide +kernel
theorem dX8_hopeOf_93 : decode cX8_hopeOf 93 = .ok (.lload_n 2, 1) := by decide +kernel
theorem dX8_hopeOf_94 : decode cX8_hopeOf 94 = .ok (.lstore_n 2, 1) := by decide +kernel
theorem dX8_hopeOf_95 : decode cX8_hopeOf 95 = .ok (.lload 10, 2) := by decide +kernel
theorem dX8_hopeOf_97 : decode cX8_hopeOf 97 = .ok (.lload 4, 2) := by decide +kernel
theorem dX8_hopeOf_99 : decode cX8_hopeOf 99 = .ok (.lcmp, 1) := by decide +kernel
theorem dX8_hopeOf_100 : decode cX8_hopeOf 100 = .ok (.ifCond .le 8, 3) := by decide +kernel
theorem dX8_hopeOf_103 : decode cX8_hopeOf 103 = .ok (.lload 10, 2) := by decide +kernel
theorem dX8_hopeOf_105 : decode cX8_hopeOf 105 = .ok (.goto 5, 3) := by decide +kernel
theorem dX8_hopeOf_108 : decode cX8_hopeOf 108 = .ok (.lload 4, 2) := by decide +kernel
theorem dX8_hopeOf_110 : decode cX8_hopeOf 110 = .ok (.lstore 4, 2) := by decide +kernel
theorem dX8_hopeOf_112 : decode cX8_hopeOf 112 = .ok (.iinc 6 1, 3) := by decide +kernel
theorem dX8_hopeOf_115 : decode cX8_hopeOf 115 = .ok (.goto (-107), 3) := by decide +kernel
theorem dX8_hopeOf_118 : decode cX8_hopeOf 118 = .ok (.lload_n 2, 1) := by decide +kernel
theorem dX8_hopeOf_119 : decode cX8_hopeOf 119 = .ok (.lload 4, 2) := by decide +kernel
theorem dX8_hopeOf_121 : decode cX8_hopeOf 121 = .ok (.ladd, 1) := by decide +kernel
theorem dX8_hopeOf_122 : decode cX8_hopeOf 122 = .ok (.lreturn, 1) := by decide +kernel
theorem dX8_hope_0 : decode cX8_hope 0 = .ok (.aload_n 0, 1) := by decide +kernel
theorem dX8_hope_1 : decode cX8_hope 1 = .ok (.iload_n 1, 1) := by decide +kernel
theorem dX8_hope_2 : decode cX8_hope 2 = .ok (.invokevirtual 145, 3) := by decide +kernel
theorem dX8_hope_5 : decode cX8_hope 5 = .ok (.ifCond .ne 7, 3) := by decide +kernel
theorem dX8_hope_8 : decode cX8_hope 8 = .ok (.ldc2_w 132, 3) := by decide +kernel
theorem dX8_hope_11 : decode cX8_hope 11 = .ok (.lreturn, 1) := by decide +kernel
theorem dX8_hope_12 : decode cX8_hope 12 = .ok (.iload_n 2, 1) := by decide +kernel
theorem dX8_hope_13 : decode cX8_hope 13 = .ok (.invokestatic 94, 3) := by decide +kernel
theorem dX8_hope_16 : decode cX8_hope 16 = .ok (.ifCond .ne 7, 3) := by decide +kernel
theorem dX8_hope_19 : decode cX8_hope 19 = .ok (.ldc2_w 127, 3) := by decide +kernel
theorem dX8_hope_22 : decode cX8_hope 22 = .ok (.lreturn, 1) := by decide +kernel
theorem dX8_hope_23 : decode cX8_hope 23 = .ok (.aload_n 0, 1) := by decide +kernel
theorem dX8_hope_24 : decode cX8_hope 24 = .ok (.invokevirtual 134, 3) := by decide +kernel
theorem dX8_hope_27 : decode cX8_hope 27 = .ok (.aload_n 0, 1) := by decide +kernel
theorem dX8_hope_28 : decode cX8_hope 28 = .ok (.iload_n 1, 1) := by decide +kernel
theorem dX8_hope_29 : decode cX8_hope 29 = .ok (.invokevirtual 148, 3) := by decide +kernel
theorem dX8_hope_32 : decode cX8_hope 32 = .ok (.ldc2_w 152, 3) := by decide +kernel
theorem dX8_hope_35 : decode cX8_hope 35 = .ok (.aload_n 0, 1) := by decide +kernel
theorem dX8_hope_36 : decode cX8_hope 36 = .ok (.getfield 119, 3) := by decide +kernel
theorem dX8_hope_39 : decode cX8_hope 39 = .ok (.lmul, 1) := by decide +kernel
theorem dX8_hope_40 : decode cX8_hope 40 = .ok (.iload_n 2, 1) := by decide +kernel
theorem dX8_hope_41 : decode cX8_hope 41 = .ok (.invokestatic 137, 3) := by decide +kernel
theorem dX8_hope_44 : decode cX8_hope 44 = .ok (.lreturn, 1) := by decide +kernel
theorem dX8_badness_0 : decode cX8_badness 0 = .ok (.iload_n 2, 1) := by decide +kernel
theorem dX8_badness_1 : decode cX8_badness 1 = .ok (.iconst 1, 1) := by decide +kernel
theorem dX8_badness_2 : decode cX8_badness 2 = .ok (.if_icmp .ne 10, 3) := by decide +kernel
theorem dX8_badness_5 : decode cX8_badness 5 = .ok (.aload_n 0, 1) := by decide +kernel
theorem dX8_badness_6 : decode cX8_badness 6 = .ok (.iload_n 1, 1) := by decide +kernel
theorem dX8_badness_7 : decode cX8_badness 7 = .ok (.invokevirtual 148, 3) := by decide +kernel
theorem dX8_badness_10 : decode cX8_badness 10 = .ok (.lneg, 1) := by decide +kernel
theorem dX8_badness_11 : decode cX8_badness 11 = .ok (.lreturn, 1) := by decide +kernel
theorem dX8_badness_12 : decode cX8_badness 12 = .ok (.lconst 0, 1) := by decide +kernel
theorem dX8_badness_13 : decode cX8_badness 13 = .ok (.lstore_n 3, 1) := by decide +kernel
theorem dX8_badness_14 : decode cX8_badness 14 = .ok (.iconst 0, 1) := by decide +kernel
theorem dX8_badness_15 : decode cX8_badness 15 = .ok (.istore 5, 2) := by decide +kernel
theorem dX8_badness_17 : decode cX8_badness 17 = .ok (.iload 5, 2) := by decide +kernel
theorem dX8_badness_19 : decode cX8_badness 19 = .ok (.aload_n 0, 1) := by decide +kernel
theorem dX8_badness_20 : decode cX8_badness 20 = .ok (.getfield 112, 3) := by decide +kernel
theorem dX8_badness_23 : decode cX8_badness 23 = .ok (.if_icmp .ge 59, 3) := by decide +kernel
theorem dX8_badness_26 : decode cX8_badness 26 = .ok (.lload_n 3, 1) := by decide +kernel
theorem dX8_badness_27 : decode cX8_badness 27 = .ok (.aload_n 0, 1) := by decide +kernel
theorem dX8_badness_28 : decode cX8_badness 28 = .ok (.iload_n 1, 1) := by decide +kernel
theorem dX8_badness_29 : decode cX8_badness 29 = .ok (.aload_n 0, 1) := by decide +kernel
theorem dX8_badness_30 : decode cX8_badness 30 = .ok (.getfield 41, 3) := by decide +kernel
theorem dX8_badness_33 : decode cX8_badness 33 = .ok (.iload 5, 2) := by decide +kernel
theorem dX8_badness_35 : decode cX8_badness 35 = .ok (.iaload, 1) := by decide +kernel
theorem dX8_badness_36 : decode cX8_badness 36 = .ok (.aload_n 0, 1) := by decide +kernel
theorem dX8_badness_37 : decode cX8_badness 37 = .ok (.getfield 44, 3) := by decide +kernel
theorem dX8_badness_40 : decode cX8_badness 40 = .ok (.iload 5, 2) := by decide +kernel
theorem dX8_badness_42 : decode cX8_badness 42 = .ok (.iaload, 1) := by decide +kernel
theorem dX8_badness_43 : decode cX8_badness 43 = .ok (.aload_n 0, 1) := by decide +kernel
theorem dX8_badness_44 : decode cX8_badness 44 = .ok (.getfield 47, 3) := by decide +kernel
theorem dX8_badness_47 : decode cX8_badness 47 = .ok (.iload 5, 2) := by decide +kernel
theorem dX8_badness_49 : decode cX8_badness 49 = .ok (.iaload, 1) := by decide +kernel
theorem dX8_badness_50 : decode cX8_badness 50 = .ok (.invokevirtual 104, 3) := by decide +kernel
theorem dX8_badness_53 : decode cX8_badness 53 = .ok (.ifCond .eq 13, 3) := by decide +kernel
theorem dX8_badness_56 : decode cX8_badness 56 = .ok (.aload_n 0, 1) := by decide +kernel
theorem dX8_badness_57 : decode cX8_badness 57 = .ok (.getfield 50, 3) := by decide +kernel
theorem dX8_badness_60 : decode cX8_badness 60 = .ok (.iload 5, 2) := by decide +kernel
theorem dX8_badness_62 : decode cX8_badness 62 = .ok (.laload, 1) := by decide +kernel
theorem dX8_badness_63 : decode cX8_badness 63 = .ok (.goto 11, 3) := by decide +kernel
theorem dX8_badness_66 : decode cX8_badness 66 = .ok (.aload_n 0, 1) := by decide +kernel
theorem dX8_badness_67 : decode cX8_badness 67 = .ok (.getfield 50, 3) := by decide +kernel
theorem dX8_badness_70 : decode cX8_badness 70 = .ok (.iload 5, 2) := by decide +kernel
theorem dX8_badness_72 : decode cX8_badness 72 = .ok (.laload, 1) := by decide +kernel
theorem dX8_badness_73 : decode cX8_badness 73 = .ok (.lneg, 1) := by decide +kernel
theorem dX8_badness_74 : decode cX8_badness 74 = .ok (.ladd, 1) := by decide +kernel
theorem dX8_badness_75 : decode cX8_badness 75 = .ok (.lstore_n 3, 1) := by decide +kernel
theorem dX8_badness_76 : decode cX8_badness 76 = .ok (.iinc 5 1, 3) := by decide +kernel
theorem dX8_badness_79 : decode cX8_badness 79 = .ok (.goto (-62), 3) := by decide +kernel
theorem dX8_badness_82 : decode cX8_badness 82 = .ok (.lload_n 3, 1) := by decide +kernel
theorem dX8_badness_83 : decode cX8_badness 83 = .ok (.lconst 0, 1) := by decide +kernel
theorem dX8_badness_84 : decode cX8_badness 84 = .ok (.lcmp, 1) := by decide +kernel
theorem dX8_badness_85 : decode cX8_badness 85 = .ok (.ifCond .ge 8, 3) := by decide +kernel
theorem dX8_badness_88 : decode cX8_badness 88 = .ok (.lload_n 3, 1) := by decide +kernel
theorem dX8_badness_89 : decode cX8_badness 89 = .ok (.lneg, 1) := by decide +kernel
theorem dX8_badness_90 : decode cX8_badness 90 = .ok (.goto 4, 3) := by decide +kernel
theorem dX8_badness_93 : decode cX8_badness 93 = .ok (.lload_n 3, 1) := by decide +kernel
theorem dX8_badness_94 : decode cX8_badness 94 = .ok (.lreturn, 1) := by decide +kernel
theorem dX8_nextOf_0 : decode cX8_nextOf 0 = .ok (.bipush (-6), 2) := by decide +kernel
theorem dX8_nextOf_2 : decode cX8_nextOf 2 = .ok (.istore_n 2, 1) := by decide +kernel
theorem dX8_nextOf_3 : decode cX8_nextOf 3 = .ok (.lconst 0, 1) := by decide +kernel
theorem dX8_nextOf_4 : decode cX8_nextOf 4 = .ok (.lstore_n 3, 1) := by decide +kernel
theorem dX8_nextOf_5 : decode cX8_nextOf 5 = .ok (.iconst 0, 1) := by decide +kernel
theorem dX8_nextOf_6 : decode cX8_nextOf 6 = .ok (.istore 5, 2) := by decide +kernel
theorem dX8_nextOf_8 : decode cX8_nextOf 8 = .ok (.iload 5, 2) := by decide +kernel
theorem dX8_nextOf_10 : decode cX8_nextOf 10 = .ok (.aload_n 0, 1) := by decide +kernel
theorem dX8_nextOf_11 : decode cX8_nextOf 11 = .ok (.getfield 75, 3) := by decide +kernel
theorem dX8_nextOf_14 : decode cX8_nextOf 14 = .ok (.if_icmp .ge 68, 3) := by decide +kernel
theorem dX8_nextOf_17 : decode cX8_nextOf 17 = .ok (.aload_n 0, 1) := by decide +kernel
theorem dX8_nextOf_18 : decode cX8_nextOf 18 = .ok (.getfield 22, 3) := by decide +kernel
theorem dX8_nextOf_21 : decode cX8_nextOf 21 = .ok (.iload 5, 2) := by decide +kernel
theorem dX8_nextOf_23 : decode cX8_nextOf 23 = .ok (.baload, 1) := by decide +kernel
theorem dX8_nextOf_24 : decode cX8_nextOf 24 = .ok (.ifCond .ne 52, 3) := by decide +kernel
theorem dX8_nextOf_27 : decode cX8_nextOf 27 = .ok (.aload_n 0, 1) := by decide +kernel
theorem dX8_nextOf_28 : decode cX8_nextOf 28 = .ok (.iload 5, 2) := by decide +kernel
theorem dX8_nextOf_30 : decode cX8_nextOf 30 = .ok (.iload_n 1, 1) := by decide +kernel
theorem dX8_nextOf_31 : decode cX8_nextOf 31 = .ok (.invokevirtual 154, 3) := by decide +kernel
theorem dX8_nextOf_34 : decode cX8_nextOf 34 = .ok (.lstore 6, 2) := by decide +kernel
theorem dX8_nextOf_36 : decode cX8_nextOf 36 = .ok (.iload_n 2, 1) := by decide +kernel
theorem dX8_nextOf_37 : decode cX8_nextOf 37 = .ok (.ifCond .lt 33, 3) := by decide +kernel
theorem dX8_nextOf_40 : decode cX8_nextOf 40 = .ok (.lload 6, 2) := by decide +kernel
theorem dX8_nextOf_42 : decode cX8_nextOf 42 = .ok (.lload_n 3, 1) := by decide +kernel
theorem dX8_nextOf_43 : decode cX8_nextOf 43 = .ok (.lcmp, 1) := by decide +kernel
theorem dX8_nextOf_44 : decode cX8_nextOf 44 = .ok (.ifCond .lt 26, 3) := by decide +kernel
theorem dX8_nextOf_47 : decode cX8_nextOf 47 = .ok (.lload 6, 2) := by decide +kernel
theorem dX8_nextOf_49 : decode cX8_nextOf 49 = .ok (.lload_n 3, 1) := by decide +kernel
theorem dX8_nextOf_50 : decode cX8_nextOf 50 = .ok (.lcmp, 1) := by decide +kernel
theorem dX8_nextOf_51 : decode cX8_nextOf 51 = .ok (.ifCond .ne 25, 3) := by decide +kernel
theorem dX8_nextOf_54 : decode cX8_nextOf 54 = .ok (.aload_n 0, 1) := by decide +kernel
theorem dX8_nextOf_55 : decode cX8_nextOf 55 = .ok (.getfield 16, 3) := by decide +kernel
theorem dX8_nextOf_58 : decode cX8_nextOf 58 = .ok (.iload 5, 2) := by decide +kernel
theorem dX8_nextOf_60 : decode cX8_nextOf 60 = .ok (.iaload, 1) := by decide +kernel
theorem dX8_nextOf_61 : decode cX8_nextOf 61 = .ok (.aload_n 0, 1) := by decide +kernel
theorem dX8_nextOf_62 : decode cX8_nextOf 62 = .ok (.getfield 16, 3) := by decide +kernel
theorem dX8_nextOf_65 : decode cX8_nextOf 65 = .ok (.iload_n 2, 1) := by decide +kernel
theorem dX8_nextOf_66 : decode cX8_nextOf 66 = .ok (.iaload, 1) := by decide +kernel
theorem dX8_nextOf_67 : decode cX8_nextOf 67 = .ok (.if_icmp .ge 9, 3) := by decide +kernel
theorem dX8_nextOf_70 : decode cX8_nextOf 70 = .ok (.iload 5, 2) := by decide +kernel
theorem dX8_nextOf_72 : decode cX8_nextOf 72 = .ok (.istore_n 2, 1) := by decide +kernel
theorem dX8_nextOf_73 : decode cX8_nextOf 73 = .ok (.lload 6, 2) := by decide +kernel
theorem dX8_nextOf_75 : decode cX8_nextOf 75 = .ok (.lstore_n 3, 1) := by decide +kernel
theorem dX8_nextOf_76 : decode cX8_nextOf 76 = .ok (.iinc 5 1, 3) := by decide +kernel
theorem dX8_nextOf_79 : decode cX8_nextOf 79 = .ok (.goto (-71), 3) := by decide +kernel
theorem dX8_nextOf_82 : decode cX8_nextOf 82 = .ok (.iload_n 2, 1) := by decide +kernel
theorem dX8_nextOf_83 : decode cX8_nextOf 83 = .ok (.ireturn, 1) := by decide +kernel
theorem dX8_next_0 : decode cX8_next 0 = .ok (.iload_n 1, 1) := by decide +kernel
theorem dX8_next_1 : decode cX8_next 1 = .ok (.invokestatic 94, 3) := by decide +kernel
theorem dX8_next_4 : decode cX8_next 4 = .ok (.ifCond .ne 6, 3) := by decide +kernel
theorem dX8_next_7 : decode cX8_next 7 = .ok (.bipush (-2), 2) := by decide +kernel
theorem dX8_next_9 : decode cX8_next 9 = .ok (.ireturn, 1) := by decide +kernel
theorem dX8_next_10 : decode cX8_next 10 = .ok (.aload_n 0, 1) := by decide +kernel
theorem dX8_next_11 : decode cX8_next 11 = .ok (.invokevirtual 134, 3) := by decide +kernel
theorem dX8_next_14 : decode cX8_next 14 = .ok (.aload_n 0, 1) := by decide +kernel
theorem dX8_next_15 : decode cX8_next 15 = .ok (.iload_n 1, 1) := by decide +kernel
theorem dX8_next_16 : decode cX8_next 16 = .ok (.invokevirtual 158, 3) := by decide +kernel
theorem dX8_next_19 : decode cX8_next 19 = .ok (.ireturn, 1) := by decide +kernel
theorem dX8_laySet_0 : decode cX8_laySet 0 = .ok (.aload_n 0, 1) := by decide +kernel
theorem dX8_laySet_1 : decode cX8_laySet 1 = .ok (.getfield 54, 3) := by decide +kernel
theorem dX8_laySet_4 : decode cX8_laySet 4 = .ok (.iload_n 1, 1) := by decide +kernel
theorem dX8_laySet_5 : decode cX8_laySet 5 = .ok (.iconst 0, 1) := by decide +kernel
theorem dX8_laySet_6 : decode cX8_laySet 6 = .ok (.iastore, 1) := by decide +kernel
theorem dX8_laySet_7 : decode cX8_laySet 7 = .ok (.aload_n 0, 1) := by decide +kernel
theorem dX8_laySet_8 : decode cX8_laySet 8 = .ok (.getfield 60, 3) := by decide +kernel
theorem dX8_laySet_11 : decode cX8_laySet 11 = .ok (.iload_n 1, 1) := by decide +kernel
theorem dX8_laySet_12 : decode cX8_laySet 12 = .ok (.iconst 0, 1) := by decide +kernel
theorem dX8_laySet_13 : decode cX8_laySet 13 = .ok (.iastore, 1) := by decide +kernel
theorem dX8_laySet_14 : decode cX8_laySet 14 = .ok (.aload_n 0, 1) := by decide +kernel
theorem dX8_laySet_15 : decode cX8_laySet 15 = .ok (.getfield 57, 3) := by decide +kernel
theorem dX8_laySet_18 : decode cX8_laySet 18 = .ok (.iload_n 1, 1) := by decide +kernel
theorem dX8_laySet_19 : decode cX8_laySet 19 = .ok (.bipush (-6), 2) := by decide +kernel
theorem dX8_laySet_21 : decode cX8_laySet 21 = .ok (.iastore, 1) := by decide +kernel
theorem dX8_laySet_22 : decode cX8_laySet 22 = .ok (.aload_n 0, 1) := by decide +kernel
theorem dX8_laySet_23 : decode cX8_laySet 23 = .ok (.getfield 63, 3) := by decide +kernel
theorem dX8_laySet_26 : decode cX8_laySet 26 = .ok (.iload_n 1, 1) := by decide +kernel
theorem dX8_laySet_27 : decode cX8_laySet 27 = .ok (.bipush (-6), 2) := by decide +kernel
theorem dX8_laySet_29 : decode cX8_laySet 29 = .ok (.iastore, 1) := by decide +kernel
theorem dX8_laySet_30 : decode cX8_laySet 30 = .ok (.iconst 0, 1) := by decide +kernel
theorem dX8_laySet_31 : decode cX8_laySet 31 = .ok (.istore_n 2, 1) := by decide +kernel
theorem dX8_laySet_32 : decode cX8_laySet 32 = .ok (.iconst 0, 1) := by decide +kernel
theorem dX8_laySet_33 : decode cX8_laySet 33 = .ok (.istore_n 3, 1) := by decide +kernel
theorem dX8_laySet_34 : decode cX8_laySet 34 = .ok (.iload_n 3, 1) := by decide +kernel
theorem dX8_laySet_35 : decode cX8_laySet 35 = .ok (.aload_n 0, 1) := by decide +kernel
theorem dX8_laySet_36 : decode cX8_laySet 36 = .ok (.getfield 75, 3) := by decide +kernel
theorem dX8_laySet_39 : decode cX8_laySet 39 = .ok (.if_icmp .ge 30, 3) := by decide +kernel
theorem dX8_laySet_42 : decode cX8_laySet 42 = .ok (.iload_n 2, 1) := by decide +kernel
theorem dX8_laySet_43 : decode cX8_laySet 43 = .ok (.iload_n 1, 1) := by decide +kernel
theorem dX8_laySet_44 : decode cX8_laySet 44 = .ok (.iload_n 3, 1) := by decide +kernel
theorem dX8_laySet_45 : decode cX8_laySet 45 = .ok (.invokestatic 100, 3) := by decide +kernel
theorem dX8_laySet_48 : decode cX8_laySet 48 = .ok (.ifCond .eq 12, 3) := by decide +kernel
theorem dX8_laySet_51 : decode cX8_laySet 51 = .ok (.aload_n 0, 1) := by decide +kernel
theorem dX8_laySet_52 : decode cX8_laySet 52 = .ok (.getfield 13, 3) := by decide +kernel
theorem dX8_laySet_55 : decode cX8_laySet 55 = .ok (.iload_n 3, 1) := by decide +kernel
theorem dX8_laySet_56 : decode cX8_laySet 56 = .ok (.iaload, 1) := by decide +kernel
theorem dX8_laySet_57 : decode cX8_laySet 57 = .ok (.goto 4, 3) := by decide +kernel
theorem dX8_laySet_60 : decode cX8_laySet 60 = .ok (.iconst 0, 1) := by decide +kernel
theorem dX8_laySet_61 : decode cX8_laySet 61 = .ok (.iadd, 1) := by decide +kernel
theorem dX8_laySet_62 : decode cX8_laySet 62 = .ok (.istore_n 2, 1) := by decide +kernel
theorem dX8_laySet_63 : decode cX8_laySet 63 = .ok (.iinc 3 1, 3) := by decide +kernel
theorem dX8_laySet_66 : decode cX8_laySet 66 = .ok (.goto (-32), 3) := by decide +kernel
theorem dX8_laySet_69 : decode cX8_laySet 69 = .ok (.iconst 0, 1) := by decide +kernel
theorem dX8_laySet_70 : decode cX8_laySet 70 = .ok (.istore_n 3, 1) := by decide +kernel
theorem dX8_laySet_71 : decode cX8_laySet 71 = .ok (.iload_n 3, 1) := by decide +kernel
theorem dX8_laySet_72 : decode cX8_laySet 72 = .ok (.aload_n 0, 1) := by decide +kernel
theorem dX8_laySet_73 : decode cX8_laySet 73 = .ok (.getfield 75, 3) := by decide +kernel
theorem dX8_laySet_76 : decode cX8_laySet 76 = .ok (.if_icmp .ge 184, 3) := by decide +kernel
theorem dX8_laySet_79 : decode cX8_laySet 79 = .ok (.iload_n 1, 1) := by decide +kernel
theorem dX8_laySet_80 : decode cX8_laySet 80 = .ok (.aload_n 0, 1) := by decide +kernel
theorem dX8_laySet_81 : decode cX8_laySet 81 = .ok (.getfield 7, 3) := by decide +kernel
theorem dX8_laySet_84 : decode cX8_laySet 84 = .ok (.iload_n 3, 1) := by decide +kernel
theorem dX8_laySet_85 : decode cX8_laySet 85 = .ok (.iaload, 1) := by decide +kernel
theorem dX8_laySet_86 : decode cX8_laySet 86 = .ok (.iand, 1) := by decide +kernel
theorem dX8_laySet_87 : decode cX8_laySet 87 = .ok (.istore 4, 2) := by decide +kernel
theorem dX8_laySet_89 : decode cX8_laySet 89 = .ok (.iload_n 1, 1) := by decide +kernel
theorem dX8_laySet_90 : decode cX8_laySet 90 = .ok (.aload_n 0, 1) := by decide +kernel
theorem dX8_laySet_91 : decode cX8_laySet 91 = .ok (.getfield 7, 3) := by decide +kernel
theorem dX8_laySet_94 : decode cX8_laySet 94 = .ok (.iload_n 3, 1) := by decide +kernel
theorem dX8_laySet_95 : decode cX8_laySet 95 = .ok (.iaload, 1) := by decide +kernel
theorem dX8_laySet_96 : decode cX8_laySet 96 = .ok (.iconst (-1), 1) := by decide +kernel
theorem dX8_laySet_97 : decode cX8_laySet 97 = .ok (.ixor, 1) := by decide +kernel
theorem dX8_laySet_98 : decode cX8_laySet 98 = .ok (.iand, 1) := by decide +kernel
theorem dX8_laySet_99 : decode cX8_laySet 99 = .ok (.istore 5, 2) := by decide +kernel
theorem dX8_laySet_101 : decode cX8_laySet 101 = .ok (.aload_n 0, 1) := by decide +kernel
theorem dX8_laySet_102 : decode cX8_laySet 102 = .ok (.getfield 22, 3) := by decide +kernel
theorem dX8_laySet_105 : decode cX8_laySet 105 = .ok (.iload_n 3, 1) := by decide +kernel
theorem dX8_laySet_106 : decode cX8_laySet 106 = .ok (.baload, 1) := by decide +kernel
theorem dX8_laySet_107 : decode cX8_laySet 107 = .ok (.ifCond .ne 147, 3) := by decide +kernel
theorem dX8_laySet_110 : decode cX8_laySet 110 = .ok (.iload 4, 2) := by decide +kernel
theorem dX8_laySet_112 : decode cX8_laySet 112 = .ok (.ifCond .eq 142, 3) := by decide +kernel
theorem dX8_laySet_115 : decode cX8_laySet 115 = .ok (.iload 5, 2) := by decide +kernel
theorem dX8_laySet_117 : decode cX8_laySet 117 = .ok (.ifCond .eq 137, 3) := by decide +kernel
theorem dX8_laySet_120 : decode cX8_laySet 120 = .ok (.iconst 1, 1) := by decide +kernel
theorem dX8_laySet_121 : decode cX8_laySet 121 = .ok (.aload_n 0, 1) := by decide +kernel
theorem dX8_laySet_122 : decode cX8_laySet 122 = .ok (.getfield 54, 3) := by decide +kernel
theorem dX8_laySet_125 : decode cX8_laySet 125 = .ok (.iload 4, 2) := by decide +kernel
theorem dX8_laySet_127 : decode cX8_laySet 127 = .ok (.iaload, 1) := by decide +kernel
theorem dX8_laySet_128 : decode cX8_laySet 128 = .ok (.aload_n 0, 1) := by decide +kernel
theorem dX8_laySet_129 : decode cX8_laySet 129 = .ok (.getfield 54, 3) := by decide +kernel
theorem dX8_laySet_132 : decode cX8_laySet 132 = .ok (.iload 5, 2) := by decide +kernel
theorem dX8_laySet_134 : decode cX8_laySet 134 = .ok (.iaload, 1) := by decide +kernel
theorem dX8_laySet_135 : decode cX8_laySet 135 = .ok (.if_icmp .le 13, 3) := by decide +kernel
theorem dX8_laySet_138 : decode cX8_laySet 138 = .ok (.aload_n 0, 1) := by decide +kernel
theorem dX8_laySet_139 : decode cX8_laySet 139 = .ok (.getfield 54, 3) := by decide +kernel
theorem dX8_laySet_142 : decode cX8_laySet 142 = .ok (.iload 4, 2) := by decide +kernel
theorem dX8_laySet_144 : decode cX8_laySet 144 = .ok (.iaload, 1) := by decide +kernel
theorem dX8_laySet_145 : decode cX8_laySet 145 = .ok (.goto 10, 3) := by decide +kernel
theorem dX8_laySet_148 : decode cX8_laySet 148 = .ok (.aload_n 0, 1) := by decide +kernel
theorem dX8_laySet_149 : decode cX8_laySet 149 = .ok (.getfield 54, 3) := by decide +kernel
theorem dX8_laySet_152 : decode cX8_laySet 152 = .ok (.iload 5, 2) := by decide +kernel
theorem dX8_laySet_154 : decode cX8_laySet 154 = .ok (.iaload, 1) := by decide +kernel
theorem dX8_laySet_155 : decode cX8_laySet 155 = .ok (.iadd, 1) := by decide +kernel
theorem dX8_laySet_156 : decode cX8_laySet 156 = .ok (.istore 6, 2) := by decide +kernel
theorem dX8_laySet_158 : decode cX8_laySet 158 = .ok (.aload_n 0, 1) := by decide +kernel
theorem dX8_laySet_159 : decode cX8_laySet 159 = .ok (.getfield 57, 3) := by decide +kernel
theorem dX8_laySet_162 : decode cX8_laySet 162 = .ok (.iload_n 1, 1) := by decide +kernel
theorem dX8_laySet_163 : decode cX8_laySet 163 = .ok (.iaload, 1) := by decide +kernel
theorem dX8_laySet_164 : decode cX8_laySet 164 = .ok (.ifCond .lt 14, 3) := by decide +kernel
theorem dX8_laySet_167 : decode cX8_laySet 167 = .ok (.iload 6, 2) := by decide +kernel
theorem dX8_laySet_169 : decode cX8_laySet 169 = .ok (.aload_n 0, 1) := by decide +kernel
theorem dX8_laySet_170 : decode cX8_laySet 170 = .ok (.getfield 54, 3) := by decide +kernel
theorem dX8_laySet_173 : decode cX8_laySet 173 = .ok (.iload_n 1, 1) := by decide +kernel
theorem dX8_laySet_174 : decode cX8_laySet 174 = .ok (.iaload, 1) := by decide +kernel
theorem dX8_laySet_175 : decode cX8_laySet 175 = .ok (.if_icmp .ge 18, 3) := by decide +kernel
theorem dX8_laySet_178 : decode cX8_laySet 178 = .ok (.aload_n 0, 1) := by decide +kernel
theorem dX8_laySet_179 : decode cX8_laySet 179 = .ok (.getfield 54, 3) := by decide +kernel
theorem dX8_laySet_182 : decode cX8_laySet 182 = .ok (.iload_n 1, 1) := by decide +kernel
theorem dX8_laySet_183 : decode cX8_laySet 183 = .ok (.iload 6, 2) := by decide +kernel
theorem dX8_laySet_185 : decode cX8_laySet 185 = .ok (.iastore, 1) := by decide +kernel
theorem dX8_laySet_186 : decode cX8_laySet 186 = .ok (.aload_n 0, 1) := by decide +kernel
theorem dX8_laySet_187 : decode cX8_laySet 187 = .ok (.getfield 57, 3) := by decide +kernel
theorem dX8_laySet_190 : decode cX8_laySet 190 = .ok (.iload_n 1, 1) := by decide +kernel
theorem dX8_laySet_191 : decode cX8_laySet 191 = .ok (.iload_n 3, 1) := by decide +kernel
theorem dX8_laySet_192 : decode cX8_laySet 192 = .ok (.iastore, 1) := by decide +kernel
theorem dX8_laySet_193 : decode cX8_laySet 193 = .ok (.aload_n 0, 1) := by decide +kernel
theorem dX8_laySet_194 : decode cX8_laySet 194 = .ok (.getfield 16, 3) := by decide +kernel
theorem dX8_laySet_197 : decode cX8_laySet 197 = .ok (.iload_n 3, 1) := by decide +kernel
theorem dX8_laySet_198 : decode cX8_laySet 198 = .ok (.iaload, 1) := by decide +kernel
theorem dX8_laySet_199 : decode cX8_laySet 199 = .ok (.iload_n 2, 1) := by decide +kernel
theorem dX8_laySet_200 : decode cX8_laySet 200 = .ok (.imul, 1) := by decide +kernel
theorem dX8_laySet_201 : decode cX8_laySet 201 = .ok (.aload_n 0, 1) := by decide +kernel
theorem dX8_laySet_202 : decode cX8_laySet 202 = .ok (.getfield 60, 3) := by decide +kernel
theorem dX8_laySet_205 : decode cX8_laySet 205 = .ok (.iload 4, 2) := by decide +kernel
theorem dX8_laySet_207 : decode cX8_laySet 207 = .ok (.iaload, 1) := by decide +kernel
theorem dX8_laySet_208 : decode cX8_laySet 208 = .ok (.iadd, 1) := by decide +kernel
theorem dX8_laySet_209 : decode cX8_laySet 209 = .ok (.aload_n 0, 1) := by decide +kernel
theorem dX8_laySet_210 : decode cX8_laySet 210 = .ok (.getfield 60, 3) := by decide +kernel
theorem dX8_laySet_213 : decode cX8_laySet 213 = .ok (.iload 5, 2) := by decide +kernel
theorem dX8_laySet_215 : decode cX8_laySet 215 = .ok (.iaload, 1) := by decide +kernel
theorem dX8_laySet_216 : decode cX8_laySet 216 = .ok (.iadd, 1) := by decide +kernel
theorem dX8_laySet_217 : decode cX8_laySet 217 = .ok (.istore 7, 2) := by decide +kernel
theorem dX8_laySet_219 : decode cX8_laySet 219 = .ok (.aload_n 0, 1) := by decide +kernel
theorem dX8_laySet_220 : decode cX8_laySet 220 = .ok (.getfield 63, 3) := by decide +kernel
theorem dX8_laySet_223 : decode cX8_laySet 223 = .ok (.iload_n 1, 1) := by decide +kernel
theorem dX8_laySet_224 : decode cX8_laySet 224 = .ok (.iaload, 1) := by decide +kernel
theorem dX8_laySet_225 : decode cX8_laySet 225 = .ok (.ifCond .lt 14, 3) := by decide +kernel
theorem dX8_laySet_228 : decode cX8_laySet 228 = .ok (.iload 7, 2) := by decide +kernel
theorem dX8_laySet_230 : decode cX8_laySet 230 = .ok (.aload_n 0, 1) := by decide +kernel
theorem dX8_laySet_231 : decode cX8_laySet 231 = .ok (.getfield 60, 3) := by decide +kernel
theorem dX8_laySet_234 : decode cX8_laySet 234 = .ok (.iload_n 1, 1) := by decide +kernel
theorem dX8_laySet_235 : decode cX8_laySet 235 = .ok (.iaload, 1) := by decide +kernel
theorem dX8_laySet_236 : decode cX8_laySet 236 = .ok (.if_icmp .ge 18, 3) := by decide +kernel
theorem dX8_laySet_239 : decode cX8_laySet 239 = .ok (.aload_n 0, 1) := by decide +kernel
theorem dX8_laySet_240 : decode cX8_laySet 240 = .ok (.getfield 60, 3) := by decide +kernel
theorem dX8_laySet_243 : decode cX8_laySet 243 = .ok (.iload_n 1, 1) := by decide +kernel
theorem dX8_laySet_244 : decode cX8_laySet 244 = .ok (.iload 7, 2) := by decide +kernel
theorem dX8_laySet_246 : decode cX8_laySet 246 = .ok (.iastore, 1) := by decide +kernel
theorem dX8_laySet_247 : decode cX8_laySet 247 = .ok (.aload_n 0, 1) := by decide +kernel
theorem dX8_laySet_248 : decode cX8_laySet 248 = .ok (.getfield 63, 3) := by decide +kernel
theorem dX8_laySet_251 : decode cX8_laySet 251 = .ok (.iload_n 1, 1) := by decide +kernel
theorem dX8_laySet_252 : decode cX8_laySet 252 = .ok (.iload_n 3, 1) := by decide +kernel
theorem dX8_laySet_253 : decode cX8_laySet 253 = .ok (.iastore, 1) := by decide +kernel
theorem dX8_laySet_254 : decode cX8_laySet 254 = .ok (.iinc 3 1, 3) := by decide +kernel
theorem dX8_laySet_257 : decode cX8_laySet 257 = .ok (.goto (-186), 3) := by decide +kernel
theorem dX8_laySet_260 : decode cX8_laySet 260 = .ok (.return_, 1) := by decide +kernel
theorem dX8_lay_0 : decode cX8_lay 0 = .ok (.aload_n 0, 1) := by decide +kernel
theorem dX8_lay_1 : decode cX8_lay 1 = .ok (.getfield 87, 3) := by decide +kernel
theorem dX8_lay_4 : decode cX8_lay 4 = .ok (.ifCond .ne 31, 3) := by decide +kernel
theorem dX8_lay_7 : decode cX8_lay 7 = .ok (.aload_n 0, 1) := by decide +kernel
theorem dX8_lay_8 : decode cX8_lay 8 = .ok (.iconst 1, 1) := by decide +kernel
theorem dX8_lay_9 : decode cX8_lay 9 = .ok (.putfield 87, 3) := by decide +kernel
theorem dX8_lay_12 : decode cX8_lay 12 = .ok (.iconst 0, 1) := by decide +kernel
theorem dX8_lay_13 : decode cX8_lay 13 = .ok (.istore_n 1, 1) := by decide +kernel
theorem dX8_lay_14 : decode cX8_lay 14 = .ok (.iload_n 1, 1) := by decide +kernel
theorem dX8_lay_15 : decode cX8_lay 15 = .ok (.iconst 1, 1) := by decide +kernel
theorem dX8_lay_16 : decode cX8_lay 16 = .ok (.aload_n 0, 1) := by decide +kernel
theorem dX8_lay_17 : decode cX8_lay 17 = .ok (.getfield 75, 3) := by decide +kernel
theorem dX8_lay_20 : decode cX8_lay 20 = .ok (.ishl, 1) := by decide +kernel
theorem dX8_lay_21 : decode cX8_lay 21 = .ok (.if_icmp .ge 14, 3) := by decide +kernel
theorem dX8_lay_24 : decode cX8_lay 24 = .ok (.aload_n 0, 1) := by decide +kernel
theorem dX8_lay_25 : decode cX8_lay 25 = .ok (.iload_n 1, 1) := by decide +kernel
theorem dX8_lay_26 : decode cX8_lay 26 = .ok (.invokevirtual 162, 3) := by decide +kernel
theorem dX8_lay_29 : decode cX8_lay 29 = .ok (.iinc 1 1, 3) := by decide +kernel
theorem dX8_lay_32 : decode cX8_lay 32 = .ok (.goto (-18), 3) := by decide +kernel
theorem dX8_lay_35 : decode cX8_lay 35 = .ok (.return_, 1) := by decide +kernel
theorem dX8_isSet_0 : decode cX8_isSet 0 = .ok (.iload_n 1, 1) := by decide +kernel
theorem dX8_isSet_1 : decode cX8_isSet 1 = .ok (.iconst 0, 1) := by decide +kernel
theorem dX8_isSet_2 : decode cX8_isSet 2 = .ok (.iconst 1, 1) := by decide +kernel
theorem dX8_isSet_3 : decode cX8_isSet 3 = .ok (.aload_n 0, 1) := by decide +kernel
theorem dX8_isSet_4 : decode cX8_isSet 4 = .ok (.getfield 75, 3) := by decide +kernel
theorem dX8_isSet_7 : decode cX8_isSet 7 = .ok (.ishl, 1) := by decide +kernel
theorem dX8_isSet_8 : decode cX8_isSet 8 = .ok (.iconst 1, 1) := by decide +kernel
theorem dX8_isSet_9 : decode cX8_isSet 9 = .ok (.isub, 1) := by decide +kernel
theorem dX8_isSet_10 : decode cX8_isSet 10 = .ok (.invokestatic 79, 3) := by decide +kernel
theorem dX8_isSet_13 : decode cX8_isSet 13 = .ok (.ireturn, 1) := by decide +kernel
theorem dX8_worst_0 : decode cX8_worst 0 = .ok (.aload_n 0, 1) := by decide +kernel
theorem dX8_worst_1 : decode cX8_worst 1 = .ok (.iload_n 1, 1) := by decide +kernel
theorem dX8_worst_2 : decode cX8_worst 2 = .ok (.invokevirtual 166, 3) := by decide +kernel
theorem dX8_worst_5 : decode cX8_worst 5 = .ok (.ifCond .eq 10, 3) := by decide +kernel
theorem dX8_worst_8 : decode cX8_worst 8 = .ok (.iload_n 2, 1) := by decide +kernel
theorem dX8_worst_9 : decode cX8_worst 9 = .ok (.invokestatic 94, 3) := by decide +kernel
theorem dX8_worst_12 : decode cX8_worst 12 = .ok (.ifCond .ne 6, 3) := by decide +kernel
theorem dX8_worst_15 : decode cX8_worst 15 = .ok (.bipush (-2), 2) := by decide +kernel
theorem dX8_worst_17 : decode cX8_worst 17 = .ok (.ireturn, 1) := by decide +kernel
theorem dX8_worst_18 : decode cX8_worst 18 = .ok (.aload_n 0, 1) := by decide +kernel
theorem dX8_worst_19 : decode cX8_worst 19 = .ok (.invokevirtual 169, 3) := by decide +kernel
theorem dX8_worst_22 : decode cX8_worst 22 = .ok (.iload_n 2, 1) := by decide +kernel
theorem dX8_worst_23 : decode cX8_worst 23 = .ok (.ifCond .ne 12, 3) := by decide +kernel
theorem dX8_worst_26 : decode cX8_worst 26 = .ok (.aload_n 0, 1) := by decide +kernel
theorem dX8_worst_27 : decode cX8_worst 27 = .ok (.getfield 54, 3) := by decide +kernel
theorem dX8_worst_30 : decode cX8_worst 30 = .ok (.iload_n 1, 1) := by decide +kernel
theorem dX8_worst_31 : decode cX8_worst 31 = .ok (.iaload, 1) := by decide +kernel
theorem dX8_worst_32 : decode cX8_worst 32 = .ok (.goto 9, 3) := by decide +kernel
theorem dX8_worst_35 : decode cX8_worst 35 = .ok (.aload_n 0, 1) := by decide +kernel
theorem dX8_worst_36 : decode cX8_worst 36 = .ok (.getfield 57, 3) := by decide +kernel
theorem dX8_worst_39 : decode cX8_worst 39 = .ok (.iload_n 1, 1) := by decide +kernel
theorem dX8_worst_40 : decode cX8_worst 40 = .ok (.iaload, 1) := by decide +kernel
theorem dX8_worst_41 : decode cX8_worst 41 = .ok (.ireturn, 1) := by decide +kernel
theorem dX8_mean_0 : decode cX8_mean 0 = .ok (.aload_n 0, 1) := by decide +kernel
theorem dX8_mean_1 : decode cX8_mean 1 = .ok (.iload_n 1, 1) := by decide +kernel
theorem dX8_mean_2 : decode cX8_mean 2 = .ok (.invokevirtual 166, 3) := by decide +kernel
theorem dX8_mean_5 : decode cX8_mean 5 = .ok (.ifCond .eq 10, 3) := by decide +kernel
theorem dX8_mean_8 : decode cX8_mean 8 = .ok (.iload_n 2, 1) := by decide +kernel
theorem dX8_mean_9 : decode cX8_mean 9 = .ok (.invokestatic 94, 3) := by decide +kernel
theorem dX8_mean_12 : decode cX8_mean 12 = .ok (.ifCond .ne 6, 3) := by decide +kernel
theorem dX8_mean_15 : decode cX8_mean 15 = .ok (.bipush (-2), 2) := by decide +kernel
theorem dX8_mean_17 : decode cX8_mean 17 = .ok (.ireturn, 1) := by decide +kernel
theorem dX8_mean_18 : decode cX8_mean 18 = .ok (.aload_n 0, 1) := by decide +kernel
theorem dX8_mean_19 : decode cX8_mean 19 = .ok (.invokevirtual 169, 3) := by decide +kernel
theorem dX8_mean_22 : decode cX8_mean 22 = .ok (.iload_n 2, 1) := by decide +kernel
theorem dX8_mean_23 : decode cX8_mean 23 = .ok (.ifCond .ne 12, 3) := by decide +kernel
theorem dX8_mean_26 : decode cX8_mean 26 = .ok (.aload_n 0, 1) := by decide +kernel
theorem dX8_mean_27 : decode cX8_mean 27 = .ok (.getfield 60, 3) := by decide +kernel
theorem dX8_mean_30 : decode cX8_mean 30 = .ok (.iload_n 1, 1) := by decide +kernel
theorem dX8_mean_31 : decode cX8_mean 31 = .ok (.iaload, 1) := by decide +kernel
theorem dX8_mean_32 : decode cX8_mean 32 = .ok (.goto 9, 3) := by decide +kernel
theorem dX8_mean_35 : decode cX8_mean 35 = .ok (.aload_n 0, 1) := by decide +kernel
theorem dX8_mean_36 : decode cX8_mean 36 = .ok (.getfield 63, 3) := by decide +kernel
theorem dX8_mean_39 : decode cX8_mean 39 = .ok (.iload_n 1, 1) := by decide +kernel
theorem dX8_mean_40 : decode cX8_mean 40 = .ok (.iaload, 1) := by decide +kernel
theorem dX8_mean_41 : decode cX8_mean 41 = .ok (.ireturn, 1) := by decide +kernel
theorem dX8_twins_0 : decode cX8_twins 0 = .ok (.aload_n 0, 1) := by decide +kernel
theorem dX8_twins_1 : decode cX8_twins 1 = .ok (.iload_n 1, 1) := by decide +kernel
theorem dX8_twins_2 : decode cX8_twins 2 = .ok (.invokevirtual 83, 3) := by decide +kernel
theorem dX8_twins_5 : decode cX8_twins 5 = .ok (.ifCond .ne 5, 3) := by decide +kernel
theorem dX8_twins_8 : decode cX8_twins 8 = .ok (.iconst (-1), 1) := by decide +kernel
theorem dX8_twins_9 : decode cX8_twins 9 = .ok (.ireturn, 1) := by decide +kernel
theorem dX8_twins_10 : decode cX8_twins 10 = .ok (.iconst 1, 1) := by decide +kernel
theorem dX8_twins_11 : decode cX8_twins 11 = .ok (.aload_n 0, 1) := by decide +kernel
theorem dX8_twins_12 : decode cX8_twins 12 = .ok (.getfield 75, 3) := by decide +kernel
theorem dX8_twins_15 : decode cX8_twins 15 = .ok (.ishl, 1) := by decide +kernel
theorem dX8_twins_16 : decode cX8_twins 16 = .ok (.iconst 1, 1) := by decide +kernel
theorem dX8_twins_17 : decode cX8_twins 17 = .ok (.isub, 1) := by decide +kernel
theorem dX8_twins_18 : decode cX8_twins 18 = .ok (.istore_n 2, 1) := by decide +kernel
theorem dX8_twins_19 : decode cX8_twins 19 = .ok (.iconst 0, 1) := by decide +kernel
theorem dX8_twins_20 : decode cX8_twins 20 = .ok (.istore_n 3, 1) := by decide +kernel
theorem dX8_twins_21 : decode cX8_twins 21 = .ok (.iload_n 3, 1) := by decide +kernel
theorem dX8_twins_22 : decode cX8_twins 22 = .ok (.aload_n 0, 1) := by decide +kernel
theorem dX8_twins_23 : decode cX8_twins 23 = .ok (.getfield 75, 3) := by decide +kernel
theorem dX8_twins_26 : decode cX8_twins 26 = .ok (.if_icmp .ge 51, 3) := by decide +kernel
theorem dX8_twins_29 : decode cX8_twins 29 = .ok (.aload_n 0, 1) := by decide +kernel
theorem dX8_twins_30 : decode cX8_twins 30 = .ok (.getfield 22, 3) := by decide +kernel
theorem dX8_twins_33 : decode cX8_twins 33 = .ok (.iload_n 3, 1) := by decide +kernel
theorem dX8_twins_34 : decode cX8_twins 34 = .ok (.baload, 1) := by decide +kernel
theorem dX8_twins_35 : decode cX8_twins 35 = .ok (.ifCond .ne 36, 3) := by decide +kernel
theorem dX8_twins_38 : decode cX8_twins 38 = .ok (.iload_n 2, 1) := by decide +kernel
theorem dX8_twins_39 : decode cX8_twins 39 = .ok (.aload_n 0, 1) := by decide +kernel
theorem dX8_twins_40 : decode cX8_twins 40 = .ok (.getfield 7, 3) := by decide +kernel
theorem dX8_twins_43 : decode cX8_twins 43 = .ok (.iload_n 3, 1) := by decide +kernel
theorem dX8_twins_44 : decode cX8_twins 44 = .ok (.iaload, 1) := by decide +kernel
theorem dX8_twins_45 : decode cX8_twins 45 = .ok (.iload_n 1, 1) := by decide +kernel
theorem dX8_twins_46 : decode cX8_twins 46 = .ok (.invokestatic 100, 3) := by decide +kernel
theorem dX8_twins_49 : decode cX8_twins 49 = .ok (.ifCond .eq 12, 3) := by decide +kernel
theorem dX8_twins_52 : decode cX8_twins 52 = .ok (.aload_n 0, 1) := by decide +kernel
theorem dX8_twins_53 : decode cX8_twins 53 = .ok (.getfield 7, 3) := by decide +kernel
theorem dX8_twins_56 : decode cX8_twins 56 = .ok (.iload_n 3, 1) := by decide +kernel
theorem dX8_twins_57 : decode cX8_twins 57 = .ok (.iaload, 1) := by decide +kernel
theorem dX8_twins_58 : decode cX8_twins 58 = .ok (.goto 11, 3) := by decide +kernel
theorem dX8_twins_61 : decode cX8_twins 61 = .ok (.aload_n 0, 1) := by decide +kernel
theorem dX8_twins_62 : decode cX8_twins 62 = .ok (.getfield 7, 3) := by decide +kernel
theorem dX8_twins_65 : decode cX8_twins 65 = .ok (.iload_n 3, 1) := by decide +kernel
theorem dX8_twins_66 : decode cX8_twins 66 = .ok (.iaload, 1) := by decide +kernel
theorem dX8_twins_67 : decode cX8_twins 67 = .ok (.iconst (-1), 1) := by decide +kernel
theorem dX8_twins_68 : decode cX8_twins 68 = .ok (.ixor, 1) := by decide +kernel
theorem dX8_twins_69 : decode cX8_twins 69 = .ok (.iand, 1) := by decide +kernel
theorem dX8_twins_70 : decode cX8_twins 70 = .ok (.istore_n 2, 1) := by decide +kernel
theorem dX8_twins_71 : decode cX8_twins 71 = .ok (.iinc 3 1, 3) := by decide +kernel
theorem dX8_twins_74 : decode cX8_twins 74 = .ok (.goto (-53), 3) := by decide +kernel
theorem dX8_twins_77 : decode cX8_twins 77 = .ok (.iload_n 2, 1) := by decide +kernel
theorem dX8_twins_78 : decode cX8_twins 78 = .ok (.ireturn, 1) := by decide +kernel
theorem dX8_say_0 : decode cX8_say 0 = .ok (.iload_n 1, 1) := by decide +kernel
theorem dX8_say_1 : decode cX8_say 1 = .ok (.bipush 33, 2) := by decide +kernel
theorem dX8_say_3 : decode cX8_say 3 = .ok (.bipush 126, 2) := by decide +kernel
theorem dX8_say_5 : decode cX8_say 5 = .ok (.invokestatic 79, 3) := by decide +kernel
theorem dX8_say_8 : decode cX8_say 8 = .ok (.ifCond .ne 6, 3) := by decide +kernel
theorem dX8_say_11 : decode cX8_say 11 = .ok (.bipush (-2), 2) := by decide +kernel
theorem dX8_say_13 : decode cX8_say 13 = .ok (.ireturn, 1) := by decide +kernel
theorem dX8_say_14 : decode cX8_say 14 = .ok (.aload_n 0, 1) := by decide +kernel
theorem dX8_say_15 : decode cX8_say 15 = .ok (.getfield 172, 3) := by decide +kernel
theorem dX8_say_18 : decode cX8_say 18 = .ok (.bipush 40, 2) := by decide +kernel
theorem dX8_say_20 : decode cX8_say 20 = .ok (.if_icmp .ne 6, 3) := by decide +kernel
theorem dX8_say_23 : decode cX8_say 23 = .ok (.bipush (-4), 2) := by decide +kernel
theorem dX8_say_25 : decode cX8_say 25 = .ok (.ireturn, 1) := by decide +kernel
theorem dX8_say_26 : decode cX8_say 26 = .ok (.aload_n 0, 1) := by decide +kernel
theorem dX8_say_27 : decode cX8_say 27 = .ok (.getfield 35, 3) := by decide +kernel
theorem dX8_say_30 : decode cX8_say 30 = .ok (.aload_n 0, 1) := by decide +kernel
theorem dX8_say_31 : decode cX8_say 31 = .ok (.getfield 172, 3) := by decide +kernel
theorem dX8_say_34 : decode cX8_say 34 = .ok (.iload_n 1, 1) := by decide +kernel
theorem dX8_say_35 : decode cX8_say 35 = .ok (.iastore, 1) := by decide +kernel
theorem dX8_say_36 : decode cX8_say 36 = .ok (.aload_n 0, 1) := by decide +kernel
theorem dX8_say_37 : decode cX8_say 37 = .ok (.dup, 1) := by decide +kernel
theorem dX8_say_38 : decode cX8_say 38 = .ok (.getfield 172, 3) := by decide +kernel
theorem dX8_say_41 : decode cX8_say 41 = .ok (.iconst 1, 1) := by decide +kernel
theorem dX8_say_42 : decode cX8_say 42 = .ok (.iadd, 1) := by decide +kernel
theorem dX8_say_43 : decode cX8_say 43 = .ok (.putfield 172, 3) := by decide +kernel
theorem dX8_say_46 : decode cX8_say 46 = .ok (.aload_n 0, 1) := by decide +kernel
theorem dX8_say_47 : decode cX8_say 47 = .ok (.getfield 172, 3) := by decide +kernel
theorem dX8_say_50 : decode cX8_say 50 = .ok (.ireturn, 1) := by decide +kernel
theorem dX8_wipe_0 : decode cX8_wipe 0 = .ok (.aload_n 0, 1) := by decide +kernel
theorem dX8_wipe_1 : decode cX8_wipe 1 = .ok (.getfield 172, 3) := by decide +kernel
theorem dX8_wipe_4 : decode cX8_wipe 4 = .ok (.istore_n 1, 1) := by decide +kernel
theorem dX8_wipe_5 : decode cX8_wipe 5 = .ok (.aload_n 0, 1) := by decide +kernel
theorem dX8_wipe_6 : decode cX8_wipe 6 = .ok (.iconst 0, 1) := by decide +kernel
theorem dX8_wipe_7 : decode cX8_wipe 7 = .ok (.putfield 172, 3) := by decide +kernel
theorem dX8_wipe_10 : decode cX8_wipe 10 = .ok (.iload_n 1, 1) := by decide +kernel
theorem dX8_wipe_11 : decode cX8_wipe 11 = .ok (.ireturn, 1) := by decide +kernel
theorem dX8_faultOf_0 : decode cX8_faultOf 0 = .ok (.iconst 0, 1) := by decide +kernel
theorem dX8_faultOf_1 : decode cX8_faultOf 1 = .ok (.istore_n 1, 1) := by decide +kernel
theorem dX8_faultOf_2 : decode cX8_faultOf 2 = .ok (.iconst 0, 1) := by decide +kernel
theorem dX8_faultOf_3 : decode cX8_faultOf 3 = .ok (.istore_n 2, 1) := by decide +kernel
theorem dX8_faultOf_4 : decode cX8_faultOf 4 = .ok (.iload_n 2, 1) := by decide +kernel
theorem dX8_faultOf_5 : decode cX8_faultOf 5 = .ok (.aload_n 0, 1) := by decide +kernel
theorem dX8_faultOf_6 : decode cX8_faultOf 6 = .ok (.getfield 172, 3) := by decide +kernel
theorem dX8_faultOf_9 : decode cX8_faultOf 9 = .ok (.if_icmp .ge 199, 3) := by decide +kernel
theorem dX8_faultOf_12 : decode cX8_faultOf 12 = .ok (.aload_n 0, 1) := by decide +kernel
theorem dX8_faultOf_13 : decode cX8_faultOf 13 = .ok (.getfield 35, 3) := by decide +kernel
theorem dX8_faultOf_16 : decode cX8_faultOf 16 = .ok (.iload_n 2, 1) := by decide +kernel
theorem dX8_faultOf_17 : decode cX8_faultOf 17 = .ok (.iaload, 1) := by decide +kernel
theorem dX8_faultOf_18 : decode cX8_faultOf 18 = .ok (.istore_n 3, 1) := by decide +kernel
theorem dX8_faultOf_19 : decode cX8_faultOf 19 = .ok (.iload_n 3, 1) := by decide +kernel
theorem dX8_faultOf_20 : decode cX8_faultOf 20 = .ok (.bipush 97, 2) := by decide +kernel
theorem dX8_faultOf_22 : decode cX8_faultOf 22 = .ok (.bipush 108, 2) := by decide +kernel
theorem dX8_faultOf_24 : decode cX8_faultOf 24 = .ok (.invokestatic 79, 3) := by decide +kernel
theorem dX8_faultOf_27 : decode cX8_faultOf 27 = .ok (.ifCond .eq 7, 3) := by decide +kernel
theorem dX8_faultOf_30 : decode cX8_faultOf 30 = .ok (.iconst 0, 1) := by decide +kernel
theorem dX8_faultOf_31 : decode cX8_faultOf 31 = .ok (.goto 31, 3) := by decide +kernel
theorem dX8_faultOf_34 : decode cX8_faultOf 34 = .ok (.iload_n 3, 1) := by decide +kernel
theorem dX8_faultOf_35 : decode cX8_faultOf 35 = .ok (.bipush 33, 2) := by decide +kernel
theorem dX8_faultOf_37 : decode cX8_faultOf 37 = .ok (.if_icmp .ne 7, 3) := by decide +kernel
theorem dX8_faultOf_40 : decode cX8_faultOf 40 = .ok (.iconst 1, 1) := by decide +kernel
theorem dX8_faultOf_41 : decode cX8_faultOf 41 = .ok (.goto 21, 3) := by decide +kernel
theorem dX8_faultOf_44 : decode cX8_faultOf 44 = .ok (.iload_n 3, 1) := by decide +kernel
theorem dX8_faultOf_45 : decode cX8_faultOf 45 = .ok (.bipush 38, 2) := by decide +kernel
theorem dX8_faultOf_47 : decode cX8_faultOf 47 = .ok (.if_icmp .eq 9, 3) := by decide +kernel
theorem dX8_faultOf_50 : decode cX8_faultOf 50 = .ok (.iload_n 3, 1) := by decide +kernel
theorem dX8_faultOf_51 : decode cX8_faultOf 51 = .ok (.bipush 124, 2) := by decide +kernel
theorem dX8_faultOf_53 : decode cX8_faultOf 53 = .ok (.if_icmp .ne 7, 3) := by decide +kernel
theorem dX8_faultOf_56 : decode cX8_faultOf 56 = .ok (.iconst 2, 1) := by decide +kernel
theorem dX8_faultOf_57 : decode cX8_faultOf 57 = .ok (.goto 5, 3) := by decide +kernel
theorem dX8_faultOf_60 : decode cX8_faultOf 60 = .ok (.bipush (-6), 2) := by decide +kernel
theorem dX8_faultOf_62 : decode cX8_faultOf 62 = .ok (.istore 4, 2) := by decide +kernel
theorem dX8_faultOf_64 : decode cX8_faultOf 64 = .ok (.iload 4, 2) := by decide +kernel
theorem dX8_faultOf_66 : decode cX8_faultOf 66 = .ok (.ifCond .lt 14, 3) := by decide +kernel
theorem dX8_faultOf_69 : decode cX8_faultOf 69 = .ok (.iload 4, 2) := by decide +kernel
theorem dX8_faultOf_71 : decode cX8_faultOf 71 = .ok (.ifCond .le 11, 3) := by decide +kernel
theorem dX8_faultOf_74 : decode cX8_faultOf 74 = .ok (.iload_n 1, 1) := by decide +kernel
theorem dX8_faultOf_75 : decode cX8_faultOf 75 = .ok (.bipush 9, 2) := by decide +kernel
theorem dX8_faultOf_77 : decode cX8_faultOf 77 = .ok (.if_icmp .ne 5, 3) := by decide +kernel
theorem dX8_faultOf_80 : decode cX8_faultOf 80 = .ok (.iload_n 2, 1) := by decide +kernel
theorem dX8_faultOf_81 : decode cX8_faultOf 81 = .ok (.ireturn, 1) := by decide +kernel
theorem dX8_faultOf_82 : decode cX8_faultOf 82 = .ok (.iload 4, 2) := by decide +kernel
theorem dX8_faultOf_84 : decode cX8_faultOf 84 = .ok (.ifCond .le 17, 3) := by decide +kernel
theorem dX8_faultOf_87 : decode cX8_faultOf 87 = .ok (.aload_n 0, 1) := by decide +kernel
theorem dX8_faultOf_88 : decode cX8_faultOf 88 = .ok (.getfield 66, 3) := by decide +kernel
theorem dX8_faultOf_91 : decode cX8_faultOf 91 = .ok (.iload_n 1, 1) := by decide +kernel
theorem dX8_faultOf_92 : decode cX8_faultOf 92 = .ok (.iload 4, 2) := by decide +kernel
theorem dX8_faultOf_94 : decode cX8_faultOf 94 = .ok (.iastore, 1) := by decide +kernel
theorem dX8_faultOf_95 : decode cX8_faultOf 95 = .ok (.iinc 1 1, 3) := by decide +kernel
theorem dX8_faultOf_98 : decode cX8_faultOf 98 = .ok (.goto 104, 3) := by decide +kernel
theorem dX8_faultOf_101 : decode cX8_faultOf 101 = .ok (.iload_n 1, 1) := by decide +kernel
theorem dX8_faultOf_102 : decode cX8_faultOf 102 = .ok (.ifCond .le 7, 3) := by decide +kernel
theorem dX8_faultOf_105 : decode cX8_faultOf 105 = .ok (.iconst 1, 1) := by decide +kernel
theorem dX8_faultOf_106 : decode cX8_faultOf 106 = .ok (.goto 4, 3) := by decide +kernel
theorem dX8_faultOf_109 : decode cX8_faultOf 109 = .ok (.iconst 0, 1) := by decide +kernel
theorem dX8_faultOf_110 : decode cX8_faultOf 110 = .ok (.istore 5, 2) := by decide +kernel
theorem dX8_faultOf_112 : decode cX8_faultOf 112 = .ok (.iload 5, 2) := by decide +kernel
theorem dX8_faultOf_114 : decode cX8_faultOf 114 = .ok (.ifCond .eq 65, 3) := by decide +kernel
theorem dX8_faultOf_117 : decode cX8_faultOf 117 = .ok (.aload_n 0, 1) := by decide +kernel
theorem dX8_faultOf_118 : decode cX8_faultOf 118 = .ok (.getfield 66, 3) := by decide +kernel
theorem dX8_faultOf_121 : decode cX8_faultOf 121 = .ok (.iload_n 1, 1) := by decide +kernel
theorem dX8_faultOf_122 : decode cX8_faultOf 122 = .ok (.iconst 1, 1) := by decide +kernel
theorem dX8_faultOf_123 : decode cX8_faultOf 123 = .ok (.isub, 1) := by decide +kernel
theorem dX8_faultOf_124 : decode cX8_faultOf 124 = .ok (.dup2, 1) := by decide +kernel
theorem dX8_faultOf_125 : decode cX8_faultOf 125 = .ok (.iaload, 1) := by decide +kernel
theorem dX8_faultOf_126 : decode cX8_faultOf 126 = .ok (.iconst 1, 1) := by decide +kernel
theorem dX8_faultOf_127 : decode cX8_faultOf 127 = .ok (.isub, 1) := by decide +kernel
theorem dX8_faultOf_128 : decode cX8_faultOf 128 = .ok (.iastore, 1) := by decide +kernel
theorem dX8_faultOf_129 : decode cX8_faultOf 129 = .ok (.aload_n 0, 1) := by decide +kernel
theorem dX8_faultOf_130 : decode cX8_faultOf 130 = .ok (.getfield 66, 3) := by decide +kernel
theorem dX8_faultOf_133 : decode cX8_faultOf 133 = .ok (.iload_n 1, 1) := by decide +kernel
theorem dX8_faultOf_134 : decode cX8_faultOf 134 = .ok (.iconst 1, 1) := by decide +kernel
theorem dX8_faultOf_135 : decode cX8_faultOf 135 = .ok (.isub, 1) := by decide +kernel
theorem dX8_faultOf_136 : decode cX8_faultOf 136 = .ok (.iaload, 1) := by decide +kernel
theorem dX8_faultOf_137 : decode cX8_faultOf 137 = .ok (.ifCond .ne 7, 3) := by decide +kernel
theorem dX8_faultOf_140 : decode cX8_faultOf 140 = .ok (.iconst 1, 1) := by decide +kernel
theorem dX8_faultOf_141 : decode cX8_faultOf 141 = .ok (.goto 4, 3) := by decide +kernel
theorem dX8_faultOf_144 : decode cX8_faultOf 144 = .ok (.iconst 0, 1) := by decide +kernel
theorem dX8_faultOf_145 : decode cX8_faultOf 145 = .ok (.istore 5, 2) := by decide +kernel
theorem dX8_faultOf_147 : decode cX8_faultOf 147 = .ok (.iload_n 1, 1) := by decide +kernel
theorem dX8_faultOf_148 : decode cX8_faultOf 148 = .ok (.iload 5, 2) := by decide +kernel
theorem dX8_faultOf_150 : decode cX8_faultOf 150 = .ok (.ifCond .eq 7, 3) := by decide +kernel
theorem dX8_faultOf_153 : decode cX8_faultOf 153 = .ok (.iconst 1, 1) := by decide +kernel
theorem dX8_faultOf_154 : decode cX8_faultOf 154 = .ok (.goto 4, 3) := by decide +kernel
theorem dX8_faultOf_157 : decode cX8_faultOf 157 = .ok (.iconst 0, 1) := by decide +kernel
theorem dX8_faultOf_158 : decode cX8_faultOf 158 = .ok (.isub, 1) := by decide +kernel
theorem dX8_faultOf_159 : decode cX8_faultOf 159 = .ok (.istore_n 1, 1) := by decide +kernel
theorem dX8_faultOf_160 : decode cX8_faultOf 160 = .ok (.iload 5, 2) := by decide +kernel
theorem dX8_faultOf_162 : decode cX8_faultOf 162 = .ok (.ifCond .eq 11, 3) := by decide +kernel
theorem dX8_faultOf_165 : decode cX8_faultOf 165 = .ok (.iload_n 1, 1) := by decide +kernel
theorem dX8_faultOf_166 : decode cX8_faultOf 166 = .ok (.ifCond .le 7, 3) := by decide +kernel
theorem dX8_faultOf_169 : decode cX8_faultOf 169 = .ok (.iconst 1, 1) := by decide +kernel
theorem dX8_faultOf_170 : decode cX8_faultOf 170 = .ok (.goto 4, 3) := by decide +kernel
theorem dX8_faultOf_173 : decode cX8_faultOf 173 = .ok (.iconst 0, 1) := by decide +kernel
theorem dX8_faultOf_174 : decode cX8_faultOf 174 = .ok (.istore 5, 2) := by decide +kernel
theorem dX8_faultOf_176 : decode cX8_faultOf 176 = .ok (.goto (-64), 3) := by decide +kernel
theorem dX8_faultOf_179 : decode cX8_faultOf 179 = .ok (.iload_n 1, 1) := by decide +kernel
theorem dX8_faultOf_180 : decode cX8_faultOf 180 = .ok (.ifCond .ne 22, 3) := by decide +kernel
theorem dX8_faultOf_183 : decode cX8_faultOf 183 = .ok (.iload_n 2, 1) := by decide +kernel
theorem dX8_faultOf_184 : decode cX8_faultOf 184 = .ok (.iconst 1, 1) := by decide +kernel
theorem dX8_faultOf_185 : decode cX8_faultOf 185 = .ok (.iadd, 1) := by decide +kernel
theorem dX8_faultOf_186 : decode cX8_faultOf 186 = .ok (.aload_n 0, 1) := by decide +kernel
theorem dX8_faultOf_187 : decode cX8_faultOf 187 = .ok (.getfield 172, 3) := by decide +kernel
theorem dX8_faultOf_190 : decode cX8_faultOf 190 = .ok (.if_icmp .ne 8, 3) := by decide +kernel
theorem dX8_faultOf_193 : decode cX8_faultOf 193 = .ok (.bipush (-6), 2) := by decide +kernel
theorem dX8_faultOf_195 : decode cX8_faultOf 195 = .ok (.goto 6, 3) := by decide +kernel
theorem dX8_faultOf_198 : decode cX8_faultOf 198 = .ok (.iload_n 2, 1) := by decide +kernel
theorem dX8_faultOf_199 : decode cX8_faultOf 199 = .ok (.iconst 1, 1) := by decide +kernel
theorem dX8_faultOf_200 : decode cX8_faultOf 200 = .ok (.iadd, 1) := by decide +kernel
theorem dX8_faultOf_201 : decode cX8_faultOf 201 = .ok (.ireturn, 1) := by decide +kernel
theorem dX8_faultOf_202 : decode cX8_faultOf 202 = .ok (.iinc 2 1, 3) := by decide +kernel
theorem dX8_faultOf_205 : decode cX8_faultOf 205 = .ok (.goto (-201), 3) := by decide +kernel
theorem dX8_faultOf_208 : decode cX8_faultOf 208 = .ok (.aload_n 0, 1) := by decide +kernel
theorem dX8_faultOf_209 : decode cX8_faultOf 209 = .ok (.getfield 172, 3) := by decide +kernel
theorem dX8_faultOf_212 : decode cX8_faultOf 212 = .ok (.ireturn, 1) := by decide +kernel
theorem dX8_fault_0 : decode cX8_fault 0 = .ok (.aload_n 0, 1) := by decide +kernel
theorem dX8_fault_1 : decode cX8_fault 1 = .ok (.invokevirtual 175, 3) := by decide +kernel
theorem dX8_fault_4 : decode cX8_fault 4 = .ok (.ireturn, 1) := by decide +kernel
theorem dX8_truth_0 : decode cX8_truth 0 = .ok (.aload_n 0, 1) := by decide +kernel
theorem dX8_truth_1 : decode cX8_truth 1 = .ok (.invokevirtual 175, 3) := by decide +kernel
theorem dX8_truth_4 : decode cX8_truth 4 = .ok (.ifCond .lt 6, 3) := by decide +kernel
theorem dX8_truth_7 : decode cX8_truth 7 = .ok (.bipush (-5), 2) := by decide +kernel
theorem dX8_truth_9 : decode cX8_truth 9 = .ok (.ireturn, 1) := by decide +kernel
theorem dX8_truth_10 : decode cX8_truth 10 = .ok (.aload_n 0, 1) := by decide +kernel
theorem dX8_truth_11 : decode cX8_truth 11 = .ok (.aload_n 0, 1) := by decide +kernel
theorem dX8_truth_12 : decode cX8_truth 12 = .ok (.getfield 172, 3) := by decide +kernel
end
section
theorem dX8_truth_15 : decode cX8_truth 15 = .ok (.putfield 178, 3) := by decide +kernel
theorem dX8_truth_18 : decode cX8_truth 18 = .ok (.iconst 0, 1) := by decide +kernel
theorem dX8_truth_19 : decode cX8_truth 19 = .ok (.istore_n 1, 1) := by decide +kernel
theorem dX8_truth_20 : decode cX8_truth 20 = .ok (.iload_n 1, 1) := by decide +kernel
theorem dX8_truth_21 : decode cX8_truth 21 = .ok (.aload_n 0, 1) := by decide +kernel
theorem dX8_truth_22 : decode cX8_truth 22 = .ok (.getfield 172, 3) := by decide +kernel
theorem dX8_truth_25 : decode cX8_truth 25 = .ok (.if_icmp .ge 21, 3) := by decide +kernel
theorem dX8_truth_28 : decode cX8_truth 28 = .ok (.aload_n 0, 1) := by decide +kernel
theorem dX8_truth_29 : decode cX8_truth 29 = .ok (.getfield 38, 3) := by decide +kernel
theorem dX8_truth_32 : decode cX8_truth 32 = .ok (.iload_n 1, 1) := by decide +kernel
theorem dX8_truth_33 : decode cX8_truth 33 = .ok (.aload_n 0, 1) := by decide +kernel
theorem dX8_truth_34 : decode cX8_truth 34 = .ok (.getfield 35, 3) := by decide +kernel
theorem dX8_truth_37 : decode cX8_truth 37 = .ok (.iload_n 1, 1) := by decide +kernel
theorem dX8_truth_38 : decode cX8_truth 38 = .ok (.iaload, 1) := by decide +kernel
theorem dX8_truth_39 : decode cX8_truth 39 = .ok (.iastore, 1) := by decide +kernel
theorem dX8_truth_40 : decode cX8_truth 40 = .ok (.iinc 1 1, 3) := by decide +kernel
theorem dX8_truth_43 : decode cX8_truth 43 = .ok (.goto (-23), 3) := by decide +kernel
theorem dX8_truth_46 : decode cX8_truth 46 = .ok (.aload_n 0, 1) := by decide +kernel
theorem dX8_truth_47 : decode cX8_truth 47 = .ok (.iconst 0, 1) := by decide +kernel
theorem dX8_truth_48 : decode cX8_truth 48 = .ok (.putfield 172, 3) := by decide +kernel
theorem dX8_truth_51 : decode cX8_truth 51 = .ok (.aload_n 0, 1) := by decide +kernel
theorem dX8_truth_52 : decode cX8_truth 52 = .ok (.getfield 178, 3) := by decide +kernel
theorem dX8_truth_55 : decode cX8_truth 55 = .ok (.ireturn, 1) := by decide +kernel
theorem dX8_failsOf_0 : decode cX8_failsOf 0 = .ok (.iconst 0, 1) := by decide +kernel
theorem dX8_failsOf_1 : decode cX8_failsOf 1 = .ok (.istore_n 2, 1) := by decide +kernel
theorem dX8_failsOf_2 : decode cX8_failsOf 2 = .ok (.aload_n 0, 1) := by decide +kernel
theorem dX8_failsOf_3 : decode cX8_failsOf 3 = .ok (.getfield 178, 3) := by decide +kernel
theorem dX8_failsOf_6 : decode cX8_failsOf 6 = .ok (.iconst 1, 1) := by decide +kernel
theorem dX8_failsOf_7 : decode cX8_failsOf 7 = .ok (.isub, 1) := by decide +kernel
theorem dX8_failsOf_8 : decode cX8_failsOf 8 = .ok (.istore_n 3, 1) := by decide +kernel
theorem dX8_failsOf_9 : decode cX8_failsOf 9 = .ok (.iload_n 3, 1) := by decide +kernel
theorem dX8_failsOf_10 : decode cX8_failsOf 10 = .ok (.ifCond .lt 155, 3) := by decide +kernel
theorem dX8_failsOf_13 : decode cX8_failsOf 13 = .ok (.aload_n 0, 1) := by decide +kernel
theorem dX8_failsOf_14 : decode cX8_failsOf 14 = .ok (.getfield 38, 3) := by decide +kernel
theorem dX8_failsOf_17 : decode cX8_failsOf 17 = .ok (.iload_n 3, 1) := by decide +kernel
theorem dX8_failsOf_18 : decode cX8_failsOf 18 = .ok (.iaload, 1) := by decide +kernel
theorem dX8_failsOf_19 : decode cX8_failsOf 19 = .ok (.istore 4, 2) := by decide +kernel
theorem dX8_failsOf_21 : decode cX8_failsOf 21 = .ok (.iload 4, 2) := by decide +kernel
theorem dX8_failsOf_23 : decode cX8_failsOf 23 = .ok (.bipush 97, 2) := by decide +kernel
theorem dX8_failsOf_25 : decode cX8_failsOf 25 = .ok (.bipush 108, 2) := by decide +kernel
theorem dX8_failsOf_27 : decode cX8_failsOf 27 = .ok (.invokestatic 79, 3) := by decide +kernel
theorem dX8_failsOf_30 : decode cX8_failsOf 30 = .ok (.ifCond .eq 24, 3) := by decide +kernel
theorem dX8_failsOf_33 : decode cX8_failsOf 33 = .ok (.aload_n 0, 1) := by decide +kernel
theorem dX8_failsOf_34 : decode cX8_failsOf 34 = .ok (.getfield 69, 3) := by decide +kernel
theorem dX8_failsOf_37 : decode cX8_failsOf 37 = .ok (.iload_n 2, 1) := by decide +kernel
theorem dX8_failsOf_38 : decode cX8_failsOf 38 = .ok (.iload_n 1, 1) := by decide +kernel
theorem dX8_failsOf_39 : decode cX8_failsOf 39 = .ok (.iload 4, 2) := by decide +kernel
theorem dX8_failsOf_41 : decode cX8_failsOf 41 = .ok (.bipush 97, 2) := by decide +kernel
theorem dX8_failsOf_43 : decode cX8_failsOf 43 = .ok (.isub, 1) := by decide +kernel
theorem dX8_failsOf_44 : decode cX8_failsOf 44 = .ok (.invokestatic 100, 3) := by decide +kernel
theorem dX8_failsOf_47 : decode cX8_failsOf 47 = .ok (.bastore, 1) := by decide +kernel
theorem dX8_failsOf_48 : decode cX8_failsOf 48 = .ok (.iinc 2 1, 3) := by decide +kernel
theorem dX8_failsOf_51 : decode cX8_failsOf 51 = .ok (.goto 108, 3) := by decide +kernel
theorem dX8_failsOf_54 : decode cX8_failsOf 54 = .ok (.iload 4, 2) := by decide +kernel
theorem dX8_failsOf_56 : decode cX8_failsOf 56 = .ok (.bipush 33, 2) := by decide +kernel
theorem dX8_failsOf_58 : decode cX8_failsOf 58 = .ok (.if_icmp .ne 30, 3) := by decide +kernel
theorem dX8_failsOf_61 : decode cX8_failsOf 61 = .ok (.aload_n 0, 1) := by decide +kernel
theorem dX8_failsOf_62 : decode cX8_failsOf 62 = .ok (.getfield 69, 3) := by decide +kernel
theorem dX8_failsOf_65 : decode cX8_failsOf 65 = .ok (.iload_n 2, 1) := by decide +kernel
theorem dX8_failsOf_66 : decode cX8_failsOf 66 = .ok (.iconst 1, 1) := by decide +kernel
theorem dX8_failsOf_67 : decode cX8_failsOf 67 = .ok (.isub, 1) := by decide +kernel
theorem dX8_failsOf_68 : decode cX8_failsOf 68 = .ok (.aload_n 0, 1) := by decide +kernel
theorem dX8_failsOf_69 : decode cX8_failsOf 69 = .ok (.getfield 69, 3) := by decide +kernel
theorem dX8_failsOf_72 : decode cX8_failsOf 72 = .ok (.iload_n 2, 1) := by decide +kernel
theorem dX8_failsOf_73 : decode cX8_failsOf 73 = .ok (.iconst 1, 1) := by decide +kernel
theorem dX8_failsOf_74 : decode cX8_failsOf 74 = .ok (.isub, 1) := by decide +kernel
theorem dX8_failsOf_75 : decode cX8_failsOf 75 = .ok (.baload, 1) := by decide +kernel
theorem dX8_failsOf_76 : decode cX8_failsOf 76 = .ok (.ifCond .ne 7, 3) := by decide +kernel
theorem dX8_failsOf_79 : decode cX8_failsOf 79 = .ok (.iconst 1, 1) := by decide +kernel
theorem dX8_failsOf_80 : decode cX8_failsOf 80 = .ok (.goto 4, 3) := by decide +kernel
theorem dX8_failsOf_83 : decode cX8_failsOf 83 = .ok (.iconst 0, 1) := by decide +kernel
theorem dX8_failsOf_84 : decode cX8_failsOf 84 = .ok (.bastore, 1) := by decide +kernel
theorem dX8_failsOf_85 : decode cX8_failsOf 85 = .ok (.goto 74, 3) := by decide +kernel
theorem dX8_failsOf_88 : decode cX8_failsOf 88 = .ok (.iinc 2 (-1), 3) := by decide +kernel
theorem dX8_failsOf_91 : decode cX8_failsOf 91 = .ok (.aload_n 0, 1) := by decide +kernel
theorem dX8_failsOf_92 : decode cX8_failsOf 92 = .ok (.getfield 69, 3) := by decide +kernel
theorem dX8_failsOf_95 : decode cX8_failsOf 95 = .ok (.iload_n 2, 1) := by decide +kernel
theorem dX8_failsOf_96 : decode cX8_failsOf 96 = .ok (.iconst 1, 1) := by decide +kernel
theorem dX8_failsOf_97 : decode cX8_failsOf 97 = .ok (.isub, 1) := by decide +kernel
theorem dX8_failsOf_98 : decode cX8_failsOf 98 = .ok (.iload 4, 2) := by decide +kernel
theorem dX8_failsOf_100 : decode cX8_failsOf 100 = .ok (.bipush 38, 2) := by decide +kernel
theorem dX8_failsOf_102 : decode cX8_failsOf 102 = .ok (.if_icmp .ne 31, 3) := by decide +kernel
theorem dX8_failsOf_105 : decode cX8_failsOf 105 = .ok (.aload_n 0, 1) := by decide +kernel
theorem dX8_failsOf_106 : decode cX8_failsOf 106 = .ok (.getfield 69, 3) := by decide +kernel
theorem dX8_failsOf_109 : decode cX8_failsOf 109 = .ok (.iload_n 2, 1) := by decide +kernel
theorem dX8_failsOf_110 : decode cX8_failsOf 110 = .ok (.baload, 1) := by decide +kernel
theorem dX8_failsOf_111 : decode cX8_failsOf 111 = .ok (.ifCond .eq 18, 3) := by decide +kernel
theorem dX8_failsOf_114 : decode cX8_failsOf 114 = .ok (.aload_n 0, 1) := by decide +kernel
theorem dX8_failsOf_115 : decode cX8_failsOf 115 = .ok (.getfield 69, 3) := by decide +kernel
theorem dX8_failsOf_118 : decode cX8_failsOf 118 = .ok (.iload_n 2, 1) := by decide +kernel
theorem dX8_failsOf_119 : decode cX8_failsOf 119 = .ok (.iconst 1, 1) := by decide +kernel
theorem dX8_failsOf_120 : decode cX8_failsOf 120 = .ok (.isub, 1) := by decide +kernel
theorem dX8_failsOf_121 : decode cX8_failsOf 121 = .ok (.baload, 1) := by decide +kernel
theorem dX8_failsOf_122 : decode cX8_failsOf 122 = .ok (.ifCond .eq 7, 3) := by decide +kernel
theorem dX8_failsOf_125 : decode cX8_failsOf 125 = .ok (.iconst 1, 1) := by decide +kernel
theorem dX8_failsOf_126 : decode cX8_failsOf 126 = .ok (.goto 32, 3) := by decide +kernel
theorem dX8_failsOf_129 : decode cX8_failsOf 129 = .ok (.iconst 0, 1) := by decide +kernel
theorem dX8_failsOf_130 : decode cX8_failsOf 130 = .ok (.goto 28, 3) := by decide +kernel
theorem dX8_failsOf_133 : decode cX8_failsOf 133 = .ok (.aload_n 0, 1) := by decide +kernel
theorem dX8_failsOf_134 : decode cX8_failsOf 134 = .ok (.getfield 69, 3) := by decide +kernel
theorem dX8_failsOf_137 : decode cX8_failsOf 137 = .ok (.iload_n 2, 1) := by decide +kernel
theorem dX8_failsOf_138 : decode cX8_failsOf 138 = .ok (.baload, 1) := by decide +kernel
theorem dX8_failsOf_139 : decode cX8_failsOf 139 = .ok (.ifCond .ne 14, 3) := by decide +kernel
theorem dX8_failsOf_142 : decode cX8_failsOf 142 = .ok (.aload_n 0, 1) := by decide +kernel
theorem dX8_failsOf_143 : decode cX8_failsOf 143 = .ok (.getfield 69, 3) := by decide +kernel
theorem dX8_failsOf_146 : decode cX8_failsOf 146 = .ok (.iload_n 2, 1) := by decide +kernel
theorem dX8_failsOf_147 : decode cX8_failsOf 147 = .ok (.iconst 1, 1) := by decide +kernel
theorem dX8_failsOf_148 : decode cX8_failsOf 148 = .ok (.isub, 1) := by decide +kernel
theorem dX8_failsOf_149 : decode cX8_failsOf 149 = .ok (.baload, 1) := by decide +kernel
theorem dX8_failsOf_150 : decode cX8_failsOf 150 = .ok (.ifCond .eq 7, 3) := by decide +kernel
theorem dX8_failsOf_153 : decode cX8_failsOf 153 = .ok (.iconst 1, 1) := by decide +kernel
theorem dX8_failsOf_154 : decode cX8_failsOf 154 = .ok (.goto 4, 3) := by decide +kernel
theorem dX8_failsOf_157 : decode cX8_failsOf 157 = .ok (.iconst 0, 1) := by decide +kernel
theorem dX8_failsOf_158 : decode cX8_failsOf 158 = .ok (.bastore, 1) := by decide +kernel
theorem dX8_failsOf_159 : decode cX8_failsOf 159 = .ok (.iinc 3 (-1), 3) := by decide +kernel
theorem dX8_failsOf_162 : decode cX8_failsOf 162 = .ok (.goto (-153), 3) := by decide +kernel
theorem dX8_failsOf_165 : decode cX8_failsOf 165 = .ok (.aload_n 0, 1) := by decide +kernel
theorem dX8_failsOf_166 : decode cX8_failsOf 166 = .ok (.getfield 69, 3) := by decide +kernel
theorem dX8_failsOf_169 : decode cX8_failsOf 169 = .ok (.iconst 0, 1) := by decide +kernel
theorem dX8_failsOf_170 : decode cX8_failsOf 170 = .ok (.baload, 1) := by decide +kernel
theorem dX8_failsOf_171 : decode cX8_failsOf 171 = .ok (.ireturn, 1) := by decide +kernel
theorem dX8_isSound_0 : decode cX8_isSound 0 = .ok (.iconst 1, 1) := by decide +kernel
theorem dX8_isSound_1 : decode cX8_isSound 1 = .ok (.istore_n 2, 1) := by decide +kernel
theorem dX8_isSound_2 : decode cX8_isSound 2 = .ok (.iconst 0, 1) := by decide +kernel
theorem dX8_isSound_3 : decode cX8_isSound 3 = .ok (.istore_n 3, 1) := by decide +kernel
theorem dX8_isSound_4 : decode cX8_isSound 4 = .ok (.iload_n 3, 1) := by decide +kernel
theorem dX8_isSound_5 : decode cX8_isSound 5 = .ok (.aload_n 0, 1) := by decide +kernel
theorem dX8_isSound_6 : decode cX8_isSound 6 = .ok (.getfield 75, 3) := by decide +kernel
theorem dX8_isSound_9 : decode cX8_isSound 9 = .ok (.if_icmp .ge 40, 3) := by decide +kernel
theorem dX8_isSound_12 : decode cX8_isSound 12 = .ok (.iload_n 2, 1) := by decide +kernel
theorem dX8_isSound_13 : decode cX8_isSound 13 = .ok (.ifCond .eq 28, 3) := by decide +kernel
theorem dX8_isSound_16 : decode cX8_isSound 16 = .ok (.iload_n 1, 1) := by decide +kernel
theorem dX8_isSound_17 : decode cX8_isSound 17 = .ok (.iload_n 3, 1) := by decide +kernel
theorem dX8_isSound_18 : decode cX8_isSound 18 = .ok (.invokestatic 100, 3) := by decide +kernel
theorem dX8_isSound_21 : decode cX8_isSound 21 = .ok (.ifCond .eq 16, 3) := by decide +kernel
theorem dX8_isSound_24 : decode cX8_isSound 24 = .ok (.aload_n 0, 1) := by decide +kernel
theorem dX8_isSound_25 : decode cX8_isSound 25 = .ok (.getfield 19, 3) := by decide +kernel
theorem dX8_isSound_28 : decode cX8_isSound 28 = .ok (.iload_n 3, 1) := by decide +kernel
theorem dX8_isSound_29 : decode cX8_isSound 29 = .ok (.iaload, 1) := by decide +kernel
theorem dX8_isSound_30 : decode cX8_isSound 30 = .ok (.iload_n 1, 1) := by decide +kernel
theorem dX8_isSound_31 : decode cX8_isSound 31 = .ok (.iconst (-1), 1) := by decide +kernel
theorem dX8_isSound_32 : decode cX8_isSound 32 = .ok (.ixor, 1) := by decide +kernel
theorem dX8_isSound_33 : decode cX8_isSound 33 = .ok (.iand, 1) := by decide +kernel
theorem dX8_isSound_34 : decode cX8_isSound 34 = .ok (.ifCond .ne 7, 3) := by decide +kernel
theorem dX8_isSound_37 : decode cX8_isSound 37 = .ok (.iconst 1, 1) := by decide +kernel
theorem dX8_isSound_38 : decode cX8_isSound 38 = .ok (.goto 4, 3) := by decide +kernel
theorem dX8_isSound_41 : decode cX8_isSound 41 = .ok (.iconst 0, 1) := by decide +kernel
theorem dX8_isSound_42 : decode cX8_isSound 42 = .ok (.istore_n 2, 1) := by decide +kernel
theorem dX8_isSound_43 : decode cX8_isSound 43 = .ok (.iinc 3 1, 3) := by decide +kernel
theorem dX8_isSound_46 : decode cX8_isSound 46 = .ok (.goto (-42), 3) := by decide +kernel
theorem dX8_isSound_49 : decode cX8_isSound 49 = .ok (.iload_n 2, 1) := by decide +kernel
theorem dX8_isSound_50 : decode cX8_isSound 50 = .ok (.ireturn, 1) := by decide +kernel
theorem dX8_fails_0 : decode cX8_fails 0 = .ok (.iload_n 1, 1) := by decide +kernel
theorem dX8_fails_1 : decode cX8_fails 1 = .ok (.iconst 0, 1) := by decide +kernel
theorem dX8_fails_2 : decode cX8_fails 2 = .ok (.sipush 4095, 3) := by decide +kernel
theorem dX8_fails_5 : decode cX8_fails 5 = .ok (.invokestatic 79, 3) := by decide +kernel
theorem dX8_fails_8 : decode cX8_fails 8 = .ok (.ifCond .eq 10, 3) := by decide +kernel
theorem dX8_fails_11 : decode cX8_fails 11 = .ok (.iload_n 2, 1) := by decide +kernel
theorem dX8_fails_12 : decode cX8_fails 12 = .ok (.invokestatic 94, 3) := by decide +kernel
theorem dX8_fails_15 : decode cX8_fails 15 = .ok (.ifCond .ne 6, 3) := by decide +kernel
theorem dX8_fails_18 : decode cX8_fails 18 = .ok (.bipush (-2), 2) := by decide +kernel
theorem dX8_fails_20 : decode cX8_fails 20 = .ok (.ireturn, 1) := by decide +kernel
theorem dX8_fails_21 : decode cX8_fails 21 = .ok (.iload_n 2, 1) := by decide +kernel
theorem dX8_fails_22 : decode cX8_fails 22 = .ok (.iconst 1, 1) := by decide +kernel
theorem dX8_fails_23 : decode cX8_fails 23 = .ok (.if_icmp .ne 17, 3) := by decide +kernel
theorem dX8_fails_26 : decode cX8_fails 26 = .ok (.aload_n 0, 1) := by decide +kernel
theorem dX8_fails_27 : decode cX8_fails 27 = .ok (.iload_n 1, 1) := by decide +kernel
theorem dX8_fails_28 : decode cX8_fails 28 = .ok (.invokevirtual 181, 3) := by decide +kernel
theorem dX8_fails_31 : decode cX8_fails 31 = .ok (.ifCond .eq 7, 3) := by decide +kernel
theorem dX8_fails_34 : decode cX8_fails 34 = .ok (.iconst 1, 1) := by decide +kernel
theorem dX8_fails_35 : decode cX8_fails 35 = .ok (.goto 4, 3) := by decide +kernel
theorem dX8_fails_38 : decode cX8_fails 38 = .ok (.iconst 0, 1) := by decide +kernel
theorem dX8_fails_39 : decode cX8_fails 39 = .ok (.ireturn, 1) := by decide +kernel
theorem dX8_fails_40 : decode cX8_fails 40 = .ok (.aload_n 0, 1) := by decide +kernel
theorem dX8_fails_41 : decode cX8_fails 41 = .ok (.getfield 178, 3) := by decide +kernel
theorem dX8_fails_44 : decode cX8_fails 44 = .ok (.ifCond .ne 8, 3) := by decide +kernel
theorem dX8_fails_47 : decode cX8_fails 47 = .ok (.bipush (-3), 2) := by decide +kernel
theorem dX8_fails_49 : decode cX8_fails 49 = .ok (.goto 16, 3) := by decide +kernel
theorem dX8_fails_52 : decode cX8_fails 52 = .ok (.aload_n 0, 1) := by decide +kernel
theorem dX8_fails_53 : decode cX8_fails 53 = .ok (.iload_n 1, 1) := by decide +kernel
theorem dX8_fails_54 : decode cX8_fails 54 = .ok (.invokevirtual 184, 3) := by decide +kernel
theorem dX8_fails_57 : decode cX8_fails 57 = .ok (.ifCond .eq 7, 3) := by decide +kernel
theorem dX8_fails_60 : decode cX8_fails 60 = .ok (.iconst 1, 1) := by decide +kernel
theorem dX8_fails_61 : decode cX8_fails 61 = .ok (.goto 4, 3) := by decide +kernel
theorem dX8_fails_64 : decode cX8_fails 64 = .ok (.iconst 0, 1) := by decide +kernel
theorem dX8_fails_65 : decode cX8_fails 65 = .ok (.ireturn, 1) := by decide +kernel
theorem dX8_play_0 : decode cX8_play 0 = .ok (.iload_n 1, 1) := by decide +kernel
theorem dX8_play_1 : decode cX8_play 1 = .ok (.iconst 1, 1) := by decide +kernel
theorem dX8_play_2 : decode cX8_play 2 = .ok (.bipush 10, 2) := by decide +kernel
theorem dX8_play_4 : decode cX8_play 4 = .ok (.invokestatic 79, 3) := by decide +kernel
theorem dX8_play_7 : decode cX8_play 7 = .ok (.ifCond .ne 6, 3) := by decide +kernel
theorem dX8_play_10 : decode cX8_play 10 = .ok (.bipush (-2), 2) := by decide +kernel
theorem dX8_play_12 : decode cX8_play 12 = .ok (.ireturn, 1) := by decide +kernel
theorem dX8_play_13 : decode cX8_play 13 = .ok (.aload_n 0, 1) := by decide +kernel
theorem dX8_play_14 : decode cX8_play 14 = .ok (.getfield 178, 3) := by decide +kernel
theorem dX8_play_17 : decode cX8_play 17 = .ok (.ifCond .ne 6, 3) := by decide +kernel
theorem dX8_play_20 : decode cX8_play 20 = .ok (.bipush (-3), 2) := by decide +kernel
theorem dX8_play_22 : decode cX8_play 22 = .ok (.ireturn, 1) := by decide +kernel
theorem dX8_play_23 : decode cX8_play 23 = .ok (.iconst 0, 1) := by decide +kernel
theorem dX8_play_24 : decode cX8_play 24 = .ok (.istore_n 2, 1) := by decide +kernel
theorem dX8_play_25 : decode cX8_play 25 = .ok (.iconst 0, 1) := by decide +kernel
theorem dX8_play_26 : decode cX8_play 26 = .ok (.istore_n 3, 1) := by decide +kernel
theorem dX8_play_27 : decode cX8_play 27 = .ok (.iload_n 3, 1) := by decide +kernel
theorem dX8_play_28 : decode cX8_play 28 = .ok (.aload_n 0, 1) := by decide +kernel
theorem dX8_play_29 : decode cX8_play 29 = .ok (.getfield 75, 3) := by decide +kernel
theorem dX8_play_32 : decode cX8_play 32 = .ok (.if_icmp .ge 28, 3) := by decide +kernel
theorem dX8_play_35 : decode cX8_play 35 = .ok (.iload_n 2, 1) := by decide +kernel
theorem dX8_play_36 : decode cX8_play 36 = .ok (.ifCond .ne 12, 3) := by decide +kernel
theorem dX8_play_39 : decode cX8_play 39 = .ok (.aload_n 0, 1) := by decide +kernel
theorem dX8_play_40 : decode cX8_play 40 = .ok (.getfield 22, 3) := by decide +kernel
theorem dX8_play_43 : decode cX8_play 43 = .ok (.iload_n 3, 1) := by decide +kernel
theorem dX8_play_44 : decode cX8_play 44 = .ok (.baload, 1) := by decide +kernel
theorem dX8_play_45 : decode cX8_play 45 = .ok (.ifCond .ne 7, 3) := by decide +kernel
theorem dX8_play_48 : decode cX8_play 48 = .ok (.iconst 1, 1) := by decide +kernel
theorem dX8_play_49 : decode cX8_play 49 = .ok (.goto 4, 3) := by decide +kernel
theorem dX8_play_52 : decode cX8_play 52 = .ok (.iconst 0, 1) := by decide +kernel
theorem dX8_play_53 : decode cX8_play 53 = .ok (.istore_n 2, 1) := by decide +kernel
theorem dX8_play_54 : decode cX8_play 54 = .ok (.iinc 3 1, 3) := by decide +kernel
theorem dX8_play_57 : decode cX8_play 57 = .ok (.goto (-30), 3) := by decide +kernel
theorem dX8_play_60 : decode cX8_play 60 = .ok (.iload_n 2, 1) := by decide +kernel
theorem dX8_play_61 : decode cX8_play 61 = .ok (.ifCond .ne 6, 3) := by decide +kernel
theorem dX8_play_64 : decode cX8_play 64 = .ok (.bipush (-5), 2) := by decide +kernel
theorem dX8_play_66 : decode cX8_play 66 = .ok (.ireturn, 1) := by decide +kernel
theorem dX8_play_67 : decode cX8_play 67 = .ok (.aload_n 0, 1) := by decide +kernel
theorem dX8_play_68 : decode cX8_play 68 = .ok (.iconst 0, 1) := by decide +kernel
theorem dX8_play_69 : decode cX8_play 69 = .ok (.putfield 91, 3) := by decide +kernel
theorem dX8_play_72 : decode cX8_play 72 = .ok (.aload_n 0, 1) := by decide +kernel
theorem dX8_play_73 : decode cX8_play 73 = .ok (.invokevirtual 134, 3) := by decide +kernel
theorem dX8_play_76 : decode cX8_play 76 = .ok (.aload_n 0, 1) := by decide +kernel
theorem dX8_play_77 : decode cX8_play 77 = .ok (.getfield 91, 3) := by decide +kernel
theorem dX8_play_80 : decode cX8_play 80 = .ok (.bipush 12, 2) := by decide +kernel
theorem dX8_play_82 : decode cX8_play 82 = .ok (.if_icmp .ge 71, 3) := by decide +kernel
theorem dX8_play_85 : decode cX8_play 85 = .ok (.aload_n 0, 1) := by decide +kernel
theorem dX8_play_86 : decode cX8_play 86 = .ok (.iload_n 1, 1) := by decide +kernel
theorem dX8_play_87 : decode cX8_play 87 = .ok (.invokevirtual 187, 3) := by decide +kernel
theorem dX8_play_90 : decode cX8_play 90 = .ok (.ifCond .ne 63, 3) := by decide +kernel
theorem dX8_play_93 : decode cX8_play 93 = .ok (.aload_n 0, 1) := by decide +kernel
theorem dX8_play_94 : decode cX8_play 94 = .ok (.iconst 1, 1) := by decide +kernel
theorem dX8_play_95 : decode cX8_play 95 = .ok (.invokevirtual 158, 3) := by decide +kernel
theorem dX8_play_98 : decode cX8_play 98 = .ok (.istore_n 3, 1) := by decide +kernel
theorem dX8_play_99 : decode cX8_play 99 = .ok (.aload_n 0, 1) := by decide +kernel
theorem dX8_play_100 : decode cX8_play 100 = .ok (.getfield 26, 3) := by decide +kernel
theorem dX8_play_103 : decode cX8_play 103 = .ok (.aload_n 0, 1) := by decide +kernel
theorem dX8_play_104 : decode cX8_play 104 = .ok (.getfield 91, 3) := by decide +kernel
theorem dX8_play_107 : decode cX8_play 107 = .ok (.iload_n 3, 1) := by decide +kernel
theorem dX8_play_108 : decode cX8_play 108 = .ok (.iastore, 1) := by decide +kernel
theorem dX8_play_109 : decode cX8_play 109 = .ok (.aload_n 0, 1) := by decide +kernel
theorem dX8_play_110 : decode cX8_play 110 = .ok (.getfield 29, 3) := by decide +kernel
theorem dX8_play_113 : decode cX8_play 113 = .ok (.aload_n 0, 1) := by decide +kernel
theorem dX8_play_114 : decode cX8_play 114 = .ok (.getfield 91, 3) := by decide +kernel
theorem dX8_play_117 : decode cX8_play 117 = .ok (.aload_n 0, 1) := by decide +kernel
theorem dX8_play_118 : decode cX8_play 118 = .ok (.aload_n 0, 1) := by decide +kernel
theorem dX8_play_119 : decode cX8_play 119 = .ok (.getfield 7, 3) := by decide +kernel
theorem dX8_play_122 : decode cX8_play 122 = .ok (.iload_n 3, 1) := by decide +kernel
theorem dX8_play_123 : decode cX8_play 123 = .ok (.iaload, 1) := by decide +kernel
theorem dX8_play_124 : decode cX8_play 124 = .ok (.invokevirtual 184, 3) := by decide +kernel
theorem dX8_play_127 : decode cX8_play 127 = .ok (.ifCond .ne 7, 3) := by decide +kernel
theorem dX8_play_130 : decode cX8_play 130 = .ok (.iconst 1, 1) := by decide +kernel
theorem dX8_play_131 : decode cX8_play 131 = .ok (.goto 4, 3) := by decide +kernel
theorem dX8_play_134 : decode cX8_play 134 = .ok (.iconst 0, 1) := by decide +kernel
theorem dX8_play_135 : decode cX8_play 135 = .ok (.bastore, 1) := by decide +kernel
theorem dX8_play_136 : decode cX8_play 136 = .ok (.aload_n 0, 1) := by decide +kernel
theorem dX8_play_137 : decode cX8_play 137 = .ok (.dup, 1) := by decide +kernel
theorem dX8_play_138 : decode cX8_play 138 = .ok (.getfield 91, 3) := by decide +kernel
theorem dX8_play_141 : decode cX8_play 141 = .ok (.iconst 1, 1) := by decide +kernel
theorem dX8_play_142 : decode cX8_play 142 = .ok (.iadd, 1) := by decide +kernel
theorem dX8_play_143 : decode cX8_play 143 = .ok (.putfield 91, 3) := by decide +kernel
theorem dX8_play_146 : decode cX8_play 146 = .ok (.aload_n 0, 1) := by decide +kernel
theorem dX8_play_147 : decode cX8_play 147 = .ok (.invokevirtual 134, 3) := by decide +kernel
theorem dX8_play_150 : decode cX8_play 150 = .ok (.goto (-74), 3) := by decide +kernel
theorem dX8_play_153 : decode cX8_play 153 = .ok (.aload_n 0, 1) := by decide +kernel
theorem dX8_play_154 : decode cX8_play 154 = .ok (.getfield 91, 3) := by decide +kernel
theorem dX8_play_157 : decode cX8_play 157 = .ok (.ireturn, 1) := by decide +kernel
theorem dX8_isSure_0 : decode cX8_isSure 0 = .ok (.aload_n 0, 1) := by decide +kernel
theorem dX8_isSure_1 : decode cX8_isSure 1 = .ok (.invokevirtual 141, 3) := by decide +kernel
theorem dX8_isSure_4 : decode cX8_isSure 4 = .ok (.istore_n 2, 1) := by decide +kernel
theorem dX8_isSure_5 : decode cX8_isSure 5 = .ok (.iload_n 2, 1) := by decide +kernel
theorem dX8_isSure_6 : decode cX8_isSure 6 = .ok (.ifCond .lt 28, 3) := by decide +kernel
theorem dX8_isSure_9 : decode cX8_isSure 9 = .ok (.aload_n 0, 1) := by decide +kernel
theorem dX8_isSure_10 : decode cX8_isSure 10 = .ok (.getfield 50, 3) := by decide +kernel
theorem dX8_isSure_13 : decode cX8_isSure 13 = .ok (.iload_n 2, 1) := by decide +kernel
theorem dX8_isSure_14 : decode cX8_isSure 14 = .ok (.laload, 1) := by decide +kernel
theorem dX8_isSure_15 : decode cX8_isSure 15 = .ok (.ldc2_w 152, 3) := by decide +kernel
theorem dX8_isSure_18 : decode cX8_isSure 18 = .ok (.lmul, 1) := by decide +kernel
theorem dX8_isSure_19 : decode cX8_isSure 19 = .ok (.aload_n 0, 1) := by decide +kernel
theorem dX8_isSure_20 : decode cX8_isSure 20 = .ok (.getfield 119, 3) := by decide +kernel
theorem dX8_isSure_23 : decode cX8_isSure 23 = .ok (.iload_n 1, 1) := by decide +kernel
theorem dX8_isSure_24 : decode cX8_isSure 24 = .ok (.i2l, 1) := by decide +kernel
theorem dX8_isSure_25 : decode cX8_isSure 25 = .ok (.lmul, 1) := by decide +kernel
theorem dX8_isSure_26 : decode cX8_isSure 26 = .ok (.lcmp, 1) := by decide +kernel
theorem dX8_isSure_27 : decode cX8_isSure 27 = .ok (.ifCond .lt 7, 3) := by decide +kernel
theorem dX8_isSure_30 : decode cX8_isSure 30 = .ok (.iconst 1, 1) := by decide +kernel
theorem dX8_isSure_31 : decode cX8_isSure 31 = .ok (.goto 4, 3) := by decide +kernel
theorem dX8_isSure_34 : decode cX8_isSure 34 = .ok (.iconst 0, 1) := by decide +kernel
theorem dX8_isSure_35 : decode cX8_isSure 35 = .ok (.ireturn, 1) := by decide +kernel
theorem dX8_bits_0 : decode cX8_bits 0 = .ok (.iconst 0, 1) := by decide +kernel
theorem dX8_bits_1 : decode cX8_bits 1 = .ok (.istore_n 1, 1) := by decide +kernel
theorem dX8_bits_2 : decode cX8_bits 2 = .ok (.iconst 0, 1) := by decide +kernel
theorem dX8_bits_3 : decode cX8_bits 3 = .ok (.istore_n 2, 1) := by decide +kernel
theorem dX8_bits_4 : decode cX8_bits 4 = .ok (.iload_n 2, 1) := by decide +kernel
theorem dX8_bits_5 : decode cX8_bits 5 = .ok (.bipush 12, 2) := by decide +kernel
theorem dX8_bits_7 : decode cX8_bits 7 = .ok (.if_icmp .ge 17, 3) := by decide +kernel
theorem dX8_bits_10 : decode cX8_bits 10 = .ok (.iload_n 1, 1) := by decide +kernel
theorem dX8_bits_11 : decode cX8_bits 11 = .ok (.iload_n 0, 1) := by decide +kernel
theorem dX8_bits_12 : decode cX8_bits 12 = .ok (.iload_n 2, 1) := by decide +kernel
theorem dX8_bits_13 : decode cX8_bits 13 = .ok (.ishr, 1) := by decide +kernel
theorem dX8_bits_14 : decode cX8_bits 14 = .ok (.iconst 1, 1) := by decide +kernel
theorem dX8_bits_15 : decode cX8_bits 15 = .ok (.iand, 1) := by decide +kernel
theorem dX8_bits_16 : decode cX8_bits 16 = .ok (.iadd, 1) := by decide +kernel
theorem dX8_bits_17 : decode cX8_bits 17 = .ok (.istore_n 1, 1) := by decide +kernel
theorem dX8_bits_18 : decode cX8_bits 18 = .ok (.iinc 2 1, 3) := by decide +kernel
theorem dX8_bits_21 : decode cX8_bits 21 = .ok (.goto (-17), 3) := by decide +kernel
theorem dX8_bits_24 : decode cX8_bits 24 = .ok (.iload_n 1, 1) := by decide +kernel
theorem dX8_bits_25 : decode cX8_bits 25 = .ok (.ireturn, 1) := by decide +kernel
theorem dX8_sizes_0 : decode cX8_sizes 0 = .ok (.iconst 0, 1) := by decide +kernel
theorem dX8_sizes_1 : decode cX8_sizes 1 = .ok (.istore_n 2, 1) := by decide +kernel
theorem dX8_sizes_2 : decode cX8_sizes 2 = .ok (.iconst 0, 1) := by decide +kernel
theorem dX8_sizes_3 : decode cX8_sizes 3 = .ok (.istore_n 3, 1) := by decide +kernel
theorem dX8_sizes_4 : decode cX8_sizes 4 = .ok (.iload_n 3, 1) := by decide +kernel
theorem dX8_sizes_5 : decode cX8_sizes 5 = .ok (.aload_n 0, 1) := by decide +kernel
theorem dX8_sizes_6 : decode cX8_sizes 6 = .ok (.getfield 75, 3) := by decide +kernel
theorem dX8_sizes_9 : decode cX8_sizes 9 = .ok (.if_icmp .ge 30, 3) := by decide +kernel
theorem dX8_sizes_12 : decode cX8_sizes 12 = .ok (.iload_n 2, 1) := by decide +kernel
theorem dX8_sizes_13 : decode cX8_sizes 13 = .ok (.iload_n 1, 1) := by decide +kernel
theorem dX8_sizes_14 : decode cX8_sizes 14 = .ok (.iload_n 3, 1) := by decide +kernel
theorem dX8_sizes_15 : decode cX8_sizes 15 = .ok (.invokestatic 100, 3) := by decide +kernel
theorem dX8_sizes_18 : decode cX8_sizes 18 = .ok (.ifCond .eq 12, 3) := by decide +kernel
theorem dX8_sizes_21 : decode cX8_sizes 21 = .ok (.aload_n 0, 1) := by decide +kernel
theorem dX8_sizes_22 : decode cX8_sizes 22 = .ok (.getfield 13, 3) := by decide +kernel
theorem dX8_sizes_25 : decode cX8_sizes 25 = .ok (.iload_n 3, 1) := by decide +kernel
theorem dX8_sizes_26 : decode cX8_sizes 26 = .ok (.iaload, 1) := by decide +kernel
theorem dX8_sizes_27 : decode cX8_sizes 27 = .ok (.goto 4, 3) := by decide +kernel
theorem dX8_sizes_30 : decode cX8_sizes 30 = .ok (.iconst 0, 1) := by decide +kernel
theorem dX8_sizes_31 : decode cX8_sizes 31 = .ok (.iadd, 1) := by decide +kernel
theorem dX8_sizes_32 : decode cX8_sizes 32 = .ok (.istore_n 2, 1) := by decide +kernel
theorem dX8_sizes_33 : decode cX8_sizes 33 = .ok (.iinc 3 1, 3) := by decide +kernel
theorem dX8_sizes_36 : decode cX8_sizes 36 = .ok (.goto (-32), 3) := by decide +kernel
theorem dX8_sizes_39 : decode cX8_sizes 39 = .ok (.iload_n 2, 1) := by decide +kernel
theorem dX8_sizes_40 : decode cX8_sizes 40 = .ok (.ireturn, 1) := by decide +kernel
theorem dX8_out_0 : decode cX8_out 0 = .ok (.aload_n 0, 1) := by decide +kernel
theorem dX8_out_1 : decode cX8_out 1 = .ok (.iload_n 1, 1) := by decide +kernel
theorem dX8_out_2 : decode cX8_out 2 = .ok (.invokevirtual 83, 3) := by decide +kernel
theorem dX8_out_5 : decode cX8_out 5 = .ok (.ifCond .ne 5, 3) := by decide +kernel
theorem dX8_out_8 : decode cX8_out 8 = .ok (.iconst (-1), 1) := by decide +kernel
theorem dX8_out_9 : decode cX8_out 9 = .ok (.ireturn, 1) := by decide +kernel
theorem dX8_out_10 : decode cX8_out 10 = .ok (.iload_n 2, 1) := by decide +kernel
theorem dX8_out_11 : decode cX8_out 11 = .ok (.invokestatic 94, 3) := by decide +kernel
theorem dX8_out_14 : decode cX8_out 14 = .ok (.ifCond .ne 6, 3) := by decide +kernel
theorem dX8_out_17 : decode cX8_out 17 = .ok (.bipush (-2), 2) := by decide +kernel
theorem dX8_out_19 : decode cX8_out 19 = .ok (.ireturn, 1) := by decide +kernel
theorem dX8_out_20 : decode cX8_out 20 = .ok (.aload_n 0, 1) := by decide +kernel
theorem dX8_out_21 : decode cX8_out 21 = .ok (.getfield 178, 3) := by decide +kernel
theorem dX8_out_24 : decode cX8_out 24 = .ok (.ifCond .ne 6, 3) := by decide +kernel
theorem dX8_out_27 : decode cX8_out 27 = .ok (.bipush (-3), 2) := by decide +kernel
theorem dX8_out_29 : decode cX8_out 29 = .ok (.ireturn, 1) := by decide +kernel
theorem dX8_out_30 : decode cX8_out 30 = .ok (.bipush (-6), 2) := by decide +kernel
theorem dX8_out_32 : decode cX8_out 32 = .ok (.istore_n 3, 1) := by decide +kernel
theorem dX8_out_33 : decode cX8_out 33 = .ok (.iconst 0, 1) := by decide +kernel
theorem dX8_out_34 : decode cX8_out 34 = .ok (.istore 4, 2) := by decide +kernel
theorem dX8_out_36 : decode cX8_out 36 = .ok (.iload 4, 2) := by decide +kernel
theorem dX8_out_38 : decode cX8_out 38 = .ok (.iconst 1, 1) := by decide +kernel
theorem dX8_out_39 : decode cX8_out 39 = .ok (.aload_n 0, 1) := by decide +kernel
theorem dX8_out_40 : decode cX8_out 40 = .ok (.getfield 75, 3) := by decide +kernel
theorem dX8_out_43 : decode cX8_out 43 = .ok (.ishl, 1) := by decide +kernel
theorem dX8_out_44 : decode cX8_out 44 = .ok (.if_icmp .ge 115, 3) := by decide +kernel
theorem dX8_out_47 : decode cX8_out 47 = .ok (.iload 4, 2) := by decide +kernel
theorem dX8_out_49 : decode cX8_out 49 = .ok (.aload_n 0, 1) := by decide +kernel
theorem dX8_out_50 : decode cX8_out 50 = .ok (.getfield 7, 3) := by decide +kernel
theorem dX8_out_53 : decode cX8_out 53 = .ok (.iload_n 1, 1) := by decide +kernel
theorem dX8_out_54 : decode cX8_out 54 = .ok (.iaload, 1) := by decide +kernel
theorem dX8_out_55 : decode cX8_out 55 = .ok (.iconst (-1), 1) := by decide +kernel
theorem dX8_out_56 : decode cX8_out 56 = .ok (.ixor, 1) := by decide +kernel
theorem dX8_out_57 : decode cX8_out 57 = .ok (.iand, 1) := by decide +kernel
theorem dX8_out_58 : decode cX8_out 58 = .ok (.ifCond .ne 95, 3) := by decide +kernel
theorem dX8_out_61 : decode cX8_out 61 = .ok (.iload_n 3, 1) := by decide +kernel
theorem dX8_out_62 : decode cX8_out 62 = .ok (.ifCond .lt 41, 3) := by decide +kernel
theorem dX8_out_65 : decode cX8_out 65 = .ok (.iload 4, 2) := by decide +kernel
theorem dX8_out_67 : decode cX8_out 67 = .ok (.invokestatic 190, 3) := by decide +kernel
theorem dX8_out_70 : decode cX8_out 70 = .ok (.iload_n 3, 1) := by decide +kernel
theorem dX8_out_71 : decode cX8_out 71 = .ok (.invokestatic 190, 3) := by decide +kernel
theorem dX8_out_74 : decode cX8_out 74 = .ok (.if_icmp .lt 29, 3) := by decide +kernel
theorem dX8_out_77 : decode cX8_out 77 = .ok (.iload 4, 2) := by decide +kernel
theorem dX8_out_79 : decode cX8_out 79 = .ok (.invokestatic 190, 3) := by decide +kernel
theorem dX8_out_82 : decode cX8_out 82 = .ok (.iload_n 3, 1) := by decide +kernel
theorem dX8_out_83 : decode cX8_out 83 = .ok (.invokestatic 190, 3) := by decide +kernel
theorem dX8_out_86 : decode cX8_out 86 = .ok (.if_icmp .ne 21, 3) := by decide +kernel
theorem dX8_out_89 : decode cX8_out 89 = .ok (.aload_n 0, 1) := by decide +kernel
theorem dX8_out_90 : decode cX8_out 90 = .ok (.iload 4, 2) := by decide +kernel
theorem dX8_out_92 : decode cX8_out 92 = .ok (.invokevirtual 193, 3) := by decide +kernel
theorem dX8_out_95 : decode cX8_out 95 = .ok (.aload_n 0, 1) := by decide +kernel
theorem dX8_out_96 : decode cX8_out 96 = .ok (.iload_n 3, 1) := by decide +kernel
theorem dX8_out_97 : decode cX8_out 97 = .ok (.invokevirtual 193, 3) := by decide +kernel
theorem dX8_out_100 : decode cX8_out 100 = .ok (.if_icmp .ge 7, 3) := by decide +kernel
theorem dX8_out_103 : decode cX8_out 103 = .ok (.iconst 1, 1) := by decide +kernel
theorem dX8_out_104 : decode cX8_out 104 = .ok (.goto 4, 3) := by decide +kernel
theorem dX8_out_107 : decode cX8_out 107 = .ok (.iconst 0, 1) := by decide +kernel
theorem dX8_out_108 : decode cX8_out 108 = .ok (.istore 5, 2) := by decide +kernel
theorem dX8_out_110 : decode cX8_out 110 = .ok (.aload_n 0, 1) := by decide +kernel
theorem dX8_out_111 : decode cX8_out 111 = .ok (.getfield 7, 3) := by decide +kernel
theorem dX8_out_114 : decode cX8_out 114 = .ok (.iload_n 1, 1) := by decide +kernel
theorem dX8_out_115 : decode cX8_out 115 = .ok (.iaload, 1) := by decide +kernel
theorem dX8_out_116 : decode cX8_out 116 = .ok (.iload 4, 2) := by decide +kernel
theorem dX8_out_118 : decode cX8_out 118 = .ok (.iconst (-1), 1) := by decide +kernel
theorem dX8_out_119 : decode cX8_out 119 = .ok (.ixor, 1) := by decide +kernel
theorem dX8_out_120 : decode cX8_out 120 = .ok (.iand, 1) := by decide +kernel
theorem dX8_out_121 : decode cX8_out 121 = .ok (.istore 6, 2) := by decide +kernel
theorem dX8_out_123 : decode cX8_out 123 = .ok (.iload 5, 2) := by decide +kernel
theorem dX8_out_125 : decode cX8_out 125 = .ok (.ifCond .eq 26, 3) := by decide +kernel
theorem dX8_out_128 : decode cX8_out 128 = .ok (.aload_n 0, 1) := by decide +kernel
theorem dX8_out_129 : decode cX8_out 129 = .ok (.iload 6, 2) := by decide +kernel
theorem dX8_out_131 : decode cX8_out 131 = .ok (.invokevirtual 181, 3) := by decide +kernel
theorem dX8_out_134 : decode cX8_out 134 = .ok (.ifCond .eq 17, 3) := by decide +kernel
theorem dX8_out_137 : decode cX8_out 137 = .ok (.aload_n 0, 1) := by decide +kernel
theorem dX8_out_138 : decode cX8_out 138 = .ok (.iload 6, 2) := by decide +kernel
theorem dX8_out_140 : decode cX8_out 140 = .ok (.invokevirtual 184, 3) := by decide +kernel
theorem dX8_out_143 : decode cX8_out 143 = .ok (.ifCond .ne 8, 3) := by decide +kernel
theorem dX8_out_146 : decode cX8_out 146 = .ok (.iload 4, 2) := by decide +kernel
theorem dX8_out_148 : decode cX8_out 148 = .ok (.goto 4, 3) := by decide +kernel
theorem dX8_out_151 : decode cX8_out 151 = .ok (.iload_n 3, 1) := by decide +kernel
theorem dX8_out_152 : decode cX8_out 152 = .ok (.istore_n 3, 1) := by decide +kernel
theorem dX8_out_153 : decode cX8_out 153 = .ok (.iinc 4 1, 3) := by decide +kernel
theorem dX8_out_156 : decode cX8_out 156 = .ok (.goto (-120), 3) := by decide +kernel
theorem dX8_out_159 : decode cX8_out 159 = .ok (.iload_n 3, 1) := by decide +kernel
theorem dX8_out_160 : decode cX8_out 160 = .ok (.ifCond .ge 8, 3) := by decide +kernel
theorem dX8_out_163 : decode cX8_out 163 = .ok (.bipush (-5), 2) := by decide +kernel
theorem dX8_out_165 : decode cX8_out 165 = .ok (.goto 16, 3) := by decide +kernel
theorem dX8_out_168 : decode cX8_out 168 = .ok (.iload_n 2, 1) := by decide +kernel
theorem dX8_out_169 : decode cX8_out 169 = .ok (.ifCond .ne 7, 3) := by decide +kernel
theorem dX8_out_172 : decode cX8_out 172 = .ok (.iload_n 3, 1) := by decide +kernel
theorem dX8_out_173 : decode cX8_out 173 = .ok (.goto 8, 3) := by decide +kernel
theorem dX8_out_176 : decode cX8_out 176 = .ok (.aload_n 0, 1) := by decide +kernel
theorem dX8_out_177 : decode cX8_out 177 = .ok (.iload_n 3, 1) := by decide +kernel
theorem dX8_out_178 : decode cX8_out 178 = .ok (.invokevirtual 193, 3) := by decide +kernel
theorem dX8_out_181 : decode cX8_out 181 = .ok (.ireturn, 1) := by decide +kernel
theorem dX8_core_0 : decode cX8_core 0 = .ok (.aload_n 0, 1) := by decide +kernel
theorem dX8_core_1 : decode cX8_core 1 = .ok (.iload_n 1, 1) := by decide +kernel
theorem dX8_core_2 : decode cX8_core 2 = .ok (.invokevirtual 83, 3) := by decide +kernel
theorem dX8_core_5 : decode cX8_core 5 = .ok (.ifCond .ne 5, 3) := by decide +kernel
theorem dX8_core_8 : decode cX8_core 8 = .ok (.iconst (-1), 1) := by decide +kernel
theorem dX8_core_9 : decode cX8_core 9 = .ok (.ireturn, 1) := by decide +kernel
theorem dX8_core_10 : decode cX8_core 10 = .ok (.aload_n 0, 1) := by decide +kernel
theorem dX8_core_11 : decode cX8_core 11 = .ok (.getfield 178, 3) := by decide +kernel
theorem dX8_core_14 : decode cX8_core 14 = .ok (.ifCond .ne 6, 3) := by decide +kernel
theorem dX8_core_17 : decode cX8_core 17 = .ok (.bipush (-3), 2) := by decide +kernel
theorem dX8_core_19 : decode cX8_core 19 = .ok (.ireturn, 1) := by decide +kernel
theorem dX8_core_20 : decode cX8_core 20 = .ok (.iconst 0, 1) := by decide +kernel
theorem dX8_core_21 : decode cX8_core 21 = .ok (.istore_n 3, 1) := by decide +kernel
theorem dX8_core_22 : decode cX8_core 22 = .ok (.bipush (-6), 2) := by decide +kernel
theorem dX8_core_24 : decode cX8_core 24 = .ok (.istore 4, 2) := by decide +kernel
theorem dX8_core_26 : decode cX8_core 26 = .ok (.iconst 0, 1) := by decide +kernel
theorem dX8_core_27 : decode cX8_core 27 = .ok (.istore 5, 2) := by decide +kernel
theorem dX8_core_29 : decode cX8_core 29 = .ok (.iload 5, 2) := by decide +kernel
theorem dX8_core_31 : decode cX8_core 31 = .ok (.iconst 1, 1) := by decide +kernel
theorem dX8_core_32 : decode cX8_core 32 = .ok (.aload_n 0, 1) := by decide +kernel
theorem dX8_core_33 : decode cX8_core 33 = .ok (.getfield 75, 3) := by decide +kernel
theorem dX8_core_36 : decode cX8_core 36 = .ok (.ishl, 1) := by decide +kernel
theorem dX8_core_37 : decode cX8_core 37 = .ok (.if_icmp .ge 157, 3) := by decide +kernel
theorem dX8_core_40 : decode cX8_core 40 = .ok (.iload 5, 2) := by decide +kernel
theorem dX8_core_42 : decode cX8_core 42 = .ok (.aload_n 0, 1) := by decide +kernel
theorem dX8_core_43 : decode cX8_core 43 = .ok (.getfield 7, 3) := by decide +kernel
theorem dX8_core_46 : decode cX8_core 46 = .ok (.iload_n 1, 1) := by decide +kernel
theorem dX8_core_47 : decode cX8_core 47 = .ok (.iaload, 1) := by decide +kernel
theorem dX8_core_48 : decode cX8_core 48 = .ok (.iconst (-1), 1) := by decide +kernel
theorem dX8_core_49 : decode cX8_core 49 = .ok (.ixor, 1) := by decide +kernel
theorem dX8_core_50 : decode cX8_core 50 = .ok (.iand, 1) := by decide +kernel
theorem dX8_core_51 : decode cX8_core 51 = .ok (.ifCond .ne 137, 3) := by decide +kernel
theorem dX8_core_54 : decode cX8_core 54 = .ok (.iconst 0, 1) := by decide +kernel
theorem dX8_core_55 : decode cX8_core 55 = .ok (.istore 6, 2) := by decide +kernel
theorem dX8_core_57 : decode cX8_core 57 = .ok (.iconst 0, 1) := by decide +kernel
theorem dX8_core_58 : decode cX8_core 58 = .ok (.istore 7, 2) := by decide +kernel
theorem dX8_core_60 : decode cX8_core 60 = .ok (.iload 7, 2) := by decide +kernel
theorem dX8_core_62 : decode cX8_core 62 = .ok (.aload_n 0, 1) := by decide +kernel
theorem dX8_core_63 : decode cX8_core 63 = .ok (.getfield 75, 3) := by decide +kernel
theorem dX8_core_66 : decode cX8_core 66 = .ok (.if_icmp .ge 48, 3) := by decide +kernel
theorem dX8_core_69 : decode cX8_core 69 = .ok (.iload 6, 2) := by decide +kernel
theorem dX8_core_71 : decode cX8_core 71 = .ok (.ifCond .ne 30, 3) := by decide +kernel
theorem dX8_core_74 : decode cX8_core 74 = .ok (.iload 5, 2) := by decide +kernel
theorem dX8_core_76 : decode cX8_core 76 = .ok (.iload 7, 2) := by decide +kernel
theorem dX8_core_78 : decode cX8_core 78 = .ok (.invokestatic 100, 3) := by decide +kernel
theorem dX8_core_81 : decode cX8_core 81 = .ok (.ifCond .eq 24, 3) := by decide +kernel
theorem dX8_core_84 : decode cX8_core 84 = .ok (.aload_n 0, 1) := by decide +kernel
theorem dX8_core_85 : decode cX8_core 85 = .ok (.getfield 72, 3) := by decide +kernel
theorem dX8_core_88 : decode cX8_core 88 = .ok (.iload 5, 2) := by decide +kernel
theorem dX8_core_90 : decode cX8_core 90 = .ok (.iconst 1, 1) := by decide +kernel
theorem dX8_core_91 : decode cX8_core 91 = .ok (.iload 7, 2) := by decide +kernel
theorem dX8_core_93 : decode cX8_core 93 = .ok (.ishl, 1) := by decide +kernel
theorem dX8_core_94 : decode cX8_core 94 = .ok (.iconst (-1), 1) := by decide +kernel
theorem dX8_core_95 : decode cX8_core 95 = .ok (.ixor, 1) := by decide +kernel
theorem dX8_core_96 : decode cX8_core 96 = .ok (.iand, 1) := by decide +kernel
theorem dX8_core_97 : decode cX8_core 97 = .ok (.baload, 1) := by decide +kernel
theorem dX8_core_98 : decode cX8_core 98 = .ok (.ifCond .eq 7, 3) := by decide +kernel
theorem dX8_core_101 : decode cX8_core 101 = .ok (.iconst 1, 1) := by decide +kernel
theorem dX8_core_102 : decode cX8_core 102 = .ok (.goto 4, 3) := by decide +kernel
theorem dX8_core_105 : decode cX8_core 105 = .ok (.iconst 0, 1) := by decide +kernel
theorem dX8_core_106 : decode cX8_core 106 = .ok (.istore 6, 2) := by decide +kernel
theorem dX8_core_108 : decode cX8_core 108 = .ok (.iinc 7 1, 3) := by decide +kernel
theorem dX8_core_111 : decode cX8_core 111 = .ok (.goto (-51), 3) := by decide +kernel
theorem dX8_core_114 : decode cX8_core 114 = .ok (.aload_n 0, 1) := by decide +kernel
theorem dX8_core_115 : decode cX8_core 115 = .ok (.iload 5, 2) := by decide +kernel
theorem dX8_core_117 : decode cX8_core 117 = .ok (.invokevirtual 181, 3) := by decide +kernel
theorem dX8_core_120 : decode cX8_core 120 = .ok (.ifCond .eq 16, 3) := by decide +kernel
theorem dX8_core_123 : decode cX8_core 123 = .ok (.aload_n 0, 1) := by decide +kernel
theorem dX8_core_124 : decode cX8_core 124 = .ok (.iload 5, 2) := by decide +kernel
theorem dX8_core_126 : decode cX8_core 126 = .ok (.invokevirtual 184, 3) := by decide +kernel
theorem dX8_core_129 : decode cX8_core 129 = .ok (.ifCond .eq 7, 3) := by decide +kernel
theorem dX8_core_132 : decode cX8_core 132 = .ok (.iconst 1, 1) := by decide +kernel
theorem dX8_core_133 : decode cX8_core 133 = .ok (.goto 4, 3) := by decide +kernel
theorem dX8_core_136 : decode cX8_core 136 = .ok (.iconst 0, 1) := by decide +kernel
theorem dX8_core_137 : decode cX8_core 137 = .ok (.istore 7, 2) := by decide +kernel
theorem dX8_core_139 : decode cX8_core 139 = .ok (.aload_n 0, 1) := by decide +kernel
theorem dX8_core_140 : decode cX8_core 140 = .ok (.getfield 72, 3) := by decide +kernel
theorem dX8_core_143 : decode cX8_core 143 = .ok (.iload 5, 2) := by decide +kernel
theorem dX8_core_145 : decode cX8_core 145 = .ok (.iload 6, 2) := by decide +kernel
theorem dX8_core_147 : decode cX8_core 147 = .ok (.ifCond .ne 8, 3) := by decide +kernel
theorem dX8_core_150 : decode cX8_core 150 = .ok (.iload 7, 2) := by decide +kernel
theorem dX8_core_152 : decode cX8_core 152 = .ok (.ifCond .eq 7, 3) := by decide +kernel
theorem dX8_core_155 : decode cX8_core 155 = .ok (.iconst 1, 1) := by decide +kernel
theorem dX8_core_156 : decode cX8_core 156 = .ok (.goto 4, 3) := by decide +kernel
theorem dX8_core_159 : decode cX8_core 159 = .ok (.iconst 0, 1) := by decide +kernel
theorem dX8_core_160 : decode cX8_core 160 = .ok (.bastore, 1) := by decide +kernel
theorem dX8_core_161 : decode cX8_core 161 = .ok (.iload 7, 2) := by decide +kernel
theorem dX8_core_163 : decode cX8_core 163 = .ok (.ifCond .eq 25, 3) := by decide +kernel
theorem dX8_core_166 : decode cX8_core 166 = .ok (.iload 6, 2) := by decide +kernel
theorem dX8_core_168 : decode cX8_core 168 = .ok (.ifCond .ne 20, 3) := by decide +kernel
theorem dX8_core_171 : decode cX8_core 171 = .ok (.iload_n 3, 1) := by decide +kernel
theorem dX8_core_172 : decode cX8_core 172 = .ok (.iload_n 2, 1) := by decide +kernel
theorem dX8_core_173 : decode cX8_core 173 = .ok (.if_icmp .ne 8, 3) := by decide +kernel
theorem dX8_core_176 : decode cX8_core 176 = .ok (.iload 5, 2) := by decide +kernel
theorem dX8_core_178 : decode cX8_core 178 = .ok (.goto 5, 3) := by decide +kernel
theorem dX8_core_181 : decode cX8_core 181 = .ok (.iload 4, 2) := by decide +kernel
theorem dX8_core_183 : decode cX8_core 183 = .ok (.istore 4, 2) := by decide +kernel
theorem dX8_core_185 : decode cX8_core 185 = .ok (.iinc 3 1, 3) := by decide +kernel
theorem dX8_core_188 : decode cX8_core 188 = .ok (.iinc 5 1, 3) := by decide +kernel
theorem dX8_core_191 : decode cX8_core 191 = .ok (.goto (-162), 3) := by decide +kernel
theorem dX8_core_194 : decode cX8_core 194 = .ok (.iload_n 2, 1) := by decide +kernel
theorem dX8_core_195 : decode cX8_core 195 = .ok (.iconst (-1), 1) := by decide +kernel
theorem dX8_core_196 : decode cX8_core 196 = .ok (.if_icmp .ne 7, 3) := by decide +kernel
theorem dX8_core_199 : decode cX8_core 199 = .ok (.iload_n 3, 1) := by decide +kernel
theorem dX8_core_200 : decode cX8_core 200 = .ok (.goto 5, 3) := by decide +kernel
theorem dX8_core_203 : decode cX8_core 203 = .ok (.iload 4, 2) := by decide +kernel
theorem dX8_core_205 : decode cX8_core 205 = .ok (.ireturn, 1) := by decide +kernel
theorem dX8_told_0 : decode cX8_told 0 = .ok (.iload_n 1, 1) := by decide +kernel
theorem dX8_told_1 : decode cX8_told 1 = .ok (.bipush 10, 2) := by decide +kernel
theorem dX8_told_3 : decode cX8_told 3 = .ok (.bipush 61, 2) := by decide +kernel
theorem dX8_told_5 : decode cX8_told 5 = .ok (.invokestatic 79, 3) := by decide +kernel
theorem dX8_told_8 : decode cX8_told 8 = .ok (.ifCond .eq 75, 3) := by decide +kernel
theorem dX8_told_11 : decode cX8_told 11 = .ok (.iload_n 1, 1) := by decide +kernel
theorem dX8_told_12 : decode cX8_told 12 = .ok (.bipush 10, 2) := by decide +kernel
theorem dX8_told_14 : decode cX8_told 14 = .ok (.isub, 1) := by decide +kernel
theorem dX8_told_15 : decode cX8_told 15 = .ok (.bipush 20, 2) := by decide +kernel
theorem dX8_told_17 : decode cX8_told 17 = .ok (.irem, 1) := by decide +kernel
theorem dX8_told_18 : decode cX8_told 18 = .ok (.istore_n 2, 1) := by decide +kernel
theorem dX8_told_19 : decode cX8_told 19 = .ok (.iload_n 1, 1) := by decide +kernel
theorem dX8_told_20 : decode cX8_told 20 = .ok (.bipush 10, 2) := by decide +kernel
theorem dX8_told_22 : decode cX8_told 22 = .ok (.isub, 1) := by decide +kernel
theorem dX8_told_23 : decode cX8_told 23 = .ok (.bipush 20, 2) := by decide +kernel
theorem dX8_told_25 : decode cX8_told 25 = .ok (.idiv, 1) := by decide +kernel
theorem dX8_told_26 : decode cX8_told 26 = .ok (.istore_n 3, 1) := by decide +kernel
theorem dX8_told_27 : decode cX8_told 27 = .ok (.iload_n 2, 1) := by decide +kernel
theorem dX8_told_28 : decode cX8_told 28 = .ok (.bipush 11, 2) := by decide +kernel
theorem dX8_told_30 : decode cX8_told 30 = .ok (.if_icmp .le 6, 3) := by decide +kernel
theorem dX8_told_33 : decode cX8_told 33 = .ok (.bipush (-2), 2) := by decide +kernel
theorem dX8_told_35 : decode cX8_told 35 = .ok (.ireturn, 1) := by decide +kernel
theorem dX8_told_36 : decode cX8_told 36 = .ok (.aload_n 0, 1) := by decide +kernel
theorem dX8_told_37 : decode cX8_told 37 = .ok (.iload_n 2, 1) := by decide +kernel
theorem dX8_told_38 : decode cX8_told 38 = .ok (.invokevirtual 83, 3) := by decide +kernel
theorem dX8_told_41 : decode cX8_told 41 = .ok (.ifCond .ne 8, 3) := by decide +kernel
theorem dX8_told_44 : decode cX8_told 44 = .ok (.bipush (-6), 2) := by decide +kernel
theorem dX8_told_46 : decode cX8_told 46 = .ok (.goto 36, 3) := by decide +kernel
theorem dX8_told_49 : decode cX8_told 49 = .ok (.iload_n 3, 1) := by decide +kernel
theorem dX8_told_50 : decode cX8_told 50 = .ok (.ifCond .ne 12, 3) := by decide +kernel
theorem dX8_told_53 : decode cX8_told 53 = .ok (.aload_n 0, 1) := by decide +kernel
theorem dX8_told_54 : decode cX8_told 54 = .ok (.getfield 13, 3) := by decide +kernel
theorem dX8_told_57 : decode cX8_told 57 = .ok (.iload_n 2, 1) := by decide +kernel
theorem dX8_told_58 : decode cX8_told 58 = .ok (.iaload, 1) := by decide +kernel
theorem dX8_told_59 : decode cX8_told 59 = .ok (.goto 23, 3) := by decide +kernel
theorem dX8_told_62 : decode cX8_told 62 = .ok (.iload_n 3, 1) := by decide +kernel
theorem dX8_told_63 : decode cX8_told 63 = .ok (.iconst 1, 1) := by decide +kernel
theorem dX8_told_64 : decode cX8_told 64 = .ok (.if_icmp .ne 12, 3) := by decide +kernel
theorem dX8_told_67 : decode cX8_told 67 = .ok (.aload_n 0, 1) := by decide +kernel
theorem dX8_told_68 : decode cX8_told 68 = .ok (.getfield 16, 3) := by decide +kernel
theorem dX8_told_71 : decode cX8_told 71 = .ok (.iload_n 2, 1) := by decide +kernel
theorem dX8_told_72 : decode cX8_told 72 = .ok (.iaload, 1) := by decide +kernel
theorem dX8_told_73 : decode cX8_told 73 = .ok (.goto 9, 3) := by decide +kernel
theorem dX8_told_76 : decode cX8_told 76 = .ok (.aload_n 0, 1) := by decide +kernel
theorem dX8_told_77 : decode cX8_told 77 = .ok (.getfield 19, 3) := by decide +kernel
theorem dX8_told_80 : decode cX8_told 80 = .ok (.iload_n 2, 1) := by decide +kernel
theorem dX8_told_81 : decode cX8_told 81 = .ok (.iaload, 1) := by decide +kernel
theorem dX8_told_82 : decode cX8_told 82 = .ok (.ireturn, 1) := by decide +kernel
theorem dX8_told_83 : decode cX8_told 83 = .ok (.iconst 0, 1) := by decide +kernel
theorem dX8_told_84 : decode cX8_told 84 = .ok (.istore_n 2, 1) := by decide +kernel
theorem dX8_told_85 : decode cX8_told 85 = .ok (.iconst 0, 1) := by decide +kernel
theorem dX8_told_86 : decode cX8_told 86 = .ok (.istore_n 3, 1) := by decide +kernel
theorem dX8_told_87 : decode cX8_told 87 = .ok (.iload_n 3, 1) := by decide +kernel
theorem dX8_told_88 : decode cX8_told 88 = .ok (.aload_n 0, 1) := by decide +kernel
theorem dX8_told_89 : decode cX8_told 89 = .ok (.getfield 75, 3) := by decide +kernel
theorem dX8_told_92 : decode cX8_told 92 = .ok (.if_icmp .ge 28, 3) := by decide +kernel
theorem dX8_told_95 : decode cX8_told 95 = .ok (.iload_n 2, 1) := by decide +kernel
theorem dX8_told_96 : decode cX8_told 96 = .ok (.aload_n 0, 1) := by decide +kernel
theorem dX8_told_97 : decode cX8_told 97 = .ok (.getfield 22, 3) := by decide +kernel
theorem dX8_told_100 : decode cX8_told 100 = .ok (.iload_n 3, 1) := by decide +kernel
theorem dX8_told_101 : decode cX8_told 101 = .ok (.baload, 1) := by decide +kernel
theorem dX8_told_102 : decode cX8_told 102 = .ok (.ifCond .eq 9, 3) := by decide +kernel
theorem dX8_told_105 : decode cX8_told 105 = .ok (.iconst 1, 1) := by decide +kernel
theorem dX8_told_106 : decode cX8_told 106 = .ok (.iload_n 3, 1) := by decide +kernel
theorem dX8_told_107 : decode cX8_told 107 = .ok (.ishl, 1) := by decide +kernel
theorem dX8_told_108 : decode cX8_told 108 = .ok (.goto 4, 3) := by decide +kernel
theorem dX8_told_111 : decode cX8_told 111 = .ok (.iconst 0, 1) := by decide +kernel
theorem dX8_told_112 : decode cX8_told 112 = .ok (.ior, 1) := by decide +kernel
theorem dX8_told_113 : decode cX8_told 113 = .ok (.istore_n 2, 1) := by decide +kernel
theorem dX8_told_114 : decode cX8_told 114 = .ok (.iinc 3 1, 3) := by decide +kernel
theorem dX8_told_117 : decode cX8_told 117 = .ok (.goto (-30), 3) := by decide +kernel
theorem dX8_told_120 : decode cX8_told 120 = .ok (.iload_n 1, 1) := by decide +kernel
theorem dX8_told_121 : decode cX8_told 121 = .ok (.tableswitch 77 0 9 #[55, 60, 65, 70, 77, 77, 77, 77, 77, 75], 55) := by decide +kernel
theorem dX8_told_176 : decode cX8_told 176 = .ok (.aload_n 0, 1) := by decide +kernel
theorem dX8_told_177 : decode cX8_told 177 = .ok (.getfield 75, 3) := by decide +kernel
theorem dX8_told_180 : decode cX8_told 180 = .ok (.ireturn, 1) := by decide +kernel
theorem dX8_told_181 : decode cX8_told 181 = .ok (.aload_n 0, 1) := by decide +kernel
theorem dX8_told_182 : decode cX8_told 182 = .ok (.getfield 91, 3) := by decide +kernel
theorem dX8_told_185 : decode cX8_told 185 = .ok (.ireturn, 1) := by decide +kernel
theorem dX8_told_186 : decode cX8_told 186 = .ok (.aload_n 0, 1) := by decide +kernel
theorem dX8_told_187 : decode cX8_told 187 = .ok (.getfield 172, 3) := by decide +kernel
theorem dX8_told_190 : decode cX8_told 190 = .ok (.ireturn, 1) := by decide +kernel
theorem dX8_told_191 : decode cX8_told 191 = .ok (.aload_n 0, 1) := by decide +kernel
theorem dX8_told_192 : decode cX8_told 192 = .ok (.getfield 178, 3) := by decide +kernel
theorem dX8_told_195 : decode cX8_told 195 = .ok (.ireturn, 1) := by decide +kernel
theorem dX8_told_196 : decode cX8_told 196 = .ok (.iload_n 2, 1) := by decide +kernel
theorem dX8_told_197 : decode cX8_told 197 = .ok (.ireturn, 1) := by decide +kernel
theorem dX8_told_198 : decode cX8_told 198 = .ok (.iload_n 1, 1) := by decide +kernel
theorem dX8_told_199 : decode cX8_told 199 = .ok (.iconst 4, 1) := by decide +kernel
theorem dX8_told_200 : decode cX8_told 200 = .ok (.bipush 8, 2) := by decide +kernel
theorem dX8_told_202 : decode cX8_told 202 = .ok (.invokestatic 79, 3) := by decide +kernel
theorem dX8_told_205 : decode cX8_told 205 = .ok (.ifCond .eq 14, 3) := by decide +kernel
theorem dX8_told_208 : decode cX8_told 208 = .ok (.aload_n 0, 1) := by decide +kernel
theorem dX8_told_209 : decode cX8_told 209 = .ok (.getfield 32, 3) := by decide +kernel
theorem dX8_told_212 : decode cX8_told 212 = .ok (.iload_n 1, 1) := by decide +kernel
theorem dX8_told_213 : decode cX8_told 213 = .ok (.iconst 4, 1) := by decide +kernel
theorem dX8_told_214 : decode cX8_told 214 = .ok (.isub, 1) := by decide +kernel
theorem dX8_told_215 : decode cX8_told 215 = .ok (.iaload, 1) := by decide +kernel
theorem dX8_told_216 : decode cX8_told 216 = .ok (.goto 5, 3) := by decide +kernel
theorem dX8_told_219 : decode cX8_told 219 = .ok (.bipush (-2), 2) := by decide +kernel
theorem dX8_told_221 : decode cX8_told 221 = .ok (.ireturn, 1) := by decide +kernel
theorem dJ6_bitCount_0f7a4_0 : decode cJ6_bitCount_0f7a4 0 = .ok (.iload_n 0, 1) := by decide +kernel
theorem dJ6_bitCount_0f7a4_1 : decode cJ6_bitCount_0f7a4 1 = .ok (.iload_n 0, 1) := by decide +kernel
theorem dJ6_bitCount_0f7a4_2 : decode cJ6_bitCount_0f7a4 2 = .ok (.iconst 1, 1) := by decide +kernel
theorem dJ6_bitCount_0f7a4_3 : decode cJ6_bitCount_0f7a4 3 = .ok (.iushr, 1) := by decide +kernel
theorem dJ6_bitCount_0f7a4_4 : decode cJ6_bitCount_0f7a4 4 = .ok (.ldc_w 265, 3) := by decide +kernel
theorem dJ6_bitCount_0f7a4_7 : decode cJ6_bitCount_0f7a4 7 = .ok (.iand, 1) := by decide +kernel
theorem dJ6_bitCount_0f7a4_8 : decode cJ6_bitCount_0f7a4 8 = .ok (.isub, 1) := by decide +kernel
theorem dJ6_bitCount_0f7a4_9 : decode cJ6_bitCount_0f7a4 9 = .ok (.istore_n 0, 1) := by decide +kernel
theorem dJ6_bitCount_0f7a4_10 : decode cJ6_bitCount_0f7a4 10 = .ok (.iload_n 0, 1) := by decide +kernel
theorem dJ6_bitCount_0f7a4_11 : decode cJ6_bitCount_0f7a4 11 = .ok (.ldc_w 266, 3) := by decide +kernel
theorem dJ6_bitCount_0f7a4_14 : decode cJ6_bitCount_0f7a4 14 = .ok (.iand, 1) := by decide +kernel
theorem dJ6_bitCount_0f7a4_15 : decode cJ6_bitCount_0f7a4 15 = .ok (.iload_n 0, 1) := by decide +kernel
theorem dJ6_bitCount_0f7a4_16 : decode cJ6_bitCount_0f7a4 16 = .ok (.iconst 2, 1) := by decide +kernel
theorem dJ6_bitCount_0f7a4_17 : decode cJ6_bitCount_0f7a4 17 = .ok (.iushr, 1) := by decide +kernel
theorem dJ6_bitCount_0f7a4_18 : decode cJ6_bitCount_0f7a4 18 = .ok (.ldc_w 266, 3) := by decide +kernel
theorem dJ6_bitCount_0f7a4_21 : decode cJ6_bitCount_0f7a4 21 = .ok (.iand, 1) := by decide +kernel
theorem dJ6_bitCount_0f7a4_22 : decode cJ6_bitCount_0f7a4 22 = .ok (.iadd, 1) := by decide +kernel
theorem dJ6_bitCount_0f7a4_23 : decode cJ6_bitCount_0f7a4 23 = .ok (.istore_n 0, 1) := by decide +kernel
theorem dJ6_bitCount_0f7a4_24 : decode cJ6_bitCount_0f7a4 24 = .ok (.iload_n 0, 1) := by decide +kernel
theorem dJ6_bitCount_0f7a4_25 : decode cJ6_bitCount_0f7a4 25 = .ok (.iload_n 0, 1) := by decide +kernel
theorem dJ6_bitCount_0f7a4_26 : decode cJ6_bitCount_0f7a4 26 = .ok (.iconst 4, 1) := by decide +kernel
theorem dJ6_bitCount_0f7a4_27 : decode cJ6_bitCount_0f7a4 27 = .ok (.iushr, 1) := by decide +kernel
theorem dJ6_bitCount_0f7a4_28 : decode cJ6_bitCount_0f7a4 28 = .ok (.iadd, 1) := by decide +kernel
theorem dJ6_bitCount_0f7a4_29 : decode cJ6_bitCount_0f7a4 29 = .ok (.ldc_w 267, 3) := by decide +kernel
theorem dJ6_bitCount_0f7a4_32 : decode cJ6_bitCount_0f7a4 32 = .ok (.iand, 1) := by decide +kernel
theorem dJ6_bitCount_0f7a4_33 : decode cJ6_bitCount_0f7a4 33 = .ok (.istore_n 0, 1) := by decide +kernel
theorem dJ6_bitCount_0f7a4_34 : decode cJ6_bitCount_0f7a4 34 = .ok (.iload_n 0, 1) := by decide +kernel
theorem dJ6_bitCount_0f7a4_35 : decode cJ6_bitCount_0f7a4 35 = .ok (.iload_n 0, 1) := by decide +kernel
theorem dJ6_bitCount_0f7a4_36 : decode cJ6_bitCount_0f7a4 36 = .ok (.bipush 8, 2) := by decide +kernel
theorem dJ6_bitCount_0f7a4_38 : decode cJ6_bitCount_0f7a4 38 = .ok (.iushr, 1) := by decide +kernel
theorem dJ6_bitCount_0f7a4_39 : decode cJ6_bitCount_0f7a4 39 = .ok (.iadd, 1) := by decide +kernel
theorem dJ6_bitCount_0f7a4_40 : decode cJ6_bitCount_0f7a4 40 = .ok (.istore_n 0, 1) := by decide +kernel
theorem dJ6_bitCount_0f7a4_41 : decode cJ6_bitCount_0f7a4 41 = .ok (.iload_n 0, 1) := by decide +kernel
theorem dJ6_bitCount_0f7a4_42 : decode cJ6_bitCount_0f7a4 42 = .ok (.iload_n 0, 1) := by decide +kernel
theorem dJ6_bitCount_0f7a4_43 : decode cJ6_bitCount_0f7a4 43 = .ok (.bipush 16, 2) := by decide +kernel
theorem dJ6_bitCount_0f7a4_45 : decode cJ6_bitCount_0f7a4 45 = .ok (.iushr, 1) := by decide +kernel
theorem dJ6_bitCount_0f7a4_46 : decode cJ6_bitCount_0f7a4 46 = .ok (.iadd, 1) := by decide +kernel
theorem dJ6_bitCount_0f7a4_47 : decode cJ6_bitCount_0f7a4 47 = .ok (.istore_n 0, 1) := by decide +kernel
theorem dJ6_bitCount_0f7a4_48 : decode cJ6_bitCount_0f7a4 48 = .ok (.iload_n 0, 1) := by decide +kernel
theorem dJ6_bitCount_0f7a4_49 : decode cJ6_bitCount_0f7a4 49 = .ok (.bipush 63, 2) := by decide +kernel
theorem dJ6_bitCount_0f7a4_51 : decode cJ6_bitCount_0f7a4 51 = .ok (.iand, 1) := by decide +kernel
theorem dJ6_bitCount_0f7a4_52 : decode cJ6_bitCount_0f7a4 52 = .ok (.ireturn, 1) := by decide +kernel
theorem dJ13_bitCount_95d88_0 : decode cJ13_bitCount_95d88 0 = .ok (.lload_n 0, 1) := by decide +kernel
theorem dJ13_bitCount_95d88_1 : decode cJ13_bitCount_95d88 1 = .ok (.lload_n 0, 1) := by decide +kernel
theorem dJ13_bitCount_95d88_2 : decode cJ13_bitCount_95d88 2 = .ok (.iconst 1, 1) := by decide +kernel
theorem dJ13_bitCount_95d88_3 : decode cJ13_bitCount_95d88 3 = .ok (.lushr, 1) := by decide +kernel
theorem dJ13_bitCount_95d88_4 : decode cJ13_bitCount_95d88 4 = .ok (.ldc2_w 314, 3) := by decide +kernel
theorem dJ13_bitCount_95d88_7 : decode cJ13_bitCount_95d88 7 = .ok (.land, 1) := by decide +kernel
theorem dJ13_bitCount_95d88_8 : decode cJ13_bitCount_95d88 8 = .ok (.lsub, 1) := by decide +kernel
theorem dJ13_bitCount_95d88_9 : decode cJ13_bitCount_95d88 9 = .ok (.lstore_n 0, 1) := by decide +kernel
theorem dJ13_bitCount_95d88_10 : decode cJ13_bitCount_95d88 10 = .ok (.lload_n 0, 1) := by decide +kernel
theorem dJ13_bitCount_95d88_11 : decode cJ13_bitCount_95d88 11 = .ok (.ldc2_w 316, 3) := by decide +kernel
theorem dJ13_bitCount_95d88_14 : decode cJ13_bitCount_95d88 14 = .ok (.land, 1) := by decide +kernel
theorem dJ13_bitCount_95d88_15 : decode cJ13_bitCount_95d88 15 = .ok (.lload_n 0, 1) := by decide +kernel
theorem dJ13_bitCount_95d88_16 : decode cJ13_bitCount_95d88 16 = .ok (.iconst 2, 1) := by decide +kernel
theorem dJ13_bitCount_95d88_17 : decode cJ13_bitCount_95d88 17 = .ok (.lushr, 1) := by decide +kernel
theorem dJ13_bitCount_95d88_18 : decode cJ13_bitCount_95d88 18 = .ok (.ldc2_w 316, 3) := by decide +kernel
theorem dJ13_bitCount_95d88_21 : decode cJ13_bitCount_95d88 21 = .ok (.land, 1) := by decide +kernel
theorem dJ13_bitCount_95d88_22 : decode cJ13_bitCount_95d88 22 = .ok (.ladd, 1) := by decide +kernel
theorem dJ13_bitCount_95d88_23 : decode cJ13_bitCount_95d88 23 = .ok (.lstore_n 0, 1) := by decide +kernel
theorem dJ13_bitCount_95d88_24 : decode cJ13_bitCount_95d88 24 = .ok (.lload_n 0, 1) := by decide +kernel
theorem dJ13_bitCount_95d88_25 : decode cJ13_bitCount_95d88 25 = .ok (.lload_n 0, 1) := by decide +kernel
theorem dJ13_bitCount_95d88_26 : decode cJ13_bitCount_95d88 26 = .ok (.iconst 4, 1) := by decide +kernel
theorem dJ13_bitCount_95d88_27 : decode cJ13_bitCount_95d88 27 = .ok (.lushr, 1) := by decide +kernel
theorem dJ13_bitCount_95d88_28 : decode cJ13_bitCount_95d88 28 = .ok (.ladd, 1) := by decide +kernel
theorem dJ13_bitCount_95d88_29 : decode cJ13_bitCount_95d88 29 = .ok (.ldc2_w 318, 3) := by decide +kernel
theorem dJ13_bitCount_95d88_32 : decode cJ13_bitCount_95d88 32 = .ok (.land, 1) := by decide +kernel
theorem dJ13_bitCount_95d88_33 : decode cJ13_bitCount_95d88 33 = .ok (.lstore_n 0, 1) := by decide +kernel
theorem dJ13_bitCount_95d88_34 : decode cJ13_bitCount_95d88 34 = .ok (.lload_n 0, 1) := by decide +kernel
theorem dJ13_bitCount_95d88_35 : decode cJ13_bitCount_95d88 35 = .ok (.lload_n 0, 1) := by decide +kernel
theorem dJ13_bitCount_95d88_36 : decode cJ13_bitCount_95d88 36 = .ok (.bipush 8, 2) := by decide +kernel
theorem dJ13_bitCount_95d88_38 : decode cJ13_bitCount_95d88 38 = .ok (.lushr, 1) := by decide +kernel
theorem dJ13_bitCount_95d88_39 : decode cJ13_bitCount_95d88 39 = .ok (.ladd, 1) := by decide +kernel
theorem dJ13_bitCount_95d88_40 : decode cJ13_bitCount_95d88 40 = .ok (.lstore_n 0, 1) := by decide +kernel
theorem dJ13_bitCount_95d88_41 : decode cJ13_bitCount_95d88 41 = .ok (.lload_n 0, 1) := by decide +kernel
theorem dJ13_bitCount_95d88_42 : decode cJ13_bitCount_95d88 42 = .ok (.lload_n 0, 1) := by decide +kernel
theorem dJ13_bitCount_95d88_43 : decode cJ13_bitCount_95d88 43 = .ok (.bipush 16, 2) := by decide +kernel
theorem dJ13_bitCount_95d88_45 : decode cJ13_bitCount_95d88 45 = .ok (.lushr, 1) := by decide +kernel
theorem dJ13_bitCount_95d88_46 : decode cJ13_bitCount_95d88 46 = .ok (.ladd, 1) := by decide +kernel
theorem dJ13_bitCount_95d88_47 : decode cJ13_bitCount_95d88 47 = .ok (.lstore_n 0, 1) := by decide +kernel
theorem dJ13_bitCount_95d88_48 : decode cJ13_bitCount_95d88 48 = .ok (.lload_n 0, 1) := by decide +kernel
theorem dJ13_bitCount_95d88_49 : decode cJ13_bitCount_95d88 49 = .ok (.lload_n 0, 1) := by decide +kernel
theorem dJ13_bitCount_95d88_50 : decode cJ13_bitCount_95d88 50 = .ok (.bipush 32, 2) := by decide +kernel
theorem dJ13_bitCount_95d88_52 : decode cJ13_bitCount_95d88 52 = .ok (.lushr, 1) := by decide +kernel
theorem dJ13_bitCount_95d88_53 : decode cJ13_bitCount_95d88 53 = .ok (.ladd, 1) := by decide +kernel
theorem dJ13_bitCount_95d88_54 : decode cJ13_bitCount_95d88 54 = .ok (.lstore_n 0, 1) := by decide +kernel
theorem dJ13_bitCount_95d88_55 : decode cJ13_bitCount_95d88 55 = .ok (.lload_n 0, 1) := by decide +kernel
theorem dJ13_bitCount_95d88_56 : decode cJ13_bitCount_95d88 56 = .ok (.l2i, 1) := by decide +kernel
theorem dJ13_bitCount_95d88_57 : decode cJ13_bitCount_95d88 57 = .ok (.bipush 127, 2) := by decide +kernel
theorem dJ13_bitCount_95d88_59 : decode cJ13_bitCount_95d88 59 = .ok (.iand, 1) := by decide +kernel
theorem dJ13_bitCount_95d88_60 : decode cJ13_bitCount_95d88 60 = .ok (.ireturn, 1) := by decide +kernel
theorem dJ9_abs_067f4_0 : decode cJ9_abs_067f4 0 = .ok (.lload_n 0, 1) := by decide +kernel
theorem dJ9_abs_067f4_1 : decode cJ9_abs_067f4 1 = .ok (.lconst 0, 1) := by decide +kernel
theorem dJ9_abs_067f4_2 : decode cJ9_abs_067f4 2 = .ok (.lcmp, 1) := by decide +kernel
theorem dJ9_abs_067f4_3 : decode cJ9_abs_067f4 3 = .ok (.ifCond .ge 8, 3) := by decide +kernel
theorem dJ9_abs_067f4_6 : decode cJ9_abs_067f4 6 = .ok (.lload_n 0, 1) := by decide +kernel
theorem dJ9_abs_067f4_7 : decode cJ9_abs_067f4 7 = .ok (.lneg, 1) := by decide +kernel
theorem dJ9_abs_067f4_8 : decode cJ9_abs_067f4 8 = .ok (.goto 4, 3) := by decide +kernel
theorem dJ9_abs_067f4_11 : decode cJ9_abs_067f4 11 = .ok (.lload_n 0, 1) := by decide +kernel
theorem dJ9_abs_067f4_12 : decode cJ9_abs_067f4 12 = .ok (.lreturn, 1) := by decide +kernel
theorem dJ9_max_7cf53_0 : decode cJ9_max_7cf53 0 = .ok (.iload_n 0, 1) := by decide +kernel
theorem dJ9_max_7cf53_1 : decode cJ9_max_7cf53 1 = .ok (.iload_n 1, 1) := by decide +kernel
theorem dJ9_max_7cf53_2 : decode cJ9_max_7cf53 2 = .ok (.if_icmp .lt 7, 3) := by decide +kernel
theorem dJ9_max_7cf53_5 : decode cJ9_max_7cf53 5 = .ok (.iload_n 0, 1) := by decide +kernel
theorem dJ9_max_7cf53_6 : decode cJ9_max_7cf53 6 = .ok (.goto 4, 3) := by decide +kernel
theorem dJ9_max_7cf53_9 : decode cJ9_max_7cf53 9 = .ok (.iload_n 1, 1) := by decide +kernel
theorem dJ9_max_7cf53_10 : decode cJ9_max_7cf53 10 = .ok (.ireturn, 1) := by decide +kernel
theorem dJ9_max_f86c9_0 : decode cJ9_max_f86c9 0 = .ok (.lload_n 0, 1) := by decide +kernel
theorem dJ9_max_f86c9_1 : decode cJ9_max_f86c9 1 = .ok (.lload_n 2, 1) := by decide +kernel
theorem dJ9_max_f86c9_2 : decode cJ9_max_f86c9 2 = .ok (.lcmp, 1) := by decide +kernel
theorem dJ9_max_f86c9_3 : decode cJ9_max_f86c9 3 = .ok (.ifCond .lt 7, 3) := by decide +kernel
theorem dJ9_max_f86c9_6 : decode cJ9_max_f86c9 6 = .ok (.lload_n 0, 1) := by decide +kernel
theorem dJ9_max_f86c9_7 : decode cJ9_max_f86c9 7 = .ok (.goto 4, 3) := by decide +kernel
theorem dJ9_max_f86c9_10 : decode cJ9_max_f86c9 10 = .ok (.lload_n 2, 1) := by decide +kernel
theorem dJ9_max_f86c9_11 : decode cJ9_max_f86c9 11 = .ok (.lreturn, 1) := by decide +kernel
theorem dJ9_min_7cf53_0 : decode cJ9_min_7cf53 0 = .ok (.iload_n 0, 1) := by decide +kernel
theorem dJ9_min_7cf53_1 : decode cJ9_min_7cf53 1 = .ok (.iload_n 1, 1) := by decide +kernel
theorem dJ9_min_7cf53_2 : decode cJ9_min_7cf53 2 = .ok (.if_icmp .gt 7, 3) := by decide +kernel
theorem dJ9_min_7cf53_5 : decode cJ9_min_7cf53 5 = .ok (.iload_n 0, 1) := by decide +kernel
theorem dJ9_min_7cf53_6 : decode cJ9_min_7cf53 6 = .ok (.goto 4, 3) := by decide +kernel
theorem dJ9_min_7cf53_9 : decode cJ9_min_7cf53 9 = .ok (.iload_n 1, 1) := by decide +kernel
theorem dJ9_min_7cf53_10 : decode cJ9_min_7cf53 10 = .ok (.ireturn, 1) := by decide +kernel
theorem dJ7_fill_53178_0 : decode cJ7_fill_53178 0 = .ok (.iconst 0, 1) := by decide +kernel
theorem dJ7_fill_53178_1 : decode cJ7_fill_53178 1 = .ok (.istore_n 2, 1) := by decide +kernel
theorem dJ7_fill_53178_2 : decode cJ7_fill_53178 2 = .ok (.aload_n 0, 1) := by decide +kernel
theorem dJ7_fill_53178_3 : decode cJ7_fill_53178 3 = .ok (.arraylength, 1) := by decide +kernel
theorem dJ7_fill_53178_4 : decode cJ7_fill_53178 4 = .ok (.istore_n 3, 1) := by decide +kernel
theorem dJ7_fill_53178_5 : decode cJ7_fill_53178 5 = .ok (.iload_n 2, 1) := by decide +kernel
theorem dJ7_fill_53178_6 : decode cJ7_fill_53178 6 = .ok (.iload_n 3, 1) := by decide +kernel
theorem dJ7_fill_53178_7 : decode cJ7_fill_53178 7 = .ok (.if_icmp .ge 13, 3) := by decide +kernel
theorem dJ7_fill_53178_10 : decode cJ7_fill_53178 10 = .ok (.aload_n 0, 1) := by decide +kernel
theorem dJ7_fill_53178_11 : decode cJ7_fill_53178 11 = .ok (.iload_n 2, 1) := by decide +kernel
theorem dJ7_fill_53178_12 : decode cJ7_fill_53178 12 = .ok (.iload_n 1, 1) := by decide +kernel
theorem dJ7_fill_53178_13 : decode cJ7_fill_53178 13 = .ok (.iastore, 1) := by decide +kernel
theorem dJ7_fill_53178_14 : decode cJ7_fill_53178 14 = .ok (.iinc 2 1, 3) := by decide +kernel
theorem dJ7_fill_53178_17 : decode cJ7_fill_53178 17 = .ok (.goto (-12), 3) := by decide +kernel
theorem dJ7_fill_53178_20 : decode cJ7_fill_53178 20 = .ok (.return_, 1) := by decide +kernel
theorem dL_law_0 : decode cL_law 0 = .ok (.new 7, 3) := by decide +kernel
theorem dL_law_3 : decode cL_law 3 = .ok (.dup, 1) := by decide +kernel
theorem dL_law_4 : decode cL_law 4 = .ok (.invokespecial 9, 3) := by decide +kernel
theorem dL_law_7 : decode cL_law 7 = .ok (.astore_n 1, 1) := by decide +kernel
theorem dL_law_8 : decode cL_law 8 = .ok (.new 10, 3) := by decide +kernel
theorem dL_law_11 : decode cL_law 11 = .ok (.dup, 1) := by decide +kernel
theorem dL_law_12 : decode cL_law 12 = .ok (.invokespecial 12, 3) := by decide +kernel
theorem dL_law_15 : decode cL_law 15 = .ok (.astore_n 2, 1) := by decide +kernel
theorem dL_law_16 : decode cL_law 16 = .ok (.iconst 0, 1) := by decide +kernel
theorem dL_law_17 : decode cL_law 17 = .ok (.istore_n 3, 1) := by decide +kernel
theorem dL_law_18 : decode cL_law 18 = .ok (.iload_n 3, 1) := by decide +kernel
theorem dL_law_19 : decode cL_law 19 = .ok (.aload_n 0, 1) := by decide +kernel
theorem dL_law_20 : decode cL_law 20 = .ok (.arraylength, 1) := by decide +kernel
theorem dL_law_21 : decode cL_law 21 = .ok (.iconst 5, 1) := by decide +kernel
theorem dL_law_22 : decode cL_law 22 = .ok (.isub, 1) := by decide +kernel
theorem dL_law_23 : decode cL_law 23 = .ok (.if_icmp .gt 914, 3) := by decide +kernel
theorem dL_law_26 : decode cL_law 26 = .ok (.aload_n 0, 1) := by decide +kernel
theorem dL_law_27 : decode cL_law 27 = .ok (.iload_n 3, 1) := by decide +kernel
theorem dL_law_28 : decode cL_law 28 = .ok (.iaload, 1) := by decide +kernel
theorem dL_law_29 : decode cL_law 29 = .ok (.bipush 31, 2) := by decide +kernel
theorem dL_law_31 : decode cL_law 31 = .ok (.iand, 1) := by decide +kernel
theorem dL_law_32 : decode cL_law 32 = .ok (.tableswitch 899 0 25 #[120, 163, 186, 229, 262, 311, 344, 357, 401, 455, 489, 523, 546, 580, 603, 636, 669, 692, 715, 728, 741, 754, 787, 810, 843, 876], 120) := by decide +kernel
theorem dL_law_152 : decode cL_law 152 = .ok (.aload_n 1, 1) := by decide +kernel
theorem dL_law_153 : decode cL_law 153 = .ok (.aload_n 0, 1) := by decide +kernel
theorem dL_law_154 : decode cL_law 154 = .ok (.iload_n 3, 1) := by decide +kernel
theorem dL_law_155 : decode cL_law 155 = .ok (.iconst 1, 1) := by decide +kernel
theorem dL_law_156 : decode cL_law 156 = .ok (.iadd, 1) := by decide +kernel
theorem dL_law_157 : decode cL_law 157 = .ok (.iaload, 1) := by decide +kernel
theorem dL_law_158 : decode cL_law 158 = .ok (.aload_n 0, 1) := by decide +kernel
theorem dL_law_159 : decode cL_law 159 = .ok (.iload_n 3, 1) := by decide +kernel
theorem dL_law_160 : decode cL_law 160 = .ok (.iconst 2, 1) := by decide +kernel
theorem dL_law_161 : decode cL_law 161 = .ok (.iadd, 1) := by decide +kernel
theorem dL_law_162 : decode cL_law 162 = .ok (.iaload, 1) := by decide +kernel
theorem dL_law_163 : decode cL_law 163 = .ok (.aload_n 0, 1) := by decide +kernel
theorem dL_law_164 : decode cL_law 164 = .ok (.iload_n 3, 1) := by decide +kernel
theorem dL_law_165 : decode cL_law 165 = .ok (.iconst 3, 1) := by decide +kernel
theorem dL_law_166 : decode cL_law 166 = .ok (.iadd, 1) := by decide +kernel
theorem dL_law_167 : decode cL_law 167 = .ok (.iaload, 1) := by decide +kernel
theorem dL_law_168 : decode cL_law 168 = .ok (.invokevirtual 13, 3) := by decide +kernel
theorem dL_law_171 : decode cL_law 171 = .ok (.aload_n 2, 1) := by decide +kernel
theorem dL_law_172 : decode cL_law 172 = .ok (.aload_n 0, 1) := by decide +kernel
theorem dL_law_173 : decode cL_law 173 = .ok (.iload_n 3, 1) := by decide +kernel
theorem dL_law_174 : decode cL_law 174 = .ok (.iconst 1, 1) := by decide +kernel
theorem dL_law_175 : decode cL_law 175 = .ok (.iadd, 1) := by decide +kernel
theorem dL_law_176 : decode cL_law 176 = .ok (.iaload, 1) := by decide +kernel
theorem dL_law_177 : decode cL_law 177 = .ok (.aload_n 0, 1) := by decide +kernel
theorem dL_law_178 : decode cL_law 178 = .ok (.iload_n 3, 1) := by decide +kernel
theorem dL_law_179 : decode cL_law 179 = .ok (.iconst 2, 1) := by decide +kernel
theorem dL_law_180 : decode cL_law 180 = .ok (.iadd, 1) := by decide +kernel
theorem dL_law_181 : decode cL_law 181 = .ok (.iaload, 1) := by decide +kernel
theorem dL_law_182 : decode cL_law 182 = .ok (.aload_n 0, 1) := by decide +kernel
theorem dL_law_183 : decode cL_law 183 = .ok (.iload_n 3, 1) := by decide +kernel
theorem dL_law_184 : decode cL_law 184 = .ok (.iconst 3, 1) := by decide +kernel
theorem dL_law_185 : decode cL_law 185 = .ok (.iadd, 1) := by decide +kernel
theorem dL_law_186 : decode cL_law 186 = .ok (.iaload, 1) := by decide +kernel
theorem dL_law_187 : decode cL_law 187 = .ok (.invokevirtual 17, 3) := by decide +kernel
theorem dL_law_190 : decode cL_law 190 = .ok (.if_icmp .eq 741, 3) := by decide +kernel
theorem dL_law_193 : decode cL_law 193 = .ok (.iconst 0, 1) := by decide +kernel
theorem dL_law_194 : decode cL_law 194 = .ok (.ireturn, 1) := by decide +kernel
theorem dL_law_195 : decode cL_law 195 = .ok (.aload_n 1, 1) := by decide +kernel
theorem dL_law_196 : decode cL_law 196 = .ok (.aload_n 0, 1) := by decide +kernel
theorem dL_law_197 : decode cL_law 197 = .ok (.iload_n 3, 1) := by decide +kernel
theorem dL_law_198 : decode cL_law 198 = .ok (.iconst 1, 1) := by decide +kernel
theorem dL_law_199 : decode cL_law 199 = .ok (.iadd, 1) := by decide +kernel
theorem dL_law_200 : decode cL_law 200 = .ok (.iaload, 1) := by decide +kernel
theorem dL_law_201 : decode cL_law 201 = .ok (.invokevirtual 18, 3) := by decide +kernel
theorem dL_law_204 : decode cL_law 204 = .ok (.aload_n 2, 1) := by decide +kernel
theorem dL_law_205 : decode cL_law 205 = .ok (.aload_n 0, 1) := by decide +kernel
theorem dL_law_206 : decode cL_law 206 = .ok (.iload_n 3, 1) := by decide +kernel
theorem dL_law_207 : decode cL_law 207 = .ok (.iconst 1, 1) := by decide +kernel
theorem dL_law_208 : decode cL_law 208 = .ok (.iadd, 1) := by decide +kernel
theorem dL_law_209 : decode cL_law 209 = .ok (.iaload, 1) := by decide +kernel
theorem dL_law_210 : decode cL_law 210 = .ok (.invokevirtual 22, 3) := by decide +kernel
theorem dL_law_213 : decode cL_law 213 = .ok (.if_icmp .eq 718, 3) := by decide +kernel
theorem dL_law_216 : decode cL_law 216 = .ok (.iconst 0, 1) := by decide +kernel
theorem dL_law_217 : decode cL_law 217 = .ok (.ireturn, 1) := by decide +kernel
theorem dL_law_218 : decode cL_law 218 = .ok (.aload_n 1, 1) := by decide +kernel
theorem dL_law_219 : decode cL_law 219 = .ok (.aload_n 0, 1) := by decide +kernel
theorem dL_law_220 : decode cL_law 220 = .ok (.iload_n 3, 1) := by decide +kernel
theorem dL_law_221 : decode cL_law 221 = .ok (.iconst 1, 1) := by decide +kernel
theorem dL_law_222 : decode cL_law 222 = .ok (.iadd, 1) := by decide +kernel
theorem dL_law_223 : decode cL_law 223 = .ok (.iaload, 1) := by decide +kernel
theorem dL_law_224 : decode cL_law 224 = .ok (.aload_n 0, 1) := by decide +kernel
theorem dL_law_225 : decode cL_law 225 = .ok (.iload_n 3, 1) := by decide +kernel
theorem dL_law_226 : decode cL_law 226 = .ok (.iconst 2, 1) := by decide +kernel
theorem dL_law_227 : decode cL_law 227 = .ok (.iadd, 1) := by decide +kernel
theorem dL_law_228 : decode cL_law 228 = .ok (.iaload, 1) := by decide +kernel
theorem dL_law_229 : decode cL_law 229 = .ok (.aload_n 0, 1) := by decide +kernel
theorem dL_law_230 : decode cL_law 230 = .ok (.iload_n 3, 1) := by decide +kernel
theorem dL_law_231 : decode cL_law 231 = .ok (.iconst 3, 1) := by decide +kernel
theorem dL_law_232 : decode cL_law 232 = .ok (.iadd, 1) := by decide +kernel
theorem dL_law_233 : decode cL_law 233 = .ok (.iaload, 1) := by decide +kernel
theorem dL_law_234 : decode cL_law 234 = .ok (.invokevirtual 23, 3) := by decide +kernel
theorem dL_law_237 : decode cL_law 237 = .ok (.aload_n 2, 1) := by decide +kernel
theorem dL_law_238 : decode cL_law 238 = .ok (.aload_n 0, 1) := by decide +kernel
theorem dL_law_239 : decode cL_law 239 = .ok (.iload_n 3, 1) := by decide +kernel
theorem dL_law_240 : decode cL_law 240 = .ok (.iconst 1, 1) := by decide +kernel
theorem dL_law_241 : decode cL_law 241 = .ok (.iadd, 1) := by decide +kernel
theorem dL_law_242 : decode cL_law 242 = .ok (.iaload, 1) := by decide +kernel
theorem dL_law_243 : decode cL_law 243 = .ok (.aload_n 0, 1) := by decide +kernel
theorem dL_law_244 : decode cL_law 244 = .ok (.iload_n 3, 1) := by decide +kernel
theorem dL_law_245 : decode cL_law 245 = .ok (.iconst 2, 1) := by decide +kernel
theorem dL_law_246 : decode cL_law 246 = .ok (.iadd, 1) := by decide +kernel
theorem dL_law_247 : decode cL_law 247 = .ok (.iaload, 1) := by decide +kernel
theorem dL_law_248 : decode cL_law 248 = .ok (.aload_n 0, 1) := by decide +kernel
theorem dL_law_249 : decode cL_law 249 = .ok (.iload_n 3, 1) := by decide +kernel
theorem dL_law_250 : decode cL_law 250 = .ok (.iconst 3, 1) := by decide +kernel
theorem dL_law_251 : decode cL_law 251 = .ok (.iadd, 1) := by decide +kernel
theorem dL_law_252 : decode cL_law 252 = .ok (.iaload, 1) := by decide +kernel
theorem dL_law_253 : decode cL_law 253 = .ok (.invokevirtual 26, 3) := by decide +kernel
theorem dL_law_256 : decode cL_law 256 = .ok (.if_icmp .eq 675, 3) := by decide +kernel
theorem dL_law_259 : decode cL_law 259 = .ok (.iconst 0, 1) := by decide +kernel
theorem dL_law_260 : decode cL_law 260 = .ok (.ireturn, 1) := by decide +kernel
theorem dL_law_261 : decode cL_law 261 = .ok (.aload_n 1, 1) := by decide +kernel
theorem dL_law_262 : decode cL_law 262 = .ok (.aload_n 0, 1) := by decide +kernel
theorem dL_law_263 : decode cL_law 263 = .ok (.iload_n 3, 1) := by decide +kernel
theorem dL_law_264 : decode cL_law 264 = .ok (.iconst 1, 1) := by decide +kernel
theorem dL_law_265 : decode cL_law 265 = .ok (.iadd, 1) := by decide +kernel
theorem dL_law_266 : decode cL_law 266 = .ok (.iaload, 1) := by decide +kernel
theorem dL_law_267 : decode cL_law 267 = .ok (.aload_n 0, 1) := by decide +kernel
theorem dL_law_268 : decode cL_law 268 = .ok (.iload_n 3, 1) := by decide +kernel
theorem dL_law_269 : decode cL_law 269 = .ok (.iconst 2, 1) := by decide +kernel
theorem dL_law_270 : decode cL_law 270 = .ok (.iadd, 1) := by decide +kernel
theorem dL_law_271 : decode cL_law 271 = .ok (.iaload, 1) := by decide +kernel
theorem dL_law_272 : decode cL_law 272 = .ok (.invokevirtual 27, 3) := by decide +kernel
theorem dL_law_275 : decode cL_law 275 = .ok (.aload_n 2, 1) := by decide +kernel
theorem dL_law_276 : decode cL_law 276 = .ok (.aload_n 0, 1) := by decide +kernel
theorem dL_law_277 : decode cL_law 277 = .ok (.iload_n 3, 1) := by decide +kernel
theorem dL_law_278 : decode cL_law 278 = .ok (.iconst 1, 1) := by decide +kernel
theorem dL_law_279 : decode cL_law 279 = .ok (.iadd, 1) := by decide +kernel
theorem dL_law_280 : decode cL_law 280 = .ok (.iaload, 1) := by decide +kernel
theorem dL_law_281 : decode cL_law 281 = .ok (.aload_n 0, 1) := by decide +kernel
theorem dL_law_282 : decode cL_law 282 = .ok (.iload_n 3, 1) := by decide +kernel
theorem dL_law_283 : decode cL_law 283 = .ok (.iconst 2, 1) := by decide +kernel
theorem dL_law_284 : decode cL_law 284 = .ok (.iadd, 1) := by decide +kernel
theorem dL_law_285 : decode cL_law 285 = .ok (.iaload, 1) := by decide +kernel
theorem dL_law_286 : decode cL_law 286 = .ok (.invokevirtual 31, 3) := by decide +kernel
theorem dL_law_289 : decode cL_law 289 = .ok (.if_icmp .eq 642, 3) := by decide +kernel
theorem dL_law_292 : decode cL_law 292 = .ok (.iconst 0, 1) := by decide +kernel
theorem dL_law_293 : decode cL_law 293 = .ok (.ireturn, 1) := by decide +kernel
theorem dL_law_294 : decode cL_law 294 = .ok (.aload_n 1, 1) := by decide +kernel
theorem dL_law_295 : decode cL_law 295 = .ok (.aload_n 0, 1) := by decide +kernel
theorem dL_law_296 : decode cL_law 296 = .ok (.iload_n 3, 1) := by decide +kernel
theorem dL_law_297 : decode cL_law 297 = .ok (.iconst 1, 1) := by decide +kernel
theorem dL_law_298 : decode cL_law 298 = .ok (.iadd, 1) := by decide +kernel
theorem dL_law_299 : decode cL_law 299 = .ok (.iaload, 1) := by decide +kernel
theorem dL_law_300 : decode cL_law 300 = .ok (.aload_n 0, 1) := by decide +kernel
theorem dL_law_301 : decode cL_law 301 = .ok (.iload_n 3, 1) := by decide +kernel
theorem dL_law_302 : decode cL_law 302 = .ok (.iconst 2, 1) := by decide +kernel
theorem dL_law_303 : decode cL_law 303 = .ok (.iadd, 1) := by decide +kernel
theorem dL_law_304 : decode cL_law 304 = .ok (.iaload, 1) := by decide +kernel
theorem dL_law_305 : decode cL_law 305 = .ok (.ifCond .eq 7, 3) := by decide +kernel
theorem dL_law_308 : decode cL_law 308 = .ok (.iconst 1, 1) := by decide +kernel
theorem dL_law_309 : decode cL_law 309 = .ok (.goto 4, 3) := by decide +kernel
theorem dL_law_312 : decode cL_law 312 = .ok (.iconst 0, 1) := by decide +kernel
theorem dL_law_313 : decode cL_law 313 = .ok (.invokevirtual 32, 3) := by decide +kernel
theorem dL_law_316 : decode cL_law 316 = .ok (.aload_n 2, 1) := by decide +kernel
theorem dL_law_317 : decode cL_law 317 = .ok (.aload_n 0, 1) := by decide +kernel
theorem dL_law_318 : decode cL_law 318 = .ok (.iload_n 3, 1) := by decide +kernel
theorem dL_law_319 : decode cL_law 319 = .ok (.iconst 1, 1) := by decide +kernel
theorem dL_law_320 : decode cL_law 320 = .ok (.iadd, 1) := by decide +kernel
theorem dL_law_321 : decode cL_law 321 = .ok (.iaload, 1) := by decide +kernel
theorem dL_law_322 : decode cL_law 322 = .ok (.aload_n 0, 1) := by decide +kernel
theorem dL_law_323 : decode cL_law 323 = .ok (.iload_n 3, 1) := by decide +kernel
theorem dL_law_324 : decode cL_law 324 = .ok (.iconst 2, 1) := by decide +kernel
theorem dL_law_325 : decode cL_law 325 = .ok (.iadd, 1) := by decide +kernel
theorem dL_law_326 : decode cL_law 326 = .ok (.iaload, 1) := by decide +kernel
theorem dL_law_327 : decode cL_law 327 = .ok (.ifCond .eq 7, 3) := by decide +kernel
theorem dL_law_330 : decode cL_law 330 = .ok (.iconst 1, 1) := by decide +kernel
theorem dL_law_331 : decode cL_law 331 = .ok (.goto 4, 3) := by decide +kernel
theorem dL_law_334 : decode cL_law 334 = .ok (.iconst 0, 1) := by decide +kernel
theorem dL_law_335 : decode cL_law 335 = .ok (.invokevirtual 36, 3) := by decide +kernel
theorem dL_law_338 : decode cL_law 338 = .ok (.if_icmp .eq 593, 3) := by decide +kernel
theorem dL_law_341 : decode cL_law 341 = .ok (.iconst 0, 1) := by decide +kernel
theorem dL_law_342 : decode cL_law 342 = .ok (.ireturn, 1) := by decide +kernel
theorem dL_law_343 : decode cL_law 343 = .ok (.aload_n 1, 1) := by decide +kernel
theorem dL_law_344 : decode cL_law 344 = .ok (.aload_n 0, 1) := by decide +kernel
theorem dL_law_345 : decode cL_law 345 = .ok (.iload_n 3, 1) := by decide +kernel
theorem dL_law_346 : decode cL_law 346 = .ok (.iconst 1, 1) := by decide +kernel
theorem dL_law_347 : decode cL_law 347 = .ok (.iadd, 1) := by decide +kernel
theorem dL_law_348 : decode cL_law 348 = .ok (.iaload, 1) := by decide +kernel
theorem dL_law_349 : decode cL_law 349 = .ok (.aload_n 0, 1) := by decide +kernel
theorem dL_law_350 : decode cL_law 350 = .ok (.iload_n 3, 1) := by decide +kernel
theorem dL_law_351 : decode cL_law 351 = .ok (.iconst 2, 1) := by decide +kernel
theorem dL_law_352 : decode cL_law 352 = .ok (.iadd, 1) := by decide +kernel
theorem dL_law_353 : decode cL_law 353 = .ok (.iaload, 1) := by decide +kernel
theorem dL_law_354 : decode cL_law 354 = .ok (.invokevirtual 37, 3) := by decide +kernel
theorem dL_law_357 : decode cL_law 357 = .ok (.aload_n 2, 1) := by decide +kernel
theorem dL_law_358 : decode cL_law 358 = .ok (.aload_n 0, 1) := by decide +kernel
theorem dL_law_359 : decode cL_law 359 = .ok (.iload_n 3, 1) := by decide +kernel
theorem dL_law_360 : decode cL_law 360 = .ok (.iconst 1, 1) := by decide +kernel
theorem dL_law_361 : decode cL_law 361 = .ok (.iadd, 1) := by decide +kernel
theorem dL_law_362 : decode cL_law 362 = .ok (.iaload, 1) := by decide +kernel
theorem dL_law_363 : decode cL_law 363 = .ok (.aload_n 0, 1) := by decide +kernel
theorem dL_law_364 : decode cL_law 364 = .ok (.iload_n 3, 1) := by decide +kernel
theorem dL_law_365 : decode cL_law 365 = .ok (.iconst 2, 1) := by decide +kernel
theorem dL_law_366 : decode cL_law 366 = .ok (.iadd, 1) := by decide +kernel
theorem dL_law_367 : decode cL_law 367 = .ok (.iaload, 1) := by decide +kernel
theorem dL_law_368 : decode cL_law 368 = .ok (.invokevirtual 40, 3) := by decide +kernel
theorem dL_law_371 : decode cL_law 371 = .ok (.if_icmp .eq 560, 3) := by decide +kernel
theorem dL_law_374 : decode cL_law 374 = .ok (.iconst 0, 1) := by decide +kernel
theorem dL_law_375 : decode cL_law 375 = .ok (.ireturn, 1) := by decide +kernel
theorem dL_law_376 : decode cL_law 376 = .ok (.aload_n 1, 1) := by decide +kernel
theorem dL_law_377 : decode cL_law 377 = .ok (.invokevirtual 41, 3) := by decide +kernel
theorem dL_law_380 : decode cL_law 380 = .ok (.aload_n 2, 1) := by decide +kernel
theorem dL_law_381 : decode cL_law 381 = .ok (.invokevirtual 45, 3) := by decide +kernel
theorem dL_law_384 : decode cL_law 384 = .ok (.if_icmp .eq 547, 3) := by decide +kernel
theorem dL_law_387 : decode cL_law 387 = .ok (.iconst 0, 1) := by decide +kernel
theorem dL_law_388 : decode cL_law 388 = .ok (.ireturn, 1) := by decide +kernel
theorem dL_law_389 : decode cL_law 389 = .ok (.aload_n 1, 1) := by decide +kernel
theorem dL_law_390 : decode cL_law 390 = .ok (.aload_n 0, 1) := by decide +kernel
theorem dL_law_391 : decode cL_law 391 = .ok (.iload_n 3, 1) := by decide +kernel
theorem dL_law_392 : decode cL_law 392 = .ok (.iconst 1, 1) := by decide +kernel
theorem dL_law_393 : decode cL_law 393 = .ok (.iadd, 1) := by decide +kernel
theorem dL_law_394 : decode cL_law 394 = .ok (.iaload, 1) := by decide +kernel
theorem dL_law_395 : decode cL_law 395 = .ok (.aload_n 0, 1) := by decide +kernel
theorem dL_law_396 : decode cL_law 396 = .ok (.iload_n 3, 1) := by decide +kernel
theorem dL_law_397 : decode cL_law 397 = .ok (.iconst 2, 1) := by decide +kernel
theorem dL_law_398 : decode cL_law 398 = .ok (.iadd, 1) := by decide +kernel
theorem dL_law_399 : decode cL_law 399 = .ok (.iaload, 1) := by decide +kernel
theorem dL_law_400 : decode cL_law 400 = .ok (.aload_n 0, 1) := by decide +kernel
theorem dL_law_401 : decode cL_law 401 = .ok (.iload_n 3, 1) := by decide +kernel
theorem dL_law_402 : decode cL_law 402 = .ok (.iconst 3, 1) := by decide +kernel
theorem dL_law_403 : decode cL_law 403 = .ok (.iadd, 1) := by decide +kernel
theorem dL_law_404 : decode cL_law 404 = .ok (.iaload, 1) := by decide +kernel
theorem dL_law_405 : decode cL_law 405 = .ok (.invokevirtual 46, 3) := by decide +kernel
theorem dL_law_408 : decode cL_law 408 = .ok (.aload_n 2, 1) := by decide +kernel
theorem dL_law_409 : decode cL_law 409 = .ok (.aload_n 0, 1) := by decide +kernel
theorem dL_law_410 : decode cL_law 410 = .ok (.iload_n 3, 1) := by decide +kernel
theorem dL_law_411 : decode cL_law 411 = .ok (.iconst 1, 1) := by decide +kernel
theorem dL_law_412 : decode cL_law 412 = .ok (.iadd, 1) := by decide +kernel
theorem dL_law_413 : decode cL_law 413 = .ok (.iaload, 1) := by decide +kernel
theorem dL_law_414 : decode cL_law 414 = .ok (.aload_n 0, 1) := by decide +kernel
theorem dL_law_415 : decode cL_law 415 = .ok (.iload_n 3, 1) := by decide +kernel
theorem dL_law_416 : decode cL_law 416 = .ok (.iconst 2, 1) := by decide +kernel
theorem dL_law_417 : decode cL_law 417 = .ok (.iadd, 1) := by decide +kernel
theorem dL_law_418 : decode cL_law 418 = .ok (.iaload, 1) := by decide +kernel
theorem dL_law_419 : decode cL_law 419 = .ok (.aload_n 0, 1) := by decide +kernel
theorem dL_law_420 : decode cL_law 420 = .ok (.iload_n 3, 1) := by decide +kernel
theorem dL_law_421 : decode cL_law 421 = .ok (.iconst 3, 1) := by decide +kernel
theorem dL_law_422 : decode cL_law 422 = .ok (.iadd, 1) := by decide +kernel
theorem dL_law_423 : decode cL_law 423 = .ok (.iaload, 1) := by decide +kernel
theorem dL_law_424 : decode cL_law 424 = .ok (.invokevirtual 50, 3) := by decide +kernel
theorem dL_law_427 : decode cL_law 427 = .ok (.lcmp, 1) := by decide +kernel
theorem dL_law_428 : decode cL_law 428 = .ok (.ifCond .eq 503, 3) := by decide +kernel
theorem dL_law_431 : decode cL_law 431 = .ok (.iconst 0, 1) := by decide +kernel
theorem dL_law_432 : decode cL_law 432 = .ok (.ireturn, 1) := by decide +kernel
theorem dL_law_433 : decode cL_law 433 = .ok (.aload_n 1, 1) := by decide +kernel
theorem dL_law_434 : decode cL_law 434 = .ok (.aload_n 0, 1) := by decide +kernel
theorem dL_law_435 : decode cL_law 435 = .ok (.iload_n 3, 1) := by decide +kernel
theorem dL_law_436 : decode cL_law 436 = .ok (.iconst 1, 1) := by decide +kernel
theorem dL_law_437 : decode cL_law 437 = .ok (.iadd, 1) := by decide +kernel
theorem dL_law_438 : decode cL_law 438 = .ok (.iaload, 1) := by decide +kernel
theorem dL_law_439 : decode cL_law 439 = .ok (.aload_n 0, 1) := by decide +kernel
theorem dL_law_440 : decode cL_law 440 = .ok (.iload_n 3, 1) := by decide +kernel
theorem dL_law_441 : decode cL_law 441 = .ok (.iconst 2, 1) := by decide +kernel
theorem dL_law_442 : decode cL_law 442 = .ok (.iadd, 1) := by decide +kernel
theorem dL_law_443 : decode cL_law 443 = .ok (.iaload, 1) := by decide +kernel
theorem dL_law_444 : decode cL_law 444 = .ok (.aload_n 0, 1) := by decide +kernel
theorem dL_law_445 : decode cL_law 445 = .ok (.iload_n 3, 1) := by decide +kernel
theorem dL_law_446 : decode cL_law 446 = .ok (.iconst 3, 1) := by decide +kernel
theorem dL_law_447 : decode cL_law 447 = .ok (.iadd, 1) := by decide +kernel
theorem dL_law_448 : decode cL_law 448 = .ok (.iaload, 1) := by decide +kernel
theorem dL_law_449 : decode cL_law 449 = .ok (.aload_n 0, 1) := by decide +kernel
theorem dL_law_450 : decode cL_law 450 = .ok (.iload_n 3, 1) := by decide +kernel
theorem dL_law_451 : decode cL_law 451 = .ok (.iconst 4, 1) := by decide +kernel
theorem dL_law_452 : decode cL_law 452 = .ok (.iadd, 1) := by decide +kernel
theorem dL_law_453 : decode cL_law 453 = .ok (.iaload, 1) := by decide +kernel
theorem dL_law_454 : decode cL_law 454 = .ok (.invokevirtual 51, 3) := by decide +kernel
theorem dL_law_457 : decode cL_law 457 = .ok (.aload_n 2, 1) := by decide +kernel
theorem dL_law_458 : decode cL_law 458 = .ok (.aload_n 0, 1) := by decide +kernel
theorem dL_law_459 : decode cL_law 459 = .ok (.iload_n 3, 1) := by decide +kernel
theorem dL_law_460 : decode cL_law 460 = .ok (.iconst 1, 1) := by decide +kernel
theorem dL_law_461 : decode cL_law 461 = .ok (.iadd, 1) := by decide +kernel
theorem dL_law_462 : decode cL_law 462 = .ok (.iaload, 1) := by decide +kernel
theorem dL_law_463 : decode cL_law 463 = .ok (.aload_n 0, 1) := by decide +kernel
theorem dL_law_464 : decode cL_law 464 = .ok (.iload_n 3, 1) := by decide +kernel
theorem dL_law_465 : decode cL_law 465 = .ok (.iconst 2, 1) := by decide +kernel
theorem dL_law_466 : decode cL_law 466 = .ok (.iadd, 1) := by decide +kernel
theorem dL_law_467 : decode cL_law 467 = .ok (.iaload, 1) := by decide +kernel
theorem dL_law_468 : decode cL_law 468 = .ok (.aload_n 0, 1) := by decide +kernel
theorem dL_law_469 : decode cL_law 469 = .ok (.iload_n 3, 1) := by decide +kernel
theorem dL_law_470 : decode cL_law 470 = .ok (.iconst 3, 1) := by decide +kernel
theorem dL_law_471 : decode cL_law 471 = .ok (.iadd, 1) := by decide +kernel
theorem dL_law_472 : decode cL_law 472 = .ok (.iaload, 1) := by decide +kernel
theorem dL_law_473 : decode cL_law 473 = .ok (.aload_n 0, 1) := by decide +kernel
theorem dL_law_474 : decode cL_law 474 = .ok (.iload_n 3, 1) := by decide +kernel
theorem dL_law_475 : decode cL_law 475 = .ok (.iconst 4, 1) := by decide +kernel
theorem dL_law_476 : decode cL_law 476 = .ok (.iadd, 1) := by decide +kernel
theorem dL_law_477 : decode cL_law 477 = .ok (.iaload, 1) := by decide +kernel
theorem dL_law_478 : decode cL_law 478 = .ok (.invokevirtual 55, 3) := by decide +kernel
theorem dL_law_481 : decode cL_law 481 = .ok (.lcmp, 1) := by decide +kernel
theorem dL_law_482 : decode cL_law 482 = .ok (.ifCond .eq 449, 3) := by decide +kernel
theorem dL_law_485 : decode cL_law 485 = .ok (.iconst 0, 1) := by decide +kernel
theorem dL_law_486 : decode cL_law 486 = .ok (.ireturn, 1) := by decide +kernel
theorem dL_law_487 : decode cL_law 487 = .ok (.aload_n 1, 1) := by decide +kernel
theorem dL_law_488 : decode cL_law 488 = .ok (.aload_n 0, 1) := by decide +kernel
theorem dL_law_489 : decode cL_law 489 = .ok (.iload_n 3, 1) := by decide +kernel
theorem dL_law_490 : decode cL_law 490 = .ok (.iconst 1, 1) := by decide +kernel
theorem dL_law_491 : decode cL_law 491 = .ok (.iadd, 1) := by decide +kernel
theorem dL_law_492 : decode cL_law 492 = .ok (.iaload, 1) := by decide +kernel
theorem dL_law_493 : decode cL_law 493 = .ok (.aload_n 0, 1) := by decide +kernel
theorem dL_law_494 : decode cL_law 494 = .ok (.iload_n 3, 1) := by decide +kernel
theorem dL_law_495 : decode cL_law 495 = .ok (.iconst 2, 1) := by decide +kernel
theorem dL_law_496 : decode cL_law 496 = .ok (.iadd, 1) := by decide +kernel
theorem dL_law_497 : decode cL_law 497 = .ok (.iaload, 1) := by decide +kernel
theorem dL_law_498 : decode cL_law 498 = .ok (.invokevirtual 56, 3) := by decide +kernel
theorem dL_law_501 : decode cL_law 501 = .ok (.aload_n 2, 1) := by decide +kernel
theorem dL_law_502 : decode cL_law 502 = .ok (.aload_n 0, 1) := by decide +kernel
theorem dL_law_503 : decode cL_law 503 = .ok (.iload_n 3, 1) := by decide +kernel
theorem dL_law_504 : decode cL_law 504 = .ok (.iconst 1, 1) := by decide +kernel
theorem dL_law_505 : decode cL_law 505 = .ok (.iadd, 1) := by decide +kernel
theorem dL_law_506 : decode cL_law 506 = .ok (.iaload, 1) := by decide +kernel
theorem dL_law_507 : decode cL_law 507 = .ok (.aload_n 0, 1) := by decide +kernel
theorem dL_law_508 : decode cL_law 508 = .ok (.iload_n 3, 1) := by decide +kernel
theorem dL_law_509 : decode cL_law 509 = .ok (.iconst 2, 1) := by decide +kernel
theorem dL_law_510 : decode cL_law 510 = .ok (.iadd, 1) := by decide +kernel
theorem dL_law_511 : decode cL_law 511 = .ok (.iaload, 1) := by decide +kernel
theorem dL_law_512 : decode cL_law 512 = .ok (.invokevirtual 60, 3) := by decide +kernel
theorem dL_law_515 : decode cL_law 515 = .ok (.lcmp, 1) := by decide +kernel
theorem dL_law_516 : decode cL_law 516 = .ok (.ifCond .eq 415, 3) := by decide +kernel
theorem dL_law_519 : decode cL_law 519 = .ok (.iconst 0, 1) := by decide +kernel
theorem dL_law_520 : decode cL_law 520 = .ok (.ireturn, 1) := by decide +kernel
theorem dL_law_521 : decode cL_law 521 = .ok (.aload_n 1, 1) := by decide +kernel
theorem dL_law_522 : decode cL_law 522 = .ok (.aload_n 0, 1) := by decide +kernel
theorem dL_law_523 : decode cL_law 523 = .ok (.iload_n 3, 1) := by decide +kernel
theorem dL_law_524 : decode cL_law 524 = .ok (.iconst 1, 1) := by decide +kernel
theorem dL_law_525 : decode cL_law 525 = .ok (.iadd, 1) := by decide +kernel
theorem dL_law_526 : decode cL_law 526 = .ok (.iaload, 1) := by decide +kernel
theorem dL_law_527 : decode cL_law 527 = .ok (.aload_n 0, 1) := by decide +kernel
theorem dL_law_528 : decode cL_law 528 = .ok (.iload_n 3, 1) := by decide +kernel
theorem dL_law_529 : decode cL_law 529 = .ok (.iconst 2, 1) := by decide +kernel
theorem dL_law_530 : decode cL_law 530 = .ok (.iadd, 1) := by decide +kernel
theorem dL_law_531 : decode cL_law 531 = .ok (.iaload, 1) := by decide +kernel
theorem dL_law_532 : decode cL_law 532 = .ok (.invokevirtual 61, 3) := by decide +kernel
theorem dL_law_535 : decode cL_law 535 = .ok (.aload_n 2, 1) := by decide +kernel
theorem dL_law_536 : decode cL_law 536 = .ok (.aload_n 0, 1) := by decide +kernel
theorem dL_law_537 : decode cL_law 537 = .ok (.iload_n 3, 1) := by decide +kernel
theorem dL_law_538 : decode cL_law 538 = .ok (.iconst 1, 1) := by decide +kernel
theorem dL_law_539 : decode cL_law 539 = .ok (.iadd, 1) := by decide +kernel
theorem dL_law_540 : decode cL_law 540 = .ok (.iaload, 1) := by decide +kernel
theorem dL_law_541 : decode cL_law 541 = .ok (.aload_n 0, 1) := by decide +kernel
theorem dL_law_542 : decode cL_law 542 = .ok (.iload_n 3, 1) := by decide +kernel
theorem dL_law_543 : decode cL_law 543 = .ok (.iconst 2, 1) := by decide +kernel
theorem dL_law_544 : decode cL_law 544 = .ok (.iadd, 1) := by decide +kernel
theorem dL_law_545 : decode cL_law 545 = .ok (.iaload, 1) := by decide +kernel
theorem dL_law_546 : decode cL_law 546 = .ok (.invokevirtual 64, 3) := by decide +kernel
theorem dL_law_549 : decode cL_law 549 = .ok (.lcmp, 1) := by decide +kernel
theorem dL_law_550 : decode cL_law 550 = .ok (.ifCond .eq 381, 3) := by decide +kernel
theorem dL_law_553 : decode cL_law 553 = .ok (.iconst 0, 1) := by decide +kernel
theorem dL_law_554 : decode cL_law 554 = .ok (.ireturn, 1) := by decide +kernel
theorem dL_law_555 : decode cL_law 555 = .ok (.aload_n 1, 1) := by decide +kernel
theorem dL_law_556 : decode cL_law 556 = .ok (.aload_n 0, 1) := by decide +kernel
theorem dL_law_557 : decode cL_law 557 = .ok (.iload_n 3, 1) := by decide +kernel
theorem dL_law_558 : decode cL_law 558 = .ok (.iconst 1, 1) := by decide +kernel
theorem dL_law_559 : decode cL_law 559 = .ok (.iadd, 1) := by decide +kernel
theorem dL_law_560 : decode cL_law 560 = .ok (.iaload, 1) := by decide +kernel
theorem dL_law_561 : decode cL_law 561 = .ok (.invokevirtual 65, 3) := by decide +kernel
theorem dL_law_564 : decode cL_law 564 = .ok (.aload_n 2, 1) := by decide +kernel
theorem dL_law_565 : decode cL_law 565 = .ok (.aload_n 0, 1) := by decide +kernel
theorem dL_law_566 : decode cL_law 566 = .ok (.iload_n 3, 1) := by decide +kernel
theorem dL_law_567 : decode cL_law 567 = .ok (.iconst 1, 1) := by decide +kernel
theorem dL_law_568 : decode cL_law 568 = .ok (.iadd, 1) := by decide +kernel
theorem dL_law_569 : decode cL_law 569 = .ok (.iaload, 1) := by decide +kernel
theorem dL_law_570 : decode cL_law 570 = .ok (.invokevirtual 68, 3) := by decide +kernel
theorem dL_law_573 : decode cL_law 573 = .ok (.if_icmp .eq 358, 3) := by decide +kernel
theorem dL_law_576 : decode cL_law 576 = .ok (.iconst 0, 1) := by decide +kernel
theorem dL_law_577 : decode cL_law 577 = .ok (.ireturn, 1) := by decide +kernel
theorem dL_law_578 : decode cL_law 578 = .ok (.aload_n 1, 1) := by decide +kernel
theorem dL_law_579 : decode cL_law 579 = .ok (.aload_n 0, 1) := by decide +kernel
theorem dL_law_580 : decode cL_law 580 = .ok (.iload_n 3, 1) := by decide +kernel
theorem dL_law_581 : decode cL_law 581 = .ok (.iconst 1, 1) := by decide +kernel
theorem dL_law_582 : decode cL_law 582 = .ok (.iadd, 1) := by decide +kernel
theorem dL_law_583 : decode cL_law 583 = .ok (.iaload, 1) := by decide +kernel
theorem dL_law_584 : decode cL_law 584 = .ok (.aload_n 0, 1) := by decide +kernel
theorem dL_law_585 : decode cL_law 585 = .ok (.iload_n 3, 1) := by decide +kernel
theorem dL_law_586 : decode cL_law 586 = .ok (.iconst 2, 1) := by decide +kernel
theorem dL_law_587 : decode cL_law 587 = .ok (.iadd, 1) := by decide +kernel
theorem dL_law_588 : decode cL_law 588 = .ok (.iaload, 1) := by decide +kernel
theorem dL_law_589 : decode cL_law 589 = .ok (.invokevirtual 69, 3) := by decide +kernel
theorem dL_law_592 : decode cL_law 592 = .ok (.aload_n 2, 1) := by decide +kernel
theorem dL_law_593 : decode cL_law 593 = .ok (.aload_n 0, 1) := by decide +kernel
theorem dL_law_594 : decode cL_law 594 = .ok (.iload_n 3, 1) := by decide +kernel
theorem dL_law_595 : decode cL_law 595 = .ok (.iconst 1, 1) := by decide +kernel
theorem dL_law_596 : decode cL_law 596 = .ok (.iadd, 1) := by decide +kernel
theorem dL_law_597 : decode cL_law 597 = .ok (.iaload, 1) := by decide +kernel
theorem dL_law_598 : decode cL_law 598 = .ok (.aload_n 0, 1) := by decide +kernel
theorem dL_law_599 : decode cL_law 599 = .ok (.iload_n 3, 1) := by decide +kernel
theorem dL_law_600 : decode cL_law 600 = .ok (.iconst 2, 1) := by decide +kernel
theorem dL_law_601 : decode cL_law 601 = .ok (.iadd, 1) := by decide +kernel
theorem dL_law_602 : decode cL_law 602 = .ok (.iaload, 1) := by decide +kernel
theorem dL_law_603 : decode cL_law 603 = .ok (.invokevirtual 72, 3) := by decide +kernel
theorem dL_law_606 : decode cL_law 606 = .ok (.lcmp, 1) := by decide +kernel
theorem dL_law_607 : decode cL_law 607 = .ok (.ifCond .eq 324, 3) := by decide +kernel
theorem dL_law_610 : decode cL_law 610 = .ok (.iconst 0, 1) := by decide +kernel
theorem dL_law_611 : decode cL_law 611 = .ok (.ireturn, 1) := by decide +kernel
theorem dL_law_612 : decode cL_law 612 = .ok (.aload_n 1, 1) := by decide +kernel
theorem dL_law_613 : decode cL_law 613 = .ok (.aload_n 0, 1) := by decide +kernel
theorem dL_law_614 : decode cL_law 614 = .ok (.iload_n 3, 1) := by decide +kernel
theorem dL_law_615 : decode cL_law 615 = .ok (.iconst 1, 1) := by decide +kernel
theorem dL_law_616 : decode cL_law 616 = .ok (.iadd, 1) := by decide +kernel
theorem dL_law_617 : decode cL_law 617 = .ok (.iaload, 1) := by decide +kernel
theorem dL_law_618 : decode cL_law 618 = .ok (.invokevirtual 73, 3) := by decide +kernel
theorem dL_law_621 : decode cL_law 621 = .ok (.aload_n 2, 1) := by decide +kernel
theorem dL_law_622 : decode cL_law 622 = .ok (.aload_n 0, 1) := by decide +kernel
theorem dL_law_623 : decode cL_law 623 = .ok (.iload_n 3, 1) := by decide +kernel
theorem dL_law_624 : decode cL_law 624 = .ok (.iconst 1, 1) := by decide +kernel
theorem dL_law_625 : decode cL_law 625 = .ok (.iadd, 1) := by decide +kernel
theorem dL_law_626 : decode cL_law 626 = .ok (.iaload, 1) := by decide +kernel
theorem dL_law_627 : decode cL_law 627 = .ok (.invokevirtual 76, 3) := by decide +kernel
theorem dL_law_630 : decode cL_law 630 = .ok (.if_icmp .eq 301, 3) := by decide +kernel
theorem dL_law_633 : decode cL_law 633 = .ok (.iconst 0, 1) := by decide +kernel
theorem dL_law_634 : decode cL_law 634 = .ok (.ireturn, 1) := by decide +kernel
theorem dL_law_635 : decode cL_law 635 = .ok (.aload_n 1, 1) := by decide +kernel
theorem dL_law_636 : decode cL_law 636 = .ok (.aload_n 0, 1) := by decide +kernel
theorem dL_law_637 : decode cL_law 637 = .ok (.iload_n 3, 1) := by decide +kernel
theorem dL_law_638 : decode cL_law 638 = .ok (.iconst 1, 1) := by decide +kernel
theorem dL_law_639 : decode cL_law 639 = .ok (.iadd, 1) := by decide +kernel
theorem dL_law_640 : decode cL_law 640 = .ok (.iaload, 1) := by decide +kernel
theorem dL_law_641 : decode cL_law 641 = .ok (.aload_n 0, 1) := by decide +kernel
theorem dL_law_642 : decode cL_law 642 = .ok (.iload_n 3, 1) := by decide +kernel
theorem dL_law_643 : decode cL_law 643 = .ok (.iconst 2, 1) := by decide +kernel
theorem dL_law_644 : decode cL_law 644 = .ok (.iadd, 1) := by decide +kernel
theorem dL_law_645 : decode cL_law 645 = .ok (.iaload, 1) := by decide +kernel
theorem dL_law_646 : decode cL_law 646 = .ok (.invokevirtual 77, 3) := by decide +kernel
theorem dL_law_649 : decode cL_law 649 = .ok (.aload_n 2, 1) := by decide +kernel
theorem dL_law_650 : decode cL_law 650 = .ok (.aload_n 0, 1) := by decide +kernel
theorem dL_law_651 : decode cL_law 651 = .ok (.iload_n 3, 1) := by decide +kernel
theorem dL_law_652 : decode cL_law 652 = .ok (.iconst 1, 1) := by decide +kernel
theorem dL_law_653 : decode cL_law 653 = .ok (.iadd, 1) := by decide +kernel
theorem dL_law_654 : decode cL_law 654 = .ok (.iaload, 1) := by decide +kernel
theorem dL_law_655 : decode cL_law 655 = .ok (.aload_n 0, 1) := by decide +kernel
theorem dL_law_656 : decode cL_law 656 = .ok (.iload_n 3, 1) := by decide +kernel
theorem dL_law_657 : decode cL_law 657 = .ok (.iconst 2, 1) := by decide +kernel
theorem dL_law_658 : decode cL_law 658 = .ok (.iadd, 1) := by decide +kernel
theorem dL_law_659 : decode cL_law 659 = .ok (.iaload, 1) := by decide +kernel
theorem dL_law_660 : decode cL_law 660 = .ok (.invokevirtual 80, 3) := by decide +kernel
theorem dL_law_663 : decode cL_law 663 = .ok (.if_icmp .eq 268, 3) := by decide +kernel
theorem dL_law_666 : decode cL_law 666 = .ok (.iconst 0, 1) := by decide +kernel
theorem dL_law_667 : decode cL_law 667 = .ok (.ireturn, 1) := by decide +kernel
theorem dL_law_668 : decode cL_law 668 = .ok (.aload_n 1, 1) := by decide +kernel
theorem dL_law_669 : decode cL_law 669 = .ok (.aload_n 0, 1) := by decide +kernel
theorem dL_law_670 : decode cL_law 670 = .ok (.iload_n 3, 1) := by decide +kernel
theorem dL_law_671 : decode cL_law 671 = .ok (.iconst 1, 1) := by decide +kernel
theorem dL_law_672 : decode cL_law 672 = .ok (.iadd, 1) := by decide +kernel
theorem dL_law_673 : decode cL_law 673 = .ok (.iaload, 1) := by decide +kernel
theorem dL_law_674 : decode cL_law 674 = .ok (.aload_n 0, 1) := by decide +kernel
theorem dL_law_675 : decode cL_law 675 = .ok (.iload_n 3, 1) := by decide +kernel
theorem dL_law_676 : decode cL_law 676 = .ok (.iconst 2, 1) := by decide +kernel
theorem dL_law_677 : decode cL_law 677 = .ok (.iadd, 1) := by decide +kernel
theorem dL_law_678 : decode cL_law 678 = .ok (.iaload, 1) := by decide +kernel
theorem dL_law_679 : decode cL_law 679 = .ok (.invokevirtual 81, 3) := by decide +kernel
theorem dL_law_682 : decode cL_law 682 = .ok (.aload_n 2, 1) := by decide +kernel
theorem dL_law_683 : decode cL_law 683 = .ok (.aload_n 0, 1) := by decide +kernel
theorem dL_law_684 : decode cL_law 684 = .ok (.iload_n 3, 1) := by decide +kernel
theorem dL_law_685 : decode cL_law 685 = .ok (.iconst 1, 1) := by decide +kernel
theorem dL_law_686 : decode cL_law 686 = .ok (.iadd, 1) := by decide +kernel
theorem dL_law_687 : decode cL_law 687 = .ok (.iaload, 1) := by decide +kernel
theorem dL_law_688 : decode cL_law 688 = .ok (.aload_n 0, 1) := by decide +kernel
theorem dL_law_689 : decode cL_law 689 = .ok (.iload_n 3, 1) := by decide +kernel
theorem dL_law_690 : decode cL_law 690 = .ok (.iconst 2, 1) := by decide +kernel
theorem dL_law_691 : decode cL_law 691 = .ok (.iadd, 1) := by decide +kernel
theorem dL_law_692 : decode cL_law 692 = .ok (.iaload, 1) := by decide +kernel
theorem dL_law_693 : decode cL_law 693 = .ok (.invokevirtual 84, 3) := by decide +kernel
theorem dL_law_696 : decode cL_law 696 = .ok (.if_icmp .eq 235, 3) := by decide +kernel
theorem dL_law_699 : decode cL_law 699 = .ok (.iconst 0, 1) := by decide +kernel
theorem dL_law_700 : decode cL_law 700 = .ok (.ireturn, 1) := by decide +kernel
theorem dL_law_701 : decode cL_law 701 = .ok (.aload_n 1, 1) := by decide +kernel
theorem dL_law_702 : decode cL_law 702 = .ok (.aload_n 0, 1) := by decide +kernel
theorem dL_law_703 : decode cL_law 703 = .ok (.iload_n 3, 1) := by decide +kernel
theorem dL_law_704 : decode cL_law 704 = .ok (.iconst 1, 1) := by decide +kernel
theorem dL_law_705 : decode cL_law 705 = .ok (.iadd, 1) := by decide +kernel
theorem dL_law_706 : decode cL_law 706 = .ok (.iaload, 1) := by decide +kernel
theorem dL_law_707 : decode cL_law 707 = .ok (.invokevirtual 85, 3) := by decide +kernel
theorem dL_law_710 : decode cL_law 710 = .ok (.aload_n 2, 1) := by decide +kernel
theorem dL_law_711 : decode cL_law 711 = .ok (.aload_n 0, 1) := by decide +kernel
theorem dL_law_712 : decode cL_law 712 = .ok (.iload_n 3, 1) := by decide +kernel
theorem dL_law_713 : decode cL_law 713 = .ok (.iconst 1, 1) := by decide +kernel
theorem dL_law_714 : decode cL_law 714 = .ok (.iadd, 1) := by decide +kernel
theorem dL_law_715 : decode cL_law 715 = .ok (.iaload, 1) := by decide +kernel
theorem dL_law_716 : decode cL_law 716 = .ok (.invokevirtual 88, 3) := by decide +kernel
theorem dL_law_719 : decode cL_law 719 = .ok (.if_icmp .eq 212, 3) := by decide +kernel
theorem dL_law_722 : decode cL_law 722 = .ok (.iconst 0, 1) := by decide +kernel
theorem dL_law_723 : decode cL_law 723 = .ok (.ireturn, 1) := by decide +kernel
theorem dL_law_724 : decode cL_law 724 = .ok (.aload_n 1, 1) := by decide +kernel
theorem dL_law_725 : decode cL_law 725 = .ok (.aload_n 0, 1) := by decide +kernel
theorem dL_law_726 : decode cL_law 726 = .ok (.iload_n 3, 1) := by decide +kernel
theorem dL_law_727 : decode cL_law 727 = .ok (.iconst 1, 1) := by decide +kernel
theorem dL_law_728 : decode cL_law 728 = .ok (.iadd, 1) := by decide +kernel
theorem dL_law_729 : decode cL_law 729 = .ok (.iaload, 1) := by decide +kernel
theorem dL_law_730 : decode cL_law 730 = .ok (.invokevirtual 89, 3) := by decide +kernel
theorem dL_law_733 : decode cL_law 733 = .ok (.aload_n 2, 1) := by decide +kernel
theorem dL_law_734 : decode cL_law 734 = .ok (.aload_n 0, 1) := by decide +kernel
theorem dL_law_735 : decode cL_law 735 = .ok (.iload_n 3, 1) := by decide +kernel
theorem dL_law_736 : decode cL_law 736 = .ok (.iconst 1, 1) := by decide +kernel
theorem dL_law_737 : decode cL_law 737 = .ok (.iadd, 1) := by decide +kernel
theorem dL_law_738 : decode cL_law 738 = .ok (.iaload, 1) := by decide +kernel
theorem dL_law_739 : decode cL_law 739 = .ok (.invokevirtual 92, 3) := by decide +kernel
theorem dL_law_742 : decode cL_law 742 = .ok (.if_icmp .eq 189, 3) := by decide +kernel
theorem dL_law_745 : decode cL_law 745 = .ok (.iconst 0, 1) := by decide +kernel
theorem dL_law_746 : decode cL_law 746 = .ok (.ireturn, 1) := by decide +kernel
theorem dL_law_747 : decode cL_law 747 = .ok (.aload_n 1, 1) := by decide +kernel
theorem dL_law_748 : decode cL_law 748 = .ok (.invokevirtual 93, 3) := by decide +kernel
theorem dL_law_751 : decode cL_law 751 = .ok (.aload_n 2, 1) := by decide +kernel
theorem dL_law_752 : decode cL_law 752 = .ok (.invokevirtual 96, 3) := by decide +kernel
theorem dL_law_755 : decode cL_law 755 = .ok (.if_icmp .eq 176, 3) := by decide +kernel
theorem dL_law_758 : decode cL_law 758 = .ok (.iconst 0, 1) := by decide +kernel
theorem dL_law_759 : decode cL_law 759 = .ok (.ireturn, 1) := by decide +kernel
theorem dL_law_760 : decode cL_law 760 = .ok (.aload_n 1, 1) := by decide +kernel
theorem dL_law_761 : decode cL_law 761 = .ok (.invokevirtual 97, 3) := by decide +kernel
theorem dL_law_764 : decode cL_law 764 = .ok (.aload_n 2, 1) := by decide +kernel
theorem dL_law_765 : decode cL_law 765 = .ok (.invokevirtual 100, 3) := by decide +kernel
theorem dL_law_768 : decode cL_law 768 = .ok (.if_icmp .eq 163, 3) := by decide +kernel
theorem dL_law_771 : decode cL_law 771 = .ok (.iconst 0, 1) := by decide +kernel
theorem dL_law_772 : decode cL_law 772 = .ok (.ireturn, 1) := by decide +kernel
theorem dL_law_773 : decode cL_law 773 = .ok (.aload_n 1, 1) := by decide +kernel
theorem dL_law_774 : decode cL_law 774 = .ok (.invokevirtual 101, 3) := by decide +kernel
theorem dL_law_777 : decode cL_law 777 = .ok (.aload_n 2, 1) := by decide +kernel
theorem dL_law_778 : decode cL_law 778 = .ok (.invokevirtual 104, 3) := by decide +kernel
theorem dL_law_781 : decode cL_law 781 = .ok (.if_icmp .eq 150, 3) := by decide +kernel
theorem dL_law_784 : decode cL_law 784 = .ok (.iconst 0, 1) := by decide +kernel
theorem dL_law_785 : decode cL_law 785 = .ok (.ireturn, 1) := by decide +kernel
theorem dL_law_786 : decode cL_law 786 = .ok (.aload_n 1, 1) := by decide +kernel
theorem dL_law_787 : decode cL_law 787 = .ok (.aload_n 0, 1) := by decide +kernel
theorem dL_law_788 : decode cL_law 788 = .ok (.iload_n 3, 1) := by decide +kernel
theorem dL_law_789 : decode cL_law 789 = .ok (.iconst 1, 1) := by decide +kernel
theorem dL_law_790 : decode cL_law 790 = .ok (.iadd, 1) := by decide +kernel
theorem dL_law_791 : decode cL_law 791 = .ok (.iaload, 1) := by decide +kernel
theorem dL_law_792 : decode cL_law 792 = .ok (.aload_n 0, 1) := by decide +kernel
theorem dL_law_793 : decode cL_law 793 = .ok (.iload_n 3, 1) := by decide +kernel
theorem dL_law_794 : decode cL_law 794 = .ok (.iconst 2, 1) := by decide +kernel
theorem dL_law_795 : decode cL_law 795 = .ok (.iadd, 1) := by decide +kernel
theorem dL_law_796 : decode cL_law 796 = .ok (.iaload, 1) := by decide +kernel
theorem dL_law_797 : decode cL_law 797 = .ok (.invokevirtual 105, 3) := by decide +kernel
theorem dL_law_800 : decode cL_law 800 = .ok (.aload_n 2, 1) := by decide +kernel
theorem dL_law_801 : decode cL_law 801 = .ok (.aload_n 0, 1) := by decide +kernel
theorem dL_law_802 : decode cL_law 802 = .ok (.iload_n 3, 1) := by decide +kernel
theorem dL_law_803 : decode cL_law 803 = .ok (.iconst 1, 1) := by decide +kernel
theorem dL_law_804 : decode cL_law 804 = .ok (.iadd, 1) := by decide +kernel
theorem dL_law_805 : decode cL_law 805 = .ok (.iaload, 1) := by decide +kernel
theorem dL_law_806 : decode cL_law 806 = .ok (.aload_n 0, 1) := by decide +kernel
theorem dL_law_807 : decode cL_law 807 = .ok (.iload_n 3, 1) := by decide +kernel
theorem dL_law_808 : decode cL_law 808 = .ok (.iconst 2, 1) := by decide +kernel
theorem dL_law_809 : decode cL_law 809 = .ok (.iadd, 1) := by decide +kernel
theorem dL_law_810 : decode cL_law 810 = .ok (.iaload, 1) := by decide +kernel
theorem dL_law_811 : decode cL_law 811 = .ok (.invokevirtual 108, 3) := by decide +kernel
theorem dL_law_814 : decode cL_law 814 = .ok (.if_icmp .eq 117, 3) := by decide +kernel
theorem dL_law_817 : decode cL_law 817 = .ok (.iconst 0, 1) := by decide +kernel
theorem dL_law_818 : decode cL_law 818 = .ok (.ireturn, 1) := by decide +kernel
theorem dL_law_819 : decode cL_law 819 = .ok (.aload_n 1, 1) := by decide +kernel
theorem dL_law_820 : decode cL_law 820 = .ok (.aload_n 0, 1) := by decide +kernel
theorem dL_law_821 : decode cL_law 821 = .ok (.iload_n 3, 1) := by decide +kernel
theorem dL_law_822 : decode cL_law 822 = .ok (.iconst 1, 1) := by decide +kernel
theorem dL_law_823 : decode cL_law 823 = .ok (.iadd, 1) := by decide +kernel
theorem dL_law_824 : decode cL_law 824 = .ok (.iaload, 1) := by decide +kernel
theorem dL_law_825 : decode cL_law 825 = .ok (.invokevirtual 109, 3) := by decide +kernel
theorem dL_law_828 : decode cL_law 828 = .ok (.aload_n 2, 1) := by decide +kernel
theorem dL_law_829 : decode cL_law 829 = .ok (.aload_n 0, 1) := by decide +kernel
theorem dL_law_830 : decode cL_law 830 = .ok (.iload_n 3, 1) := by decide +kernel
theorem dL_law_831 : decode cL_law 831 = .ok (.iconst 1, 1) := by decide +kernel
theorem dL_law_832 : decode cL_law 832 = .ok (.iadd, 1) := by decide +kernel
theorem dL_law_833 : decode cL_law 833 = .ok (.iaload, 1) := by decide +kernel
theorem dL_law_834 : decode cL_law 834 = .ok (.invokevirtual 112, 3) := by decide +kernel
theorem dL_law_837 : decode cL_law 837 = .ok (.if_icmp .eq 94, 3) := by decide +kernel
theorem dL_law_840 : decode cL_law 840 = .ok (.iconst 0, 1) := by decide +kernel
theorem dL_law_841 : decode cL_law 841 = .ok (.ireturn, 1) := by decide +kernel
theorem dL_law_842 : decode cL_law 842 = .ok (.aload_n 1, 1) := by decide +kernel
theorem dL_law_843 : decode cL_law 843 = .ok (.aload_n 0, 1) := by decide +kernel
theorem dL_law_844 : decode cL_law 844 = .ok (.iload_n 3, 1) := by decide +kernel
theorem dL_law_845 : decode cL_law 845 = .ok (.iconst 1, 1) := by decide +kernel
theorem dL_law_846 : decode cL_law 846 = .ok (.iadd, 1) := by decide +kernel
theorem dL_law_847 : decode cL_law 847 = .ok (.iaload, 1) := by decide +kernel
theorem dL_law_848 : decode cL_law 848 = .ok (.aload_n 0, 1) := by decide +kernel
theorem dL_law_849 : decode cL_law 849 = .ok (.iload_n 3, 1) := by decide +kernel
theorem dL_law_850 : decode cL_law 850 = .ok (.iconst 2, 1) := by decide +kernel
theorem dL_law_851 : decode cL_law 851 = .ok (.iadd, 1) := by decide +kernel
theorem dL_law_852 : decode cL_law 852 = .ok (.iaload, 1) := by decide +kernel
theorem dL_law_853 : decode cL_law 853 = .ok (.invokevirtual 113, 3) := by decide +kernel
theorem dL_law_856 : decode cL_law 856 = .ok (.aload_n 2, 1) := by decide +kernel
theorem dL_law_857 : decode cL_law 857 = .ok (.aload_n 0, 1) := by decide +kernel
theorem dL_law_858 : decode cL_law 858 = .ok (.iload_n 3, 1) := by decide +kernel
theorem dL_law_859 : decode cL_law 859 = .ok (.iconst 1, 1) := by decide +kernel
theorem dL_law_860 : decode cL_law 860 = .ok (.iadd, 1) := by decide +kernel
theorem dL_law_861 : decode cL_law 861 = .ok (.iaload, 1) := by decide +kernel
theorem dL_law_862 : decode cL_law 862 = .ok (.aload_n 0, 1) := by decide +kernel
theorem dL_law_863 : decode cL_law 863 = .ok (.iload_n 3, 1) := by decide +kernel
theorem dL_law_864 : decode cL_law 864 = .ok (.iconst 2, 1) := by decide +kernel
theorem dL_law_865 : decode cL_law 865 = .ok (.iadd, 1) := by decide +kernel
theorem dL_law_866 : decode cL_law 866 = .ok (.iaload, 1) := by decide +kernel
theorem dL_law_867 : decode cL_law 867 = .ok (.invokevirtual 116, 3) := by decide +kernel
theorem dL_law_870 : decode cL_law 870 = .ok (.if_icmp .eq 61, 3) := by decide +kernel
theorem dL_law_873 : decode cL_law 873 = .ok (.iconst 0, 1) := by decide +kernel
theorem dL_law_874 : decode cL_law 874 = .ok (.ireturn, 1) := by decide +kernel
theorem dL_law_875 : decode cL_law 875 = .ok (.aload_n 1, 1) := by decide +kernel
theorem dL_law_876 : decode cL_law 876 = .ok (.aload_n 0, 1) := by decide +kernel
theorem dL_law_877 : decode cL_law 877 = .ok (.iload_n 3, 1) := by decide +kernel
theorem dL_law_878 : decode cL_law 878 = .ok (.iconst 1, 1) := by decide +kernel
theorem dL_law_879 : decode cL_law 879 = .ok (.iadd, 1) := by decide +kernel
theorem dL_law_880 : decode cL_law 880 = .ok (.iaload, 1) := by decide +kernel
theorem dL_law_881 : decode cL_law 881 = .ok (.aload_n 0, 1) := by decide +kernel
theorem dL_law_882 : decode cL_law 882 = .ok (.iload_n 3, 1) := by decide +kernel
theorem dL_law_883 : decode cL_law 883 = .ok (.iconst 2, 1) := by decide +kernel
theorem dL_law_884 : decode cL_law 884 = .ok (.iadd, 1) := by decide +kernel
theorem dL_law_885 : decode cL_law 885 = .ok (.iaload, 1) := by decide +kernel
theorem dL_law_886 : decode cL_law 886 = .ok (.invokevirtual 117, 3) := by decide +kernel
theorem dL_law_889 : decode cL_law 889 = .ok (.aload_n 2, 1) := by decide +kernel
theorem dL_law_890 : decode cL_law 890 = .ok (.aload_n 0, 1) := by decide +kernel
theorem dL_law_891 : decode cL_law 891 = .ok (.iload_n 3, 1) := by decide +kernel
theorem dL_law_892 : decode cL_law 892 = .ok (.iconst 1, 1) := by decide +kernel
theorem dL_law_893 : decode cL_law 893 = .ok (.iadd, 1) := by decide +kernel
theorem dL_law_894 : decode cL_law 894 = .ok (.iaload, 1) := by decide +kernel
theorem dL_law_895 : decode cL_law 895 = .ok (.aload_n 0, 1) := by decide +kernel
theorem dL_law_896 : decode cL_law 896 = .ok (.iload_n 3, 1) := by decide +kernel
theorem dL_law_897 : decode cL_law 897 = .ok (.iconst 2, 1) := by decide +kernel
theorem dL_law_898 : decode cL_law 898 = .ok (.iadd, 1) := by decide +kernel
theorem dL_law_899 : decode cL_law 899 = .ok (.iaload, 1) := by decide +kernel
theorem dL_law_900 : decode cL_law 900 = .ok (.invokevirtual 120, 3) := by decide +kernel
theorem dL_law_903 : decode cL_law 903 = .ok (.if_icmp .eq 28, 3) := by decide +kernel
theorem dL_law_906 : decode cL_law 906 = .ok (.iconst 0, 1) := by decide +kernel
theorem dL_law_907 : decode cL_law 907 = .ok (.ireturn, 1) := by decide +kernel
theorem dL_law_908 : decode cL_law 908 = .ok (.aload_n 1, 1) := by decide +kernel
theorem dL_law_909 : decode cL_law 909 = .ok (.aload_n 0, 1) := by decide +kernel
theorem dL_law_910 : decode cL_law 910 = .ok (.iload_n 3, 1) := by decide +kernel
theorem dL_law_911 : decode cL_law 911 = .ok (.iconst 1, 1) := by decide +kernel
theorem dL_law_912 : decode cL_law 912 = .ok (.iadd, 1) := by decide +kernel
theorem dL_law_913 : decode cL_law 913 = .ok (.iaload, 1) := by decide +kernel
theorem dL_law_914 : decode cL_law 914 = .ok (.invokevirtual 121, 3) := by decide +kernel
theorem dL_law_917 : decode cL_law 917 = .ok (.aload_n 2, 1) := by decide +kernel
theorem dL_law_918 : decode cL_law 918 = .ok (.aload_n 0, 1) := by decide +kernel
theorem dL_law_919 : decode cL_law 919 = .ok (.iload_n 3, 1) := by decide +kernel
theorem dL_law_920 : decode cL_law 920 = .ok (.iconst 1, 1) := by decide +kernel
theorem dL_law_921 : decode cL_law 921 = .ok (.iadd, 1) := by decide +kernel
theorem dL_law_922 : decode cL_law 922 = .ok (.iaload, 1) := by decide +kernel
theorem dL_law_923 : decode cL_law 923 = .ok (.invokevirtual 124, 3) := by decide +kernel
theorem dL_law_926 : decode cL_law 926 = .ok (.if_icmp .eq 5, 3) := by decide +kernel
theorem dL_law_929 : decode cL_law 929 = .ok (.iconst 0, 1) := by decide +kernel
theorem dL_law_930 : decode cL_law 930 = .ok (.ireturn, 1) := by decide +kernel
theorem dL_law_931 : decode cL_law 931 = .ok (.iinc 3 5, 3) := by decide +kernel
theorem dL_law_934 : decode cL_law 934 = .ok (.goto (-916), 3) := by decide +kernel
theorem dL_law_937 : decode cL_law 937 = .ok (.iconst 1, 1) := by decide +kernel
theorem dL_law_938 : decode cL_law 938 = .ok (.ireturn, 1) := by decide +kernel
end
section
def TB : List Cond := lw_tbl.filter goodWord
theorem TB_of {w : Cond} (i : Nat) (h : tables_1[i]? = some w) (hg : goodWord w = true) : w ∈ TB := List.mem_filter.mpr ⟨List.mem_append_right _ (List.mem_of_getElem? h), hg⟩
theorem TB_sel {w : Cond} (i : Nat) (h : (k2_sels lw_privs)[i]? = some w) (hg : goodWord w = true) : w ∈ TB := List.mem_filter.mpr ⟨List.mem_append_left _ (List.mem_of_getElem? h), hg⟩
theorem TB_good {w : Cond} (h : w ∈ TB) : (w.onTables && w.keeps) = true ∨ ∃ ty, w = .arrayClass ty := good_of_word (List.mem_filter.mp h).2
theorem TB_in {ws : List Cond} (h : ∀ w ∈ ws, w ∈ TB) : GoodIn TB ws := fun w hw => ⟨h w hw, TB_good (h w hw)⟩
theorem tw_0 : (Cond.initialized "BrokeWhereLaw") ∈ TB := TB_of 0 (by decide +kernel) rfl
theorem tw_1 : (Cond.initialized "BrokeWhere") ∈ TB := TB_of 1 (by decide +kernel) rfl
theorem tw_2 : (Cond.initialized "BrokeWhere$History") ∈ TB := TB_of 2 (by decide +kernel) rfl
theorem tw_3 : (Cond.initialized "BrokeWhere$Log") ∈ TB := TB_of 3 (by decide +kernel) rfl
theorem tw_4 : (Cond.initialized "BrokeWhere$Stories") ∈ TB := TB_of 4 (by decide +kernel) rfl
theorem tw_5 : (Cond.initialized "BrokeWhere$Partings") ∈ TB := TB_of 5 (by decide +kernel) rfl
theorem tw_6 : (Cond.initialized "BrokeWhere$Text") ∈ TB := TB_of 6 (by decide +kernel) rfl
theorem tw_7 : (Cond.initialized "BrokeWhere$Truth") ∈ TB := TB_of 7 (by decide +kernel) rfl
theorem tw_8 : (Cond.initialized "BrokeWhere$Families") ∈ TB := TB_of 8 (by decide +kernel) rfl
theorem tw_9 : (Cond.initialized "BrokeWhereModel") ∈ TB := TB_of 9 (by decide +kernel) rfl
theorem tw_10 : (Cond.initialized "java/lang/Math") ∈ TB := TB_of 10 (by decide +kernel) rfl
theorem tw_11 : (Cond.initialized "java/util/Arrays") ∈ TB := TB_of 11 (by decide +kernel) rfl
theorem tw_12 : (Cond.initialized "java/lang/Integer") ∈ TB := TB_of 12 (by decide +kernel) rfl
theorem tw_13 : (Cond.initialized "java/lang/Long") ∈ TB := TB_of 13 (by decide +kernel) rfl
theorem tw_14 : (Cond.classLink "BrokeWhereLaw" (7 : Nat) "BrokeWhere") ∈ TB := TB_of 14 (by decide +kernel) rfl
theorem tw_15 : (Cond.instantiable "BrokeWhere" (8 : Nat)) ∈ TB := TB_of 15 (by decide +kernel) rfl
theorem tw_16 : (Cond.methodLink "BrokeWhereLaw" (9 : Nat) ({ cls := "BrokeWhere", name := "<init>", desc := "()V" } : MethodName)) ∈ TB := TB_of 16 (by decide +kernel) rfl
theorem tw_17 : (Cond.instanceMethod ({ cls := "BrokeWhere", name := "<init>", desc := "()V" } : MethodName)) ∈ TB := TB_of 17 (by decide +kernel) rfl
theorem tw_18 : (Cond.code ({ cls := "BrokeWhere", name := "<init>", desc := "()V" } : MethodName) prog_1_method_1_code (1 : Nat) (Option.none : Option FieldType)) ∈ TB := TB_of 18 (by decide +kernel) rfl
theorem tw_19 : (Cond.methodLink "BrokeWhere" (3 : Nat) ({ cls := "java/lang/Object", name := "<init>", desc := "()V" } : MethodName)) ∈ TB := TB_of 19 (by decide +kernel) rfl
theorem tw_20 : (Cond.instanceMethod ({ cls := "java/lang/Object", name := "<init>", desc := "()V" } : MethodName)) ∈ TB := TB_of 20 (by decide +kernel) rfl
theorem tw_21 : (Cond.code ({ cls := "java/lang/Object", name := "<init>", desc := "()V" } : MethodName) object_method_1_code (1 : Nat) (Option.none : Option FieldType)) ∈ TB := TB_of 21 (by decide +kernel) rfl
theorem tw_22 : (Cond.classLink "BrokeWhere" (9 : Nat) "BrokeWhere$History") ∈ TB := TB_of 22 (by decide +kernel) rfl
theorem tw_23 : (Cond.instantiable "BrokeWhere$History" (7 : Nat)) ∈ TB := TB_of 23 (by decide +kernel) rfl
theorem tw_25 : (Cond.instanceMethod ({ cls := "BrokeWhere$History", name := "<init>", desc := "()V" } : MethodName)) ∈ TB := TB_of 25 (by decide +kernel) rfl
theorem tw_26 : (Cond.code ({ cls := "BrokeWhere$History", name := "<init>", desc := "()V" } : MethodName) prog_3_method_1_code (1 : Nat) (Option.none : Option FieldType)) ∈ TB := TB_of 26 (by decide +kernel) rfl
theorem tw_27 : (Cond.methodLink "BrokeWhere$History" (3 : Nat) ({ cls := "java/lang/Object", name := "<init>", desc := "()V" } : MethodName)) ∈ TB := TB_of 27 (by decide +kernel) rfl
theorem tw_28 : (Cond.fieldLink "BrokeWhere$History" (30 : Nat) "BrokeWhere$History" "count" "I") ∈ TB := TB_of 28 (by decide +kernel) rfl
theorem tw_29 : (Cond.fieldLink "BrokeWhere$Families" (28 : Nat) "BrokeWhere$History" "count" "I") ∈ TB := TB_of 29 (by decide +kernel) rfl
theorem tw_30 : (Cond.fieldLink "BrokeWhere" (75 : Nat) "BrokeWhere$History" "count" "I") ∈ TB := TB_of 30 (by decide +kernel) rfl
theorem tw_31 : (Cond.fieldLink "BrokeWhere$Partings" (30 : Nat) "BrokeWhere$History" "count" "I") ∈ TB := TB_of 31 (by decide +kernel) rfl
theorem tw_32 : (Cond.fieldLink "BrokeWhere$Stories" (77 : Nat) "BrokeWhere$History" "count" "I") ∈ TB := TB_of 32 (by decide +kernel) rfl
theorem tw_33 : (Cond.fieldLink "BrokeWhere$History" (9 : Nat) "BrokeWhere$History" "holds" "[I") ∈ TB := TB_of 33 (by decide +kernel) rfl
theorem tw_34 : (Cond.fieldLink "BrokeWhere" (90 : Nat) "BrokeWhere$History" "holds" "[I") ∈ TB := TB_of 34 (by decide +kernel) rfl
theorem tw_35 : (Cond.fieldLink "BrokeWhere$Partings" (53 : Nat) "BrokeWhere$History" "holds" "[I") ∈ TB := TB_of 35 (by decide +kernel) rfl
theorem tw_36 : (Cond.fieldLink "BrokeWhere$History" (15 : Nat) "BrokeWhere$History" "carriers" "[I") ∈ TB := TB_of 36 (by decide +kernel) rfl
theorem tw_37 : (Cond.fieldLink "BrokeWhere$Stories" (33 : Nat) "BrokeWhere$History" "carriers" "[I") ∈ TB := TB_of 37 (by decide +kernel) rfl
theorem tw_38 : (Cond.fieldLink "BrokeWhere$History" (18 : Nat) "BrokeWhere$History" "size" "[I") ∈ TB := TB_of 38 (by decide +kernel) rfl
theorem tw_39 : (Cond.fieldLink "BrokeWhere$Stories" (38 : Nat) "BrokeWhere$History" "size" "[I") ∈ TB := TB_of 39 (by decide +kernel) rfl
theorem tw_40 : (Cond.fieldLink "BrokeWhere$History" (21 : Nat) "BrokeWhere$History" "cost" "[I") ∈ TB := TB_of 40 (by decide +kernel) rfl
theorem tw_41 : (Cond.fieldLink "BrokeWhere$Partings" (72 : Nat) "BrokeWhere$History" "cost" "[I") ∈ TB := TB_of 41 (by decide +kernel) rfl
theorem tw_42 : (Cond.fieldLink "BrokeWhere$Stories" (126 : Nat) "BrokeWhere$History" "cost" "[I") ∈ TB := TB_of 42 (by decide +kernel) rfl
theorem tw_43 : (Cond.fieldLink "BrokeWhere$History" (24 : Nat) "BrokeWhere$History" "needs" "[I") ∈ TB := TB_of 43 (by decide +kernel) rfl
theorem tw_44 : (Cond.fieldLink "BrokeWhere$Families" (34 : Nat) "BrokeWhere$History" "needs" "[I") ∈ TB := TB_of 44 (by decide +kernel) rfl
theorem tw_45 : (Cond.fieldLink "BrokeWhere$History" (27 : Nat) "BrokeWhere$History" "deaf" "[I") ∈ TB := TB_of 45 (by decide +kernel) rfl
theorem tw_46 : (Cond.lays "BrokeWhere$History" "BrokeWhere$History" "count" "I") ∈ TB := TB_of 46 (by decide +kernel) rfl
theorem tw_48 : (Cond.laysFinal "BrokeWhere$History" "BrokeWhere$History" "holds" "[I") ∈ TB := TB_of 48 (by decide +kernel) rfl
theorem tw_50 : (Cond.laysFinal "BrokeWhere$History" "BrokeWhere$History" "carriers" "[I") ∈ TB := TB_of 50 (by decide +kernel) rfl
theorem tw_52 : (Cond.laysFinal "BrokeWhere$History" "BrokeWhere$History" "size" "[I") ∈ TB := TB_of 52 (by decide +kernel) rfl
theorem tw_54 : (Cond.laysFinal "BrokeWhere$History" "BrokeWhere$History" "cost" "[I") ∈ TB := TB_of 54 (by decide +kernel) rfl
theorem tw_56 : (Cond.laysFinal "BrokeWhere$History" "BrokeWhere$History" "needs" "[I") ∈ TB := TB_of 56 (by decide +kernel) rfl
theorem tw_58 : (Cond.laysFinal "BrokeWhere$History" "BrokeWhere$History" "deaf" "[I") ∈ TB := TB_of 58 (by decide +kernel) rfl
theorem tw_61 : (Cond.arrayClass FieldType.int) ∈ TB := TB_of 61 (by decide +kernel) rfl
theorem tw_62 : (Cond.classLink "BrokeWhere" (16 : Nat) "BrokeWhere$Log") ∈ TB := TB_of 62 (by decide +kernel) rfl
theorem tw_63 : (Cond.instantiable "BrokeWhere$Log" (3 : Nat)) ∈ TB := TB_of 63 (by decide +kernel) rfl
theorem tw_65 : (Cond.instanceMethod ({ cls := "BrokeWhere$Log", name := "<init>", desc := "()V" } : MethodName)) ∈ TB := TB_of 65 (by decide +kernel) rfl
theorem tw_66 : (Cond.code ({ cls := "BrokeWhere$Log", name := "<init>", desc := "()V" } : MethodName) prog_4_method_1_code (1 : Nat) (Option.none : Option FieldType)) ∈ TB := TB_of 66 (by decide +kernel) rfl
theorem tw_67 : (Cond.methodLink "BrokeWhere$Log" (3 : Nat) ({ cls := "java/lang/Object", name := "<init>", desc := "()V" } : MethodName)) ∈ TB := TB_of 67 (by decide +kernel) rfl
theorem tw_68 : (Cond.fieldLink "BrokeWhere$Log" (19 : Nat) "BrokeWhere$Log" "count" "I") ∈ TB := TB_of 68 (by decide +kernel) rfl
theorem tw_69 : (Cond.fieldLink "BrokeWhere$Stories" (45 : Nat) "BrokeWhere$Log" "count" "I") ∈ TB := TB_of 69 (by decide +kernel) rfl
theorem tw_70 : (Cond.fieldLink "BrokeWhere" (117 : Nat) "BrokeWhere$Log" "count" "I") ∈ TB := TB_of 70 (by decide +kernel) rfl
theorem tw_71 : (Cond.fieldLink "BrokeWhere$Log" (9 : Nat) "BrokeWhere$Log" "version" "[I") ∈ TB := TB_of 71 (by decide +kernel) rfl
theorem tw_72 : (Cond.fieldLink "BrokeWhere$Stories" (51 : Nat) "BrokeWhere$Log" "version" "[I") ∈ TB := TB_of 72 (by decide +kernel) rfl
theorem tw_73 : (Cond.fieldLink "BrokeWhere" (118 : Nat) "BrokeWhere$Log" "version" "[I") ∈ TB := TB_of 73 (by decide +kernel) rfl
theorem tw_74 : (Cond.fieldLink "BrokeWhere$Log" (15 : Nat) "BrokeWhere$Log" "passed" "[Z") ∈ TB := TB_of 74 (by decide +kernel) rfl
theorem tw_75 : (Cond.fieldLink "BrokeWhere$Stories" (58 : Nat) "BrokeWhere$Log" "passed" "[Z") ∈ TB := TB_of 75 (by decide +kernel) rfl
theorem tw_76 : (Cond.fieldLink "BrokeWhere" (121 : Nat) "BrokeWhere$Log" "passed" "[Z") ∈ TB := TB_of 76 (by decide +kernel) rfl
theorem tw_77 : (Cond.lays "BrokeWhere$Log" "BrokeWhere$Log" "count" "I") ∈ TB := TB_of 77 (by decide +kernel) rfl
theorem tw_79 : (Cond.laysFinal "BrokeWhere$Log" "BrokeWhere$Log" "version" "[I") ∈ TB := TB_of 79 (by decide +kernel) rfl
theorem tw_81 : (Cond.laysFinal "BrokeWhere$Log" "BrokeWhere$Log" "passed" "[Z") ∈ TB := TB_of 81 (by decide +kernel) rfl
theorem tw_84 : (Cond.arrayClass FieldType.boolean) ∈ TB := TB_of 84 (by decide +kernel) rfl
theorem tw_85 : (Cond.classLink "BrokeWhere" (23 : Nat) "BrokeWhere$Stories") ∈ TB := TB_of 85 (by decide +kernel) rfl
theorem tw_86 : (Cond.instantiable "BrokeWhere$Stories" (10 : Nat)) ∈ TB := TB_of 86 (by decide +kernel) rfl
theorem tw_87 : (Cond.methodLink "BrokeWhere" (25 : Nat) ({ cls := "BrokeWhere$Stories", name := "<init>", desc := "(LBrokeWhere$History;LBrokeWhere$Log;)V" } : MethodName)) ∈ TB := TB_of 87 (by decide +kernel) rfl
theorem tw_88 : (Cond.instanceMethod ({ cls := "BrokeWhere$Stories", name := "<init>", desc := "(LBrokeWhere$History;LBrokeWhere$Log;)V" } : MethodName)) ∈ TB := TB_of 88 (by decide +kernel) rfl
theorem tw_89 : (Cond.code ({ cls := "BrokeWhere$Stories", name := "<init>", desc := "(LBrokeWhere$History;LBrokeWhere$Log;)V" } : MethodName) prog_6_method_1_code (3 : Nat) (Option.none : Option FieldType)) ∈ TB := TB_of 89 (by decide +kernel) rfl
theorem tw_90 : (Cond.methodLink "BrokeWhere$Stories" (3 : Nat) ({ cls := "java/lang/Object", name := "<init>", desc := "()V" } : MethodName)) ∈ TB := TB_of 90 (by decide +kernel) rfl
theorem tw_91 : (Cond.fieldLink "BrokeWhere$Stories" (25 : Nat) "BrokeWhere$Stories" "history" "LBrokeWhere$History;") ∈ TB := TB_of 91 (by decide +kernel) rfl
theorem tw_92 : (Cond.fieldLink "BrokeWhere$Stories" (29 : Nat) "BrokeWhere$Stories" "log" "LBrokeWhere$Log;") ∈ TB := TB_of 92 (by decide +kernel) rfl
theorem tw_93 : (Cond.fieldLink "BrokeWhere$Stories" (9 : Nat) "BrokeWhere$Stories" "trusts" "[I") ∈ TB := TB_of 93 (by decide +kernel) rfl
theorem tw_94 : (Cond.fieldLink "BrokeWhere" (108 : Nat) "BrokeWhere$Stories" "trusts" "[I") ∈ TB := TB_of 94 (by decide +kernel) rfl
theorem tw_95 : (Cond.fieldLink "BrokeWhere$Stories" (66 : Nat) "BrokeWhere$Stories" "count" "I") ∈ TB := TB_of 95 (by decide +kernel) rfl
theorem tw_96 : (Cond.fieldLink "BrokeWhere$Stories" (15 : Nat) "BrokeWhere$Stories" "places" "[I") ∈ TB := TB_of 96 (by decide +kernel) rfl
theorem tw_97 : (Cond.fieldLink "BrokeWhere$Stories" (18 : Nat) "BrokeWhere$Stories" "weights" "[J") ∈ TB := TB_of 97 (by decide +kernel) rfl
theorem tw_98 : (Cond.fieldLink "BrokeWhere$Stories" (22 : Nat) "BrokeWhere$Stories" "failing" "[I") ∈ TB := TB_of 98 (by decide +kernel) rfl
theorem tw_99 : (Cond.fieldLink "BrokeWhere$Stories" (67 : Nat) "BrokeWhere$Stories" "all" "J") ∈ TB := TB_of 99 (by decide +kernel) rfl
theorem tw_100 : (Cond.fieldLink "BrokeWhere" (143 : Nat) "BrokeWhere$Stories" "all" "J") ∈ TB := TB_of 100 (by decide +kernel) rfl
theorem tw_101 : (Cond.fieldLink "BrokeWhere$Stories" (71 : Nat) "BrokeWhere$Stories" "heaviest" "I") ∈ TB := TB_of 101 (by decide +kernel) rfl
theorem tw_102 : (Cond.fieldLink "BrokeWhere" (160 : Nat) "BrokeWhere$Stories" "heaviest" "I") ∈ TB := TB_of 102 (by decide +kernel) rfl
theorem tw_103 : (Cond.fieldLink "BrokeWhere$Stories" (74 : Nat) "BrokeWhere$Stories" "most" "J") ∈ TB := TB_of 103 (by decide +kernel) rfl
theorem tw_104 : (Cond.laysFinal "BrokeWhere$Stories" "BrokeWhere$Stories" "history" "LBrokeWhere$History;") ∈ TB := TB_of 104 (by decide +kernel) rfl
theorem tw_106 : (Cond.laysFinal "BrokeWhere$Stories" "BrokeWhere$Stories" "log" "LBrokeWhere$Log;") ∈ TB := TB_of 106 (by decide +kernel) rfl
theorem tw_108 : (Cond.laysFinal "BrokeWhere$Stories" "BrokeWhere$Stories" "trusts" "[I") ∈ TB := TB_of 108 (by decide +kernel) rfl
theorem tw_110 : (Cond.lays "BrokeWhere$Stories" "BrokeWhere$Stories" "count" "I") ∈ TB := TB_of 110 (by decide +kernel) rfl
theorem tw_112 : (Cond.laysFinal "BrokeWhere$Stories" "BrokeWhere$Stories" "places" "[I") ∈ TB := TB_of 112 (by decide +kernel) rfl
theorem tw_114 : (Cond.laysFinal "BrokeWhere$Stories" "BrokeWhere$Stories" "weights" "[J") ∈ TB := TB_of 114 (by decide +kernel) rfl
theorem tw_116 : (Cond.laysFinal "BrokeWhere$Stories" "BrokeWhere$Stories" "failing" "[I") ∈ TB := TB_of 116 (by decide +kernel) rfl
theorem tw_118 : (Cond.lays "BrokeWhere$Stories" "BrokeWhere$Stories" "all" "J") ∈ TB := TB_of 118 (by decide +kernel) rfl
theorem tw_120 : (Cond.lays "BrokeWhere$Stories" "BrokeWhere$Stories" "heaviest" "I") ∈ TB := TB_of 120 (by decide +kernel) rfl
theorem tw_122 : (Cond.lays "BrokeWhere$Stories" "BrokeWhere$Stories" "most" "J") ∈ TB := TB_of 122 (by decide +kernel) rfl
theorem tw_125 : (Cond.arrayClass FieldType.long) ∈ TB := TB_of 125 (by decide +kernel) rfl
theorem tw_126 : (Cond.classLink "BrokeWhere" (32 : Nat) "BrokeWhere$Partings") ∈ TB := TB_of 126 (by decide +kernel) rfl
theorem tw_127 : (Cond.instantiable "BrokeWhere$Partings" (4 : Nat)) ∈ TB := TB_of 127 (by decide +kernel) rfl
theorem tw_128 : (Cond.methodLink "BrokeWhere" (34 : Nat) ({ cls := "BrokeWhere$Partings", name := "<init>", desc := "(LBrokeWhere$History;Z)V" } : MethodName)) ∈ TB := TB_of 128 (by decide +kernel) rfl
theorem tw_129 : (Cond.instanceMethod ({ cls := "BrokeWhere$Partings", name := "<init>", desc := "(LBrokeWhere$History;Z)V" } : MethodName)) ∈ TB := TB_of 129 (by decide +kernel) rfl
theorem tw_130 : (Cond.code ({ cls := "BrokeWhere$Partings", name := "<init>", desc := "(LBrokeWhere$History;Z)V" } : MethodName) prog_5_method_1_code (3 : Nat) (Option.none : Option FieldType)) ∈ TB := TB_of 130 (by decide +kernel) rfl
theorem tw_131 : (Cond.methodLink "BrokeWhere$Partings" (3 : Nat) ({ cls := "java/lang/Object", name := "<init>", desc := "()V" } : MethodName)) ∈ TB := TB_of 131 (by decide +kernel) rfl
theorem tw_132 : (Cond.fieldLink "BrokeWhere$Partings" (15 : Nat) "BrokeWhere$Partings" "history" "LBrokeWhere$History;") ∈ TB := TB_of 132 (by decide +kernel) rfl
theorem tw_133 : (Cond.fieldLink "BrokeWhere$Partings" (19 : Nat) "BrokeWhere$Partings" "byCost" "Z") ∈ TB := TB_of 133 (by decide +kernel) rfl
theorem tw_134 : (Cond.fieldLink "BrokeWhere$Partings" (9 : Nat) "BrokeWhere$Partings" "known" "[I") ∈ TB := TB_of 134 (by decide +kernel) rfl
theorem tw_135 : (Cond.fieldLink "BrokeWhere$Partings" (44 : Nat) "BrokeWhere$Partings" "stale" "Z") ∈ TB := TB_of 135 (by decide +kernel) rfl
theorem tw_136 : (Cond.fieldLink "BrokeWhere" (238 : Nat) "BrokeWhere$Partings" "stale" "Z") ∈ TB := TB_of 136 (by decide +kernel) rfl
theorem tw_137 : (Cond.laysFinal "BrokeWhere$Partings" "BrokeWhere$Partings" "history" "LBrokeWhere$History;") ∈ TB := TB_of 137 (by decide +kernel) rfl
theorem tw_139 : (Cond.laysFinal "BrokeWhere$Partings" "BrokeWhere$Partings" "byCost" "Z") ∈ TB := TB_of 139 (by decide +kernel) rfl
theorem tw_141 : (Cond.laysFinal "BrokeWhere$Partings" "BrokeWhere$Partings" "known" "[I") ∈ TB := TB_of 141 (by decide +kernel) rfl
theorem tw_143 : (Cond.lays "BrokeWhere$Partings" "BrokeWhere$Partings" "stale" "Z") ∈ TB := TB_of 143 (by decide +kernel) rfl
theorem tw_146 : (Cond.classLink "BrokeWhere" (44 : Nat) "BrokeWhere$Text") ∈ TB := TB_of 146 (by decide +kernel) rfl
theorem tw_147 : (Cond.instantiable "BrokeWhere$Text" (3 : Nat)) ∈ TB := TB_of 147 (by decide +kernel) rfl
theorem tw_149 : (Cond.instanceMethod ({ cls := "BrokeWhere$Text", name := "<init>", desc := "()V" } : MethodName)) ∈ TB := TB_of 149 (by decide +kernel) rfl
theorem tw_150 : (Cond.code ({ cls := "BrokeWhere$Text", name := "<init>", desc := "()V" } : MethodName) prog_7_method_1_code (1 : Nat) (Option.none : Option FieldType)) ∈ TB := TB_of 150 (by decide +kernel) rfl
theorem tw_151 : (Cond.methodLink "BrokeWhere$Text" (3 : Nat) ({ cls := "java/lang/Object", name := "<init>", desc := "()V" } : MethodName)) ∈ TB := TB_of 151 (by decide +kernel) rfl
theorem tw_152 : (Cond.fieldLink "BrokeWhere$Text" (18 : Nat) "BrokeWhere$Text" "length" "I") ∈ TB := TB_of 152 (by decide +kernel) rfl
theorem tw_153 : (Cond.fieldLink "BrokeWhere$Truth" (18 : Nat) "BrokeWhere$Text" "length" "I") ∈ TB := TB_of 153 (by decide +kernel) rfl
theorem tw_154 : (Cond.fieldLink "BrokeWhere" (190 : Nat) "BrokeWhere$Text" "length" "I") ∈ TB := TB_of 154 (by decide +kernel) rfl
theorem tw_155 : (Cond.fieldLink "BrokeWhere$Text" (9 : Nat) "BrokeWhere$Text" "signs" "[I") ∈ TB := TB_of 155 (by decide +kernel) rfl
theorem tw_156 : (Cond.fieldLink "BrokeWhere$Truth" (29 : Nat) "BrokeWhere$Text" "signs" "[I") ∈ TB := TB_of 156 (by decide +kernel) rfl
theorem tw_157 : (Cond.fieldLink "BrokeWhere$Text" (15 : Nat) "BrokeWhere$Text" "due" "[I") ∈ TB := TB_of 157 (by decide +kernel) rfl
theorem tw_158 : (Cond.lays "BrokeWhere$Text" "BrokeWhere$Text" "length" "I") ∈ TB := TB_of 158 (by decide +kernel) rfl
theorem tw_160 : (Cond.laysFinal "BrokeWhere$Text" "BrokeWhere$Text" "signs" "[I") ∈ TB := TB_of 160 (by decide +kernel) rfl
theorem tw_162 : (Cond.laysFinal "BrokeWhere$Text" "BrokeWhere$Text" "due" "[I") ∈ TB := TB_of 162 (by decide +kernel) rfl
theorem tw_165 : (Cond.classLink "BrokeWhere" (51 : Nat) "BrokeWhere$Truth") ∈ TB := TB_of 165 (by decide +kernel) rfl
theorem tw_166 : (Cond.instantiable "BrokeWhere$Truth" (3 : Nat)) ∈ TB := TB_of 166 (by decide +kernel) rfl
theorem tw_168 : (Cond.instanceMethod ({ cls := "BrokeWhere$Truth", name := "<init>", desc := "()V" } : MethodName)) ∈ TB := TB_of 168 (by decide +kernel) rfl
theorem tw_169 : (Cond.code ({ cls := "BrokeWhere$Truth", name := "<init>", desc := "()V" } : MethodName) prog_8_method_1_code (1 : Nat) (Option.none : Option FieldType)) ∈ TB := TB_of 169 (by decide +kernel) rfl
theorem tw_170 : (Cond.methodLink "BrokeWhere$Truth" (3 : Nat) ({ cls := "java/lang/Object", name := "<init>", desc := "()V" } : MethodName)) ∈ TB := TB_of 170 (by decide +kernel) rfl
theorem tw_171 : (Cond.fieldLink "BrokeWhere$Truth" (24 : Nat) "BrokeWhere$Truth" "length" "I") ∈ TB := TB_of 171 (by decide +kernel) rfl
theorem tw_172 : (Cond.fieldLink "BrokeWhere" (201 : Nat) "BrokeWhere$Truth" "length" "I") ∈ TB := TB_of 172 (by decide +kernel) rfl
theorem tw_173 : (Cond.fieldLink "BrokeWhere$Truth" (9 : Nat) "BrokeWhere$Truth" "failing" "[J") ∈ TB := TB_of 173 (by decide +kernel) rfl
theorem tw_174 : (Cond.fieldLink "BrokeWhere$Families" (53 : Nat) "BrokeWhere$Truth" "failing" "[J") ∈ TB := TB_of 174 (by decide +kernel) rfl
theorem tw_175 : (Cond.fieldLink "BrokeWhere" (205 : Nat) "BrokeWhere$Truth" "failing" "[J") ∈ TB := TB_of 175 (by decide +kernel) rfl
theorem tw_176 : (Cond.fieldLink "BrokeWhere$Truth" (15 : Nat) "BrokeWhere$Truth" "values" "[J") ∈ TB := TB_of 176 (by decide +kernel) rfl
theorem tw_177 : (Cond.lays "BrokeWhere$Truth" "BrokeWhere$Truth" "length" "I") ∈ TB := TB_of 177 (by decide +kernel) rfl
theorem tw_179 : (Cond.laysFinal "BrokeWhere$Truth" "BrokeWhere$Truth" "failing" "[J") ∈ TB := TB_of 179 (by decide +kernel) rfl
theorem tw_181 : (Cond.laysFinal "BrokeWhere$Truth" "BrokeWhere$Truth" "values" "[J") ∈ TB := TB_of 181 (by decide +kernel) rfl
theorem tw_184 : (Cond.classLink "BrokeWhere" (58 : Nat) "BrokeWhere$Families") ∈ TB := TB_of 184 (by decide +kernel) rfl
theorem tw_185 : (Cond.instantiable "BrokeWhere$Families" (4 : Nat)) ∈ TB := TB_of 185 (by decide +kernel) rfl
theorem tw_186 : (Cond.methodLink "BrokeWhere" (60 : Nat) ({ cls := "BrokeWhere$Families", name := "<init>", desc := "(LBrokeWhere$History;LBrokeWhere$Truth;)V" } : MethodName)) ∈ TB := TB_of 186 (by decide +kernel) rfl
theorem tw_187 : (Cond.instanceMethod ({ cls := "BrokeWhere$Families", name := "<init>", desc := "(LBrokeWhere$History;LBrokeWhere$Truth;)V" } : MethodName)) ∈ TB := TB_of 187 (by decide +kernel) rfl
theorem tw_188 : (Cond.code ({ cls := "BrokeWhere$Families", name := "<init>", desc := "(LBrokeWhere$History;LBrokeWhere$Truth;)V" } : MethodName) prog_2_method_1_code (3 : Nat) (Option.none : Option FieldType)) ∈ TB := TB_of 188 (by decide +kernel) rfl
theorem tw_189 : (Cond.methodLink "BrokeWhere$Families" (3 : Nat) ({ cls := "java/lang/Object", name := "<init>", desc := "()V" } : MethodName)) ∈ TB := TB_of 189 (by decide +kernel) rfl
theorem tw_190 : (Cond.fieldLink "BrokeWhere$Families" (18 : Nat) "BrokeWhere$Families" "history" "LBrokeWhere$History;") ∈ TB := TB_of 190 (by decide +kernel) rfl
theorem tw_191 : (Cond.fieldLink "BrokeWhere$Families" (22 : Nat) "BrokeWhere$Families" "truth" "LBrokeWhere$Truth;") ∈ TB := TB_of 191 (by decide +kernel) rfl
theorem tw_192 : (Cond.fieldLink "BrokeWhere$Families" (9 : Nat) "BrokeWhere$Families" "found" "[J") ∈ TB := TB_of 192 (by decide +kernel) rfl
theorem tw_193 : (Cond.fieldLink "BrokeWhere$Families" (15 : Nat) "BrokeWhere$Families" "holding" "[J") ∈ TB := TB_of 193 (by decide +kernel) rfl
theorem tw_194 : (Cond.laysFinal "BrokeWhere$Families" "BrokeWhere$Families" "history" "LBrokeWhere$History;") ∈ TB := TB_of 194 (by decide +kernel) rfl
theorem tw_196 : (Cond.laysFinal "BrokeWhere$Families" "BrokeWhere$Families" "truth" "LBrokeWhere$Truth;") ∈ TB := TB_of 196 (by decide +kernel) rfl
theorem tw_198 : (Cond.laysFinal "BrokeWhere$Families" "BrokeWhere$Families" "found" "[J") ∈ TB := TB_of 198 (by decide +kernel) rfl
theorem tw_200 : (Cond.laysFinal "BrokeWhere$Families" "BrokeWhere$Families" "holding" "[J") ∈ TB := TB_of 200 (by decide +kernel) rfl
theorem tw_203 : (Cond.fieldLink "BrokeWhere" (12 : Nat) "BrokeWhere" "history" "LBrokeWhere$History;") ∈ TB := TB_of 203 (by decide +kernel) rfl
theorem tw_204 : (Cond.fieldLink "BrokeWhere" (19 : Nat) "BrokeWhere" "log" "LBrokeWhere$Log;") ∈ TB := TB_of 204 (by decide +kernel) rfl
theorem tw_205 : (Cond.fieldLink "BrokeWhere" (28 : Nat) "BrokeWhere" "stories" "LBrokeWhere$Stories;") ∈ TB := TB_of 205 (by decide +kernel) rfl
theorem tw_206 : (Cond.fieldLink "BrokeWhere" (37 : Nat) "BrokeWhere" "fewest" "LBrokeWhere$Partings;") ∈ TB := TB_of 206 (by decide +kernel) rfl
theorem tw_207 : (Cond.fieldLink "BrokeWhere" (41 : Nat) "BrokeWhere" "cheapest" "LBrokeWhere$Partings;") ∈ TB := TB_of 207 (by decide +kernel) rfl
theorem tw_208 : (Cond.fieldLink "BrokeWhere" (47 : Nat) "BrokeWhere" "signs" "LBrokeWhere$Text;") ∈ TB := TB_of 208 (by decide +kernel) rfl
theorem tw_209 : (Cond.fieldLink "BrokeWhere" (54 : Nat) "BrokeWhere" "verdict" "LBrokeWhere$Truth;") ∈ TB := TB_of 209 (by decide +kernel) rfl
theorem tw_210 : (Cond.fieldLink "BrokeWhere" (63 : Nat) "BrokeWhere" "families" "LBrokeWhere$Families;") ∈ TB := TB_of 210 (by decide +kernel) rfl
theorem tw_211 : (Cond.laysFinal "BrokeWhere" "BrokeWhere" "history" "LBrokeWhere$History;") ∈ TB := TB_of 211 (by decide +kernel) rfl
theorem tw_213 : (Cond.laysFinal "BrokeWhere" "BrokeWhere" "log" "LBrokeWhere$Log;") ∈ TB := TB_of 213 (by decide +kernel) rfl
theorem tw_215 : (Cond.laysFinal "BrokeWhere" "BrokeWhere" "stories" "LBrokeWhere$Stories;") ∈ TB := TB_of 215 (by decide +kernel) rfl
theorem tw_217 : (Cond.laysFinal "BrokeWhere" "BrokeWhere" "fewest" "LBrokeWhere$Partings;") ∈ TB := TB_of 217 (by decide +kernel) rfl
theorem tw_219 : (Cond.laysFinal "BrokeWhere" "BrokeWhere" "cheapest" "LBrokeWhere$Partings;") ∈ TB := TB_of 219 (by decide +kernel) rfl
theorem tw_221 : (Cond.laysFinal "BrokeWhere" "BrokeWhere" "signs" "LBrokeWhere$Text;") ∈ TB := TB_of 221 (by decide +kernel) rfl
theorem tw_223 : (Cond.laysFinal "BrokeWhere" "BrokeWhere" "verdict" "LBrokeWhere$Truth;") ∈ TB := TB_of 223 (by decide +kernel) rfl
theorem tw_225 : (Cond.laysFinal "BrokeWhere" "BrokeWhere" "families" "LBrokeWhere$Families;") ∈ TB := TB_of 225 (by decide +kernel) rfl
theorem tw_228 : (Cond.methodLink "BrokeWhereLaw" (13 : Nat) ({ cls := "BrokeWhere", name := "version", desc := "(III)I" } : MethodName)) ∈ TB := TB_of 228 (by decide +kernel) rfl
theorem tw_229 : (Cond.instanceMethod ({ cls := "BrokeWhere", name := "version", desc := "(III)I" } : MethodName)) ∈ TB := TB_of 229 (by decide +kernel) rfl
theorem tw_230 : (Cond.selects "BrokeWhere" ({ cls := "BrokeWhere", name := "version", desc := "(III)I" } : MethodName) ({ cls := "BrokeWhere", name := "version", desc := "(III)I" } : MethodName)) ∈ TB := TB_of 230 (by decide +kernel) rfl
theorem tw_231 : (Cond.code ({ cls := "BrokeWhere", name := "version", desc := "(III)I" } : MethodName) prog_1_method_2_code (4 : Nat) (Option.some FieldType.int)) ∈ TB := TB_of 231 (by decide +kernel) rfl
theorem tw_232 : (Cond.methodLink "BrokeWhere" (67 : Nat) ({ cls := "BrokeWhere$History", name := "mayStandOn", desc := "(II)Z" } : MethodName)) ∈ TB := TB_of 232 (by decide +kernel) rfl
theorem tw_233 : (Cond.instanceMethod ({ cls := "BrokeWhere$History", name := "mayStandOn", desc := "(II)Z" } : MethodName)) ∈ TB := TB_of 233 (by decide +kernel) rfl
theorem tw_234 : (Cond.selects "BrokeWhere$History" ({ cls := "BrokeWhere$History", name := "mayStandOn", desc := "(II)Z" } : MethodName) ({ cls := "BrokeWhere$History", name := "mayStandOn", desc := "(II)Z" } : MethodName)) ∈ TB := TB_of 234 (by decide +kernel) rfl
theorem tw_235 : (Cond.code ({ cls := "BrokeWhere$History", name := "mayStandOn", desc := "(II)Z" } : MethodName) prog_3_method_4_code (3 : Nat) (Option.some FieldType.boolean)) ∈ TB := TB_of 235 (by decide +kernel) rfl
theorem tw_236 : (Cond.methodLink "BrokeWhere$History" (34 : Nat) ({ cls := "BrokeWhere$History", name := "knows", desc := "(I)Z" } : MethodName)) ∈ TB := TB_of 236 (by decide +kernel) rfl
theorem tw_237 : (Cond.instanceMethod ({ cls := "BrokeWhere$History", name := "knows", desc := "(I)Z" } : MethodName)) ∈ TB := TB_of 237 (by decide +kernel) rfl
theorem tw_238 : (Cond.selects "BrokeWhere$History" ({ cls := "BrokeWhere$History", name := "knows", desc := "(I)Z" } : MethodName) ({ cls := "BrokeWhere$History", name := "knows", desc := "(I)Z" } : MethodName)) ∈ TB := TB_of 238 (by decide +kernel) rfl
theorem tw_239 : (Cond.code ({ cls := "BrokeWhere$History", name := "knows", desc := "(I)Z" } : MethodName) prog_3_method_2_code (2 : Nat) (Option.some FieldType.boolean)) ∈ TB := TB_of 239 (by decide +kernel) rfl
theorem tw_240 : (Cond.methodLink "BrokeWhere" (71 : Nat) ({ cls := "BrokeWhere", name := "isFrom", desc := "(III)Z" } : MethodName)) ∈ TB := TB_of 240 (by decide +kernel) rfl
theorem tw_241 : (Cond.static ({ cls := "BrokeWhere", name := "isFrom", desc := "(III)Z" } : MethodName)) ∈ TB := TB_of 241 (by decide +kernel) rfl
theorem tw_242 : (Cond.code ({ cls := "BrokeWhere", name := "isFrom", desc := "(III)Z" } : MethodName) prog_1_method_31_code (3 : Nat) (Option.some FieldType.boolean)) ∈ TB := TB_of 242 (by decide +kernel) rfl
theorem tw_243 : (Cond.methodLink "BrokeWhere" (79 : Nat) ({ cls := "BrokeWhere", name := "forgetPartings", desc := "()V" } : MethodName)) ∈ TB := TB_of 243 (by decide +kernel) rfl
theorem tw_245 : (Cond.instanceMethod ({ cls := "BrokeWhere", name := "forgetPartings", desc := "()V" } : MethodName)) ∈ TB := TB_of 245 (by decide +kernel) rfl
theorem tw_246 : (Cond.code ({ cls := "BrokeWhere", name := "forgetPartings", desc := "()V" } : MethodName) prog_1_method_28_code (1 : Nat) (Option.none : Option FieldType)) ∈ TB := TB_of 246 (by decide +kernel) rfl
theorem tw_247 : (Cond.methodLink "BrokeWhere" (82 : Nat) ({ cls := "BrokeWhere$History", name := "add", desc := "(III)I" } : MethodName)) ∈ TB := TB_of 247 (by decide +kernel) rfl
theorem tw_248 : (Cond.instanceMethod ({ cls := "BrokeWhere$History", name := "add", desc := "(III)I" } : MethodName)) ∈ TB := TB_of 248 (by decide +kernel) rfl
theorem tw_249 : (Cond.selects "BrokeWhere$History" ({ cls := "BrokeWhere$History", name := "add", desc := "(III)I" } : MethodName) ({ cls := "BrokeWhere$History", name := "add", desc := "(III)I" } : MethodName)) ∈ TB := TB_of 249 (by decide +kernel) rfl
theorem tw_250 : (Cond.code ({ cls := "BrokeWhere$History", name := "add", desc := "(III)I" } : MethodName) prog_3_method_5_code (7 : Nat) (Option.some FieldType.int)) ∈ TB := TB_of 250 (by decide +kernel) rfl
theorem tw_252 : (Cond.static ({ cls := "BrokeWhere", name := "isBit", desc := "(II)Z" } : MethodName)) ∈ TB := TB_of 252 (by decide +kernel) rfl
theorem tw_253 : (Cond.code ({ cls := "BrokeWhere", name := "isBit", desc := "(II)Z" } : MethodName) prog_1_method_33_code (2 : Nat) (Option.some FieldType.boolean)) ∈ TB := TB_of 253 (by decide +kernel) rfl
theorem tw_254 : (Cond.methodLink "BrokeWhereLaw" (18 : Nat) ({ cls := "BrokeWhere", name := "has", desc := "(I)I" } : MethodName)) ∈ TB := TB_of 254 (by decide +kernel) rfl
theorem tw_255 : (Cond.instanceMethod ({ cls := "BrokeWhere", name := "has", desc := "(I)I" } : MethodName)) ∈ TB := TB_of 255 (by decide +kernel) rfl
theorem tw_256 : (Cond.selects "BrokeWhere" ({ cls := "BrokeWhere", name := "has", desc := "(I)I" } : MethodName) ({ cls := "BrokeWhere", name := "has", desc := "(I)I" } : MethodName)) ∈ TB := TB_of 256 (by decide +kernel) rfl
theorem tw_257 : (Cond.code ({ cls := "BrokeWhere", name := "has", desc := "(I)I" } : MethodName) prog_1_method_3_code (2 : Nat) (Option.some FieldType.int)) ∈ TB := TB_of 257 (by decide +kernel) rfl
theorem tw_258 : (Cond.methodLink "BrokeWhere" (86 : Nat) ({ cls := "BrokeWhere$History", name := "knows", desc := "(I)Z" } : MethodName)) ∈ TB := TB_of 258 (by decide +kernel) rfl
theorem tw_259 : (Cond.methodLink "BrokeWhereLaw" (23 : Nat) ({ cls := "BrokeWhere", name := "set", desc := "(III)I" } : MethodName)) ∈ TB := TB_of 259 (by decide +kernel) rfl
theorem tw_260 : (Cond.instanceMethod ({ cls := "BrokeWhere", name := "set", desc := "(III)I" } : MethodName)) ∈ TB := TB_of 260 (by decide +kernel) rfl
theorem tw_261 : (Cond.selects "BrokeWhere" ({ cls := "BrokeWhere", name := "set", desc := "(III)I" } : MethodName) ({ cls := "BrokeWhere", name := "set", desc := "(III)I" } : MethodName)) ∈ TB := TB_of 261 (by decide +kernel) rfl
theorem tw_262 : (Cond.code ({ cls := "BrokeWhere", name := "set", desc := "(III)I" } : MethodName) prog_1_method_4_code (4 : Nat) (Option.some FieldType.int)) ∈ TB := TB_of 262 (by decide +kernel) rfl
theorem tw_263 : (Cond.methodLink "BrokeWhere" (94 : Nat) ({ cls := "BrokeWhere$History", name := "mayBe", desc := "(III)Z" } : MethodName)) ∈ TB := TB_of 263 (by decide +kernel) rfl
theorem tw_264 : (Cond.instanceMethod ({ cls := "BrokeWhere$History", name := "mayBe", desc := "(III)Z" } : MethodName)) ∈ TB := TB_of 264 (by decide +kernel) rfl
theorem tw_265 : (Cond.selects "BrokeWhere$History" ({ cls := "BrokeWhere$History", name := "mayBe", desc := "(III)Z" } : MethodName) ({ cls := "BrokeWhere$History", name := "mayBe", desc := "(III)Z" } : MethodName)) ∈ TB := TB_of 265 (by decide +kernel) rfl
theorem tw_266 : (Cond.code ({ cls := "BrokeWhere$History", name := "mayBe", desc := "(III)Z" } : MethodName) prog_3_method_6_code (4 : Nat) (Option.some FieldType.boolean)) ∈ TB := TB_of 266 (by decide +kernel) rfl
theorem tw_268 : (Cond.methodLink "BrokeWhere" (97 : Nat) ({ cls := "BrokeWhere$Log", name := "holdsTestOf", desc := "(I)Z" } : MethodName)) ∈ TB := TB_of 268 (by decide +kernel) rfl
theorem tw_269 : (Cond.instanceMethod ({ cls := "BrokeWhere$Log", name := "holdsTestOf", desc := "(I)Z" } : MethodName)) ∈ TB := TB_of 269 (by decide +kernel) rfl
theorem tw_270 : (Cond.selects "BrokeWhere$Log" ({ cls := "BrokeWhere$Log", name := "holdsTestOf", desc := "(I)Z" } : MethodName) ({ cls := "BrokeWhere$Log", name := "holdsTestOf", desc := "(I)Z" } : MethodName)) ∈ TB := TB_of 270 (by decide +kernel) rfl
theorem tw_271 : (Cond.code ({ cls := "BrokeWhere$Log", name := "holdsTestOf", desc := "(I)Z" } : MethodName) prog_4_method_3_code (3 : Nat) (Option.some FieldType.boolean)) ∈ TB := TB_of 271 (by decide +kernel) rfl
theorem tw_272 : (Cond.methodLink "BrokeWhere" (100 : Nat) ({ cls := "BrokeWhere$History", name := "row", desc := "(I)[I" } : MethodName)) ∈ TB := TB_of 272 (by decide +kernel) rfl
theorem tw_273 : (Cond.instanceMethod ({ cls := "BrokeWhere$History", name := "row", desc := "(I)[I" } : MethodName)) ∈ TB := TB_of 273 (by decide +kernel) rfl
theorem tw_274 : (Cond.selects "BrokeWhere$History" ({ cls := "BrokeWhere$History", name := "row", desc := "(I)[I" } : MethodName) ({ cls := "BrokeWhere$History", name := "row", desc := "(I)[I" } : MethodName)) ∈ TB := TB_of 274 (by decide +kernel) rfl
theorem tw_275 : (Cond.code ({ cls := "BrokeWhere$History", name := "row", desc := "(I)[I" } : MethodName) prog_3_method_7_code (2 : Nat) (Option.some (FieldType.array FieldType.int))) ∈ TB := TB_of 275 (by decide +kernel) rfl
theorem tw_276 : (Cond.methodLink "BrokeWhere" (104 : Nat) ({ cls := "BrokeWhere", name := "swap", desc := "([III)I" } : MethodName)) ∈ TB := TB_of 276 (by decide +kernel) rfl
theorem tw_277 : (Cond.static ({ cls := "BrokeWhere", name := "swap", desc := "([III)I" } : MethodName)) ∈ TB := TB_of 277 (by decide +kernel) rfl
theorem tw_278 : (Cond.code ({ cls := "BrokeWhere", name := "swap", desc := "([III)I" } : MethodName) prog_1_method_34_code (4 : Nat) (Option.some FieldType.int)) ∈ TB := TB_of 278 (by decide +kernel) rfl
theorem tw_279 : (Cond.methodLink "BrokeWhereLaw" (27 : Nat) ({ cls := "BrokeWhere", name := "trust", desc := "(II)I" } : MethodName)) ∈ TB := TB_of 279 (by decide +kernel) rfl
theorem tw_280 : (Cond.instanceMethod ({ cls := "BrokeWhere", name := "trust", desc := "(II)I" } : MethodName)) ∈ TB := TB_of 280 (by decide +kernel) rfl
theorem tw_281 : (Cond.selects "BrokeWhere" ({ cls := "BrokeWhere", name := "trust", desc := "(II)I" } : MethodName) ({ cls := "BrokeWhere", name := "trust", desc := "(II)I" } : MethodName)) ∈ TB := TB_of 281 (by decide +kernel) rfl
theorem tw_282 : (Cond.code ({ cls := "BrokeWhere", name := "trust", desc := "(II)I" } : MethodName) prog_1_method_5_code (3 : Nat) (Option.some FieldType.int)) ∈ TB := TB_of 282 (by decide +kernel) rfl
theorem tw_283 : (Cond.methodLink "BrokeWhereLaw" (32 : Nat) ({ cls := "BrokeWhere", name := "test", desc := "(IZ)I" } : MethodName)) ∈ TB := TB_of 283 (by decide +kernel) rfl
theorem tw_284 : (Cond.instanceMethod ({ cls := "BrokeWhere", name := "test", desc := "(IZ)I" } : MethodName)) ∈ TB := TB_of 284 (by decide +kernel) rfl
theorem tw_285 : (Cond.selects "BrokeWhere" ({ cls := "BrokeWhere", name := "test", desc := "(IZ)I" } : MethodName) ({ cls := "BrokeWhere", name := "test", desc := "(IZ)I" } : MethodName)) ∈ TB := TB_of 285 (by decide +kernel) rfl
theorem tw_286 : (Cond.code ({ cls := "BrokeWhere", name := "test", desc := "(IZ)I" } : MethodName) prog_1_method_6_code (3 : Nat) (Option.some FieldType.int)) ∈ TB := TB_of 286 (by decide +kernel) rfl
theorem tw_287 : (Cond.methodLink "BrokeWhere" (111 : Nat) ({ cls := "BrokeWhere$History", name := "hears", desc := "(I)Z" } : MethodName)) ∈ TB := TB_of 287 (by decide +kernel) rfl
theorem tw_288 : (Cond.instanceMethod ({ cls := "BrokeWhere$History", name := "hears", desc := "(I)Z" } : MethodName)) ∈ TB := TB_of 288 (by decide +kernel) rfl
theorem tw_289 : (Cond.selects "BrokeWhere$History" ({ cls := "BrokeWhere$History", name := "hears", desc := "(I)Z" } : MethodName) ({ cls := "BrokeWhere$History", name := "hears", desc := "(I)Z" } : MethodName)) ∈ TB := TB_of 289 (by decide +kernel) rfl
theorem tw_290 : (Cond.code ({ cls := "BrokeWhere$History", name := "hears", desc := "(I)Z" } : MethodName) prog_3_method_3_code (2 : Nat) (Option.some FieldType.boolean)) ∈ TB := TB_of 290 (by decide +kernel) rfl
theorem tw_291 : (Cond.methodLink "BrokeWhere" (114 : Nat) ({ cls := "BrokeWhere$Log", name := "add", desc := "(IZ)I" } : MethodName)) ∈ TB := TB_of 291 (by decide +kernel) rfl
theorem tw_292 : (Cond.instanceMethod ({ cls := "BrokeWhere$Log", name := "add", desc := "(IZ)I" } : MethodName)) ∈ TB := TB_of 292 (by decide +kernel) rfl
theorem tw_293 : (Cond.selects "BrokeWhere$Log" ({ cls := "BrokeWhere$Log", name := "add", desc := "(IZ)I" } : MethodName) ({ cls := "BrokeWhere$Log", name := "add", desc := "(IZ)I" } : MethodName)) ∈ TB := TB_of 293 (by decide +kernel) rfl
theorem tw_294 : (Cond.code ({ cls := "BrokeWhere$Log", name := "add", desc := "(IZ)I" } : MethodName) prog_4_method_2_code (4 : Nat) (Option.some FieldType.int)) ∈ TB := TB_of 294 (by decide +kernel) rfl
theorem tw_295 : (Cond.methodLink "BrokeWhereLaw" (37 : Nat) ({ cls := "BrokeWhere", name := "tested", desc := "(II)I" } : MethodName)) ∈ TB := TB_of 295 (by decide +kernel) rfl
theorem tw_296 : (Cond.instanceMethod ({ cls := "BrokeWhere", name := "tested", desc := "(II)I" } : MethodName)) ∈ TB := TB_of 296 (by decide +kernel) rfl
theorem tw_297 : (Cond.selects "BrokeWhere" ({ cls := "BrokeWhere", name := "tested", desc := "(II)I" } : MethodName) ({ cls := "BrokeWhere", name := "tested", desc := "(II)I" } : MethodName)) ∈ TB := TB_of 297 (by decide +kernel) rfl
theorem tw_298 : (Cond.code ({ cls := "BrokeWhere", name := "tested", desc := "(II)I" } : MethodName) prog_1_method_7_code (3 : Nat) (Option.some FieldType.int)) ∈ TB := TB_of 298 (by decide +kernel) rfl
theorem tw_299 : (Cond.methodLink "BrokeWhere" (125 : Nat) ({ cls := "BrokeWhere", name := "asNumber", desc := "(Z)I" } : MethodName)) ∈ TB := TB_of 299 (by decide +kernel) rfl
theorem tw_300 : (Cond.static ({ cls := "BrokeWhere", name := "asNumber", desc := "(Z)I" } : MethodName)) ∈ TB := TB_of 300 (by decide +kernel) rfl
theorem tw_301 : (Cond.code ({ cls := "BrokeWhere", name := "asNumber", desc := "(Z)I" } : MethodName) prog_1_method_32_code (1 : Nat) (Option.some FieldType.int)) ∈ TB := TB_of 301 (by decide +kernel) rfl
theorem tw_302 : (Cond.methodLink "BrokeWhereLaw" (41 : Nat) ({ cls := "BrokeWhere", name := "untest", desc := "()I" } : MethodName)) ∈ TB := TB_of 302 (by decide +kernel) rfl
theorem tw_303 : (Cond.instanceMethod ({ cls := "BrokeWhere", name := "untest", desc := "()I" } : MethodName)) ∈ TB := TB_of 303 (by decide +kernel) rfl
theorem tw_304 : (Cond.selects "BrokeWhere" ({ cls := "BrokeWhere", name := "untest", desc := "()I" } : MethodName) ({ cls := "BrokeWhere", name := "untest", desc := "()I" } : MethodName)) ∈ TB := TB_of 304 (by decide +kernel) rfl
theorem tw_305 : (Cond.code ({ cls := "BrokeWhere", name := "untest", desc := "()I" } : MethodName) prog_1_method_8_code (1 : Nat) (Option.some FieldType.int)) ∈ TB := TB_of 305 (by decide +kernel) rfl
theorem tw_306 : (Cond.methodLink "BrokeWhereLaw" (46 : Nat) ({ cls := "BrokeWhere", name := "weight", desc := "(III)J" } : MethodName)) ∈ TB := TB_of 306 (by decide +kernel) rfl
theorem tw_307 : (Cond.instanceMethod ({ cls := "BrokeWhere", name := "weight", desc := "(III)J" } : MethodName)) ∈ TB := TB_of 307 (by decide +kernel) rfl
theorem tw_308 : (Cond.selects "BrokeWhere" ({ cls := "BrokeWhere", name := "weight", desc := "(III)J" } : MethodName) ({ cls := "BrokeWhere", name := "weight", desc := "(III)J" } : MethodName)) ∈ TB := TB_of 308 (by decide +kernel) rfl
theorem tw_309 : (Cond.code ({ cls := "BrokeWhere", name := "weight", desc := "(III)J" } : MethodName) prog_1_method_9_code (5 : Nat) (Option.some FieldType.long)) ∈ TB := TB_of 309 (by decide +kernel) rfl
theorem tw_310 : (Cond.methodLink "BrokeWhere" (129 : Nat) ({ cls := "BrokeWhere", name := "storyRefusal", desc := "(III)I" } : MethodName)) ∈ TB := TB_of 310 (by decide +kernel) rfl
theorem tw_312 : (Cond.instanceMethod ({ cls := "BrokeWhere", name := "storyRefusal", desc := "(III)I" } : MethodName)) ∈ TB := TB_of 312 (by decide +kernel) rfl
theorem tw_313 : (Cond.code ({ cls := "BrokeWhere", name := "storyRefusal", desc := "(III)I" } : MethodName) prog_1_method_29_code (5 : Nat) (Option.some FieldType.int)) ∈ TB := TB_of 313 (by decide +kernel) rfl
theorem tw_314 : (Cond.methodLink "BrokeWhere" (132 : Nat) ({ cls := "BrokeWhere$Stories", name := "weightOf", desc := "(III)J" } : MethodName)) ∈ TB := TB_of 314 (by decide +kernel) rfl
theorem tw_315 : (Cond.instanceMethod ({ cls := "BrokeWhere$Stories", name := "weightOf", desc := "(III)J" } : MethodName)) ∈ TB := TB_of 315 (by decide +kernel) rfl
theorem tw_316 : (Cond.selects "BrokeWhere$Stories" ({ cls := "BrokeWhere$Stories", name := "weightOf", desc := "(III)J" } : MethodName) ({ cls := "BrokeWhere$Stories", name := "weightOf", desc := "(III)J" } : MethodName)) ∈ TB := TB_of 316 (by decide +kernel) rfl
theorem tw_317 : (Cond.code ({ cls := "BrokeWhere$Stories", name := "weightOf", desc := "(III)J" } : MethodName) prog_6_method_4_code (8 : Nat) (Option.some FieldType.long)) ∈ TB := TB_of 317 (by decide +kernel) rfl
theorem tw_318 : (Cond.methodLink "BrokeWhere$Stories" (41 : Nat) ({ cls := "BrokeWhere$Stories", name := "failingOf", desc := "(III)I" } : MethodName)) ∈ TB := TB_of 318 (by decide +kernel) rfl
theorem tw_319 : (Cond.instanceMethod ({ cls := "BrokeWhere$Stories", name := "failingOf", desc := "(III)I" } : MethodName)) ∈ TB := TB_of 319 (by decide +kernel) rfl
theorem tw_320 : (Cond.selects "BrokeWhere$Stories" ({ cls := "BrokeWhere$Stories", name := "failingOf", desc := "(III)I" } : MethodName) ({ cls := "BrokeWhere$Stories", name := "failingOf", desc := "(III)I" } : MethodName)) ∈ TB := TB_of 320 (by decide +kernel) rfl
theorem tw_321 : (Cond.code ({ cls := "BrokeWhere$Stories", name := "failingOf", desc := "(III)I" } : MethodName) prog_6_method_2_code (5 : Nat) (Option.some FieldType.int)) ∈ TB := TB_of 321 (by decide +kernel) rfl
theorem tw_323 : (Cond.methodLink "BrokeWhere$Stories" (62 : Nat) ({ cls := "BrokeWhere$Stories", name := "tenths", desc := "(ZZ)I" } : MethodName)) ∈ TB := TB_of 323 (by decide +kernel) rfl
theorem tw_324 : (Cond.instanceMethod ({ cls := "BrokeWhere$Stories", name := "tenths", desc := "(ZZ)I" } : MethodName)) ∈ TB := TB_of 324 (by decide +kernel) rfl
theorem tw_325 : (Cond.selects "BrokeWhere$Stories" ({ cls := "BrokeWhere$Stories", name := "tenths", desc := "(ZZ)I" } : MethodName) ({ cls := "BrokeWhere$Stories", name := "tenths", desc := "(ZZ)I" } : MethodName)) ∈ TB := TB_of 325 (by decide +kernel) rfl
theorem tw_326 : (Cond.code ({ cls := "BrokeWhere$Stories", name := "tenths", desc := "(ZZ)I" } : MethodName) prog_6_method_3_code (3 : Nat) (Option.some FieldType.int)) ∈ TB := TB_of 326 (by decide +kernel) rfl
theorem tw_327 : (Cond.constantLong "BrokeWhere" (136 : Nat) (-1000000000000000000 : Int64)) ∈ TB := TB_of 327 (by decide +kernel) rfl
theorem tw_328 : (Cond.methodLink "BrokeWhereLaw" (51 : Nat) ({ cls := "BrokeWhere", name := "odds", desc := "(IIII)J" } : MethodName)) ∈ TB := TB_of 328 (by decide +kernel) rfl
theorem tw_329 : (Cond.instanceMethod ({ cls := "BrokeWhere", name := "odds", desc := "(IIII)J" } : MethodName)) ∈ TB := TB_of 329 (by decide +kernel) rfl
theorem tw_330 : (Cond.selects "BrokeWhere" ({ cls := "BrokeWhere", name := "odds", desc := "(IIII)J" } : MethodName) ({ cls := "BrokeWhere", name := "odds", desc := "(IIII)J" } : MethodName)) ∈ TB := TB_of 330 (by decide +kernel) rfl
theorem tw_331 : (Cond.code ({ cls := "BrokeWhere", name := "odds", desc := "(IIII)J" } : MethodName) prog_1_method_10_code (6 : Nat) (Option.some FieldType.long)) ∈ TB := TB_of 331 (by decide +kernel) rfl
theorem tw_332 : (Cond.constantLong "BrokeWhere" (138 : Nat) (-1000000000000000002 : Int64)) ∈ TB := TB_of 332 (by decide +kernel) rfl
theorem tw_333 : (Cond.methodLink "BrokeWhere" (140 : Nat) ({ cls := "BrokeWhere$Stories", name := "weigh", desc := "()V" } : MethodName)) ∈ TB := TB_of 333 (by decide +kernel) rfl
theorem tw_334 : (Cond.instanceMethod ({ cls := "BrokeWhere$Stories", name := "weigh", desc := "()V" } : MethodName)) ∈ TB := TB_of 334 (by decide +kernel) rfl
theorem tw_335 : (Cond.selects "BrokeWhere$Stories" ({ cls := "BrokeWhere$Stories", name := "weigh", desc := "()V" } : MethodName) ({ cls := "BrokeWhere$Stories", name := "weigh", desc := "()V" } : MethodName)) ∈ TB := TB_of 335 (by decide +kernel) rfl
theorem tw_336 : (Cond.code ({ cls := "BrokeWhere$Stories", name := "weigh", desc := "()V" } : MethodName) prog_6_method_5_code (3 : Nat) (Option.none : Option FieldType)) ∈ TB := TB_of 336 (by decide +kernel) rfl
theorem tw_337 : (Cond.methodLink "BrokeWhere$Stories" (78 : Nat) ({ cls := "BrokeWhere$Stories", name := "weighFrom", desc := "(II)V" } : MethodName)) ∈ TB := TB_of 337 (by decide +kernel) rfl
theorem tw_339 : (Cond.instanceMethod ({ cls := "BrokeWhere$Stories", name := "weighFrom", desc := "(II)V" } : MethodName)) ∈ TB := TB_of 339 (by decide +kernel) rfl
theorem tw_340 : (Cond.code ({ cls := "BrokeWhere$Stories", name := "weighFrom", desc := "(II)V" } : MethodName) prog_6_method_6_code (6 : Nat) (Option.none : Option FieldType)) ∈ TB := TB_of 340 (by decide +kernel) rfl
theorem tw_341 : (Cond.methodLink "BrokeWhere$Stories" (82 : Nat) ({ cls := "BrokeWhere$Stories", name := "take", desc := "(III)V" } : MethodName)) ∈ TB := TB_of 341 (by decide +kernel) rfl
theorem tw_343 : (Cond.instanceMethod ({ cls := "BrokeWhere$Stories", name := "take", desc := "(III)V" } : MethodName)) ∈ TB := TB_of 343 (by decide +kernel) rfl
theorem tw_344 : (Cond.code ({ cls := "BrokeWhere$Stories", name := "take", desc := "(III)V" } : MethodName) prog_6_method_7_code (6 : Nat) (Option.none : Option FieldType)) ∈ TB := TB_of 344 (by decide +kernel) rfl
theorem tw_345 : (Cond.methodLink "BrokeWhere$Stories" (86 : Nat) ({ cls := "BrokeWhere$Stories", name := "weightOf", desc := "(III)J" } : MethodName)) ∈ TB := TB_of 345 (by decide +kernel) rfl
theorem tw_347 : (Cond.static ({ cls := "BrokeWhere", name := "storyAt", desc := "(III)I" } : MethodName)) ∈ TB := TB_of 347 (by decide +kernel) rfl
theorem tw_348 : (Cond.code ({ cls := "BrokeWhere", name := "storyAt", desc := "(III)I" } : MethodName) prog_1_method_37_code (3 : Nat) (Option.some FieldType.int)) ∈ TB := TB_of 348 (by decide +kernel) rfl
theorem tw_349 : (Cond.methodLink "BrokeWhere" (147 : Nat) ({ cls := "BrokeWhere", name := "fraction", desc := "(JJI)J" } : MethodName)) ∈ TB := TB_of 349 (by decide +kernel) rfl
theorem tw_350 : (Cond.static ({ cls := "BrokeWhere", name := "fraction", desc := "(JJI)J" } : MethodName)) ∈ TB := TB_of 350 (by decide +kernel) rfl
theorem tw_351 : (Cond.code ({ cls := "BrokeWhere", name := "fraction", desc := "(JJI)J" } : MethodName) prog_1_method_35_code (5 : Nat) (Option.some FieldType.long)) ∈ TB := TB_of 351 (by decide +kernel) rfl
theorem tw_352 : (Cond.methodLink "BrokeWhere" (248 : Nat) ({ cls := "BrokeWhere", name := "commonDivisor", desc := "(JJ)J" } : MethodName)) ∈ TB := TB_of 352 (by decide +kernel) rfl
theorem tw_353 : (Cond.static ({ cls := "BrokeWhere", name := "commonDivisor", desc := "(JJ)J" } : MethodName)) ∈ TB := TB_of 353 (by decide +kernel) rfl
theorem tw_354 : (Cond.code ({ cls := "BrokeWhere", name := "commonDivisor", desc := "(JJ)J" } : MethodName) prog_1_method_36_code (7 : Nat) (Option.some FieldType.long)) ∈ TB := TB_of 354 (by decide +kernel) rfl
theorem tw_355 : (Cond.methodLink "BrokeWhere" (252 : Nat) ({ cls := "java/lang/Math", name := "max", desc := "(JJ)J" } : MethodName)) ∈ TB := TB_of 355 (by decide +kernel) rfl
theorem tw_356 : (Cond.static ({ cls := "java/lang/Math", name := "max", desc := "(JJ)J" } : MethodName)) ∈ TB := TB_of 356 (by decide +kernel) rfl
theorem tw_357 : (Cond.code ({ cls := "java/lang/Math", name := "max", desc := "(JJ)J" } : MethodName) prog_13_method_66_code (4 : Nat) (Option.some FieldType.long)) ∈ TB := TB_of 357 (by decide +kernel) rfl
theorem tw_358 : (Cond.methodLink "BrokeWhereLaw" (56 : Nat) ({ cls := "BrokeWhere", name := "sorts", desc := "(II)J" } : MethodName)) ∈ TB := TB_of 358 (by decide +kernel) rfl
theorem tw_359 : (Cond.instanceMethod ({ cls := "BrokeWhere", name := "sorts", desc := "(II)J" } : MethodName)) ∈ TB := TB_of 359 (by decide +kernel) rfl
theorem tw_360 : (Cond.selects "BrokeWhere" ({ cls := "BrokeWhere", name := "sorts", desc := "(II)J" } : MethodName) ({ cls := "BrokeWhere", name := "sorts", desc := "(II)J" } : MethodName)) ∈ TB := TB_of 360 (by decide +kernel) rfl
theorem tw_361 : (Cond.code ({ cls := "BrokeWhere", name := "sorts", desc := "(II)J" } : MethodName) prog_1_method_11_code (3 : Nat) (Option.some FieldType.long)) ∈ TB := TB_of 361 (by decide +kernel) rfl
theorem tw_362 : (Cond.methodLink "BrokeWhere" (151 : Nat) ({ cls := "BrokeWhere$Stories", name := "weightOfSort", desc := "(I)J" } : MethodName)) ∈ TB := TB_of 362 (by decide +kernel) rfl
theorem tw_363 : (Cond.instanceMethod ({ cls := "BrokeWhere$Stories", name := "weightOfSort", desc := "(I)J" } : MethodName)) ∈ TB := TB_of 363 (by decide +kernel) rfl
theorem tw_364 : (Cond.selects "BrokeWhere$Stories" ({ cls := "BrokeWhere$Stories", name := "weightOfSort", desc := "(I)J" } : MethodName) ({ cls := "BrokeWhere$Stories", name := "weightOfSort", desc := "(I)J" } : MethodName)) ∈ TB := TB_of 364 (by decide +kernel) rfl
theorem tw_365 : (Cond.code ({ cls := "BrokeWhere$Stories", name := "weightOfSort", desc := "(I)J" } : MethodName) prog_6_method_8_code (5 : Nat) (Option.some FieldType.long)) ∈ TB := TB_of 365 (by decide +kernel) rfl
theorem tw_367 : (Cond.static ({ cls := "BrokeWhere", name := "sortAt", desc := "(I)I" } : MethodName)) ∈ TB := TB_of 367 (by decide +kernel) rfl
theorem tw_368 : (Cond.code ({ cls := "BrokeWhere", name := "sortAt", desc := "(I)I" } : MethodName) prog_1_method_38_code (1 : Nat) (Option.some FieldType.int)) ∈ TB := TB_of 368 (by decide +kernel) rfl
theorem tw_369 : (Cond.methodLink "BrokeWhereLaw" (61 : Nat) ({ cls := "BrokeWhere", name := "blame", desc := "(II)J" } : MethodName)) ∈ TB := TB_of 369 (by decide +kernel) rfl
theorem tw_370 : (Cond.instanceMethod ({ cls := "BrokeWhere", name := "blame", desc := "(II)J" } : MethodName)) ∈ TB := TB_of 370 (by decide +kernel) rfl
theorem tw_371 : (Cond.selects "BrokeWhere" ({ cls := "BrokeWhere", name := "blame", desc := "(II)J" } : MethodName) ({ cls := "BrokeWhere", name := "blame", desc := "(II)J" } : MethodName)) ∈ TB := TB_of 371 (by decide +kernel) rfl
theorem tw_372 : (Cond.code ({ cls := "BrokeWhere", name := "blame", desc := "(II)J" } : MethodName) prog_1_method_12_code (3 : Nat) (Option.some FieldType.long)) ∈ TB := TB_of 372 (by decide +kernel) rfl
theorem tw_373 : (Cond.constantLong "BrokeWhere" (155 : Nat) (-1000000000000000001 : Int64)) ∈ TB := TB_of 373 (by decide +kernel) rfl
theorem tw_374 : (Cond.methodLink "BrokeWhere" (157 : Nat) ({ cls := "BrokeWhere$Stories", name := "weightBlaming", desc := "(I)J" } : MethodName)) ∈ TB := TB_of 374 (by decide +kernel) rfl
theorem tw_375 : (Cond.instanceMethod ({ cls := "BrokeWhere$Stories", name := "weightBlaming", desc := "(I)J" } : MethodName)) ∈ TB := TB_of 375 (by decide +kernel) rfl
theorem tw_376 : (Cond.selects "BrokeWhere$Stories" ({ cls := "BrokeWhere$Stories", name := "weightBlaming", desc := "(I)J" } : MethodName) ({ cls := "BrokeWhere$Stories", name := "weightBlaming", desc := "(I)J" } : MethodName)) ∈ TB := TB_of 376 (by decide +kernel) rfl
theorem tw_377 : (Cond.code ({ cls := "BrokeWhere$Stories", name := "weightBlaming", desc := "(I)J" } : MethodName) prog_6_method_9_code (6 : Nat) (Option.some FieldType.long)) ∈ TB := TB_of 377 (by decide +kernel) rfl
theorem tw_379 : (Cond.static ({ cls := "BrokeWhere", name := "secondAt", desc := "(I)I" } : MethodName)) ∈ TB := TB_of 379 (by decide +kernel) rfl
theorem tw_380 : (Cond.code ({ cls := "BrokeWhere", name := "secondAt", desc := "(I)I" } : MethodName) prog_1_method_40_code (1 : Nat) (Option.some FieldType.int)) ∈ TB := TB_of 380 (by decide +kernel) rfl
theorem tw_382 : (Cond.static ({ cls := "BrokeWhere", name := "firstAt", desc := "(I)I" } : MethodName)) ∈ TB := TB_of 382 (by decide +kernel) rfl
theorem tw_383 : (Cond.code ({ cls := "BrokeWhere", name := "firstAt", desc := "(I)I" } : MethodName) prog_1_method_39_code (1 : Nat) (Option.some FieldType.int)) ∈ TB := TB_of 383 (by decide +kernel) rfl
theorem tw_384 : (Cond.methodLink "BrokeWhereLaw" (65 : Nat) ({ cls := "BrokeWhere", name := "guess", desc := "(I)I" } : MethodName)) ∈ TB := TB_of 384 (by decide +kernel) rfl
theorem tw_385 : (Cond.instanceMethod ({ cls := "BrokeWhere", name := "guess", desc := "(I)I" } : MethodName)) ∈ TB := TB_of 385 (by decide +kernel) rfl
theorem tw_386 : (Cond.selects "BrokeWhere" ({ cls := "BrokeWhere", name := "guess", desc := "(I)I" } : MethodName) ({ cls := "BrokeWhere", name := "guess", desc := "(I)I" } : MethodName)) ∈ TB := TB_of 386 (by decide +kernel) rfl
theorem tw_387 : (Cond.code ({ cls := "BrokeWhere", name := "guess", desc := "(I)I" } : MethodName) prog_1_method_13_code (4 : Nat) (Option.some FieldType.int)) ∈ TB := TB_of 387 (by decide +kernel) rfl
theorem tw_388 : (Cond.methodLink "BrokeWhere" (163 : Nat) ({ cls := "BrokeWhere", name := "sortAt", desc := "(I)I" } : MethodName)) ∈ TB := TB_of 388 (by decide +kernel) rfl
theorem tw_389 : (Cond.methodLink "BrokeWhere" (167 : Nat) ({ cls := "BrokeWhere", name := "firstAt", desc := "(I)I" } : MethodName)) ∈ TB := TB_of 389 (by decide +kernel) rfl
theorem tw_390 : (Cond.methodLink "BrokeWhere" (170 : Nat) ({ cls := "BrokeWhere", name := "secondAt", desc := "(I)I" } : MethodName)) ∈ TB := TB_of 390 (by decide +kernel) rfl
theorem tw_391 : (Cond.methodLink "BrokeWhereLaw" (69 : Nat) ({ cls := "BrokeWhere", name := "hope", desc := "(II)J" } : MethodName)) ∈ TB := TB_of 391 (by decide +kernel) rfl
theorem tw_392 : (Cond.instanceMethod ({ cls := "BrokeWhere", name := "hope", desc := "(II)J" } : MethodName)) ∈ TB := TB_of 392 (by decide +kernel) rfl
theorem tw_393 : (Cond.selects "BrokeWhere" ({ cls := "BrokeWhere", name := "hope", desc := "(II)J" } : MethodName) ({ cls := "BrokeWhere", name := "hope", desc := "(II)J" } : MethodName)) ∈ TB := TB_of 393 (by decide +kernel) rfl
theorem tw_394 : (Cond.code ({ cls := "BrokeWhere", name := "hope", desc := "(II)J" } : MethodName) prog_1_method_14_code (3 : Nat) (Option.some FieldType.long)) ∈ TB := TB_of 394 (by decide +kernel) rfl
theorem tw_395 : (Cond.methodLink "BrokeWhere" (173 : Nat) ({ cls := "BrokeWhere$Stories", name := "hopeWeight", desc := "(I)J" } : MethodName)) ∈ TB := TB_of 395 (by decide +kernel) rfl
theorem tw_396 : (Cond.instanceMethod ({ cls := "BrokeWhere$Stories", name := "hopeWeight", desc := "(I)J" } : MethodName)) ∈ TB := TB_of 396 (by decide +kernel) rfl
theorem tw_397 : (Cond.selects "BrokeWhere$Stories" ({ cls := "BrokeWhere$Stories", name := "hopeWeight", desc := "(I)J" } : MethodName) ({ cls := "BrokeWhere$Stories", name := "hopeWeight", desc := "(I)J" } : MethodName)) ∈ TB := TB_of 397 (by decide +kernel) rfl
theorem tw_398 : (Cond.code ({ cls := "BrokeWhere$Stories", name := "hopeWeight", desc := "(I)J" } : MethodName) prog_6_method_10_code (8 : Nat) (Option.some FieldType.long)) ∈ TB := TB_of 398 (by decide +kernel) rfl
theorem tw_399 : (Cond.methodLink "BrokeWhere$Stories" (103 : Nat) ({ cls := "java/lang/Math", name := "max", desc := "(JJ)J" } : MethodName)) ∈ TB := TB_of 399 (by decide +kernel) rfl
theorem tw_400 : (Cond.constantLong "BrokeWhere" (176 : Nat) (10 : Int64)) ∈ TB := TB_of 400 (by decide +kernel) rfl
theorem tw_401 : (Cond.methodLink "BrokeWhereLaw" (73 : Nat) ({ cls := "BrokeWhere", name := "next", desc := "(I)I" } : MethodName)) ∈ TB := TB_of 401 (by decide +kernel) rfl
theorem tw_402 : (Cond.instanceMethod ({ cls := "BrokeWhere", name := "next", desc := "(I)I" } : MethodName)) ∈ TB := TB_of 402 (by decide +kernel) rfl
theorem tw_403 : (Cond.selects "BrokeWhere" ({ cls := "BrokeWhere", name := "next", desc := "(I)I" } : MethodName) ({ cls := "BrokeWhere", name := "next", desc := "(I)I" } : MethodName)) ∈ TB := TB_of 403 (by decide +kernel) rfl
theorem tw_404 : (Cond.code ({ cls := "BrokeWhere", name := "next", desc := "(I)I" } : MethodName) prog_1_method_15_code (2 : Nat) (Option.some FieldType.int)) ∈ TB := TB_of 404 (by decide +kernel) rfl
theorem tw_405 : (Cond.methodLink "BrokeWhere" (178 : Nat) ({ cls := "BrokeWhere$Stories", name := "nextVersion", desc := "(I)I" } : MethodName)) ∈ TB := TB_of 405 (by decide +kernel) rfl
theorem tw_406 : (Cond.instanceMethod ({ cls := "BrokeWhere$Stories", name := "nextVersion", desc := "(I)I" } : MethodName)) ∈ TB := TB_of 406 (by decide +kernel) rfl
theorem tw_407 : (Cond.selects "BrokeWhere$Stories" ({ cls := "BrokeWhere$Stories", name := "nextVersion", desc := "(I)I" } : MethodName) ({ cls := "BrokeWhere$Stories", name := "nextVersion", desc := "(I)I" } : MethodName)) ∈ TB := TB_of 407 (by decide +kernel) rfl
theorem tw_408 : (Cond.code ({ cls := "BrokeWhere$Stories", name := "nextVersion", desc := "(I)I" } : MethodName) prog_6_method_12_code (9 : Nat) (Option.some FieldType.int)) ∈ TB := TB_of 408 (by decide +kernel) rfl
theorem tw_409 : (Cond.methodLink "BrokeWhere$Stories" (115 : Nat) ({ cls := "BrokeWhere$History", name := "hears", desc := "(I)Z" } : MethodName)) ∈ TB := TB_of 409 (by decide +kernel) rfl
theorem tw_410 : (Cond.methodLink "BrokeWhere$Stories" (119 : Nat) ({ cls := "BrokeWhere$Stories", name := "gap", desc := "(I)J" } : MethodName)) ∈ TB := TB_of 410 (by decide +kernel) rfl
theorem tw_411 : (Cond.instanceMethod ({ cls := "BrokeWhere$Stories", name := "gap", desc := "(I)J" } : MethodName)) ∈ TB := TB_of 411 (by decide +kernel) rfl
theorem tw_412 : (Cond.selects "BrokeWhere$Stories" ({ cls := "BrokeWhere$Stories", name := "gap", desc := "(I)J" } : MethodName) ({ cls := "BrokeWhere$Stories", name := "gap", desc := "(I)J" } : MethodName)) ∈ TB := TB_of 412 (by decide +kernel) rfl
theorem tw_413 : (Cond.code ({ cls := "BrokeWhere$Stories", name := "gap", desc := "(I)J" } : MethodName) prog_6_method_11_code (5 : Nat) (Option.some FieldType.long)) ∈ TB := TB_of 413 (by decide +kernel) rfl
theorem tw_414 : (Cond.constantLong "BrokeWhere$Stories" (109 : Nat) (2 : Int64)) ∈ TB := TB_of 414 (by decide +kernel) rfl
theorem tw_415 : (Cond.methodLink "BrokeWhere$Stories" (111 : Nat) ({ cls := "java/lang/Math", name := "abs", desc := "(J)J" } : MethodName)) ∈ TB := TB_of 415 (by decide +kernel) rfl
theorem tw_416 : (Cond.static ({ cls := "java/lang/Math", name := "abs", desc := "(J)J" } : MethodName)) ∈ TB := TB_of 416 (by decide +kernel) rfl
theorem tw_417 : (Cond.code ({ cls := "java/lang/Math", name := "abs", desc := "(J)J" } : MethodName) prog_13_method_61_code (2 : Nat) (Option.some FieldType.long)) ∈ TB := TB_of 417 (by decide +kernel) rfl
theorem tw_418 : (Cond.methodLink "BrokeWhere$Stories" (123 : Nat) ({ cls := "BrokeWhere$Stories", name := "hopeWeight", desc := "(I)J" } : MethodName)) ∈ TB := TB_of 418 (by decide +kernel) rfl
theorem tw_419 : (Cond.methodLink "BrokeWhereLaw" (77 : Nat) ({ cls := "BrokeWhere", name := "worst", desc := "(II)I" } : MethodName)) ∈ TB := TB_of 419 (by decide +kernel) rfl
theorem tw_420 : (Cond.instanceMethod ({ cls := "BrokeWhere", name := "worst", desc := "(II)I" } : MethodName)) ∈ TB := TB_of 420 (by decide +kernel) rfl
theorem tw_421 : (Cond.selects "BrokeWhere" ({ cls := "BrokeWhere", name := "worst", desc := "(II)I" } : MethodName) ({ cls := "BrokeWhere", name := "worst", desc := "(II)I" } : MethodName)) ∈ TB := TB_of 421 (by decide +kernel) rfl
theorem tw_422 : (Cond.code ({ cls := "BrokeWhere", name := "worst", desc := "(II)I" } : MethodName) prog_1_method_16_code (3 : Nat) (Option.some FieldType.int)) ∈ TB := TB_of 422 (by decide +kernel) rfl
theorem tw_423 : (Cond.methodLink "BrokeWhere" (181 : Nat) ({ cls := "BrokeWhere", name := "parting", desc := "(LBrokeWhere$Partings;II)I" } : MethodName)) ∈ TB := TB_of 423 (by decide +kernel) rfl
theorem tw_425 : (Cond.instanceMethod ({ cls := "BrokeWhere", name := "parting", desc := "(LBrokeWhere$Partings;II)I" } : MethodName)) ∈ TB := TB_of 425 (by decide +kernel) rfl
theorem tw_426 : (Cond.code ({ cls := "BrokeWhere", name := "parting", desc := "(LBrokeWhere$Partings;II)I" } : MethodName) prog_1_method_30_code (4 : Nat) (Option.some FieldType.int)) ∈ TB := TB_of 426 (by decide +kernel) rfl
theorem tw_427 : (Cond.methodLink "BrokeWhere" (235 : Nat) ({ cls := "BrokeWhere$History", name := "everyVersion", desc := "()I" } : MethodName)) ∈ TB := TB_of 427 (by decide +kernel) rfl
theorem tw_428 : (Cond.instanceMethod ({ cls := "BrokeWhere$History", name := "everyVersion", desc := "()I" } : MethodName)) ∈ TB := TB_of 428 (by decide +kernel) rfl
theorem tw_429 : (Cond.selects "BrokeWhere$History" ({ cls := "BrokeWhere$History", name := "everyVersion", desc := "()I" } : MethodName) ({ cls := "BrokeWhere$History", name := "everyVersion", desc := "()I" } : MethodName)) ∈ TB := TB_of 429 (by decide +kernel) rfl
theorem tw_430 : (Cond.code ({ cls := "BrokeWhere$History", name := "everyVersion", desc := "()I" } : MethodName) prog_3_method_8_code (1 : Nat) (Option.some FieldType.int)) ∈ TB := TB_of 430 (by decide +kernel) rfl
theorem tw_431 : (Cond.methodLink "BrokeWhere" (242 : Nat) ({ cls := "BrokeWhere$Partings", name := "price", desc := "(I)I" } : MethodName)) ∈ TB := TB_of 431 (by decide +kernel) rfl
theorem tw_432 : (Cond.instanceMethod ({ cls := "BrokeWhere$Partings", name := "price", desc := "(I)I" } : MethodName)) ∈ TB := TB_of 432 (by decide +kernel) rfl
theorem tw_433 : (Cond.selects "BrokeWhere$Partings" ({ cls := "BrokeWhere$Partings", name := "price", desc := "(I)I" } : MethodName) ({ cls := "BrokeWhere$Partings", name := "price", desc := "(I)I" } : MethodName)) ∈ TB := TB_of 433 (by decide +kernel) rfl
theorem tw_434 : (Cond.code ({ cls := "BrokeWhere$Partings", name := "price", desc := "(I)I" } : MethodName) prog_5_method_2_code (2 : Nat) (Option.some FieldType.int)) ∈ TB := TB_of 434 (by decide +kernel) rfl
theorem tw_435 : (Cond.methodLink "BrokeWhere$Partings" (23 : Nat) ({ cls := "BrokeWhere$Partings", name := "refresh", desc := "()V" } : MethodName)) ∈ TB := TB_of 435 (by decide +kernel) rfl
theorem tw_437 : (Cond.instanceMethod ({ cls := "BrokeWhere$Partings", name := "refresh", desc := "()V" } : MethodName)) ∈ TB := TB_of 437 (by decide +kernel) rfl
theorem tw_438 : (Cond.code ({ cls := "BrokeWhere$Partings", name := "refresh", desc := "()V" } : MethodName) prog_5_method_4_code (1 : Nat) (Option.none : Option FieldType)) ∈ TB := TB_of 438 (by decide +kernel) rfl
theorem tw_439 : (Cond.methodLink "BrokeWhere$Partings" (47 : Nat) ({ cls := "java/util/Arrays", name := "fill", desc := "([II)V" } : MethodName)) ∈ TB := TB_of 439 (by decide +kernel) rfl
theorem tw_440 : (Cond.static ({ cls := "java/util/Arrays", name := "fill", desc := "([II)V" } : MethodName)) ∈ TB := TB_of 440 (by decide +kernel) rfl
theorem tw_441 : (Cond.code ({ cls := "java/util/Arrays", name := "fill", desc := "([II)V" } : MethodName) prog_14_method_103_code (4 : Nat) (Option.none : Option FieldType)) ∈ TB := TB_of 441 (by decide +kernel) rfl
theorem tw_442 : (Cond.methodLink "BrokeWhere$Partings" (26 : Nat) ({ cls := "BrokeWhere$Partings", name := "priceAt", desc := "(II)I" } : MethodName)) ∈ TB := TB_of 442 (by decide +kernel) rfl
theorem tw_444 : (Cond.instanceMethod ({ cls := "BrokeWhere$Partings", name := "priceAt", desc := "(II)I" } : MethodName)) ∈ TB := TB_of 444 (by decide +kernel) rfl
theorem tw_445 : (Cond.code ({ cls := "BrokeWhere$Partings", name := "priceAt", desc := "(II)I" } : MethodName) prog_5_method_6_code (6 : Nat) (Option.some FieldType.int)) ∈ TB := TB_of 445 (by decide +kernel) rfl
theorem tw_447 : (Cond.methodLink "BrokeWhere$Partings" (36 : Nat) ({ cls := "BrokeWhere$Partings", name := "parts", desc := "(II)Z" } : MethodName)) ∈ TB := TB_of 447 (by decide +kernel) rfl
theorem tw_449 : (Cond.instanceMethod ({ cls := "BrokeWhere$Partings", name := "parts", desc := "(II)Z" } : MethodName)) ∈ TB := TB_of 449 (by decide +kernel) rfl
theorem tw_450 : (Cond.code ({ cls := "BrokeWhere$Partings", name := "parts", desc := "(II)Z" } : MethodName) prog_5_method_5_code (4 : Nat) (Option.some FieldType.boolean)) ∈ TB := TB_of 450 (by decide +kernel) rfl
theorem tw_451 : (Cond.methodLink "BrokeWhere$Partings" (56 : Nat) ({ cls := "BrokeWhere$History", name := "hears", desc := "(I)Z" } : MethodName)) ∈ TB := TB_of 451 (by decide +kernel) rfl
theorem tw_452 : (Cond.methodLink "BrokeWhere$Partings" (40 : Nat) ({ cls := "BrokeWhere$Partings", name := "priceBy", desc := "(III)I" } : MethodName)) ∈ TB := TB_of 452 (by decide +kernel) rfl
theorem tw_454 : (Cond.instanceMethod ({ cls := "BrokeWhere$Partings", name := "priceBy", desc := "(III)I" } : MethodName)) ∈ TB := TB_of 454 (by decide +kernel) rfl
theorem tw_455 : (Cond.code ({ cls := "BrokeWhere$Partings", name := "priceBy", desc := "(III)I" } : MethodName) prog_5_method_7_code (6 : Nat) (Option.some FieldType.int)) ∈ TB := TB_of 455 (by decide +kernel) rfl
theorem tw_456 : (Cond.methodLink "BrokeWhere$Partings" (75 : Nat) ({ cls := "BrokeWhere$History", name := "sizes", desc := "(I)I" } : MethodName)) ∈ TB := TB_of 456 (by decide +kernel) rfl
theorem tw_457 : (Cond.instanceMethod ({ cls := "BrokeWhere$History", name := "sizes", desc := "(I)I" } : MethodName)) ∈ TB := TB_of 457 (by decide +kernel) rfl
theorem tw_458 : (Cond.selects "BrokeWhere$History" ({ cls := "BrokeWhere$History", name := "sizes", desc := "(I)I" } : MethodName) ({ cls := "BrokeWhere$History", name := "sizes", desc := "(I)I" } : MethodName)) ∈ TB := TB_of 458 (by decide +kernel) rfl
theorem tw_459 : (Cond.code ({ cls := "BrokeWhere$History", name := "sizes", desc := "(I)I" } : MethodName) prog_3_method_11_code (4 : Nat) (Option.some FieldType.int)) ∈ TB := TB_of 459 (by decide +kernel) rfl
theorem tw_460 : (Cond.methodLink "BrokeWhere$Partings" (69 : Nat) ({ cls := "java/lang/Math", name := "max", desc := "(II)I" } : MethodName)) ∈ TB := TB_of 460 (by decide +kernel) rfl
theorem tw_461 : (Cond.static ({ cls := "java/lang/Math", name := "max", desc := "(II)I" } : MethodName)) ∈ TB := TB_of 461 (by decide +kernel) rfl
theorem tw_462 : (Cond.code ({ cls := "java/lang/Math", name := "max", desc := "(II)I" } : MethodName) prog_13_method_65_code (2 : Nat) (Option.some FieldType.int)) ∈ TB := TB_of 462 (by decide +kernel) rfl
theorem tw_463 : (Cond.methodLink "BrokeWhere$Partings" (64 : Nat) ({ cls := "java/lang/Math", name := "min", desc := "(II)I" } : MethodName)) ∈ TB := TB_of 463 (by decide +kernel) rfl
theorem tw_464 : (Cond.static ({ cls := "java/lang/Math", name := "min", desc := "(II)I" } : MethodName)) ∈ TB := TB_of 464 (by decide +kernel) rfl
theorem tw_465 : (Cond.code ({ cls := "java/lang/Math", name := "min", desc := "(II)I" } : MethodName) prog_13_method_69_code (2 : Nat) (Option.some FieldType.int)) ∈ TB := TB_of 465 (by decide +kernel) rfl
theorem tw_466 : (Cond.methodLink "BrokeWhere" (245 : Nat) ({ cls := "BrokeWhere$Partings", name := "start", desc := "(I)I" } : MethodName)) ∈ TB := TB_of 466 (by decide +kernel) rfl
theorem tw_467 : (Cond.instanceMethod ({ cls := "BrokeWhere$Partings", name := "start", desc := "(I)I" } : MethodName)) ∈ TB := TB_of 467 (by decide +kernel) rfl
theorem tw_468 : (Cond.selects "BrokeWhere$Partings" ({ cls := "BrokeWhere$Partings", name := "start", desc := "(I)I" } : MethodName) ({ cls := "BrokeWhere$Partings", name := "start", desc := "(I)I" } : MethodName)) ∈ TB := TB_of 468 (by decide +kernel) rfl
theorem tw_469 : (Cond.code ({ cls := "BrokeWhere$Partings", name := "start", desc := "(I)I" } : MethodName) prog_5_method_3_code (4 : Nat) (Option.some FieldType.int)) ∈ TB := TB_of 469 (by decide +kernel) rfl
theorem tw_470 : (Cond.methodLink "BrokeWhereLaw" (81 : Nat) ({ cls := "BrokeWhere", name := "mean", desc := "(II)I" } : MethodName)) ∈ TB := TB_of 470 (by decide +kernel) rfl
theorem tw_471 : (Cond.instanceMethod ({ cls := "BrokeWhere", name := "mean", desc := "(II)I" } : MethodName)) ∈ TB := TB_of 471 (by decide +kernel) rfl
theorem tw_472 : (Cond.selects "BrokeWhere" ({ cls := "BrokeWhere", name := "mean", desc := "(II)I" } : MethodName) ({ cls := "BrokeWhere", name := "mean", desc := "(II)I" } : MethodName)) ∈ TB := TB_of 472 (by decide +kernel) rfl
theorem tw_473 : (Cond.code ({ cls := "BrokeWhere", name := "mean", desc := "(II)I" } : MethodName) prog_1_method_17_code (3 : Nat) (Option.some FieldType.int)) ∈ TB := TB_of 473 (by decide +kernel) rfl
theorem tw_474 : (Cond.methodLink "BrokeWhereLaw" (85 : Nat) ({ cls := "BrokeWhere", name := "twins", desc := "(I)I" } : MethodName)) ∈ TB := TB_of 474 (by decide +kernel) rfl
theorem tw_475 : (Cond.instanceMethod ({ cls := "BrokeWhere", name := "twins", desc := "(I)I" } : MethodName)) ∈ TB := TB_of 475 (by decide +kernel) rfl
theorem tw_476 : (Cond.selects "BrokeWhere" ({ cls := "BrokeWhere", name := "twins", desc := "(I)I" } : MethodName) ({ cls := "BrokeWhere", name := "twins", desc := "(I)I" } : MethodName)) ∈ TB := TB_of 476 (by decide +kernel) rfl
theorem tw_477 : (Cond.code ({ cls := "BrokeWhere", name := "twins", desc := "(I)I" } : MethodName) prog_1_method_18_code (2 : Nat) (Option.some FieldType.int)) ∈ TB := TB_of 477 (by decide +kernel) rfl
end
section
theorem tw_478 : (Cond.methodLink "BrokeWhere" (185 : Nat) ({ cls := "BrokeWhere$History", name := "twinsOf", desc := "(I)I" } : MethodName)) ∈ TB := TB_of 478 (by decide +kernel) rfl
theorem tw_479 : (Cond.instanceMethod ({ cls := "BrokeWhere$History", name := "twinsOf", desc := "(I)I" } : MethodName)) ∈ TB := TB_of 479 (by decide +kernel) rfl
theorem tw_480 : (Cond.selects "BrokeWhere$History" ({ cls := "BrokeWhere$History", name := "twinsOf", desc := "(I)I" } : MethodName) ({ cls := "BrokeWhere$History", name := "twinsOf", desc := "(I)I" } : MethodName)) ∈ TB := TB_of 480 (by decide +kernel) rfl
theorem tw_481 : (Cond.code ({ cls := "BrokeWhere$History", name := "twinsOf", desc := "(I)I" } : MethodName) prog_3_method_10_code (5 : Nat) (Option.some FieldType.int)) ∈ TB := TB_of 481 (by decide +kernel) rfl
theorem tw_482 : (Cond.methodLink "BrokeWhere$History" (46 : Nat) ({ cls := "BrokeWhere$History", name := "hearing", desc := "()I" } : MethodName)) ∈ TB := TB_of 482 (by decide +kernel) rfl
theorem tw_483 : (Cond.instanceMethod ({ cls := "BrokeWhere$History", name := "hearing", desc := "()I" } : MethodName)) ∈ TB := TB_of 483 (by decide +kernel) rfl
theorem tw_484 : (Cond.selects "BrokeWhere$History" ({ cls := "BrokeWhere$History", name := "hearing", desc := "()I" } : MethodName) ({ cls := "BrokeWhere$History", name := "hearing", desc := "()I" } : MethodName)) ∈ TB := TB_of 484 (by decide +kernel) rfl
theorem tw_485 : (Cond.code ({ cls := "BrokeWhere$History", name := "hearing", desc := "()I" } : MethodName) prog_3_method_9_code (3 : Nat) (Option.some FieldType.int)) ∈ TB := TB_of 485 (by decide +kernel) rfl
theorem tw_486 : (Cond.methodLink "BrokeWhereLaw" (89 : Nat) ({ cls := "BrokeWhere", name := "say", desc := "(I)I" } : MethodName)) ∈ TB := TB_of 486 (by decide +kernel) rfl
theorem tw_487 : (Cond.instanceMethod ({ cls := "BrokeWhere", name := "say", desc := "(I)I" } : MethodName)) ∈ TB := TB_of 487 (by decide +kernel) rfl
theorem tw_488 : (Cond.selects "BrokeWhere" ({ cls := "BrokeWhere", name := "say", desc := "(I)I" } : MethodName) ({ cls := "BrokeWhere", name := "say", desc := "(I)I" } : MethodName)) ∈ TB := TB_of 488 (by decide +kernel) rfl
theorem tw_489 : (Cond.code ({ cls := "BrokeWhere", name := "say", desc := "(I)I" } : MethodName) prog_1_method_19_code (2 : Nat) (Option.some FieldType.int)) ∈ TB := TB_of 489 (by decide +kernel) rfl
theorem tw_490 : (Cond.methodLink "BrokeWhere" (188 : Nat) ({ cls := "BrokeWhere$Text", name := "add", desc := "(I)I" } : MethodName)) ∈ TB := TB_of 490 (by decide +kernel) rfl
theorem tw_491 : (Cond.instanceMethod ({ cls := "BrokeWhere$Text", name := "add", desc := "(I)I" } : MethodName)) ∈ TB := TB_of 491 (by decide +kernel) rfl
theorem tw_492 : (Cond.selects "BrokeWhere$Text" ({ cls := "BrokeWhere$Text", name := "add", desc := "(I)I" } : MethodName) ({ cls := "BrokeWhere$Text", name := "add", desc := "(I)I" } : MethodName)) ∈ TB := TB_of 492 (by decide +kernel) rfl
theorem tw_493 : (Cond.code ({ cls := "BrokeWhere$Text", name := "add", desc := "(I)I" } : MethodName) prog_7_method_2_code (2 : Nat) (Option.some FieldType.int)) ∈ TB := TB_of 493 (by decide +kernel) rfl
theorem tw_494 : (Cond.methodLink "BrokeWhereLaw" (93 : Nat) ({ cls := "BrokeWhere", name := "wipe", desc := "()I" } : MethodName)) ∈ TB := TB_of 494 (by decide +kernel) rfl
theorem tw_495 : (Cond.instanceMethod ({ cls := "BrokeWhere", name := "wipe", desc := "()I" } : MethodName)) ∈ TB := TB_of 495 (by decide +kernel) rfl
theorem tw_496 : (Cond.selects "BrokeWhere" ({ cls := "BrokeWhere", name := "wipe", desc := "()I" } : MethodName) ({ cls := "BrokeWhere", name := "wipe", desc := "()I" } : MethodName)) ∈ TB := TB_of 496 (by decide +kernel) rfl
theorem tw_497 : (Cond.code ({ cls := "BrokeWhere", name := "wipe", desc := "()I" } : MethodName) prog_1_method_20_code (2 : Nat) (Option.some FieldType.int)) ∈ TB := TB_of 497 (by decide +kernel) rfl
theorem tw_498 : (Cond.methodLink "BrokeWhereLaw" (97 : Nat) ({ cls := "BrokeWhere", name := "fault", desc := "()I" } : MethodName)) ∈ TB := TB_of 498 (by decide +kernel) rfl
theorem tw_499 : (Cond.instanceMethod ({ cls := "BrokeWhere", name := "fault", desc := "()I" } : MethodName)) ∈ TB := TB_of 499 (by decide +kernel) rfl
theorem tw_500 : (Cond.selects "BrokeWhere" ({ cls := "BrokeWhere", name := "fault", desc := "()I" } : MethodName) ({ cls := "BrokeWhere", name := "fault", desc := "()I" } : MethodName)) ∈ TB := TB_of 500 (by decide +kernel) rfl
theorem tw_501 : (Cond.code ({ cls := "BrokeWhere", name := "fault", desc := "()I" } : MethodName) prog_1_method_21_code (1 : Nat) (Option.some FieldType.int)) ∈ TB := TB_of 501 (by decide +kernel) rfl
theorem tw_502 : (Cond.methodLink "BrokeWhere" (193 : Nat) ({ cls := "BrokeWhere$Text", name := "firstFault", desc := "()I" } : MethodName)) ∈ TB := TB_of 502 (by decide +kernel) rfl
theorem tw_503 : (Cond.instanceMethod ({ cls := "BrokeWhere$Text", name := "firstFault", desc := "()I" } : MethodName)) ∈ TB := TB_of 503 (by decide +kernel) rfl
theorem tw_504 : (Cond.selects "BrokeWhere$Text" ({ cls := "BrokeWhere$Text", name := "firstFault", desc := "()I" } : MethodName) ({ cls := "BrokeWhere$Text", name := "firstFault", desc := "()I" } : MethodName)) ∈ TB := TB_of 504 (by decide +kernel) rfl
theorem tw_505 : (Cond.code ({ cls := "BrokeWhere$Text", name := "firstFault", desc := "()I" } : MethodName) prog_7_method_4_code (6 : Nat) (Option.some FieldType.int)) ∈ TB := TB_of 505 (by decide +kernel) rfl
theorem tw_506 : (Cond.methodLink "BrokeWhere$Text" (22 : Nat) ({ cls := "BrokeWhere$Text", name := "textsOf", desc := "(I)I" } : MethodName)) ∈ TB := TB_of 506 (by decide +kernel) rfl
theorem tw_507 : (Cond.static ({ cls := "BrokeWhere$Text", name := "textsOf", desc := "(I)I" } : MethodName)) ∈ TB := TB_of 507 (by decide +kernel) rfl
theorem tw_508 : (Cond.code ({ cls := "BrokeWhere$Text", name := "textsOf", desc := "(I)I" } : MethodName) prog_7_method_3_code (1 : Nat) (Option.some FieldType.int)) ∈ TB := TB_of 508 (by decide +kernel) rfl
theorem tw_509 : (Cond.methodLink "BrokeWhereLaw" (101 : Nat) ({ cls := "BrokeWhere", name := "truth", desc := "()I" } : MethodName)) ∈ TB := TB_of 509 (by decide +kernel) rfl
theorem tw_510 : (Cond.instanceMethod ({ cls := "BrokeWhere", name := "truth", desc := "()I" } : MethodName)) ∈ TB := TB_of 510 (by decide +kernel) rfl
theorem tw_511 : (Cond.selects "BrokeWhere" ({ cls := "BrokeWhere", name := "truth", desc := "()I" } : MethodName) ({ cls := "BrokeWhere", name := "truth", desc := "()I" } : MethodName)) ∈ TB := TB_of 511 (by decide +kernel) rfl
theorem tw_512 : (Cond.code ({ cls := "BrokeWhere", name := "truth", desc := "()I" } : MethodName) prog_1_method_22_code (1 : Nat) (Option.some FieldType.int)) ∈ TB := TB_of 512 (by decide +kernel) rfl
theorem tw_513 : (Cond.methodLink "BrokeWhere" (197 : Nat) ({ cls := "BrokeWhere$Truth", name := "take", desc := "(LBrokeWhere$Text;)V" } : MethodName)) ∈ TB := TB_of 513 (by decide +kernel) rfl
theorem tw_514 : (Cond.instanceMethod ({ cls := "BrokeWhere$Truth", name := "take", desc := "(LBrokeWhere$Text;)V" } : MethodName)) ∈ TB := TB_of 514 (by decide +kernel) rfl
theorem tw_515 : (Cond.selects "BrokeWhere$Truth" ({ cls := "BrokeWhere$Truth", name := "take", desc := "(LBrokeWhere$Text;)V" } : MethodName) ({ cls := "BrokeWhere$Truth", name := "take", desc := "(LBrokeWhere$Text;)V" } : MethodName)) ∈ TB := TB_of 515 (by decide +kernel) rfl
theorem tw_516 : (Cond.code ({ cls := "BrokeWhere$Truth", name := "take", desc := "(LBrokeWhere$Text;)V" } : MethodName) prog_8_method_2_code (3 : Nat) (Option.none : Option FieldType)) ∈ TB := TB_of 516 (by decide +kernel) rfl
theorem tw_517 : (Cond.methodLink "BrokeWhere$Truth" (25 : Nat) ({ cls := "BrokeWhere$Truth", name := "valueOf", desc := "(LBrokeWhere$Text;I)J" } : MethodName)) ∈ TB := TB_of 517 (by decide +kernel) rfl
theorem tw_519 : (Cond.instanceMethod ({ cls := "BrokeWhere$Truth", name := "valueOf", desc := "(LBrokeWhere$Text;I)J" } : MethodName)) ∈ TB := TB_of 519 (by decide +kernel) rfl
theorem tw_520 : (Cond.code ({ cls := "BrokeWhere$Truth", name := "valueOf", desc := "(LBrokeWhere$Text;I)J" } : MethodName) prog_8_method_3_code (11 : Nat) (Option.some FieldType.long)) ∈ TB := TB_of 520 (by decide +kernel) rfl
theorem tw_521 : (Cond.methodLink "BrokeWhere$Truth" (33 : Nat) ({ cls := "BrokeWhere$Text", name := "textsOf", desc := "(I)I" } : MethodName)) ∈ TB := TB_of 521 (by decide +kernel) rfl
theorem tw_523 : (Cond.static ({ cls := "BrokeWhere", name := "setsWith", desc := "(II)J" } : MethodName)) ∈ TB := TB_of 523 (by decide +kernel) rfl
theorem tw_524 : (Cond.code ({ cls := "BrokeWhere", name := "setsWith", desc := "(II)J" } : MethodName) prog_1_method_41_code (2 : Nat) (Option.some FieldType.long)) ∈ TB := TB_of 524 (by decide +kernel) rfl
theorem tw_525 : (Cond.fieldLink "BrokeWhere" (257 : Nat) "BrokeWhere" "LOW_SETS" "[J") ∈ TB := TB_of 525 (by decide +kernel) rfl
theorem tw_527 : (Cond.methodLink "BrokeWhere" (260 : Nat) ({ cls := "BrokeWhere", name := "isBit", desc := "(II)Z" } : MethodName)) ∈ TB := TB_of 527 (by decide +kernel) rfl
theorem tw_528 : (Cond.constantLong "BrokeWhere" (263 : Nat) (-1 : Int64)) ∈ TB := TB_of 528 (by decide +kernel) rfl
theorem tw_529 : (Cond.constantLong "BrokeWhere$Truth" (41 : Nat) (-1 : Int64)) ∈ TB := TB_of 529 (by decide +kernel) rfl
theorem tw_530 : (Cond.methodLink "BrokeWhereLaw" (105 : Nat) ({ cls := "BrokeWhere", name := "fails", desc := "(II)I" } : MethodName)) ∈ TB := TB_of 530 (by decide +kernel) rfl
theorem tw_531 : (Cond.instanceMethod ({ cls := "BrokeWhere", name := "fails", desc := "(II)I" } : MethodName)) ∈ TB := TB_of 531 (by decide +kernel) rfl
theorem tw_532 : (Cond.selects "BrokeWhere" ({ cls := "BrokeWhere", name := "fails", desc := "(II)I" } : MethodName) ({ cls := "BrokeWhere", name := "fails", desc := "(II)I" } : MethodName)) ∈ TB := TB_of 532 (by decide +kernel) rfl
theorem tw_533 : (Cond.code ({ cls := "BrokeWhere", name := "fails", desc := "(II)I" } : MethodName) prog_1_method_23_code (3 : Nat) (Option.some FieldType.int)) ∈ TB := TB_of 533 (by decide +kernel) rfl
theorem tw_534 : (Cond.methodLink "BrokeWhere" (202 : Nat) ({ cls := "BrokeWhere$Families", name := "isSound", desc := "(I)Z" } : MethodName)) ∈ TB := TB_of 534 (by decide +kernel) rfl
theorem tw_535 : (Cond.instanceMethod ({ cls := "BrokeWhere$Families", name := "isSound", desc := "(I)Z" } : MethodName)) ∈ TB := TB_of 535 (by decide +kernel) rfl
theorem tw_536 : (Cond.selects "BrokeWhere$Families" ({ cls := "BrokeWhere$Families", name := "isSound", desc := "(I)Z" } : MethodName) ({ cls := "BrokeWhere$Families", name := "isSound", desc := "(I)Z" } : MethodName)) ∈ TB := TB_of 536 (by decide +kernel) rfl
theorem tw_537 : (Cond.code ({ cls := "BrokeWhere$Families", name := "isSound", desc := "(I)Z" } : MethodName) prog_2_method_3_code (2 : Nat) (Option.some FieldType.boolean)) ∈ TB := TB_of 537 (by decide +kernel) rfl
theorem tw_538 : (Cond.methodLink "BrokeWhere$Families" (45 : Nat) ({ cls := "BrokeWhere$Families", name := "soundSets", desc := "(I)J" } : MethodName)) ∈ TB := TB_of 538 (by decide +kernel) rfl
theorem tw_540 : (Cond.instanceMethod ({ cls := "BrokeWhere$Families", name := "soundSets", desc := "(I)J" } : MethodName)) ∈ TB := TB_of 540 (by decide +kernel) rfl
theorem tw_541 : (Cond.code ({ cls := "BrokeWhere$Families", name := "soundSets", desc := "(I)J" } : MethodName) prog_2_method_2_code (5 : Nat) (Option.some FieldType.long)) ∈ TB := TB_of 541 (by decide +kernel) rfl
theorem tw_542 : (Cond.constantLong "BrokeWhere$Families" (26 : Nat) (-1 : Int64)) ∈ TB := TB_of 542 (by decide +kernel) rfl
theorem tw_545 : (Cond.static ({ cls := "BrokeWhere", name := "setsWithAll", desc := "(II)J" } : MethodName)) ∈ TB := TB_of 545 (by decide +kernel) rfl
theorem tw_546 : (Cond.code ({ cls := "BrokeWhere", name := "setsWithAll", desc := "(II)J" } : MethodName) prog_1_method_42_code (5 : Nat) (Option.some FieldType.long)) ∈ TB := TB_of 546 (by decide +kernel) rfl
theorem tw_547 : (Cond.methodLink "BrokeWhere" (265 : Nat) ({ cls := "BrokeWhere", name := "setsWith", desc := "(II)J" } : MethodName)) ∈ TB := TB_of 547 (by decide +kernel) rfl
theorem tw_549 : (Cond.static ({ cls := "BrokeWhere", name := "isOfWord", desc := "(JI)Z" } : MethodName)) ∈ TB := TB_of 549 (by decide +kernel) rfl
theorem tw_550 : (Cond.code ({ cls := "BrokeWhere", name := "isOfWord", desc := "(JI)Z" } : MethodName) prog_1_method_46_code (3 : Nat) (Option.some FieldType.boolean)) ∈ TB := TB_of 550 (by decide +kernel) rfl
theorem tw_551 : (Cond.methodLink "BrokeWhere" (209 : Nat) ({ cls := "BrokeWhere", name := "isAmong", desc := "([JI)Z" } : MethodName)) ∈ TB := TB_of 551 (by decide +kernel) rfl
theorem tw_552 : (Cond.static ({ cls := "BrokeWhere", name := "isAmong", desc := "([JI)Z" } : MethodName)) ∈ TB := TB_of 552 (by decide +kernel) rfl
theorem tw_553 : (Cond.code ({ cls := "BrokeWhere", name := "isAmong", desc := "([JI)Z" } : MethodName) prog_1_method_45_code (2 : Nat) (Option.some FieldType.boolean)) ∈ TB := TB_of 553 (by decide +kernel) rfl
theorem tw_554 : (Cond.methodLink "BrokeWhere" (269 : Nat) ({ cls := "BrokeWhere", name := "isOfWord", desc := "(JI)Z" } : MethodName)) ∈ TB := TB_of 554 (by decide +kernel) rfl
theorem tw_555 : (Cond.methodLink "BrokeWhereLaw" (109 : Nat) ({ cls := "BrokeWhere", name := "play", desc := "(I)I" } : MethodName)) ∈ TB := TB_of 555 (by decide +kernel) rfl
theorem tw_556 : (Cond.instanceMethod ({ cls := "BrokeWhere", name := "play", desc := "(I)I" } : MethodName)) ∈ TB := TB_of 556 (by decide +kernel) rfl
theorem tw_557 : (Cond.selects "BrokeWhere" ({ cls := "BrokeWhere", name := "play", desc := "(I)I" } : MethodName) ({ cls := "BrokeWhere", name := "play", desc := "(I)I" } : MethodName)) ∈ TB := TB_of 557 (by decide +kernel) rfl
theorem tw_558 : (Cond.code ({ cls := "BrokeWhere", name := "play", desc := "(I)I" } : MethodName) prog_1_method_24_code (4 : Nat) (Option.some FieldType.int)) ∈ TB := TB_of 558 (by decide +kernel) rfl
theorem tw_559 : (Cond.methodLink "BrokeWhere" (213 : Nat) ({ cls := "BrokeWhere$History", name := "hearing", desc := "()I" } : MethodName)) ∈ TB := TB_of 559 (by decide +kernel) rfl
theorem tw_560 : (Cond.methodLink "BrokeWhere" (216 : Nat) ({ cls := "BrokeWhere$Stories", name := "guessIsBelow", desc := "(I)Z" } : MethodName)) ∈ TB := TB_of 560 (by decide +kernel) rfl
theorem tw_561 : (Cond.instanceMethod ({ cls := "BrokeWhere$Stories", name := "guessIsBelow", desc := "(I)Z" } : MethodName)) ∈ TB := TB_of 561 (by decide +kernel) rfl
theorem tw_562 : (Cond.selects "BrokeWhere$Stories" ({ cls := "BrokeWhere$Stories", name := "guessIsBelow", desc := "(I)Z" } : MethodName) ({ cls := "BrokeWhere$Stories", name := "guessIsBelow", desc := "(I)Z" } : MethodName)) ∈ TB := TB_of 562 (by decide +kernel) rfl
theorem tw_563 : (Cond.code ({ cls := "BrokeWhere$Stories", name := "guessIsBelow", desc := "(I)Z" } : MethodName) prog_6_method_13_code (2 : Nat) (Option.some FieldType.boolean)) ∈ TB := TB_of 563 (by decide +kernel) rfl
theorem tw_564 : (Cond.constantLong "BrokeWhere$Stories" (129 : Nat) (10 : Int64)) ∈ TB := TB_of 564 (by decide +kernel) rfl
theorem tw_565 : (Cond.methodLink "BrokeWhereLaw" (113 : Nat) ({ cls := "BrokeWhere", name := "out", desc := "(II)I" } : MethodName)) ∈ TB := TB_of 565 (by decide +kernel) rfl
theorem tw_566 : (Cond.instanceMethod ({ cls := "BrokeWhere", name := "out", desc := "(II)I" } : MethodName)) ∈ TB := TB_of 566 (by decide +kernel) rfl
theorem tw_567 : (Cond.selects "BrokeWhere" ({ cls := "BrokeWhere", name := "out", desc := "(II)I" } : MethodName) ({ cls := "BrokeWhere", name := "out", desc := "(II)I" } : MethodName)) ∈ TB := TB_of 567 (by decide +kernel) rfl
theorem tw_568 : (Cond.code ({ cls := "BrokeWhere", name := "out", desc := "(II)I" } : MethodName) prog_1_method_25_code (4 : Nat) (Option.some FieldType.int)) ∈ TB := TB_of 568 (by decide +kernel) rfl
theorem tw_569 : (Cond.methodLink "BrokeWhere" (219 : Nat) ({ cls := "BrokeWhere$Families", name := "leastOut", desc := "(I)I" } : MethodName)) ∈ TB := TB_of 569 (by decide +kernel) rfl
theorem tw_570 : (Cond.instanceMethod ({ cls := "BrokeWhere$Families", name := "leastOut", desc := "(I)I" } : MethodName)) ∈ TB := TB_of 570 (by decide +kernel) rfl
theorem tw_571 : (Cond.selects "BrokeWhere$Families" ({ cls := "BrokeWhere$Families", name := "leastOut", desc := "(I)I" } : MethodName) ({ cls := "BrokeWhere$Families", name := "leastOut", desc := "(I)I" } : MethodName)) ∈ TB := TB_of 571 (by decide +kernel) rfl
theorem tw_572 : (Cond.code ({ cls := "BrokeWhere$Families", name := "leastOut", desc := "(I)I" } : MethodName) prog_2_method_4_code (5 : Nat) (Option.some FieldType.int)) ∈ TB := TB_of 572 (by decide +kernel) rfl
theorem tw_574 : (Cond.methodLink "BrokeWhere$Families" (62 : Nat) ({ cls := "BrokeWhere$Families", name := "isLess", desc := "(II)Z" } : MethodName)) ∈ TB := TB_of 574 (by decide +kernel) rfl
theorem tw_576 : (Cond.instanceMethod ({ cls := "BrokeWhere$Families", name := "isLess", desc := "(II)Z" } : MethodName)) ∈ TB := TB_of 576 (by decide +kernel) rfl
theorem tw_577 : (Cond.code ({ cls := "BrokeWhere$Families", name := "isLess", desc := "(II)Z" } : MethodName) prog_2_method_5_code (4 : Nat) (Option.some FieldType.boolean)) ∈ TB := TB_of 577 (by decide +kernel) rfl
theorem tw_578 : (Cond.methodLink "BrokeWhere$Families" (66 : Nat) ({ cls := "java/lang/Integer", name := "bitCount", desc := "(I)I" } : MethodName)) ∈ TB := TB_of 578 (by decide +kernel) rfl
theorem tw_579 : (Cond.static ({ cls := "java/lang/Integer", name := "bitCount", desc := "(I)I" } : MethodName)) ∈ TB := TB_of 579 (by decide +kernel) rfl
theorem tw_580 : (Cond.code ({ cls := "java/lang/Integer", name := "bitCount", desc := "(I)I" } : MethodName) prog_11_method_49_code (1 : Nat) (Option.some FieldType.int)) ∈ TB := TB_of 580 (by decide +kernel) rfl
theorem tw_581 : (Cond.constant "java/lang/Integer" (265 : Nat) (1431655765 : Int32)) ∈ TB := TB_of 581 (by decide +kernel) rfl
theorem tw_582 : (Cond.constant "java/lang/Integer" (266 : Nat) (858993459 : Int32)) ∈ TB := TB_of 582 (by decide +kernel) rfl
theorem tw_583 : (Cond.constant "java/lang/Integer" (267 : Nat) (252645135 : Int32)) ∈ TB := TB_of 583 (by decide +kernel) rfl
theorem tw_584 : (Cond.methodLink "BrokeWhere$Families" (72 : Nat) ({ cls := "BrokeWhere$History", name := "sizes", desc := "(I)I" } : MethodName)) ∈ TB := TB_of 584 (by decide +kernel) rfl
theorem tw_585 : (Cond.methodLink "BrokeWhere" (222 : Nat) ({ cls := "BrokeWhere$History", name := "sizes", desc := "(I)I" } : MethodName)) ∈ TB := TB_of 585 (by decide +kernel) rfl
theorem tw_586 : (Cond.methodLink "BrokeWhereLaw" (117 : Nat) ({ cls := "BrokeWhere", name := "core", desc := "(II)I" } : MethodName)) ∈ TB := TB_of 586 (by decide +kernel) rfl
theorem tw_587 : (Cond.instanceMethod ({ cls := "BrokeWhere", name := "core", desc := "(II)I" } : MethodName)) ∈ TB := TB_of 587 (by decide +kernel) rfl
theorem tw_588 : (Cond.selects "BrokeWhere" ({ cls := "BrokeWhere", name := "core", desc := "(II)I" } : MethodName) ({ cls := "BrokeWhere", name := "core", desc := "(II)I" } : MethodName)) ∈ TB := TB_of 588 (by decide +kernel) rfl
theorem tw_589 : (Cond.code ({ cls := "BrokeWhere", name := "core", desc := "(II)I" } : MethodName) prog_1_method_26_code (3 : Nat) (Option.some FieldType.int)) ∈ TB := TB_of 589 (by decide +kernel) rfl
theorem tw_590 : (Cond.methodLink "BrokeWhere" (225 : Nat) ({ cls := "BrokeWhere$Families", name := "findCores", desc := "(I)V" } : MethodName)) ∈ TB := TB_of 590 (by decide +kernel) rfl
theorem tw_591 : (Cond.instanceMethod ({ cls := "BrokeWhere$Families", name := "findCores", desc := "(I)V" } : MethodName)) ∈ TB := TB_of 591 (by decide +kernel) rfl
theorem tw_592 : (Cond.selects "BrokeWhere$Families" ({ cls := "BrokeWhere$Families", name := "findCores", desc := "(I)V" } : MethodName) ({ cls := "BrokeWhere$Families", name := "findCores", desc := "(I)V" } : MethodName)) ∈ TB := TB_of 592 (by decide +kernel) rfl
theorem tw_593 : (Cond.code ({ cls := "BrokeWhere$Families", name := "findCores", desc := "(I)V" } : MethodName) prog_2_method_6_code (4 : Nat) (Option.none : Option FieldType)) ∈ TB := TB_of 593 (by decide +kernel) rfl
theorem tw_595 : (Cond.static ({ cls := "BrokeWhere", name := "setsWithin", desc := "(II)J" } : MethodName)) ∈ TB := TB_of 595 (by decide +kernel) rfl
theorem tw_596 : (Cond.code ({ cls := "BrokeWhere", name := "setsWithin", desc := "(II)J" } : MethodName) prog_1_method_43_code (5 : Nat) (Option.some FieldType.long)) ∈ TB := TB_of 596 (by decide +kernel) rfl
theorem tw_598 : (Cond.static ({ cls := "BrokeWhere", name := "setsGiven", desc := "(I[JI)J" } : MethodName)) ∈ TB := TB_of 598 (by decide +kernel) rfl
theorem tw_599 : (Cond.code ({ cls := "BrokeWhere", name := "setsGiven", desc := "(I[JI)J" } : MethodName) prog_1_method_44_code (4 : Nat) (Option.some FieldType.long)) ∈ TB := TB_of 599 (by decide +kernel) rfl
theorem tw_600 : (Cond.methodLink "BrokeWhere" (229 : Nat) ({ cls := "BrokeWhere$Families", name := "countFound", desc := "()I" } : MethodName)) ∈ TB := TB_of 600 (by decide +kernel) rfl
theorem tw_601 : (Cond.instanceMethod ({ cls := "BrokeWhere$Families", name := "countFound", desc := "()I" } : MethodName)) ∈ TB := TB_of 601 (by decide +kernel) rfl
theorem tw_602 : (Cond.selects "BrokeWhere$Families" ({ cls := "BrokeWhere$Families", name := "countFound", desc := "()I" } : MethodName) ({ cls := "BrokeWhere$Families", name := "countFound", desc := "()I" } : MethodName)) ∈ TB := TB_of 602 (by decide +kernel) rfl
theorem tw_603 : (Cond.code ({ cls := "BrokeWhere$Families", name := "countFound", desc := "()I" } : MethodName) prog_2_method_7_code (3 : Nat) (Option.some FieldType.int)) ∈ TB := TB_of 603 (by decide +kernel) rfl
theorem tw_604 : (Cond.methodLink "BrokeWhere$Families" (82 : Nat) ({ cls := "java/lang/Long", name := "bitCount", desc := "(J)I" } : MethodName)) ∈ TB := TB_of 604 (by decide +kernel) rfl
theorem tw_605 : (Cond.static ({ cls := "java/lang/Long", name := "bitCount", desc := "(J)I" } : MethodName)) ∈ TB := TB_of 605 (by decide +kernel) rfl
theorem tw_606 : (Cond.code ({ cls := "java/lang/Long", name := "bitCount", desc := "(J)I" } : MethodName) prog_12_method_50_code (2 : Nat) (Option.some FieldType.int)) ∈ TB := TB_of 606 (by decide +kernel) rfl
theorem tw_607 : (Cond.constantLong "java/lang/Long" (314 : Nat) (6148914691236517205 : Int64)) ∈ TB := TB_of 607 (by decide +kernel) rfl
theorem tw_608 : (Cond.constantLong "java/lang/Long" (316 : Nat) (3689348814741910323 : Int64)) ∈ TB := TB_of 608 (by decide +kernel) rfl
theorem tw_609 : (Cond.constantLong "java/lang/Long" (318 : Nat) (1085102592571150095 : Int64)) ∈ TB := TB_of 609 (by decide +kernel) rfl
theorem tw_610 : (Cond.methodLink "BrokeWhere" (232 : Nat) ({ cls := "BrokeWhere$Families", name := "foundAt", desc := "(I)I" } : MethodName)) ∈ TB := TB_of 610 (by decide +kernel) rfl
theorem tw_611 : (Cond.instanceMethod ({ cls := "BrokeWhere$Families", name := "foundAt", desc := "(I)I" } : MethodName)) ∈ TB := TB_of 611 (by decide +kernel) rfl
theorem tw_612 : (Cond.selects "BrokeWhere$Families" ({ cls := "BrokeWhere$Families", name := "foundAt", desc := "(I)I" } : MethodName) ({ cls := "BrokeWhere$Families", name := "foundAt", desc := "(I)I" } : MethodName)) ∈ TB := TB_of 612 (by decide +kernel) rfl
theorem tw_613 : (Cond.code ({ cls := "BrokeWhere$Families", name := "foundAt", desc := "(I)I" } : MethodName) prog_2_method_8_code (5 : Nat) (Option.some FieldType.int)) ∈ TB := TB_of 613 (by decide +kernel) rfl
theorem tw_614 : (Cond.methodLink "BrokeWhere$Families" (87 : Nat) ({ cls := "BrokeWhere$Families", name := "foundFrom", desc := "(II)I" } : MethodName)) ∈ TB := TB_of 614 (by decide +kernel) rfl
theorem tw_616 : (Cond.instanceMethod ({ cls := "BrokeWhere$Families", name := "foundFrom", desc := "(II)I" } : MethodName)) ∈ TB := TB_of 616 (by decide +kernel) rfl
theorem tw_617 : (Cond.code ({ cls := "BrokeWhere$Families", name := "foundFrom", desc := "(II)I" } : MethodName) prog_2_method_9_code (5 : Nat) (Option.some FieldType.int)) ∈ TB := TB_of 617 (by decide +kernel) rfl
theorem tw_618 : (Cond.methodLink "BrokeWhereLaw" (121 : Nat) ({ cls := "BrokeWhere", name := "told", desc := "(I)I" } : MethodName)) ∈ TB := TB_of 618 (by decide +kernel) rfl
theorem tw_619 : (Cond.instanceMethod ({ cls := "BrokeWhere", name := "told", desc := "(I)I" } : MethodName)) ∈ TB := TB_of 619 (by decide +kernel) rfl
theorem tw_620 : (Cond.selects "BrokeWhere" ({ cls := "BrokeWhere", name := "told", desc := "(I)I" } : MethodName) ({ cls := "BrokeWhere", name := "told", desc := "(I)I" } : MethodName)) ∈ TB := TB_of 620 (by decide +kernel) rfl
theorem tw_621 : (Cond.code ({ cls := "BrokeWhere", name := "told", desc := "(I)I" } : MethodName) prog_1_method_27_code (4 : Nat) (Option.some FieldType.int)) ∈ TB := TB_of 621 (by decide +kernel) rfl
theorem tw_622 : (Cond.classLink "BrokeWhereLaw" (10 : Nat) "BrokeWhereModel") ∈ TB := TB_of 622 (by decide +kernel) rfl
theorem tw_623 : (Cond.instantiable "BrokeWhereModel" (28 : Nat)) ∈ TB := TB_of 623 (by decide +kernel) rfl
theorem tw_624 : (Cond.methodLink "BrokeWhereLaw" (12 : Nat) ({ cls := "BrokeWhereModel", name := "<init>", desc := "()V" } : MethodName)) ∈ TB := TB_of 624 (by decide +kernel) rfl
theorem tw_625 : (Cond.instanceMethod ({ cls := "BrokeWhereModel", name := "<init>", desc := "()V" } : MethodName)) ∈ TB := TB_of 625 (by decide +kernel) rfl
theorem tw_626 : (Cond.code ({ cls := "BrokeWhereModel", name := "<init>", desc := "()V" } : MethodName) prog_10_method_1_code (1 : Nat) (Option.none : Option FieldType)) ∈ TB := TB_of 626 (by decide +kernel) rfl
theorem tw_627 : (Cond.methodLink "BrokeWhereModel" (1 : Nat) ({ cls := "java/lang/Object", name := "<init>", desc := "()V" } : MethodName)) ∈ TB := TB_of 627 (by decide +kernel) rfl
theorem tw_628 : (Cond.fieldLink "BrokeWhereModel" (75 : Nat) "BrokeWhereModel" "versions" "I") ∈ TB := TB_of 628 (by decide +kernel) rfl
theorem tw_629 : (Cond.fieldLink "BrokeWhereModel" (7 : Nat) "BrokeWhereModel" "hasOf" "[I") ∈ TB := TB_of 629 (by decide +kernel) rfl
theorem tw_630 : (Cond.fieldLink "BrokeWhereModel" (13 : Nat) "BrokeWhereModel" "size" "[I") ∈ TB := TB_of 630 (by decide +kernel) rfl
theorem tw_631 : (Cond.fieldLink "BrokeWhereModel" (16 : Nat) "BrokeWhereModel" "cost" "[I") ∈ TB := TB_of 631 (by decide +kernel) rfl
theorem tw_632 : (Cond.fieldLink "BrokeWhereModel" (19 : Nat) "BrokeWhereModel" "needs" "[I") ∈ TB := TB_of 632 (by decide +kernel) rfl
theorem tw_633 : (Cond.fieldLink "BrokeWhereModel" (22 : Nat) "BrokeWhereModel" "deaf" "[Z") ∈ TB := TB_of 633 (by decide +kernel) rfl
theorem tw_634 : (Cond.fieldLink "BrokeWhereModel" (91 : Nat) "BrokeWhereModel" "tests" "I") ∈ TB := TB_of 634 (by decide +kernel) rfl
theorem tw_635 : (Cond.fieldLink "BrokeWhereModel" (26 : Nat) "BrokeWhereModel" "testOf" "[I") ∈ TB := TB_of 635 (by decide +kernel) rfl
theorem tw_636 : (Cond.fieldLink "BrokeWhereModel" (29 : Nat) "BrokeWhereModel" "passed" "[Z") ∈ TB := TB_of 636 (by decide +kernel) rfl
theorem tw_637 : (Cond.fieldLink "BrokeWhereModel" (32 : Nat) "BrokeWhereModel" "trust" "[I") ∈ TB := TB_of 637 (by decide +kernel) rfl
theorem tw_638 : (Cond.fieldLink "BrokeWhereModel" (172 : Nat) "BrokeWhereModel" "signs" "I") ∈ TB := TB_of 638 (by decide +kernel) rfl
theorem tw_639 : (Cond.fieldLink "BrokeWhereModel" (35 : Nat) "BrokeWhereModel" "sign" "[I") ∈ TB := TB_of 639 (by decide +kernel) rfl
theorem tw_640 : (Cond.fieldLink "BrokeWhereModel" (178 : Nat) "BrokeWhereModel" "told" "I") ∈ TB := TB_of 640 (by decide +kernel) rfl
theorem tw_641 : (Cond.fieldLink "BrokeWhereModel" (38 : Nat) "BrokeWhereModel" "truth" "[I") ∈ TB := TB_of 641 (by decide +kernel) rfl
theorem tw_642 : (Cond.fieldLink "BrokeWhereModel" (112 : Nat) "BrokeWhereModel" "stories" "I") ∈ TB := TB_of 642 (by decide +kernel) rfl
theorem tw_643 : (Cond.fieldLink "BrokeWhereModel" (41 : Nat) "BrokeWhereModel" "sort" "[I") ∈ TB := TB_of 643 (by decide +kernel) rfl
theorem tw_644 : (Cond.fieldLink "BrokeWhereModel" (44 : Nat) "BrokeWhereModel" "one" "[I") ∈ TB := TB_of 644 (by decide +kernel) rfl
theorem tw_645 : (Cond.fieldLink "BrokeWhereModel" (47 : Nat) "BrokeWhereModel" "two" "[I") ∈ TB := TB_of 645 (by decide +kernel) rfl
theorem tw_646 : (Cond.fieldLink "BrokeWhereModel" (50 : Nat) "BrokeWhereModel" "weight" "[J") ∈ TB := TB_of 646 (by decide +kernel) rfl
theorem tw_647 : (Cond.fieldLink "BrokeWhereModel" (119 : Nat) "BrokeWhereModel" "all" "J") ∈ TB := TB_of 647 (by decide +kernel) rfl
theorem tw_648 : (Cond.fieldLink "BrokeWhereModel" (87 : Nat) "BrokeWhereModel" "isLaid" "Z") ∈ TB := TB_of 648 (by decide +kernel) rfl
theorem tw_649 : (Cond.fieldLink "BrokeWhereModel" (54 : Nat) "BrokeWhereModel" "most" "[I") ∈ TB := TB_of 649 (by decide +kernel) rfl
theorem tw_650 : (Cond.fieldLink "BrokeWhereModel" (57 : Nat) "BrokeWhereModel" "mostFirst" "[I") ∈ TB := TB_of 650 (by decide +kernel) rfl
theorem tw_651 : (Cond.fieldLink "BrokeWhereModel" (60 : Nat) "BrokeWhereModel" "sum" "[I") ∈ TB := TB_of 651 (by decide +kernel) rfl
theorem tw_652 : (Cond.fieldLink "BrokeWhereModel" (63 : Nat) "BrokeWhereModel" "sumFirst" "[I") ∈ TB := TB_of 652 (by decide +kernel) rfl
theorem tw_653 : (Cond.fieldLink "BrokeWhereModel" (66 : Nat) "BrokeWhereModel" "due" "[I") ∈ TB := TB_of 653 (by decide +kernel) rfl
theorem tw_654 : (Cond.fieldLink "BrokeWhereModel" (69 : Nat) "BrokeWhereModel" "pile" "[Z") ∈ TB := TB_of 654 (by decide +kernel) rfl
theorem tw_655 : (Cond.fieldLink "BrokeWhereModel" (72 : Nat) "BrokeWhereModel" "bad" "[Z") ∈ TB := TB_of 655 (by decide +kernel) rfl
theorem tw_656 : (Cond.lays "BrokeWhereModel" "BrokeWhereModel" "versions" "I") ∈ TB := TB_of 656 (by decide +kernel) rfl
theorem tw_658 : (Cond.laysFinal "BrokeWhereModel" "BrokeWhereModel" "hasOf" "[I") ∈ TB := TB_of 658 (by decide +kernel) rfl
theorem tw_660 : (Cond.laysFinal "BrokeWhereModel" "BrokeWhereModel" "size" "[I") ∈ TB := TB_of 660 (by decide +kernel) rfl
theorem tw_662 : (Cond.laysFinal "BrokeWhereModel" "BrokeWhereModel" "cost" "[I") ∈ TB := TB_of 662 (by decide +kernel) rfl
theorem tw_664 : (Cond.laysFinal "BrokeWhereModel" "BrokeWhereModel" "needs" "[I") ∈ TB := TB_of 664 (by decide +kernel) rfl
theorem tw_666 : (Cond.laysFinal "BrokeWhereModel" "BrokeWhereModel" "deaf" "[Z") ∈ TB := TB_of 666 (by decide +kernel) rfl
theorem tw_668 : (Cond.lays "BrokeWhereModel" "BrokeWhereModel" "tests" "I") ∈ TB := TB_of 668 (by decide +kernel) rfl
theorem tw_670 : (Cond.laysFinal "BrokeWhereModel" "BrokeWhereModel" "testOf" "[I") ∈ TB := TB_of 670 (by decide +kernel) rfl
theorem tw_672 : (Cond.laysFinal "BrokeWhereModel" "BrokeWhereModel" "passed" "[Z") ∈ TB := TB_of 672 (by decide +kernel) rfl
theorem tw_674 : (Cond.laysFinal "BrokeWhereModel" "BrokeWhereModel" "trust" "[I") ∈ TB := TB_of 674 (by decide +kernel) rfl
theorem tw_676 : (Cond.lays "BrokeWhereModel" "BrokeWhereModel" "signs" "I") ∈ TB := TB_of 676 (by decide +kernel) rfl
theorem tw_678 : (Cond.laysFinal "BrokeWhereModel" "BrokeWhereModel" "sign" "[I") ∈ TB := TB_of 678 (by decide +kernel) rfl
theorem tw_680 : (Cond.lays "BrokeWhereModel" "BrokeWhereModel" "told" "I") ∈ TB := TB_of 680 (by decide +kernel) rfl
theorem tw_682 : (Cond.laysFinal "BrokeWhereModel" "BrokeWhereModel" "truth" "[I") ∈ TB := TB_of 682 (by decide +kernel) rfl
theorem tw_684 : (Cond.lays "BrokeWhereModel" "BrokeWhereModel" "stories" "I") ∈ TB := TB_of 684 (by decide +kernel) rfl
theorem tw_686 : (Cond.laysFinal "BrokeWhereModel" "BrokeWhereModel" "sort" "[I") ∈ TB := TB_of 686 (by decide +kernel) rfl
theorem tw_688 : (Cond.laysFinal "BrokeWhereModel" "BrokeWhereModel" "one" "[I") ∈ TB := TB_of 688 (by decide +kernel) rfl
theorem tw_690 : (Cond.laysFinal "BrokeWhereModel" "BrokeWhereModel" "two" "[I") ∈ TB := TB_of 690 (by decide +kernel) rfl
theorem tw_692 : (Cond.laysFinal "BrokeWhereModel" "BrokeWhereModel" "weight" "[J") ∈ TB := TB_of 692 (by decide +kernel) rfl
theorem tw_694 : (Cond.lays "BrokeWhereModel" "BrokeWhereModel" "all" "J") ∈ TB := TB_of 694 (by decide +kernel) rfl
theorem tw_696 : (Cond.lays "BrokeWhereModel" "BrokeWhereModel" "isLaid" "Z") ∈ TB := TB_of 696 (by decide +kernel) rfl
theorem tw_698 : (Cond.laysFinal "BrokeWhereModel" "BrokeWhereModel" "most" "[I") ∈ TB := TB_of 698 (by decide +kernel) rfl
theorem tw_700 : (Cond.laysFinal "BrokeWhereModel" "BrokeWhereModel" "mostFirst" "[I") ∈ TB := TB_of 700 (by decide +kernel) rfl
theorem tw_702 : (Cond.laysFinal "BrokeWhereModel" "BrokeWhereModel" "sum" "[I") ∈ TB := TB_of 702 (by decide +kernel) rfl
theorem tw_704 : (Cond.laysFinal "BrokeWhereModel" "BrokeWhereModel" "sumFirst" "[I") ∈ TB := TB_of 704 (by decide +kernel) rfl
theorem tw_706 : (Cond.laysFinal "BrokeWhereModel" "BrokeWhereModel" "due" "[I") ∈ TB := TB_of 706 (by decide +kernel) rfl
theorem tw_708 : (Cond.laysFinal "BrokeWhereModel" "BrokeWhereModel" "pile" "[Z") ∈ TB := TB_of 708 (by decide +kernel) rfl
theorem tw_710 : (Cond.laysFinal "BrokeWhereModel" "BrokeWhereModel" "bad" "[Z") ∈ TB := TB_of 710 (by decide +kernel) rfl
theorem tw_713 : (Cond.methodLink "BrokeWhereLaw" (17 : Nat) ({ cls := "BrokeWhereModel", name := "version", desc := "(III)I" } : MethodName)) ∈ TB := TB_of 713 (by decide +kernel) rfl
theorem tw_714 : (Cond.instanceMethod ({ cls := "BrokeWhereModel", name := "version", desc := "(III)I" } : MethodName)) ∈ TB := TB_of 714 (by decide +kernel) rfl
theorem tw_715 : (Cond.selects "BrokeWhereModel" ({ cls := "BrokeWhereModel", name := "version", desc := "(III)I" } : MethodName) ({ cls := "BrokeWhereModel", name := "version", desc := "(III)I" } : MethodName)) ∈ TB := TB_of 715 (by decide +kernel) rfl
theorem tw_716 : (Cond.code ({ cls := "BrokeWhereModel", name := "version", desc := "(III)I" } : MethodName) prog_10_method_6_code (5 : Nat) (Option.some FieldType.int)) ∈ TB := TB_of 716 (by decide +kernel) rfl
theorem tw_717 : (Cond.methodLink "BrokeWhereModel" (83 : Nat) ({ cls := "BrokeWhereModel", name := "isVersion", desc := "(I)Z" } : MethodName)) ∈ TB := TB_of 717 (by decide +kernel) rfl
theorem tw_719 : (Cond.instanceMethod ({ cls := "BrokeWhereModel", name := "isVersion", desc := "(I)Z" } : MethodName)) ∈ TB := TB_of 719 (by decide +kernel) rfl
theorem tw_720 : (Cond.code ({ cls := "BrokeWhereModel", name := "isVersion", desc := "(I)Z" } : MethodName) prog_10_method_3_code (2 : Nat) (Option.some FieldType.boolean)) ∈ TB := TB_of 720 (by decide +kernel) rfl
theorem tw_721 : (Cond.methodLink "BrokeWhereModel" (79 : Nat) ({ cls := "BrokeWhereModel", name := "in", desc := "(III)Z" } : MethodName)) ∈ TB := TB_of 721 (by decide +kernel) rfl
theorem tw_722 : (Cond.static ({ cls := "BrokeWhereModel", name := "in", desc := "(III)Z" } : MethodName)) ∈ TB := TB_of 722 (by decide +kernel) rfl
theorem tw_723 : (Cond.code ({ cls := "BrokeWhereModel", name := "in", desc := "(III)Z" } : MethodName) prog_10_method_2_code (3 : Nat) (Option.some FieldType.boolean)) ∈ TB := TB_of 723 (by decide +kernel) rfl
theorem tw_724 : (Cond.methodLink "BrokeWhereLaw" (22 : Nat) ({ cls := "BrokeWhereModel", name := "has", desc := "(I)I" } : MethodName)) ∈ TB := TB_of 724 (by decide +kernel) rfl
theorem tw_725 : (Cond.instanceMethod ({ cls := "BrokeWhereModel", name := "has", desc := "(I)I" } : MethodName)) ∈ TB := TB_of 725 (by decide +kernel) rfl
theorem tw_726 : (Cond.selects "BrokeWhereModel" ({ cls := "BrokeWhereModel", name := "has", desc := "(I)I" } : MethodName) ({ cls := "BrokeWhereModel", name := "has", desc := "(I)I" } : MethodName)) ∈ TB := TB_of 726 (by decide +kernel) rfl
theorem tw_727 : (Cond.code ({ cls := "BrokeWhereModel", name := "has", desc := "(I)I" } : MethodName) prog_10_method_7_code (2 : Nat) (Option.some FieldType.int)) ∈ TB := TB_of 727 (by decide +kernel) rfl
theorem tw_728 : (Cond.methodLink "BrokeWhereLaw" (26 : Nat) ({ cls := "BrokeWhereModel", name := "set", desc := "(III)I" } : MethodName)) ∈ TB := TB_of 728 (by decide +kernel) rfl
theorem tw_729 : (Cond.instanceMethod ({ cls := "BrokeWhereModel", name := "set", desc := "(III)I" } : MethodName)) ∈ TB := TB_of 729 (by decide +kernel) rfl
theorem tw_730 : (Cond.selects "BrokeWhereModel" ({ cls := "BrokeWhereModel", name := "set", desc := "(III)I" } : MethodName) ({ cls := "BrokeWhereModel", name := "set", desc := "(III)I" } : MethodName)) ∈ TB := TB_of 730 (by decide +kernel) rfl
theorem tw_731 : (Cond.code ({ cls := "BrokeWhereModel", name := "set", desc := "(III)I" } : MethodName) prog_10_method_9_code (6 : Nat) (Option.some FieldType.int)) ∈ TB := TB_of 731 (by decide +kernel) rfl
theorem tw_732 : (Cond.methodLink "BrokeWhereModel" (94 : Nat) ({ cls := "BrokeWhereModel", name := "isPart", desc := "(I)Z" } : MethodName)) ∈ TB := TB_of 732 (by decide +kernel) rfl
theorem tw_733 : (Cond.static ({ cls := "BrokeWhereModel", name := "isPart", desc := "(I)Z" } : MethodName)) ∈ TB := TB_of 733 (by decide +kernel) rfl
theorem tw_734 : (Cond.code ({ cls := "BrokeWhereModel", name := "isPart", desc := "(I)Z" } : MethodName) prog_10_method_4_code (1 : Nat) (Option.some FieldType.boolean)) ∈ TB := TB_of 734 (by decide +kernel) rfl
theorem tw_735 : (Cond.methodLink "BrokeWhereModel" (97 : Nat) ({ cls := "BrokeWhereModel", name := "isTested", desc := "(I)Z" } : MethodName)) ∈ TB := TB_of 735 (by decide +kernel) rfl
theorem tw_737 : (Cond.instanceMethod ({ cls := "BrokeWhereModel", name := "isTested", desc := "(I)Z" } : MethodName)) ∈ TB := TB_of 737 (by decide +kernel) rfl
theorem tw_738 : (Cond.code ({ cls := "BrokeWhereModel", name := "isTested", desc := "(I)Z" } : MethodName) prog_10_method_8_code (4 : Nat) (Option.some FieldType.boolean)) ∈ TB := TB_of 738 (by decide +kernel) rfl
theorem tw_739 : (Cond.methodLink "BrokeWhereLaw" (31 : Nat) ({ cls := "BrokeWhereModel", name := "trust", desc := "(II)I" } : MethodName)) ∈ TB := TB_of 739 (by decide +kernel) rfl
theorem tw_740 : (Cond.instanceMethod ({ cls := "BrokeWhereModel", name := "trust", desc := "(II)I" } : MethodName)) ∈ TB := TB_of 740 (by decide +kernel) rfl
theorem tw_741 : (Cond.selects "BrokeWhereModel" ({ cls := "BrokeWhereModel", name := "trust", desc := "(II)I" } : MethodName) ({ cls := "BrokeWhereModel", name := "trust", desc := "(II)I" } : MethodName)) ∈ TB := TB_of 741 (by decide +kernel) rfl
theorem tw_742 : (Cond.code ({ cls := "BrokeWhereModel", name := "trust", desc := "(II)I" } : MethodName) prog_10_method_10_code (4 : Nat) (Option.some FieldType.int)) ∈ TB := TB_of 742 (by decide +kernel) rfl
theorem tw_743 : (Cond.methodLink "BrokeWhereLaw" (36 : Nat) ({ cls := "BrokeWhereModel", name := "test", desc := "(IZ)I" } : MethodName)) ∈ TB := TB_of 743 (by decide +kernel) rfl
theorem tw_744 : (Cond.instanceMethod ({ cls := "BrokeWhereModel", name := "test", desc := "(IZ)I" } : MethodName)) ∈ TB := TB_of 744 (by decide +kernel) rfl
theorem tw_745 : (Cond.selects "BrokeWhereModel" ({ cls := "BrokeWhereModel", name := "test", desc := "(IZ)I" } : MethodName) ({ cls := "BrokeWhereModel", name := "test", desc := "(IZ)I" } : MethodName)) ∈ TB := TB_of 745 (by decide +kernel) rfl
theorem tw_746 : (Cond.code ({ cls := "BrokeWhereModel", name := "test", desc := "(IZ)I" } : MethodName) prog_10_method_11_code (3 : Nat) (Option.some FieldType.int)) ∈ TB := TB_of 746 (by decide +kernel) rfl
theorem tw_747 : (Cond.methodLink "BrokeWhereLaw" (40 : Nat) ({ cls := "BrokeWhereModel", name := "tested", desc := "(II)I" } : MethodName)) ∈ TB := TB_of 747 (by decide +kernel) rfl
theorem tw_748 : (Cond.instanceMethod ({ cls := "BrokeWhereModel", name := "tested", desc := "(II)I" } : MethodName)) ∈ TB := TB_of 748 (by decide +kernel) rfl
theorem tw_749 : (Cond.selects "BrokeWhereModel" ({ cls := "BrokeWhereModel", name := "tested", desc := "(II)I" } : MethodName) ({ cls := "BrokeWhereModel", name := "tested", desc := "(II)I" } : MethodName)) ∈ TB := TB_of 749 (by decide +kernel) rfl
theorem tw_750 : (Cond.code ({ cls := "BrokeWhereModel", name := "tested", desc := "(II)I" } : MethodName) prog_10_method_12_code (3 : Nat) (Option.some FieldType.int)) ∈ TB := TB_of 750 (by decide +kernel) rfl
theorem tw_751 : (Cond.methodLink "BrokeWhereLaw" (45 : Nat) ({ cls := "BrokeWhereModel", name := "untest", desc := "()I" } : MethodName)) ∈ TB := TB_of 751 (by decide +kernel) rfl
theorem tw_752 : (Cond.instanceMethod ({ cls := "BrokeWhereModel", name := "untest", desc := "()I" } : MethodName)) ∈ TB := TB_of 752 (by decide +kernel) rfl
theorem tw_753 : (Cond.selects "BrokeWhereModel" ({ cls := "BrokeWhereModel", name := "untest", desc := "()I" } : MethodName) ({ cls := "BrokeWhereModel", name := "untest", desc := "()I" } : MethodName)) ∈ TB := TB_of 753 (by decide +kernel) rfl
theorem tw_754 : (Cond.code ({ cls := "BrokeWhereModel", name := "untest", desc := "()I" } : MethodName) prog_10_method_13_code (1 : Nat) (Option.some FieldType.int)) ∈ TB := TB_of 754 (by decide +kernel) rfl
theorem tw_755 : (Cond.methodLink "BrokeWhereLaw" (50 : Nat) ({ cls := "BrokeWhereModel", name := "weight", desc := "(III)J" } : MethodName)) ∈ TB := TB_of 755 (by decide +kernel) rfl
theorem tw_756 : (Cond.instanceMethod ({ cls := "BrokeWhereModel", name := "weight", desc := "(III)J" } : MethodName)) ∈ TB := TB_of 756 (by decide +kernel) rfl
theorem tw_757 : (Cond.selects "BrokeWhereModel" ({ cls := "BrokeWhereModel", name := "weight", desc := "(III)J" } : MethodName) ({ cls := "BrokeWhereModel", name := "weight", desc := "(III)J" } : MethodName)) ∈ TB := TB_of 757 (by decide +kernel) rfl
theorem tw_758 : (Cond.code ({ cls := "BrokeWhereModel", name := "weight", desc := "(III)J" } : MethodName) prog_10_method_20_code (4 : Nat) (Option.some FieldType.long)) ∈ TB := TB_of 758 (by decide +kernel) rfl
theorem tw_759 : (Cond.constantLong "BrokeWhereModel" (127 : Nat) (-1000000000000000002 : Int64)) ∈ TB := TB_of 759 (by decide +kernel) rfl
theorem tw_760 : (Cond.methodLink "BrokeWhereModel" (129 : Nat) ({ cls := "BrokeWhereModel", name := "isStory", desc := "(III)Z" } : MethodName)) ∈ TB := TB_of 760 (by decide +kernel) rfl
theorem tw_762 : (Cond.instanceMethod ({ cls := "BrokeWhereModel", name := "isStory", desc := "(III)Z" } : MethodName)) ∈ TB := TB_of 762 (by decide +kernel) rfl
theorem tw_763 : (Cond.code ({ cls := "BrokeWhereModel", name := "isStory", desc := "(III)Z" } : MethodName) prog_10_method_19_code (4 : Nat) (Option.some FieldType.boolean)) ∈ TB := TB_of 763 (by decide +kernel) rfl
theorem tw_764 : (Cond.methodLink "BrokeWhereModel" (115 : Nat) ({ cls := "BrokeWhereModel", name := "weightOf", desc := "(III)J" } : MethodName)) ∈ TB := TB_of 764 (by decide +kernel) rfl
theorem tw_766 : (Cond.instanceMethod ({ cls := "BrokeWhereModel", name := "weightOf", desc := "(III)J" } : MethodName)) ∈ TB := TB_of 766 (by decide +kernel) rfl
theorem tw_767 : (Cond.code ({ cls := "BrokeWhereModel", name := "weightOf", desc := "(III)J" } : MethodName) prog_10_method_16_code (7 : Nat) (Option.some FieldType.long)) ∈ TB := TB_of 767 (by decide +kernel) rfl
theorem tw_768 : (Cond.methodLink "BrokeWhereModel" (104 : Nat) ({ cls := "BrokeWhereModel", name := "shouldFail", desc := "(IIII)Z" } : MethodName)) ∈ TB := TB_of 768 (by decide +kernel) rfl
theorem tw_770 : (Cond.instanceMethod ({ cls := "BrokeWhereModel", name := "shouldFail", desc := "(IIII)Z" } : MethodName)) ∈ TB := TB_of 770 (by decide +kernel) rfl
theorem tw_771 : (Cond.code ({ cls := "BrokeWhereModel", name := "shouldFail", desc := "(IIII)Z" } : MethodName) prog_10_method_14_code (7 : Nat) (Option.some FieldType.boolean)) ∈ TB := TB_of 771 (by decide +kernel) rfl
theorem tw_772 : (Cond.methodLink "BrokeWhereModel" (100 : Nat) ({ cls := "BrokeWhereModel", name := "hasBit", desc := "(II)Z" } : MethodName)) ∈ TB := TB_of 772 (by decide +kernel) rfl
theorem tw_773 : (Cond.static ({ cls := "BrokeWhereModel", name := "hasBit", desc := "(II)Z" } : MethodName)) ∈ TB := TB_of 773 (by decide +kernel) rfl
theorem tw_774 : (Cond.code ({ cls := "BrokeWhereModel", name := "hasBit", desc := "(II)Z" } : MethodName) prog_10_method_5_code (2 : Nat) (Option.some FieldType.boolean)) ∈ TB := TB_of 774 (by decide +kernel) rfl
theorem tw_775 : (Cond.methodLink "BrokeWhereModel" (108 : Nat) ({ cls := "BrokeWhereModel", name := "tenths", desc := "(ZZ)I" } : MethodName)) ∈ TB := TB_of 775 (by decide +kernel) rfl
theorem tw_777 : (Cond.instanceMethod ({ cls := "BrokeWhereModel", name := "tenths", desc := "(ZZ)I" } : MethodName)) ∈ TB := TB_of 777 (by decide +kernel) rfl
theorem tw_778 : (Cond.code ({ cls := "BrokeWhereModel", name := "tenths", desc := "(ZZ)I" } : MethodName) prog_10_method_15_code (4 : Nat) (Option.some FieldType.int)) ∈ TB := TB_of 778 (by decide +kernel) rfl
theorem tw_779 : (Cond.constantLong "BrokeWhereModel" (132 : Nat) (-1000000000000000001 : Int64)) ∈ TB := TB_of 779 (by decide +kernel) rfl
theorem tw_780 : (Cond.methodLink "BrokeWhereLaw" (55 : Nat) ({ cls := "BrokeWhereModel", name := "odds", desc := "(IIII)J" } : MethodName)) ∈ TB := TB_of 780 (by decide +kernel) rfl
theorem tw_781 : (Cond.instanceMethod ({ cls := "BrokeWhereModel", name := "odds", desc := "(IIII)J" } : MethodName)) ∈ TB := TB_of 781 (by decide +kernel) rfl
theorem tw_782 : (Cond.selects "BrokeWhereModel" ({ cls := "BrokeWhereModel", name := "odds", desc := "(IIII)J" } : MethodName) ({ cls := "BrokeWhereModel", name := "odds", desc := "(IIII)J" } : MethodName)) ∈ TB := TB_of 782 (by decide +kernel) rfl
theorem tw_783 : (Cond.code ({ cls := "BrokeWhereModel", name := "odds", desc := "(IIII)J" } : MethodName) prog_10_method_22_code (5 : Nat) (Option.some FieldType.long)) ∈ TB := TB_of 783 (by decide +kernel) rfl
theorem tw_784 : (Cond.methodLink "BrokeWhereModel" (134 : Nat) ({ cls := "BrokeWhereModel", name := "layStories", desc := "()V" } : MethodName)) ∈ TB := TB_of 784 (by decide +kernel) rfl
theorem tw_786 : (Cond.instanceMethod ({ cls := "BrokeWhereModel", name := "layStories", desc := "()V" } : MethodName)) ∈ TB := TB_of 786 (by decide +kernel) rfl
theorem tw_787 : (Cond.code ({ cls := "BrokeWhereModel", name := "layStories", desc := "()V" } : MethodName) prog_10_method_18_code (4 : Nat) (Option.none : Option FieldType)) ∈ TB := TB_of 787 (by decide +kernel) rfl
theorem tw_788 : (Cond.methodLink "BrokeWhereModel" (123 : Nat) ({ cls := "BrokeWhereModel", name := "add", desc := "(III)V" } : MethodName)) ∈ TB := TB_of 788 (by decide +kernel) rfl
theorem tw_790 : (Cond.instanceMethod ({ cls := "BrokeWhereModel", name := "add", desc := "(III)V" } : MethodName)) ∈ TB := TB_of 790 (by decide +kernel) rfl
theorem tw_791 : (Cond.code ({ cls := "BrokeWhereModel", name := "add", desc := "(III)V" } : MethodName) prog_10_method_17_code (4 : Nat) (Option.none : Option FieldType)) ∈ TB := TB_of 791 (by decide +kernel) rfl
theorem tw_792 : (Cond.methodLink "BrokeWhereModel" (137 : Nat) ({ cls := "BrokeWhereModel", name := "term", desc := "(JJI)J" } : MethodName)) ∈ TB := TB_of 792 (by decide +kernel) rfl
theorem tw_793 : (Cond.static ({ cls := "BrokeWhereModel", name := "term", desc := "(JJI)J" } : MethodName)) ∈ TB := TB_of 793 (by decide +kernel) rfl
theorem tw_794 : (Cond.code ({ cls := "BrokeWhereModel", name := "term", desc := "(JJI)J" } : MethodName) prog_10_method_21_code (11 : Nat) (Option.some FieldType.long)) ∈ TB := TB_of 794 (by decide +kernel) rfl
theorem tw_795 : (Cond.methodLink "BrokeWhereLaw" (60 : Nat) ({ cls := "BrokeWhereModel", name := "sorts", desc := "(II)J" } : MethodName)) ∈ TB := TB_of 795 (by decide +kernel) rfl
theorem tw_796 : (Cond.instanceMethod ({ cls := "BrokeWhereModel", name := "sorts", desc := "(II)J" } : MethodName)) ∈ TB := TB_of 796 (by decide +kernel) rfl
theorem tw_797 : (Cond.selects "BrokeWhereModel" ({ cls := "BrokeWhereModel", name := "sorts", desc := "(II)J" } : MethodName) ({ cls := "BrokeWhereModel", name := "sorts", desc := "(II)J" } : MethodName)) ∈ TB := TB_of 797 (by decide +kernel) rfl
theorem tw_798 : (Cond.code ({ cls := "BrokeWhereModel", name := "sorts", desc := "(II)J" } : MethodName) prog_10_method_23_code (6 : Nat) (Option.some FieldType.long)) ∈ TB := TB_of 798 (by decide +kernel) rfl
theorem tw_799 : (Cond.methodLink "BrokeWhereLaw" (64 : Nat) ({ cls := "BrokeWhereModel", name := "blame", desc := "(II)J" } : MethodName)) ∈ TB := TB_of 799 (by decide +kernel) rfl
theorem tw_800 : (Cond.instanceMethod ({ cls := "BrokeWhereModel", name := "blame", desc := "(II)J" } : MethodName)) ∈ TB := TB_of 800 (by decide +kernel) rfl
theorem tw_801 : (Cond.selects "BrokeWhereModel" ({ cls := "BrokeWhereModel", name := "blame", desc := "(II)J" } : MethodName) ({ cls := "BrokeWhereModel", name := "blame", desc := "(II)J" } : MethodName)) ∈ TB := TB_of 801 (by decide +kernel) rfl
theorem tw_802 : (Cond.code ({ cls := "BrokeWhereModel", name := "blame", desc := "(II)J" } : MethodName) prog_10_method_24_code (6 : Nat) (Option.some FieldType.long)) ∈ TB := TB_of 802 (by decide +kernel) rfl
theorem tw_803 : (Cond.methodLink "BrokeWhereLaw" (68 : Nat) ({ cls := "BrokeWhereModel", name := "guess", desc := "(I)I" } : MethodName)) ∈ TB := TB_of 803 (by decide +kernel) rfl
theorem tw_804 : (Cond.instanceMethod ({ cls := "BrokeWhereModel", name := "guess", desc := "(I)I" } : MethodName)) ∈ TB := TB_of 804 (by decide +kernel) rfl
theorem tw_805 : (Cond.selects "BrokeWhereModel" ({ cls := "BrokeWhereModel", name := "guess", desc := "(I)I" } : MethodName) ({ cls := "BrokeWhereModel", name := "guess", desc := "(I)I" } : MethodName)) ∈ TB := TB_of 805 (by decide +kernel) rfl
theorem tw_806 : (Cond.code ({ cls := "BrokeWhereModel", name := "guess", desc := "(I)I" } : MethodName) prog_10_method_26_code (3 : Nat) (Option.some FieldType.int)) ∈ TB := TB_of 806 (by decide +kernel) rfl
theorem tw_807 : (Cond.methodLink "BrokeWhereModel" (141 : Nat) ({ cls := "BrokeWhereModel", name := "guessOf", desc := "()I" } : MethodName)) ∈ TB := TB_of 807 (by decide +kernel) rfl
theorem tw_809 : (Cond.instanceMethod ({ cls := "BrokeWhereModel", name := "guessOf", desc := "()I" } : MethodName)) ∈ TB := TB_of 809 (by decide +kernel) rfl
theorem tw_810 : (Cond.code ({ cls := "BrokeWhereModel", name := "guessOf", desc := "()I" } : MethodName) prog_10_method_25_code (3 : Nat) (Option.some FieldType.int)) ∈ TB := TB_of 810 (by decide +kernel) rfl
theorem tw_811 : (Cond.methodLink "BrokeWhereLaw" (72 : Nat) ({ cls := "BrokeWhereModel", name := "hope", desc := "(II)J" } : MethodName)) ∈ TB := TB_of 811 (by decide +kernel) rfl
theorem tw_812 : (Cond.instanceMethod ({ cls := "BrokeWhereModel", name := "hope", desc := "(II)J" } : MethodName)) ∈ TB := TB_of 812 (by decide +kernel) rfl
theorem tw_813 : (Cond.selects "BrokeWhereModel" ({ cls := "BrokeWhereModel", name := "hope", desc := "(II)J" } : MethodName) ({ cls := "BrokeWhereModel", name := "hope", desc := "(II)J" } : MethodName)) ∈ TB := TB_of 813 (by decide +kernel) rfl
theorem tw_814 : (Cond.code ({ cls := "BrokeWhereModel", name := "hope", desc := "(II)J" } : MethodName) prog_10_method_29_code (3 : Nat) (Option.some FieldType.long)) ∈ TB := TB_of 814 (by decide +kernel) rfl
theorem tw_815 : (Cond.methodLink "BrokeWhereModel" (145 : Nat) ({ cls := "BrokeWhereModel", name := "canTest", desc := "(I)Z" } : MethodName)) ∈ TB := TB_of 815 (by decide +kernel) rfl
theorem tw_817 : (Cond.instanceMethod ({ cls := "BrokeWhereModel", name := "canTest", desc := "(I)Z" } : MethodName)) ∈ TB := TB_of 817 (by decide +kernel) rfl
theorem tw_818 : (Cond.code ({ cls := "BrokeWhereModel", name := "canTest", desc := "(I)Z" } : MethodName) prog_10_method_27_code (2 : Nat) (Option.some FieldType.boolean)) ∈ TB := TB_of 818 (by decide +kernel) rfl
theorem tw_819 : (Cond.methodLink "BrokeWhereModel" (148 : Nat) ({ cls := "BrokeWhereModel", name := "hopeOf", desc := "(I)J" } : MethodName)) ∈ TB := TB_of 819 (by decide +kernel) rfl
theorem tw_821 : (Cond.instanceMethod ({ cls := "BrokeWhereModel", name := "hopeOf", desc := "(I)J" } : MethodName)) ∈ TB := TB_of 821 (by decide +kernel) rfl
theorem tw_822 : (Cond.code ({ cls := "BrokeWhereModel", name := "hopeOf", desc := "(I)J" } : MethodName) prog_10_method_28_code (12 : Nat) (Option.some FieldType.long)) ∈ TB := TB_of 822 (by decide +kernel) rfl
theorem tw_823 : (Cond.constantLong "BrokeWhereModel" (152 : Nat) (10 : Int64)) ∈ TB := TB_of 823 (by decide +kernel) rfl
theorem tw_824 : (Cond.methodLink "BrokeWhereLaw" (76 : Nat) ({ cls := "BrokeWhereModel", name := "next", desc := "(I)I" } : MethodName)) ∈ TB := TB_of 824 (by decide +kernel) rfl
theorem tw_825 : (Cond.instanceMethod ({ cls := "BrokeWhereModel", name := "next", desc := "(I)I" } : MethodName)) ∈ TB := TB_of 825 (by decide +kernel) rfl
theorem tw_826 : (Cond.selects "BrokeWhereModel" ({ cls := "BrokeWhereModel", name := "next", desc := "(I)I" } : MethodName) ({ cls := "BrokeWhereModel", name := "next", desc := "(I)I" } : MethodName)) ∈ TB := TB_of 826 (by decide +kernel) rfl
theorem tw_827 : (Cond.code ({ cls := "BrokeWhereModel", name := "next", desc := "(I)I" } : MethodName) prog_10_method_32_code (2 : Nat) (Option.some FieldType.int)) ∈ TB := TB_of 827 (by decide +kernel) rfl
theorem tw_828 : (Cond.methodLink "BrokeWhereModel" (158 : Nat) ({ cls := "BrokeWhereModel", name := "nextOf", desc := "(I)I" } : MethodName)) ∈ TB := TB_of 828 (by decide +kernel) rfl
theorem tw_830 : (Cond.instanceMethod ({ cls := "BrokeWhereModel", name := "nextOf", desc := "(I)I" } : MethodName)) ∈ TB := TB_of 830 (by decide +kernel) rfl
theorem tw_831 : (Cond.code ({ cls := "BrokeWhereModel", name := "nextOf", desc := "(I)I" } : MethodName) prog_10_method_31_code (8 : Nat) (Option.some FieldType.int)) ∈ TB := TB_of 831 (by decide +kernel) rfl
theorem tw_832 : (Cond.methodLink "BrokeWhereModel" (154 : Nat) ({ cls := "BrokeWhereModel", name := "badness", desc := "(II)J" } : MethodName)) ∈ TB := TB_of 832 (by decide +kernel) rfl
theorem tw_834 : (Cond.instanceMethod ({ cls := "BrokeWhereModel", name := "badness", desc := "(II)J" } : MethodName)) ∈ TB := TB_of 834 (by decide +kernel) rfl
theorem tw_835 : (Cond.code ({ cls := "BrokeWhereModel", name := "badness", desc := "(II)J" } : MethodName) prog_10_method_30_code (6 : Nat) (Option.some FieldType.long)) ∈ TB := TB_of 835 (by decide +kernel) rfl
theorem tw_836 : (Cond.methodLink "BrokeWhereLaw" (80 : Nat) ({ cls := "BrokeWhereModel", name := "worst", desc := "(II)I" } : MethodName)) ∈ TB := TB_of 836 (by decide +kernel) rfl
theorem tw_837 : (Cond.instanceMethod ({ cls := "BrokeWhereModel", name := "worst", desc := "(II)I" } : MethodName)) ∈ TB := TB_of 837 (by decide +kernel) rfl
theorem tw_838 : (Cond.selects "BrokeWhereModel" ({ cls := "BrokeWhereModel", name := "worst", desc := "(II)I" } : MethodName) ({ cls := "BrokeWhereModel", name := "worst", desc := "(II)I" } : MethodName)) ∈ TB := TB_of 838 (by decide +kernel) rfl
theorem tw_839 : (Cond.code ({ cls := "BrokeWhereModel", name := "worst", desc := "(II)I" } : MethodName) prog_10_method_36_code (3 : Nat) (Option.some FieldType.int)) ∈ TB := TB_of 839 (by decide +kernel) rfl
theorem tw_840 : (Cond.methodLink "BrokeWhereModel" (166 : Nat) ({ cls := "BrokeWhereModel", name := "isSet", desc := "(I)Z" } : MethodName)) ∈ TB := TB_of 840 (by decide +kernel) rfl
theorem tw_842 : (Cond.instanceMethod ({ cls := "BrokeWhereModel", name := "isSet", desc := "(I)Z" } : MethodName)) ∈ TB := TB_of 842 (by decide +kernel) rfl
theorem tw_843 : (Cond.code ({ cls := "BrokeWhereModel", name := "isSet", desc := "(I)Z" } : MethodName) prog_10_method_35_code (2 : Nat) (Option.some FieldType.boolean)) ∈ TB := TB_of 843 (by decide +kernel) rfl
theorem tw_844 : (Cond.methodLink "BrokeWhereModel" (169 : Nat) ({ cls := "BrokeWhereModel", name := "lay", desc := "()V" } : MethodName)) ∈ TB := TB_of 844 (by decide +kernel) rfl
theorem tw_846 : (Cond.instanceMethod ({ cls := "BrokeWhereModel", name := "lay", desc := "()V" } : MethodName)) ∈ TB := TB_of 846 (by decide +kernel) rfl
theorem tw_847 : (Cond.code ({ cls := "BrokeWhereModel", name := "lay", desc := "()V" } : MethodName) prog_10_method_34_code (2 : Nat) (Option.none : Option FieldType)) ∈ TB := TB_of 847 (by decide +kernel) rfl
theorem tw_848 : (Cond.methodLink "BrokeWhereModel" (162 : Nat) ({ cls := "BrokeWhereModel", name := "laySet", desc := "(I)V" } : MethodName)) ∈ TB := TB_of 848 (by decide +kernel) rfl
theorem tw_850 : (Cond.instanceMethod ({ cls := "BrokeWhereModel", name := "laySet", desc := "(I)V" } : MethodName)) ∈ TB := TB_of 850 (by decide +kernel) rfl
theorem tw_851 : (Cond.code ({ cls := "BrokeWhereModel", name := "laySet", desc := "(I)V" } : MethodName) prog_10_method_33_code (8 : Nat) (Option.none : Option FieldType)) ∈ TB := TB_of 851 (by decide +kernel) rfl
theorem tw_852 : (Cond.methodLink "BrokeWhereLaw" (84 : Nat) ({ cls := "BrokeWhereModel", name := "mean", desc := "(II)I" } : MethodName)) ∈ TB := TB_of 852 (by decide +kernel) rfl
theorem tw_853 : (Cond.instanceMethod ({ cls := "BrokeWhereModel", name := "mean", desc := "(II)I" } : MethodName)) ∈ TB := TB_of 853 (by decide +kernel) rfl
theorem tw_854 : (Cond.selects "BrokeWhereModel" ({ cls := "BrokeWhereModel", name := "mean", desc := "(II)I" } : MethodName) ({ cls := "BrokeWhereModel", name := "mean", desc := "(II)I" } : MethodName)) ∈ TB := TB_of 854 (by decide +kernel) rfl
theorem tw_855 : (Cond.code ({ cls := "BrokeWhereModel", name := "mean", desc := "(II)I" } : MethodName) prog_10_method_37_code (3 : Nat) (Option.some FieldType.int)) ∈ TB := TB_of 855 (by decide +kernel) rfl
theorem tw_856 : (Cond.methodLink "BrokeWhereLaw" (88 : Nat) ({ cls := "BrokeWhereModel", name := "twins", desc := "(I)I" } : MethodName)) ∈ TB := TB_of 856 (by decide +kernel) rfl
theorem tw_857 : (Cond.instanceMethod ({ cls := "BrokeWhereModel", name := "twins", desc := "(I)I" } : MethodName)) ∈ TB := TB_of 857 (by decide +kernel) rfl
theorem tw_858 : (Cond.selects "BrokeWhereModel" ({ cls := "BrokeWhereModel", name := "twins", desc := "(I)I" } : MethodName) ({ cls := "BrokeWhereModel", name := "twins", desc := "(I)I" } : MethodName)) ∈ TB := TB_of 858 (by decide +kernel) rfl
theorem tw_859 : (Cond.code ({ cls := "BrokeWhereModel", name := "twins", desc := "(I)I" } : MethodName) prog_10_method_38_code (4 : Nat) (Option.some FieldType.int)) ∈ TB := TB_of 859 (by decide +kernel) rfl
theorem tw_860 : (Cond.methodLink "BrokeWhereLaw" (92 : Nat) ({ cls := "BrokeWhereModel", name := "say", desc := "(I)I" } : MethodName)) ∈ TB := TB_of 860 (by decide +kernel) rfl
theorem tw_861 : (Cond.instanceMethod ({ cls := "BrokeWhereModel", name := "say", desc := "(I)I" } : MethodName)) ∈ TB := TB_of 861 (by decide +kernel) rfl
theorem tw_862 : (Cond.selects "BrokeWhereModel" ({ cls := "BrokeWhereModel", name := "say", desc := "(I)I" } : MethodName) ({ cls := "BrokeWhereModel", name := "say", desc := "(I)I" } : MethodName)) ∈ TB := TB_of 862 (by decide +kernel) rfl
theorem tw_863 : (Cond.code ({ cls := "BrokeWhereModel", name := "say", desc := "(I)I" } : MethodName) prog_10_method_39_code (2 : Nat) (Option.some FieldType.int)) ∈ TB := TB_of 863 (by decide +kernel) rfl
theorem tw_864 : (Cond.methodLink "BrokeWhereLaw" (96 : Nat) ({ cls := "BrokeWhereModel", name := "wipe", desc := "()I" } : MethodName)) ∈ TB := TB_of 864 (by decide +kernel) rfl
theorem tw_865 : (Cond.instanceMethod ({ cls := "BrokeWhereModel", name := "wipe", desc := "()I" } : MethodName)) ∈ TB := TB_of 865 (by decide +kernel) rfl
theorem tw_866 : (Cond.selects "BrokeWhereModel" ({ cls := "BrokeWhereModel", name := "wipe", desc := "()I" } : MethodName) ({ cls := "BrokeWhereModel", name := "wipe", desc := "()I" } : MethodName)) ∈ TB := TB_of 866 (by decide +kernel) rfl
theorem tw_867 : (Cond.code ({ cls := "BrokeWhereModel", name := "wipe", desc := "()I" } : MethodName) prog_10_method_40_code (2 : Nat) (Option.some FieldType.int)) ∈ TB := TB_of 867 (by decide +kernel) rfl
theorem tw_868 : (Cond.methodLink "BrokeWhereLaw" (100 : Nat) ({ cls := "BrokeWhereModel", name := "fault", desc := "()I" } : MethodName)) ∈ TB := TB_of 868 (by decide +kernel) rfl
theorem tw_869 : (Cond.instanceMethod ({ cls := "BrokeWhereModel", name := "fault", desc := "()I" } : MethodName)) ∈ TB := TB_of 869 (by decide +kernel) rfl
theorem tw_870 : (Cond.selects "BrokeWhereModel" ({ cls := "BrokeWhereModel", name := "fault", desc := "()I" } : MethodName) ({ cls := "BrokeWhereModel", name := "fault", desc := "()I" } : MethodName)) ∈ TB := TB_of 870 (by decide +kernel) rfl
theorem tw_871 : (Cond.code ({ cls := "BrokeWhereModel", name := "fault", desc := "()I" } : MethodName) prog_10_method_42_code (1 : Nat) (Option.some FieldType.int)) ∈ TB := TB_of 871 (by decide +kernel) rfl
theorem tw_872 : (Cond.methodLink "BrokeWhereModel" (175 : Nat) ({ cls := "BrokeWhereModel", name := "faultOf", desc := "()I" } : MethodName)) ∈ TB := TB_of 872 (by decide +kernel) rfl
theorem tw_874 : (Cond.instanceMethod ({ cls := "BrokeWhereModel", name := "faultOf", desc := "()I" } : MethodName)) ∈ TB := TB_of 874 (by decide +kernel) rfl
theorem tw_875 : (Cond.code ({ cls := "BrokeWhereModel", name := "faultOf", desc := "()I" } : MethodName) prog_10_method_41_code (6 : Nat) (Option.some FieldType.int)) ∈ TB := TB_of 875 (by decide +kernel) rfl
theorem tw_876 : (Cond.methodLink "BrokeWhereLaw" (104 : Nat) ({ cls := "BrokeWhereModel", name := "truth", desc := "()I" } : MethodName)) ∈ TB := TB_of 876 (by decide +kernel) rfl
theorem tw_877 : (Cond.instanceMethod ({ cls := "BrokeWhereModel", name := "truth", desc := "()I" } : MethodName)) ∈ TB := TB_of 877 (by decide +kernel) rfl
theorem tw_878 : (Cond.selects "BrokeWhereModel" ({ cls := "BrokeWhereModel", name := "truth", desc := "()I" } : MethodName) ({ cls := "BrokeWhereModel", name := "truth", desc := "()I" } : MethodName)) ∈ TB := TB_of 878 (by decide +kernel) rfl
theorem tw_879 : (Cond.code ({ cls := "BrokeWhereModel", name := "truth", desc := "()I" } : MethodName) prog_10_method_43_code (2 : Nat) (Option.some FieldType.int)) ∈ TB := TB_of 879 (by decide +kernel) rfl
theorem tw_880 : (Cond.methodLink "BrokeWhereLaw" (108 : Nat) ({ cls := "BrokeWhereModel", name := "fails", desc := "(II)I" } : MethodName)) ∈ TB := TB_of 880 (by decide +kernel) rfl
theorem tw_881 : (Cond.instanceMethod ({ cls := "BrokeWhereModel", name := "fails", desc := "(II)I" } : MethodName)) ∈ TB := TB_of 881 (by decide +kernel) rfl
theorem tw_882 : (Cond.selects "BrokeWhereModel" ({ cls := "BrokeWhereModel", name := "fails", desc := "(II)I" } : MethodName) ({ cls := "BrokeWhereModel", name := "fails", desc := "(II)I" } : MethodName)) ∈ TB := TB_of 882 (by decide +kernel) rfl
theorem tw_883 : (Cond.code ({ cls := "BrokeWhereModel", name := "fails", desc := "(II)I" } : MethodName) prog_10_method_46_code (3 : Nat) (Option.some FieldType.int)) ∈ TB := TB_of 883 (by decide +kernel) rfl
theorem tw_884 : (Cond.methodLink "BrokeWhereModel" (181 : Nat) ({ cls := "BrokeWhereModel", name := "isSound", desc := "(I)Z" } : MethodName)) ∈ TB := TB_of 884 (by decide +kernel) rfl
theorem tw_886 : (Cond.instanceMethod ({ cls := "BrokeWhereModel", name := "isSound", desc := "(I)Z" } : MethodName)) ∈ TB := TB_of 886 (by decide +kernel) rfl
theorem tw_887 : (Cond.code ({ cls := "BrokeWhereModel", name := "isSound", desc := "(I)Z" } : MethodName) prog_10_method_45_code (4 : Nat) (Option.some FieldType.boolean)) ∈ TB := TB_of 887 (by decide +kernel) rfl
theorem tw_888 : (Cond.methodLink "BrokeWhereModel" (184 : Nat) ({ cls := "BrokeWhereModel", name := "failsOf", desc := "(I)Z" } : MethodName)) ∈ TB := TB_of 888 (by decide +kernel) rfl
theorem tw_890 : (Cond.instanceMethod ({ cls := "BrokeWhereModel", name := "failsOf", desc := "(I)Z" } : MethodName)) ∈ TB := TB_of 890 (by decide +kernel) rfl
theorem tw_891 : (Cond.code ({ cls := "BrokeWhereModel", name := "failsOf", desc := "(I)Z" } : MethodName) prog_10_method_44_code (5 : Nat) (Option.some FieldType.boolean)) ∈ TB := TB_of 891 (by decide +kernel) rfl
theorem tw_892 : (Cond.methodLink "BrokeWhereLaw" (112 : Nat) ({ cls := "BrokeWhereModel", name := "play", desc := "(I)I" } : MethodName)) ∈ TB := TB_of 892 (by decide +kernel) rfl
theorem tw_893 : (Cond.instanceMethod ({ cls := "BrokeWhereModel", name := "play", desc := "(I)I" } : MethodName)) ∈ TB := TB_of 893 (by decide +kernel) rfl
theorem tw_894 : (Cond.selects "BrokeWhereModel" ({ cls := "BrokeWhereModel", name := "play", desc := "(I)I" } : MethodName) ({ cls := "BrokeWhereModel", name := "play", desc := "(I)I" } : MethodName)) ∈ TB := TB_of 894 (by decide +kernel) rfl
theorem tw_895 : (Cond.code ({ cls := "BrokeWhereModel", name := "play", desc := "(I)I" } : MethodName) prog_10_method_47_code (4 : Nat) (Option.some FieldType.int)) ∈ TB := TB_of 895 (by decide +kernel) rfl
theorem tw_896 : (Cond.methodLink "BrokeWhereModel" (187 : Nat) ({ cls := "BrokeWhereModel", name := "isSure", desc := "(I)Z" } : MethodName)) ∈ TB := TB_of 896 (by decide +kernel) rfl
theorem tw_898 : (Cond.instanceMethod ({ cls := "BrokeWhereModel", name := "isSure", desc := "(I)Z" } : MethodName)) ∈ TB := TB_of 898 (by decide +kernel) rfl
theorem tw_899 : (Cond.code ({ cls := "BrokeWhereModel", name := "isSure", desc := "(I)Z" } : MethodName) prog_10_method_48_code (3 : Nat) (Option.some FieldType.boolean)) ∈ TB := TB_of 899 (by decide +kernel) rfl
theorem tw_900 : (Cond.methodLink "BrokeWhereLaw" (116 : Nat) ({ cls := "BrokeWhereModel", name := "out", desc := "(II)I" } : MethodName)) ∈ TB := TB_of 900 (by decide +kernel) rfl
theorem tw_901 : (Cond.instanceMethod ({ cls := "BrokeWhereModel", name := "out", desc := "(II)I" } : MethodName)) ∈ TB := TB_of 901 (by decide +kernel) rfl
theorem tw_902 : (Cond.selects "BrokeWhereModel" ({ cls := "BrokeWhereModel", name := "out", desc := "(II)I" } : MethodName) ({ cls := "BrokeWhereModel", name := "out", desc := "(II)I" } : MethodName)) ∈ TB := TB_of 902 (by decide +kernel) rfl
theorem tw_903 : (Cond.code ({ cls := "BrokeWhereModel", name := "out", desc := "(II)I" } : MethodName) prog_10_method_51_code (7 : Nat) (Option.some FieldType.int)) ∈ TB := TB_of 903 (by decide +kernel) rfl
theorem tw_904 : (Cond.methodLink "BrokeWhereModel" (190 : Nat) ({ cls := "BrokeWhereModel", name := "bits", desc := "(I)I" } : MethodName)) ∈ TB := TB_of 904 (by decide +kernel) rfl
theorem tw_905 : (Cond.static ({ cls := "BrokeWhereModel", name := "bits", desc := "(I)I" } : MethodName)) ∈ TB := TB_of 905 (by decide +kernel) rfl
theorem tw_906 : (Cond.code ({ cls := "BrokeWhereModel", name := "bits", desc := "(I)I" } : MethodName) prog_10_method_49_code (3 : Nat) (Option.some FieldType.int)) ∈ TB := TB_of 906 (by decide +kernel) rfl
theorem tw_907 : (Cond.methodLink "BrokeWhereModel" (193 : Nat) ({ cls := "BrokeWhereModel", name := "sizes", desc := "(I)I" } : MethodName)) ∈ TB := TB_of 907 (by decide +kernel) rfl
theorem tw_909 : (Cond.instanceMethod ({ cls := "BrokeWhereModel", name := "sizes", desc := "(I)I" } : MethodName)) ∈ TB := TB_of 909 (by decide +kernel) rfl
theorem tw_910 : (Cond.code ({ cls := "BrokeWhereModel", name := "sizes", desc := "(I)I" } : MethodName) prog_10_method_50_code (4 : Nat) (Option.some FieldType.int)) ∈ TB := TB_of 910 (by decide +kernel) rfl
theorem tw_911 : (Cond.methodLink "BrokeWhereLaw" (120 : Nat) ({ cls := "BrokeWhereModel", name := "core", desc := "(II)I" } : MethodName)) ∈ TB := TB_of 911 (by decide +kernel) rfl
theorem tw_912 : (Cond.instanceMethod ({ cls := "BrokeWhereModel", name := "core", desc := "(II)I" } : MethodName)) ∈ TB := TB_of 912 (by decide +kernel) rfl
theorem tw_913 : (Cond.selects "BrokeWhereModel" ({ cls := "BrokeWhereModel", name := "core", desc := "(II)I" } : MethodName) ({ cls := "BrokeWhereModel", name := "core", desc := "(II)I" } : MethodName)) ∈ TB := TB_of 913 (by decide +kernel) rfl
theorem tw_914 : (Cond.code ({ cls := "BrokeWhereModel", name := "core", desc := "(II)I" } : MethodName) prog_10_method_52_code (8 : Nat) (Option.some FieldType.int)) ∈ TB := TB_of 914 (by decide +kernel) rfl
theorem tw_915 : (Cond.methodLink "BrokeWhereLaw" (124 : Nat) ({ cls := "BrokeWhereModel", name := "told", desc := "(I)I" } : MethodName)) ∈ TB := TB_of 915 (by decide +kernel) rfl
theorem tw_916 : (Cond.instanceMethod ({ cls := "BrokeWhereModel", name := "told", desc := "(I)I" } : MethodName)) ∈ TB := TB_of 916 (by decide +kernel) rfl
theorem tw_917 : (Cond.selects "BrokeWhereModel" ({ cls := "BrokeWhereModel", name := "told", desc := "(I)I" } : MethodName) ({ cls := "BrokeWhereModel", name := "told", desc := "(I)I" } : MethodName)) ∈ TB := TB_of 917 (by decide +kernel) rfl
theorem tw_918 : (Cond.code ({ cls := "BrokeWhereModel", name := "told", desc := "(I)I" } : MethodName) prog_10_method_53_code (4 : Nat) (Option.some FieldType.int)) ∈ TB := TB_of 918 (by decide +kernel) rfl
theorem ts_0 : Cond.selects "BrokeWhere" ⟨"BrokeWhere", "forgetPartings", "()V"⟩ ⟨"BrokeWhere", "forgetPartings", "()V"⟩ ∈ TB := TB_sel 0 (by decide +kernel) rfl
theorem ts_1 : Cond.selects "BrokeWhere" ⟨"BrokeWhere", "storyRefusal", "(III)I"⟩ ⟨"BrokeWhere", "storyRefusal", "(III)I"⟩ ∈ TB := TB_sel 1 (by decide +kernel) rfl
theorem ts_2 : Cond.selects "BrokeWhere$Stories" ⟨"BrokeWhere$Stories", "weighFrom", "(II)V"⟩ ⟨"BrokeWhere$Stories", "weighFrom", "(II)V"⟩ ∈ TB := TB_sel 2 (by decide +kernel) rfl
theorem ts_3 : Cond.selects "BrokeWhere$Stories" ⟨"BrokeWhere$Stories", "take", "(III)V"⟩ ⟨"BrokeWhere$Stories", "take", "(III)V"⟩ ∈ TB := TB_sel 3 (by decide +kernel) rfl
theorem ts_4 : Cond.selects "BrokeWhere" ⟨"BrokeWhere", "parting", "(LBrokeWhere$Partings;II)I"⟩ ⟨"BrokeWhere", "parting", "(LBrokeWhere$Partings;II)I"⟩ ∈ TB := TB_sel 4 (by decide +kernel) rfl
theorem ts_5 : Cond.selects "BrokeWhere$Partings" ⟨"BrokeWhere$Partings", "refresh", "()V"⟩ ⟨"BrokeWhere$Partings", "refresh", "()V"⟩ ∈ TB := TB_sel 5 (by decide +kernel) rfl
theorem ts_6 : Cond.selects "BrokeWhere$Partings" ⟨"BrokeWhere$Partings", "priceAt", "(II)I"⟩ ⟨"BrokeWhere$Partings", "priceAt", "(II)I"⟩ ∈ TB := TB_sel 6 (by decide +kernel) rfl
theorem ts_7 : Cond.selects "BrokeWhere$Partings" ⟨"BrokeWhere$Partings", "parts", "(II)Z"⟩ ⟨"BrokeWhere$Partings", "parts", "(II)Z"⟩ ∈ TB := TB_sel 7 (by decide +kernel) rfl
theorem ts_8 : Cond.selects "BrokeWhere$Partings" ⟨"BrokeWhere$Partings", "priceBy", "(III)I"⟩ ⟨"BrokeWhere$Partings", "priceBy", "(III)I"⟩ ∈ TB := TB_sel 8 (by decide +kernel) rfl
theorem ts_9 : Cond.selects "BrokeWhere$Truth" ⟨"BrokeWhere$Truth", "valueOf", "(LBrokeWhere$Text;I)J"⟩ ⟨"BrokeWhere$Truth", "valueOf", "(LBrokeWhere$Text;I)J"⟩ ∈ TB := TB_sel 9 (by decide +kernel) rfl
theorem ts_10 : Cond.selects "BrokeWhere$Families" ⟨"BrokeWhere$Families", "soundSets", "(I)J"⟩ ⟨"BrokeWhere$Families", "soundSets", "(I)J"⟩ ∈ TB := TB_sel 10 (by decide +kernel) rfl
theorem ts_11 : Cond.selects "BrokeWhere$Families" ⟨"BrokeWhere$Families", "isLess", "(II)Z"⟩ ⟨"BrokeWhere$Families", "isLess", "(II)Z"⟩ ∈ TB := TB_sel 11 (by decide +kernel) rfl
theorem ts_12 : Cond.selects "BrokeWhere$Families" ⟨"BrokeWhere$Families", "foundFrom", "(II)I"⟩ ⟨"BrokeWhere$Families", "foundFrom", "(II)I"⟩ ∈ TB := TB_sel 12 (by decide +kernel) rfl
theorem ts_13 : Cond.selects "BrokeWhereModel" ⟨"BrokeWhereModel", "isVersion", "(I)Z"⟩ ⟨"BrokeWhereModel", "isVersion", "(I)Z"⟩ ∈ TB := TB_sel 13 (by decide +kernel) rfl
theorem ts_14 : Cond.selects "BrokeWhereModel" ⟨"BrokeWhereModel", "isTested", "(I)Z"⟩ ⟨"BrokeWhereModel", "isTested", "(I)Z"⟩ ∈ TB := TB_sel 14 (by decide +kernel) rfl
theorem ts_15 : Cond.selects "BrokeWhereModel" ⟨"BrokeWhereModel", "isStory", "(III)Z"⟩ ⟨"BrokeWhereModel", "isStory", "(III)Z"⟩ ∈ TB := TB_sel 15 (by decide +kernel) rfl
theorem ts_16 : Cond.selects "BrokeWhereModel" ⟨"BrokeWhereModel", "weightOf", "(III)J"⟩ ⟨"BrokeWhereModel", "weightOf", "(III)J"⟩ ∈ TB := TB_sel 16 (by decide +kernel) rfl
theorem ts_17 : Cond.selects "BrokeWhereModel" ⟨"BrokeWhereModel", "shouldFail", "(IIII)Z"⟩ ⟨"BrokeWhereModel", "shouldFail", "(IIII)Z"⟩ ∈ TB := TB_sel 17 (by decide +kernel) rfl
theorem ts_18 : Cond.selects "BrokeWhereModel" ⟨"BrokeWhereModel", "tenths", "(ZZ)I"⟩ ⟨"BrokeWhereModel", "tenths", "(ZZ)I"⟩ ∈ TB := TB_sel 18 (by decide +kernel) rfl
theorem ts_19 : Cond.selects "BrokeWhereModel" ⟨"BrokeWhereModel", "layStories", "()V"⟩ ⟨"BrokeWhereModel", "layStories", "()V"⟩ ∈ TB := TB_sel 19 (by decide +kernel) rfl
theorem ts_20 : Cond.selects "BrokeWhereModel" ⟨"BrokeWhereModel", "add", "(III)V"⟩ ⟨"BrokeWhereModel", "add", "(III)V"⟩ ∈ TB := TB_sel 20 (by decide +kernel) rfl
theorem ts_21 : Cond.selects "BrokeWhereModel" ⟨"BrokeWhereModel", "guessOf", "()I"⟩ ⟨"BrokeWhereModel", "guessOf", "()I"⟩ ∈ TB := TB_sel 21 (by decide +kernel) rfl
theorem ts_22 : Cond.selects "BrokeWhereModel" ⟨"BrokeWhereModel", "canTest", "(I)Z"⟩ ⟨"BrokeWhereModel", "canTest", "(I)Z"⟩ ∈ TB := TB_sel 22 (by decide +kernel) rfl
theorem ts_23 : Cond.selects "BrokeWhereModel" ⟨"BrokeWhereModel", "hopeOf", "(I)J"⟩ ⟨"BrokeWhereModel", "hopeOf", "(I)J"⟩ ∈ TB := TB_sel 23 (by decide +kernel) rfl
theorem ts_24 : Cond.selects "BrokeWhereModel" ⟨"BrokeWhereModel", "nextOf", "(I)I"⟩ ⟨"BrokeWhereModel", "nextOf", "(I)I"⟩ ∈ TB := TB_sel 24 (by decide +kernel) rfl
theorem ts_25 : Cond.selects "BrokeWhereModel" ⟨"BrokeWhereModel", "badness", "(II)J"⟩ ⟨"BrokeWhereModel", "badness", "(II)J"⟩ ∈ TB := TB_sel 25 (by decide +kernel) rfl
theorem ts_26 : Cond.selects "BrokeWhereModel" ⟨"BrokeWhereModel", "isSet", "(I)Z"⟩ ⟨"BrokeWhereModel", "isSet", "(I)Z"⟩ ∈ TB := TB_sel 26 (by decide +kernel) rfl
theorem ts_27 : Cond.selects "BrokeWhereModel" ⟨"BrokeWhereModel", "lay", "()V"⟩ ⟨"BrokeWhereModel", "lay", "()V"⟩ ∈ TB := TB_sel 27 (by decide +kernel) rfl
theorem ts_28 : Cond.selects "BrokeWhereModel" ⟨"BrokeWhereModel", "laySet", "(I)V"⟩ ⟨"BrokeWhereModel", "laySet", "(I)V"⟩ ∈ TB := TB_sel 28 (by decide +kernel) rfl
theorem ts_29 : Cond.selects "BrokeWhereModel" ⟨"BrokeWhereModel", "faultOf", "()I"⟩ ⟨"BrokeWhereModel", "faultOf", "()I"⟩ ∈ TB := TB_sel 29 (by decide +kernel) rfl
theorem ts_30 : Cond.selects "BrokeWhereModel" ⟨"BrokeWhereModel", "isSound", "(I)Z"⟩ ⟨"BrokeWhereModel", "isSound", "(I)Z"⟩ ∈ TB := TB_sel 30 (by decide +kernel) rfl
theorem ts_31 : Cond.selects "BrokeWhereModel" ⟨"BrokeWhereModel", "failsOf", "(I)Z"⟩ ⟨"BrokeWhereModel", "failsOf", "(I)Z"⟩ ∈ TB := TB_sel 31 (by decide +kernel) rfl
theorem ts_32 : Cond.selects "BrokeWhereModel" ⟨"BrokeWhereModel", "isSure", "(I)Z"⟩ ⟨"BrokeWhereModel", "isSure", "(I)Z"⟩ ∈ TB := TB_sel 32 (by decide +kernel) rfl
theorem ts_33 : Cond.selects "BrokeWhereModel" ⟨"BrokeWhereModel", "sizes", "(I)I"⟩ ⟨"BrokeWhereModel", "sizes", "(I)I"⟩ ∈ TB := TB_sel 33 (by decide +kernel) rfl
end
section
/-! One fixed world: 51 cells (the class's nine objects, the reference, their arrays); G: D, the addresses, the array kinds, the address of LOW_SETS; S: int fields, long fields, int and boolean arrays, long arrays -/
abbrev MX : Type := MethodName × ByteArray × Nat × Option FieldType
abbrev GX : Type := va_G × (Nat → Nat) × (ClassId × ClassId × ClassId) × Nat
abbrev ST : Type := (Nat → Int32) × (Nat → Int64) × (Nat → Nat → Int32) × (Nat → Nat → Int64)
abbrev ZX : Type := List Frame → Array Value → State → (Nat → Prop) → State → Prop
abbrev EX : Type := State → Array Value → (Nat → Prop) → Prop
abbrev PX : Type := GX × Room × (Nat × Nat) × ZX × EX × MX
abbrev LV : Type := List (Nat × Value)
def setI (S : ST) (k : Nat) (x : Int32) : ST := (va_up S.1 k x, S.2.1, S.2.2.1, S.2.2.2)
def setL (S : ST) (k : Nat) (x : Int64) : ST := (S.1, va_up S.2.1 k x, S.2.2.1, S.2.2.2)
def setA (S : ST) (c : Nat) (i : Nat) (x : Int32) : ST := (S.1, S.2.1, va_up S.2.2.1 c (upd (S.2.2.1 c) i x), S.2.2.2)
def setJ (S : ST) (c : Nat) (i : Nat) (x : Int64) : ST := (S.1, S.2.1, S.2.2.1, va_up S.2.2.2 c (vp_updL (S.2.2.2 c) i x))
def conc (G : GX) (S : ST) : va_W := [(G.2.1 0, .inr (7, [.ref (G.2.1 1), .ref (G.2.1 2), .ref (G.2.1 3), .ref (G.2.1 4), .ref (G.2.1 5), .ref (G.2.1 6), .ref (G.2.1 7), .ref (G.2.1 8)])), (G.2.1 1, .inr (1, [.int (S.1 0), .ref (G.2.1 9), .ref (G.2.1 10), .ref (G.2.1 11), .ref (G.2.1 12), .ref (G.2.1 13), .ref (G.2.1 14)])), (G.2.1 2, .inr (2, [.int (S.1 1), .ref (G.2.1 15), .ref (G.2.1 16)])), (G.2.1 3, .inr (4, [.ref (G.2.1 1), .ref (G.2.1 2), .ref (G.2.1 17), .int (S.1 6), .ref (G.2.1 18), .ref (G.2.1 19), .ref (G.2.1 20), .long (S.2.1 0), .int (S.1 7), .long (S.2.1 1)])), (G.2.1 4, .inr (3, [.ref (G.2.1 1), .int 0, .ref (G.2.1 21), .int (S.1 3)])), (G.2.1 5, .inr (3, [.ref (G.2.1 1), .int 1, .ref (G.2.1 22), .int (S.1 5)])), (G.2.1 6, .inr (5, [.int (S.1 8), .ref (G.2.1 23), .ref (G.2.1 24)])), (G.2.1 7, .inr (6, [.int (S.1 9), .ref (G.2.1 25), .ref (G.2.1 26)])), (G.2.1 8, .inr (0, [.ref (G.2.1 1), .ref (G.2.1 7), .ref (G.2.1 27), .ref (G.2.1 28)])), (G.2.1 9, .inl (G.2.2.1.1, 12, .inl (S.2.2.1 9))), (G.2.1 10, .inl (G.2.2.1.1, 12, .inl (S.2.2.1 10))), (G.2.1 11, .inl (G.2.2.1.1, 12, .inl (S.2.2.1 11))), (G.2.1 12, .inl (G.2.2.1.1, 12, .inl (S.2.2.1 12))), (G.2.1 13, .inl (G.2.2.1.1, 12, .inl (S.2.2.1 13))), (G.2.1 14, .inl (G.2.2.1.1, 12, .inl (S.2.2.1 14))), (G.2.1 15, .inl (G.2.2.1.1, 12, .inl (S.2.2.1 15))), (G.2.1 16, .inl (G.2.2.1.2.2, 12, .inl (S.2.2.1 16))), (G.2.1 17, .inl (G.2.2.1.1, 5, .inl (S.2.2.1 17))), (G.2.1 18, .inl (G.2.2.1.1, 210, .inl (S.2.2.1 18))), (G.2.1 19, .inl (G.2.2.1.2.1, 210, .inr (.inl (S.2.2.2 19)))), (G.2.1 20, .inl (G.2.2.1.1, 210, .inl (S.2.2.1 20))), (G.2.1 21, .inl (G.2.2.1.1, 4096, .inl (S.2.2.1 21))), (G.2.1 22, .inl (G.2.2.1.1, 4096, .inl (S.2.2.1 22))), (G.2.1 23, .inl (G.2.2.1.1, 40, .inl (S.2.2.1 23))), (G.2.1 24, .inl (G.2.2.1.1, 42, .inl (S.2.2.1 24))), (G.2.1 25, .inl (G.2.2.1.2.1, 64, .inr (.inl (S.2.2.2 25)))), (G.2.1 26, .inl (G.2.2.1.2.1, 40, .inr (.inl (S.2.2.2 26)))), (G.2.1 27, .inl (G.2.2.1.2.1, 64, .inr (.inl (S.2.2.2 27)))), (G.2.1 28, .inl (G.2.2.1.2.1, 64, .inr (.inl (S.2.2.2 28)))), (G.2.1 29, .inr (8, [.int (S.1 10), .ref (G.2.1 30), .ref (G.2.1 31), .ref (G.2.1 32), .ref (G.2.1 33), .ref (G.2.1 34), .int (S.1 11), .ref (G.2.1 35), .ref (G.2.1 36), .ref (G.2.1 37), .int (S.1 12), .ref (G.2.1 38), .int (S.1 13), .ref (G.2.1 39), .int (S.1 14), .ref (G.2.1 40), .ref (G.2.1 41), .ref (G.2.1 42), .ref (G.2.1 43), .long (S.2.1 2), .int (S.1 15), .ref (G.2.1 44), .ref (G.2.1 45), .ref (G.2.1 46), .ref (G.2.1 47), .ref (G.2.1 48), .ref (G.2.1 49), .ref (G.2.1 50)])), (G.2.1 30, .inl (G.2.2.1.1, 12, .inl (S.2.2.1 30))), (G.2.1 31, .inl (G.2.2.1.1, 12, .inl (S.2.2.1 31))), (G.2.1 32, .inl (G.2.2.1.1, 12, .inl (S.2.2.1 32))), (G.2.1 33, .inl (G.2.2.1.1, 12, .inl (S.2.2.1 33))), (G.2.1 34, .inl (G.2.2.1.2.2, 12, .inl (S.2.2.1 34))), (G.2.1 35, .inl (G.2.2.1.1, 12, .inl (S.2.2.1 35))), (G.2.1 36, .inl (G.2.2.1.2.2, 12, .inl (S.2.2.1 36))), (G.2.1 37, .inl (G.2.2.1.1, 5, .inl (S.2.2.1 37))), (G.2.1 38, .inl (G.2.2.1.1, 40, .inl (S.2.2.1 38))), (G.2.1 39, .inl (G.2.2.1.1, 40, .inl (S.2.2.1 39))), (G.2.1 40, .inl (G.2.2.1.1, 210, .inl (S.2.2.1 40))), (G.2.1 41, .inl (G.2.2.1.1, 210, .inl (S.2.2.1 41))), (G.2.1 42, .inl (G.2.2.1.1, 210, .inl (S.2.2.1 42))), (G.2.1 43, .inl (G.2.2.1.2.1, 210, .inr (.inl (S.2.2.2 43)))), (G.2.1 44, .inl (G.2.2.1.1, 4096, .inl (S.2.2.1 44))), (G.2.1 45, .inl (G.2.2.1.1, 4096, .inl (S.2.2.1 45))), (G.2.1 46, .inl (G.2.2.1.1, 4096, .inl (S.2.2.1 46))), (G.2.1 47, .inl (G.2.2.1.1, 4096, .inl (S.2.2.1 47))), (G.2.1 48, .inl (G.2.2.1.1, 10, .inl (S.2.2.1 48))), (G.2.1 49, .inl (G.2.2.1.2.2, 41, .inl (S.2.2.1 49))), (G.2.1 50, .inl (G.2.2.1.2.2, 4096, .inl (S.2.2.1 50)))]
def nestW : Cond → Bool
  | .methodLinkNest _ _ _ _ => true
  | _ => false
def NL : List Cond := tables_1.filter nestW
def tyL (G : GX) : List (ClassId × FieldType) := [(G.2.2.1.1, .int), (G.2.2.1.2.1, .long), (G.2.2.1.2.2, .boolean)]
def WA (G : GX) (sz : Nat) : Nat → Prop := fun q => (∃ i, i < 51 ∧ q = G.2.1 i) ∨ sz ≤ q
def lowF (j : Nat) : Int64 := ([-6148914691236517206, -3689348814741910324, -1085102592571150096, -71777214294589696, -281470681808896, -4294967296] : List Int64).getD j 0
def NW (U : State) : Prop := ∀ w ∈ NL, va_Nw w U
def apart (G : GX) : Prop := ∀ i j, i < 51 → j < 51 → G.2.1 i = G.2.1 j → i = j
def LX (G : GX) (A : Nat → Prop) (U : State) (H : Heap) : Prop := va_Z "BrokeWhere" "LOW_SETS" "[J" (.ref G.2.2.2) A U H ∧ va_T .long G.2.2.2 6 (fun j => .long (lowF j)) A U H
def Wld (G : GX) (S : ST) (sz : Nat) (U : State) : Prop := va_P G.1 vwCl (conc G S) U.heap ∧ va_K G.1 vwCl (tyL G) U ∧ NW U ∧ apart G ∧ LX G (WA G sz) U U.heap
theorem NW.warm {s U : State} (hW : s.WarmedH U.vm) (h : NW s) : NW U := by
  intro w hw
  have h1 := h w hw
  have h2 : nestW w = true := (List.mem_filter.mp hw).2
  cases w <;> first | exact va_Nw.warmM hW h1 | cases h2
theorem NW.same {s U : State} (hW : s.vm = U.vm) (h : NW s) : NW U := by
  intro w hw
  have h1 := h w hw
  have h2 : nestW w = true := (List.mem_filter.mp hw).2
  cases w <;> first | exact va_Nw.same rfl hW h1 | cases h2
theorem LX.moved {G : GX} {A : Nat → Prop} {u U : State} {H : Heap} (hvm : u.vm.Alike U.vm) (h : LX G A u H) : LX G A U H := ⟨h.1.moved hvm, h.2.moved hvm⟩
theorem LX.kept {G : GX} {A : Nat → Prop} {U : State} {H H1 : Heap} (h : LX G A U H) (hq : ∀ a : Nat, a < H.size → ¬ A a → H1[a]? = H[a]?) : LX G A U H1 := ⟨h.1.kept hq, h.2.kept hq⟩
theorem LX.narrow {G : GX} {A B : Nat → Prop} {U : State} {H : Heap} (h : LX G A U H) (hAB : ∀ q, B q → A q) : LX G B U H := ⟨h.1.narrow hAB, h.2.narrow hAB⟩
theorem conc_len (G : GX) (S : ST) : (conc G S).length = 51 := rfl
theorem conc_adr (G : GX) (S : ST) (k : Nat) (q : Nat × va_E) (h : (conc G S)[k]? = some q) : k < 51 ∧ q.1 = G.2.1 k := by
  have hk : k < 51 := (List.getElem?_eq_some_iff.mp h).1
  refine ⟨hk, ?_⟩
  have h2 : ((conc G S).map (·.1))[k]? = some q.1 := by rw [List.getElem?_map, h]; rfl
  have h3 : (conc G S).map (·.1) = (List.range 51).map G.2.1 := rfl
  rw [h3, List.getElem?_map, List.getElem?_range hk] at h2
  exact (Option.some.inj h2).symm
theorem conc_D {G : GX} {A : Nat → Prop} (hap : apart G) (hA : ∀ i, i < 51 → A (G.2.1 i)) (S : ST) : va_D A (conc G S) := by
  refine ⟨fun i j p q hi hj hpq => ?_, fun k q hk => ?_⟩
  · obtain ⟨h1, h2⟩ := conc_adr G S i p hi
    obtain ⟨h3, h4⟩ := conc_adr G S j q hj
    exact hap i j h1 h3 (by rw [← h2, ← h4]; exact hpq)
  · obtain ⟨h1, h2⟩ := conc_adr G S k q hk
    rw [h2]
    exact hA k h1
def rm (d : Nat) : Room := { frames := d, cells := 0, slots := 0, locals := 40 * d }
def QC (G : GX) (Q : Option Value → ST → Prop) (A : Nat → Prop) : Array Value → State → Outcome → State → Prop := fun _ st oc t => (∃ (r : Option Value) (S' : ST), oc = .returned r ∧ Q r S' ∧ va_P G.1 vwCl (conc G S') t.heap) ∧ va_F A st t
def CT (P : PX) (p : Program) (s : State) (m : MethodId) (args : Array Value) (meth : Method) (c : Code) (A : Nat → Prop) : Prop :=
  p.tables.exec = Jvm.exec ∧ c.code = P.2.2.2.2.2.2.1 ∧ meth.sig.returnType = P.2.2.2.2.2.2.2.2 ∧ c.maxLocals = P.2.2.2.2.2.2.2.1 ∧ s.vm.findClass P.2.2.2.2.2.1.cls = some m.cls ∧ (∀ w ∈ TB, w.before args s = true) ∧ meth.locks = false ∧ va_K P.1.1 vwCl (tyL P.1) s ∧ NW s ∧ apart P.1 ∧ LX P.1 A s s.heap ∧ (∀ i, i < 51 → A (P.1.2.1 i)) ∧ (∀ q, s.heap.size ≤ q → A q) ∧ P.2.2.2.2.1 s args A
def V (P : PX) (pc : Nat) (lv : LV) (stk : List Value) (S : ST) : Prop :=
  ∀ (p : Program) (l : Launch) (e : Env) (s : State) (m : MethodId) (args : Array Value) (below : List Frame) (meth : Method) (c : Code) (A : Nat → Prop) (H : Heap) (locs : List Loc) (ls : Array Slot), CT P p s m args meth c A → va_P P.1.1 vwCl (conc P.1 S) H → va_S A s.heap H locs → lv_has ls P.2.2.2.2.2.2.2.1 lv → W p l e P.2.1 s m args below meth c H locs P.2.2.1.1 P.2.2.1.2 (P.2.2.2.1 below args s A) (F0 m pc ls stk)
def zQ (G : GX) (Q : Option Value → ST → Prop) : ZX := fun below args s A => MQ below (QC G Q A) args s 0 0 A
def pM (G : GX) (d : Nat) (M : MX) (Q : Option Value → ST → Prop) : PX := (G, rm d, (0, 0), zQ G Q, (fun _ _ _ => True), M)
def Cn (G : GX) (d : Nat) (M : MX) (As : List Value) (S : ST) (Q : Option Value → ST → Prop) : Prop :=
  ∀ (l : Launch) (sz : Nat), Met l M.1 (.code M.1 M.2.1 M.2.2.1 M.2.2.2 :: TB) (rm d) (va_Pc As (fun U => U.heap.size = sz ∧ Wld G S sz U)) (QC G Q (WA G sz)) 0 0 (WA G sz)
def qi (Q : Int32 → ST → Prop) : Option Value → ST → Prop := fun r S => ∃ x : Int32, r = some (.int x) ∧ Q x S
def ql (Q : Int64 → ST → Prop) : Option Value → ST → Prop := fun r S => ∃ x : Int64, r = some (.long x) ∧ Q x S
def qr (Q : Nat → ST → Prop) : Option Value → ST → Prop := fun r S => ∃ x : Nat, r = some (.ref x) ∧ Q x S
def qv (Q : ST → Prop) : Option Value → ST → Prop := fun r S => r = none ∧ Q S
set_option maxHeartbeats 1000000 in
theorem Cn.intro {G : GX} {d : Nat} {M : MX} {As : List Value} {S : ST} {Q : Option Value → ST → Prop} {lv : LV} (hy : plainName M.1.cls = true) (hn : (lg_sl As).length ≤ M.2.2.1) (hlv : lv_args 0 As = lv) (h : V (pM G d M Q) 0 lv [] S) : Cn G d M As S Q := by
  intro l sz
  refine Met.ofW (cc := M.2.1) (maxL := M.2.2.1) (ret := M.2.2.2) hy rfl ?_
  intro p e s m args below meth c s₁ B hml hv
  obtain ⟨rfl, hsz, hP, hK, hN, hap, hL⟩ := hv
  subst hsz
  have hts : ∀ w ∈ (Cond.code M.1 M.2.1 M.2.2.1 M.2.2.2 :: TB), w.before As.toArray s = true := atoms_spec B.pre
  have hl := lv_entry As hn
  rw [hlv] at hl
  rw [lg_entry_eq]
  generalize (lg_sl As ++ List.replicate (M.2.2.1 - (lg_sl As).length) Slot.unset).toArray = ls at hl ⊢
  exact h p l e s m As.toArray below meth c (WA G s.heap.size) s.heap [] ls ⟨B.exec, B.bytes, B.returns, hml, findClass_of_methodNamed B.named, fun w hw => hts w (List.mem_cons_of_mem _ hw), B.notSynchronized, hK, hN, hap, hL, fun i hi => Or.inl ⟨i, hi, rfl⟩, fun q hq => Or.inr hq, trivial⟩ hP va_S.rf hl

theorem V_iconst {P : PX} {pc : Nat} {lv : LV} {r : List Value} {S : ST} {n : Int} {v : Int32} (hd : decode P.2.2.2.2.2.2.1 pc = .ok (.iconst n, 1)) (hv : Int32.ofInt n = v) (k : V P (pc + 1) lv (.int v :: r) S) : V P pc lv (r) S := fun p l e s m args below meth c A H locs ls C hP hS hl => lv_iconst C.1 C.2.1 hd hv (k p l e s m args below meth c A H locs ls C hP hS hl)
theorem V_bipush {P : PX} {pc : Nat} {lv : LV} {r : List Value} {S : ST} {n : Int} {v : Int32} (hd : decode P.2.2.2.2.2.2.1 pc = .ok (.bipush n, 2)) (hv : (Int8.ofInt n).toInt32 = v) (k : V P (pc + 2) lv (.int v :: r) S) : V P pc lv (r) S := fun p l e s m args below meth c A H locs ls C hP hS hl => lv_bipush C.1 C.2.1 hd hv (k p l e s m args below meth c A H locs ls C hP hS hl)
theorem V_sipush {P : PX} {pc : Nat} {lv : LV} {r : List Value} {S : ST} {n : Int} {v : Int32} (hd : decode P.2.2.2.2.2.2.1 pc = .ok (.sipush n, 3)) (hv : (Int16.ofInt n).toInt32 = v) (k : V P (pc + 3) lv (.int v :: r) S) : V P pc lv (r) S := fun p l e s m args below meth c A H locs ls C hP hS hl => lv_sipush C.1 C.2.1 hd hv (k p l e s m args below meth c A H locs ls C hP hS hl)
theorem V_lconst {P : PX} {pc : Nat} {lv : LV} {r : List Value} {S : ST} {n : Fin 2} {v : Int64} (hd : decode P.2.2.2.2.2.2.1 pc = .ok (.lconst n, 1)) (hv : Int64.ofNat (n : Nat) = v) (k : V P (pc + 1) lv (.long v :: r) S) : V P pc lv (r) S := fun p l e s m args below meth c A H locs ls C hP hS hl => lv_lconst C.1 C.2.1 hd hv (k p l e s m args below meth c A H locs ls C hP hS hl)
theorem V_iload_n {P : PX} {pc : Nat} {lv : LV} {r : List Value} {S : ST} {j : Fin 4} {i : Nat} {x : Int32} (hd : decode P.2.2.2.2.2.2.1 pc = .ok (.iload_n j, 1)) (hi : (j : Nat) = i) (q : Nat) (hq : lv[q]? = some (i, .int x)) (k : V P (pc + 1) lv (.int x :: r) S) : V P pc lv r S := fun p l e s m args below meth c A H locs ls C hP hS hl => lv_iload_n C.1 C.2.1 hd hi (lv_at hl q hq) (k p l e s m args below meth c A H locs ls C hP hS hl)
theorem V_iload {P : PX} {pc : Nat} {lv : LV} {r : List Value} {S : ST} {i : Nat} {x : Int32} (hd : decode P.2.2.2.2.2.2.1 pc = .ok (.iload i, 2)) (q : Nat) (hq : lv[q]? = some (i, .int x)) (k : V P (pc + 2) lv (.int x :: r) S) : V P pc lv r S := fun p l e s m args below meth c A H locs ls C hP hS hl => lv_iload C.1 C.2.1 hd (lv_at hl q hq) (k p l e s m args below meth c A H locs ls C hP hS hl)
theorem V_istore_n {P : PX} {pc : Nat} {lv : LV} {r : List Value} {S : ST} {j : Fin 4} {i : Nat} {x : Int32} (lv' : LV) (hd : decode P.2.2.2.2.2.2.1 pc = .ok (.istore_n j, 1)) (hi : (j : Nat) = i) (hn : i < P.2.2.2.2.2.2.2.1) (h2 : (i, Value.int x) :: lv.filter (fun q => !(q.1 == i) && !(q.1 + 1 == i && q.2.category == 2)) = lv') (k : V P (pc + 1) lv' r S) : V P pc lv (.int x :: r) S := fun p l e s m args below meth c A H locs ls C hP hS hl => lv_istore_n C.1 C.2.1 hd hi hl hn h2 (fun ls hl => k p l e s m args below meth c A H locs ls C hP hS hl)
theorem V_istore {P : PX} {pc : Nat} {lv : LV} {r : List Value} {S : ST} {i : Nat} {x : Int32} (lv' : LV) (hd : decode P.2.2.2.2.2.2.1 pc = .ok (.istore i, 2)) (hn : i < P.2.2.2.2.2.2.2.1) (h2 : (i, Value.int x) :: lv.filter (fun q => !(q.1 == i) && !(q.1 + 1 == i && q.2.category == 2)) = lv') (k : V P (pc + 2) lv' r S) : V P pc lv (.int x :: r) S := fun p l e s m args below meth c A H locs ls C hP hS hl => lv_istore C.1 C.2.1 hd hl hn h2 (fun ls hl => k p l e s m args below meth c A H locs ls C hP hS hl)
theorem V_lload_n {P : PX} {pc : Nat} {lv : LV} {r : List Value} {S : ST} {j : Fin 4} {i : Nat} {x : Int64} (hd : decode P.2.2.2.2.2.2.1 pc = .ok (.lload_n j, 1)) (hi : (j : Nat) = i) (q : Nat) (hq : lv[q]? = some (i, .long x)) (k : V P (pc + 1) lv (.long x :: r) S) : V P pc lv r S := fun p l e s m args below meth c A H locs ls C hP hS hl => lv_lload_n C.1 C.2.1 hd hi (lv_at hl q hq) (k p l e s m args below meth c A H locs ls C hP hS hl)
theorem V_lload {P : PX} {pc : Nat} {lv : LV} {r : List Value} {S : ST} {i : Nat} {x : Int64} (hd : decode P.2.2.2.2.2.2.1 pc = .ok (.lload i, 2)) (q : Nat) (hq : lv[q]? = some (i, .long x)) (k : V P (pc + 2) lv (.long x :: r) S) : V P pc lv r S := fun p l e s m args below meth c A H locs ls C hP hS hl => lv_lload C.1 C.2.1 hd (lv_at hl q hq) (k p l e s m args below meth c A H locs ls C hP hS hl)
theorem V_lstore_n {P : PX} {pc : Nat} {lv : LV} {r : List Value} {S : ST} {j : Fin 4} {i : Nat} {x : Int64} (lv' : LV) (hd : decode P.2.2.2.2.2.2.1 pc = .ok (.lstore_n j, 1)) (hi : (j : Nat) = i) (hn : i + 1 < P.2.2.2.2.2.2.2.1) (h2 : (i, Value.long x) :: lv.filter (fun q => !(q.1 == i) && (!(q.1 == i + 1) && !(q.1 + 1 == i && q.2.category == 2))) = lv') (k : V P (pc + 1) lv' r S) : V P pc lv (.long x :: r) S := fun p l e s m args below meth c A H locs ls C hP hS hl => lv_lstore_n C.1 C.2.1 hd hi hl hn h2 (fun ls hl => k p l e s m args below meth c A H locs ls C hP hS hl)
theorem V_lstore {P : PX} {pc : Nat} {lv : LV} {r : List Value} {S : ST} {i : Nat} {x : Int64} (lv' : LV) (hd : decode P.2.2.2.2.2.2.1 pc = .ok (.lstore i, 2)) (hn : i + 1 < P.2.2.2.2.2.2.2.1) (h2 : (i, Value.long x) :: lv.filter (fun q => !(q.1 == i) && (!(q.1 == i + 1) && !(q.1 + 1 == i && q.2.category == 2))) = lv') (k : V P (pc + 2) lv' r S) : V P pc lv (.long x :: r) S := fun p l e s m args below meth c A H locs ls C hP hS hl => lv_lstore C.1 C.2.1 hd hl hn h2 (fun ls hl => k p l e s m args below meth c A H locs ls C hP hS hl)
theorem V_aload_n {P : PX} {pc : Nat} {lv : LV} {r : List Value} {S : ST} {j : Fin 4} {i : Nat} {x : Nat} (hd : decode P.2.2.2.2.2.2.1 pc = .ok (.aload_n j, 1)) (hi : (j : Nat) = i) (q : Nat) (hq : lv[q]? = some (i, .ref x)) (k : V P (pc + 1) lv (.ref x :: r) S) : V P pc lv r S := fun p l e s m args below meth c A H locs ls C hP hS hl => lv_aload_n C.1 C.2.1 hd hi (lv_at hl q hq) (k p l e s m args below meth c A H locs ls C hP hS hl)
theorem V_aload {P : PX} {pc : Nat} {lv : LV} {r : List Value} {S : ST} {i : Nat} {x : Nat} (hd : decode P.2.2.2.2.2.2.1 pc = .ok (.aload i, 2)) (q : Nat) (hq : lv[q]? = some (i, .ref x)) (k : V P (pc + 2) lv (.ref x :: r) S) : V P pc lv r S := fun p l e s m args below meth c A H locs ls C hP hS hl => lv_aload C.1 C.2.1 hd (lv_at hl q hq) (k p l e s m args below meth c A H locs ls C hP hS hl)
theorem V_astore_n {P : PX} {pc : Nat} {lv : LV} {r : List Value} {S : ST} {j : Fin 4} {i : Nat} {x : Nat} (lv' : LV) (hd : decode P.2.2.2.2.2.2.1 pc = .ok (.astore_n j, 1)) (hi : (j : Nat) = i) (hn : i < P.2.2.2.2.2.2.2.1) (h2 : (i, Value.ref x) :: lv.filter (fun q => !(q.1 == i) && !(q.1 + 1 == i && q.2.category == 2)) = lv') (k : V P (pc + 1) lv' r S) : V P pc lv (.ref x :: r) S := fun p l e s m args below meth c A H locs ls C hP hS hl => lv_astore_n C.1 C.2.1 hd hi hl hn h2 (fun ls hl => k p l e s m args below meth c A H locs ls C hP hS hl)
theorem V_astore {P : PX} {pc : Nat} {lv : LV} {r : List Value} {S : ST} {i : Nat} {x : Nat} (lv' : LV) (hd : decode P.2.2.2.2.2.2.1 pc = .ok (.astore i, 2)) (hn : i < P.2.2.2.2.2.2.2.1) (h2 : (i, Value.ref x) :: lv.filter (fun q => !(q.1 == i) && !(q.1 + 1 == i && q.2.category == 2)) = lv') (k : V P (pc + 2) lv' r S) : V P pc lv (.ref x :: r) S := fun p l e s m args below meth c A H locs ls C hP hS hl => lv_astore C.1 C.2.1 hd hl hn h2 (fun ls hl => k p l e s m args below meth c A H locs ls C hP hS hl)
theorem V_iinc {P : PX} {pc : Nat} {lv : LV} {r : List Value} {S : ST} {i : Nat} {n : Int} {x v : Int32} (lv' : LV) (hd : decode P.2.2.2.2.2.2.1 pc = .ok (.iinc i n, 3)) (q : Nat) (hq : lv[q]? = some (i, .int x)) (hv : x + Int32.ofInt n = v) (hn : i < P.2.2.2.2.2.2.2.1) (h2 : (i, Value.int v) :: lv.filter (fun q => !(q.1 == i) && !(q.1 + 1 == i && q.2.category == 2)) = lv') (k : V P (pc + 3) lv' r S) : V P pc lv r S := fun p l e s m args below meth c A H locs ls C hP hS hl => lv_iinc C.1 C.2.1 hd hl hq hv hn h2 (fun ls hl => k p l e s m args below meth c A H locs ls C hP hS hl)
theorem V_iadd {P : PX} {pc : Nat} {lv : LV} {r : List Value} {S : ST} {x y : Int32} (hd : decode P.2.2.2.2.2.2.1 pc = .ok (.iadd, 1))  (k : V P (pc + 1) lv (.int (x + y) :: r) S) : V P pc lv (.int y :: .int x :: r) S := fun p l e s m args below meth c A H locs ls C hP hS hl => lv_iadd C.1 C.2.1 hd (k p l e s m args below meth c A H locs ls C hP hS hl)
theorem V_isub {P : PX} {pc : Nat} {lv : LV} {r : List Value} {S : ST} {x y : Int32} (hd : decode P.2.2.2.2.2.2.1 pc = .ok (.isub, 1))  (k : V P (pc + 1) lv (.int (x - y) :: r) S) : V P pc lv (.int y :: .int x :: r) S := fun p l e s m args below meth c A H locs ls C hP hS hl => lv_isub C.1 C.2.1 hd (k p l e s m args below meth c A H locs ls C hP hS hl)
theorem V_imul {P : PX} {pc : Nat} {lv : LV} {r : List Value} {S : ST} {x y : Int32} (hd : decode P.2.2.2.2.2.2.1 pc = .ok (.imul, 1))  (k : V P (pc + 1) lv (.int (x * y) :: r) S) : V P pc lv (.int y :: .int x :: r) S := fun p l e s m args below meth c A H locs ls C hP hS hl => lv_imul C.1 C.2.1 hd (k p l e s m args below meth c A H locs ls C hP hS hl)
theorem V_iand {P : PX} {pc : Nat} {lv : LV} {r : List Value} {S : ST} {x y : Int32} (hd : decode P.2.2.2.2.2.2.1 pc = .ok (.iand, 1))  (k : V P (pc + 1) lv (.int (x &&& y) :: r) S) : V P pc lv (.int y :: .int x :: r) S := fun p l e s m args below meth c A H locs ls C hP hS hl => lv_iand C.1 C.2.1 hd (k p l e s m args below meth c A H locs ls C hP hS hl)
theorem V_ior {P : PX} {pc : Nat} {lv : LV} {r : List Value} {S : ST} {x y : Int32} (hd : decode P.2.2.2.2.2.2.1 pc = .ok (.ior, 1))  (k : V P (pc + 1) lv (.int (x ||| y) :: r) S) : V P pc lv (.int y :: .int x :: r) S := fun p l e s m args below meth c A H locs ls C hP hS hl => lv_ior C.1 C.2.1 hd (k p l e s m args below meth c A H locs ls C hP hS hl)
theorem V_ixor {P : PX} {pc : Nat} {lv : LV} {r : List Value} {S : ST} {x y : Int32} (hd : decode P.2.2.2.2.2.2.1 pc = .ok (.ixor, 1))  (k : V P (pc + 1) lv (.int (x ^^^ y) :: r) S) : V P pc lv (.int y :: .int x :: r) S := fun p l e s m args below meth c A H locs ls C hP hS hl => lv_ixor C.1 C.2.1 hd (k p l e s m args below meth c A H locs ls C hP hS hl)
theorem V_ishl {P : PX} {pc : Nat} {lv : LV} {r : List Value} {S : ST} {x y : Int32} (hd : decode P.2.2.2.2.2.2.1 pc = .ok (.ishl, 1))  (k : V P (pc + 1) lv (.int (x <<< (y &&& 31)) :: r) S) : V P pc lv (.int y :: .int x :: r) S := fun p l e s m args below meth c A H locs ls C hP hS hl => lv_ishl C.1 C.2.1 hd (k p l e s m args below meth c A H locs ls C hP hS hl)
theorem V_ishr {P : PX} {pc : Nat} {lv : LV} {r : List Value} {S : ST} {x y : Int32} (hd : decode P.2.2.2.2.2.2.1 pc = .ok (.ishr, 1))  (k : V P (pc + 1) lv (.int (x >>> (y &&& 31)) :: r) S) : V P pc lv (.int y :: .int x :: r) S := fun p l e s m args below meth c A H locs ls C hP hS hl => lv_ishr C.1 C.2.1 hd (k p l e s m args below meth c A H locs ls C hP hS hl)
theorem V_iushr {P : PX} {pc : Nat} {lv : LV} {r : List Value} {S : ST} {x y : Int32} (hd : decode P.2.2.2.2.2.2.1 pc = .ok (.iushr, 1))  (k : V P (pc + 1) lv (.int ((x.toUInt32 >>> (y.toUInt32 &&& Int32.toUInt32 31)).toInt32) :: r) S) : V P pc lv (.int y :: .int x :: r) S := fun p l e s m args below meth c A H locs ls C hP hS hl => lv_iushr C.1 C.2.1 hd rfl (k p l e s m args below meth c A H locs ls C hP hS hl)
theorem V_idiv {P : PX} {pc : Nat} {lv : LV} {r : List Value} {S : ST} {x y : Int32} (hd : decode P.2.2.2.2.2.2.1 pc = .ok (.idiv, 1)) (hne : ¬ y = 0) (k : V P (pc + 1) lv (.int (x / y) :: r) S) : V P pc lv (.int y :: .int x :: r) S := fun p l e s m args below meth c A H locs ls C hP hS hl => lv_idiv C.1 C.2.1 hd hne (k p l e s m args below meth c A H locs ls C hP hS hl)
theorem V_irem {P : PX} {pc : Nat} {lv : LV} {r : List Value} {S : ST} {x y : Int32} (hd : decode P.2.2.2.2.2.2.1 pc = .ok (.irem, 1)) (hne : ¬ y = 0) (k : V P (pc + 1) lv (.int (x - x / y * y) :: r) S) : V P pc lv (.int y :: .int x :: r) S := fun p l e s m args below meth c A H locs ls C hP hS hl => lv_irem C.1 C.2.1 hd hne (k p l e s m args below meth c A H locs ls C hP hS hl)
theorem V_ladd {P : PX} {pc : Nat} {lv : LV} {r : List Value} {S : ST} {x y : Int64} (hd : decode P.2.2.2.2.2.2.1 pc = .ok (.ladd, 1))  (k : V P (pc + 1) lv (.long (x + y) :: r) S) : V P pc lv (.long y :: .long x :: r) S := fun p l e s m args below meth c A H locs ls C hP hS hl => lv_ladd C.1 C.2.1 hd (k p l e s m args below meth c A H locs ls C hP hS hl)
theorem V_lsub {P : PX} {pc : Nat} {lv : LV} {r : List Value} {S : ST} {x y : Int64} (hd : decode P.2.2.2.2.2.2.1 pc = .ok (.lsub, 1))  (k : V P (pc + 1) lv (.long (x - y) :: r) S) : V P pc lv (.long y :: .long x :: r) S := fun p l e s m args below meth c A H locs ls C hP hS hl => lv_lsub C.1 C.2.1 hd (k p l e s m args below meth c A H locs ls C hP hS hl)
theorem V_lmul {P : PX} {pc : Nat} {lv : LV} {r : List Value} {S : ST} {x y : Int64} (hd : decode P.2.2.2.2.2.2.1 pc = .ok (.lmul, 1))  (k : V P (pc + 1) lv (.long (x * y) :: r) S) : V P pc lv (.long y :: .long x :: r) S := fun p l e s m args below meth c A H locs ls C hP hS hl => lv_lmul C.1 C.2.1 hd (k p l e s m args below meth c A H locs ls C hP hS hl)
theorem V_land {P : PX} {pc : Nat} {lv : LV} {r : List Value} {S : ST} {x y : Int64} (hd : decode P.2.2.2.2.2.2.1 pc = .ok (.land, 1))  (k : V P (pc + 1) lv (.long (x &&& y) :: r) S) : V P pc lv (.long y :: .long x :: r) S := fun p l e s m args below meth c A H locs ls C hP hS hl => lv_land C.1 C.2.1 hd (k p l e s m args below meth c A H locs ls C hP hS hl)
theorem V_lor {P : PX} {pc : Nat} {lv : LV} {r : List Value} {S : ST} {x y : Int64} (hd : decode P.2.2.2.2.2.2.1 pc = .ok (.lor, 1))  (k : V P (pc + 1) lv (.long (x ||| y) :: r) S) : V P pc lv (.long y :: .long x :: r) S := fun p l e s m args below meth c A H locs ls C hP hS hl => lv_lor C.1 C.2.1 hd (k p l e s m args below meth c A H locs ls C hP hS hl)
theorem V_lxor {P : PX} {pc : Nat} {lv : LV} {r : List Value} {S : ST} {x y : Int64} (hd : decode P.2.2.2.2.2.2.1 pc = .ok (.lxor, 1))  (k : V P (pc + 1) lv (.long (x ^^^ y) :: r) S) : V P pc lv (.long y :: .long x :: r) S := fun p l e s m args below meth c A H locs ls C hP hS hl => lv_lxor C.1 C.2.1 hd (k p l e s m args below meth c A H locs ls C hP hS hl)
theorem V_ldiv {P : PX} {pc : Nat} {lv : LV} {r : List Value} {S : ST} {x y : Int64} (hd : decode P.2.2.2.2.2.2.1 pc = .ok (.ldiv, 1)) (hne : ¬ y = 0) (k : V P (pc + 1) lv (.long (x / y) :: r) S) : V P pc lv (.long y :: .long x :: r) S := fun p l e s m args below meth c A H locs ls C hP hS hl => lv_ldiv C.1 C.2.1 hd hne (k p l e s m args below meth c A H locs ls C hP hS hl)
theorem V_lrem {P : PX} {pc : Nat} {lv : LV} {r : List Value} {S : ST} {x y : Int64} (hd : decode P.2.2.2.2.2.2.1 pc = .ok (.lrem, 1)) (hne : ¬ y = 0) (k : V P (pc + 1) lv (.long (x - x / y * y) :: r) S) : V P pc lv (.long y :: .long x :: r) S := fun p l e s m args below meth c A H locs ls C hP hS hl => lv_lrem C.1 C.2.1 hd hne (k p l e s m args below meth c A H locs ls C hP hS hl)
theorem V_lneg {P : PX} {pc : Nat} {lv : LV} {r : List Value} {S : ST} {x : Int64} (hd : decode P.2.2.2.2.2.2.1 pc = .ok (.lneg, 1))  (k : V P (pc + 1) lv (.long (-x) :: r) S) : V P pc lv (.long x :: r) S := fun p l e s m args below meth c A H locs ls C hP hS hl => lv_lneg C.1 C.2.1 hd (k p l e s m args below meth c A H locs ls C hP hS hl)
theorem V_i2l {P : PX} {pc : Nat} {lv : LV} {r : List Value} {S : ST} {x : Int32} (hd : decode P.2.2.2.2.2.2.1 pc = .ok (.i2l, 1))  (k : V P (pc + 1) lv (.long x.toInt64 :: r) S) : V P pc lv (.int x :: r) S := fun p l e s m args below meth c A H locs ls C hP hS hl => lv_i2l C.1 C.2.1 hd rfl (k p l e s m args below meth c A H locs ls C hP hS hl)
theorem V_l2i {P : PX} {pc : Nat} {lv : LV} {r : List Value} {S : ST} {x : Int64} (hd : decode P.2.2.2.2.2.2.1 pc = .ok (.l2i, 1))  (k : V P (pc + 1) lv (.int x.toInt32 :: r) S) : V P pc lv (.long x :: r) S := fun p l e s m args below meth c A H locs ls C hP hS hl => lv_l2i C.1 C.2.1 hd rfl (k p l e s m args below meth c A H locs ls C hP hS hl)
theorem V_lushr {P : PX} {pc : Nat} {lv : LV} {r : List Value} {S : ST} {x : Int64} {y : Int32} (hd : decode P.2.2.2.2.2.2.1 pc = .ok (.lushr, 1))  (k : V P (pc + 1) lv (.long ((x.toUInt64 >>> (y.toInt64.toUInt64 &&& Int64.toUInt64 63)).toInt64) :: r) S) : V P pc lv (.int y :: .long x :: r) S := fun p l e s m args below meth c A H locs ls C hP hS hl => lv_lushr C.1 C.2.1 hd rfl (k p l e s m args below meth c A H locs ls C hP hS hl)
theorem V_lshl {P : PX} {pc : Nat} {lv : LV} {r : List Value} {S : ST} {x : Int64} {y : Int32} (hd : decode P.2.2.2.2.2.2.1 pc = .ok (.lshl, 1))  (k : V P (pc + 1) lv (.long (x <<< (y.toInt64 &&& 63)) :: r) S) : V P pc lv (.int y :: .long x :: r) S := fun p l e s m args below meth c A H locs ls C hP hS hl => lv_lshl C.1 C.2.1 hd rfl (k p l e s m args below meth c A H locs ls C hP hS hl)
theorem V_lcmp {P : PX} {pc : Nat} {lv : LV} {r : List Value} {S : ST} {x y : Int64} (hd : decode P.2.2.2.2.2.2.1 pc = .ok (.lcmp, 1))  (k : V P (pc + 1) lv (.int (lg_cmp x y) :: r) S) : V P pc lv (.long y :: .long x :: r) S := fun p l e s m args below meth c A H locs ls C hP hS hl => W.lcmp C.1 C.2.1 hd (k p l e s m args below meth c A H locs ls C hP hS hl)
theorem V_dup {P : PX} {pc : Nat} {lv : LV} {r : List Value} {S : ST} {va : Value} (hd : decode P.2.2.2.2.2.2.1 pc = .ok (.dup, 1)) (hva : va.category = 1) (k : V P (pc + 1) lv (va :: va :: r) S) : V P pc lv (va :: r) S := fun p l e s m args below meth c A H locs ls C hP hS hl => lv_dup C.1 C.2.1 hd hva (k p l e s m args below meth c A H locs ls C hP hS hl)
theorem V_dup2 {P : PX} {pc : Nat} {lv : LV} {r : List Value} {S : ST} {va vb : Value} (hd : decode P.2.2.2.2.2.2.1 pc = .ok (.dup2, 1)) (hva : va.category = 1) (hvb : vb.category = 1) (k : V P (pc + 1) lv (va :: vb :: va :: vb :: r) S) : V P pc lv (va :: vb :: r) S := fun p l e s m args below meth c A H locs ls C hP hS hl => lv_dup2_11 C.1 C.2.1 hd hva hvb (k p l e s m args below meth c A H locs ls C hP hS hl)
theorem V_dup2l {P : PX} {pc : Nat} {lv : LV} {r : List Value} {S : ST} {va : Value} (hd : decode P.2.2.2.2.2.2.1 pc = .ok (.dup2, 1)) (hva : va.category = 2) (k : V P (pc + 1) lv (va :: va :: r) S) : V P pc lv (va :: r) S := fun p l e s m args below meth c A H locs ls C hP hS hl => lv_dup2_2 C.1 C.2.1 hd hva (k p l e s m args below meth c A H locs ls C hP hS hl)
theorem V_pop {P : PX} {pc : Nat} {lv : LV} {r : List Value} {S : ST} {va : Value} (hd : decode P.2.2.2.2.2.2.1 pc = .ok (.pop, 1)) (hva : va.category = 1) (k : V P (pc + 1) lv (r) S) : V P pc lv (va :: r) S := fun p l e s m args below meth c A H locs ls C hP hS hl => lv_pop C.1 C.2.1 hd hva (k p l e s m args below meth c A H locs ls C hP hS hl)
theorem V_ldc2 {P : PX} {pc : Nat} {lv : LV} {r : List Value} {S : ST} {ix : Nat} {v : Int64} (hd : decode P.2.2.2.2.2.2.1 pc = .ok (.ldc2_w ix, 3)) (hw : Cond.constantLong P.2.2.2.2.2.1.cls ix v ∈ TB) (k : V P (pc + 3) lv (.long v :: r) S) : V P pc lv (r) S := fun p l e s m args below meth c A H locs ls C hP hS hl => lv_ldc2 C.1 C.2.1 C.2.2.2.2.1 (C.2.2.2.2.2.1 _ hw) hd (k p l e s m args below meth c A H locs ls C hP hS hl)
theorem V_if_eq {P : PX} {pc : Nat} {lv : LV} {r : List Value} {S : ST} {x : Int32} {off : Int} (tgt : Nat) (hd : decode P.2.2.2.2.2.2.1 pc = .ok (.ifCond .eq off, 3)) (ht : (pc : Int) + off = (tgt : Int)) (kt : x = 0 → V P tgt lv r S) (kf : ¬ x = 0 → V P (pc + 3) lv r S) : V P pc lv (.int x :: r) S := fun p l e s m args below meth c A H locs ls C hP hS hl => lv_if_eq C.1 C.2.1 hd ht (fun h => kt h p l e s m args below meth c A H locs ls C hP hS hl) (fun h => kf h p l e s m args below meth c A H locs ls C hP hS hl)
theorem V_icmp_eq {P : PX} {pc : Nat} {lv : LV} {r : List Value} {S : ST} {x y : Int32} {off : Int} (tgt : Nat) (hd : decode P.2.2.2.2.2.2.1 pc = .ok (.if_icmp .eq off, 3)) (ht : (pc : Int) + off = (tgt : Int)) (kt : x = y → V P tgt lv r S) (kf : ¬ x = y → V P (pc + 3) lv r S) : V P pc lv (.int y :: .int x :: r) S := fun p l e s m args below meth c A H locs ls C hP hS hl => lv_icmp_eq C.1 C.2.1 hd ht (fun h => kt h p l e s m args below meth c A H locs ls C hP hS hl) (fun h => kf h p l e s m args below meth c A H locs ls C hP hS hl)
theorem V_if_ne {P : PX} {pc : Nat} {lv : LV} {r : List Value} {S : ST} {x : Int32} {off : Int} (tgt : Nat) (hd : decode P.2.2.2.2.2.2.1 pc = .ok (.ifCond .ne off, 3)) (ht : (pc : Int) + off = (tgt : Int)) (kt : ¬ x = 0 → V P tgt lv r S) (kf : x = 0 → V P (pc + 3) lv r S) : V P pc lv (.int x :: r) S := fun p l e s m args below meth c A H locs ls C hP hS hl => lv_if_ne C.1 C.2.1 hd ht (fun h => kt h p l e s m args below meth c A H locs ls C hP hS hl) (fun h => kf h p l e s m args below meth c A H locs ls C hP hS hl)
theorem V_icmp_ne {P : PX} {pc : Nat} {lv : LV} {r : List Value} {S : ST} {x y : Int32} {off : Int} (tgt : Nat) (hd : decode P.2.2.2.2.2.2.1 pc = .ok (.if_icmp .ne off, 3)) (ht : (pc : Int) + off = (tgt : Int)) (kt : ¬ x = y → V P tgt lv r S) (kf : x = y → V P (pc + 3) lv r S) : V P pc lv (.int y :: .int x :: r) S := fun p l e s m args below meth c A H locs ls C hP hS hl => lv_icmp_ne C.1 C.2.1 hd ht (fun h => kt h p l e s m args below meth c A H locs ls C hP hS hl) (fun h => kf h p l e s m args below meth c A H locs ls C hP hS hl)
theorem V_if_lt {P : PX} {pc : Nat} {lv : LV} {r : List Value} {S : ST} {x : Int32} {off : Int} (tgt : Nat) (hd : decode P.2.2.2.2.2.2.1 pc = .ok (.ifCond .lt off, 3)) (ht : (pc : Int) + off = (tgt : Int)) (kt : x < 0 → V P tgt lv r S) (kf : ¬ x < 0 → V P (pc + 3) lv r S) : V P pc lv (.int x :: r) S := fun p l e s m args below meth c A H locs ls C hP hS hl => lv_if_lt C.1 C.2.1 hd ht (fun h => kt h p l e s m args below meth c A H locs ls C hP hS hl) (fun h => kf h p l e s m args below meth c A H locs ls C hP hS hl)
theorem V_icmp_lt {P : PX} {pc : Nat} {lv : LV} {r : List Value} {S : ST} {x y : Int32} {off : Int} (tgt : Nat) (hd : decode P.2.2.2.2.2.2.1 pc = .ok (.if_icmp .lt off, 3)) (ht : (pc : Int) + off = (tgt : Int)) (kt : x < y → V P tgt lv r S) (kf : ¬ x < y → V P (pc + 3) lv r S) : V P pc lv (.int y :: .int x :: r) S := fun p l e s m args below meth c A H locs ls C hP hS hl => lv_icmp_lt C.1 C.2.1 hd ht (fun h => kt h p l e s m args below meth c A H locs ls C hP hS hl) (fun h => kf h p l e s m args below meth c A H locs ls C hP hS hl)
theorem V_if_ge {P : PX} {pc : Nat} {lv : LV} {r : List Value} {S : ST} {x : Int32} {off : Int} (tgt : Nat) (hd : decode P.2.2.2.2.2.2.1 pc = .ok (.ifCond .ge off, 3)) (ht : (pc : Int) + off = (tgt : Int)) (kt : 0 ≤ x → V P tgt lv r S) (kf : ¬ 0 ≤ x → V P (pc + 3) lv r S) : V P pc lv (.int x :: r) S := fun p l e s m args below meth c A H locs ls C hP hS hl => lv_if_ge C.1 C.2.1 hd ht (fun h => kt h p l e s m args below meth c A H locs ls C hP hS hl) (fun h => kf h p l e s m args below meth c A H locs ls C hP hS hl)
theorem V_icmp_ge {P : PX} {pc : Nat} {lv : LV} {r : List Value} {S : ST} {x y : Int32} {off : Int} (tgt : Nat) (hd : decode P.2.2.2.2.2.2.1 pc = .ok (.if_icmp .ge off, 3)) (ht : (pc : Int) + off = (tgt : Int)) (kt : y ≤ x → V P tgt lv r S) (kf : ¬ y ≤ x → V P (pc + 3) lv r S) : V P pc lv (.int y :: .int x :: r) S := fun p l e s m args below meth c A H locs ls C hP hS hl => lv_icmp_ge C.1 C.2.1 hd ht (fun h => kt h p l e s m args below meth c A H locs ls C hP hS hl) (fun h => kf h p l e s m args below meth c A H locs ls C hP hS hl)
theorem V_if_gt {P : PX} {pc : Nat} {lv : LV} {r : List Value} {S : ST} {x : Int32} {off : Int} (tgt : Nat) (hd : decode P.2.2.2.2.2.2.1 pc = .ok (.ifCond .gt off, 3)) (ht : (pc : Int) + off = (tgt : Int)) (kt : 0 < x → V P tgt lv r S) (kf : ¬ 0 < x → V P (pc + 3) lv r S) : V P pc lv (.int x :: r) S := fun p l e s m args below meth c A H locs ls C hP hS hl => lv_if_gt C.1 C.2.1 hd ht (fun h => kt h p l e s m args below meth c A H locs ls C hP hS hl) (fun h => kf h p l e s m args below meth c A H locs ls C hP hS hl)
theorem V_icmp_gt {P : PX} {pc : Nat} {lv : LV} {r : List Value} {S : ST} {x y : Int32} {off : Int} (tgt : Nat) (hd : decode P.2.2.2.2.2.2.1 pc = .ok (.if_icmp .gt off, 3)) (ht : (pc : Int) + off = (tgt : Int)) (kt : y < x → V P tgt lv r S) (kf : ¬ y < x → V P (pc + 3) lv r S) : V P pc lv (.int y :: .int x :: r) S := fun p l e s m args below meth c A H locs ls C hP hS hl => lv_icmp_gt C.1 C.2.1 hd ht (fun h => kt h p l e s m args below meth c A H locs ls C hP hS hl) (fun h => kf h p l e s m args below meth c A H locs ls C hP hS hl)
theorem V_if_le {P : PX} {pc : Nat} {lv : LV} {r : List Value} {S : ST} {x : Int32} {off : Int} (tgt : Nat) (hd : decode P.2.2.2.2.2.2.1 pc = .ok (.ifCond .le off, 3)) (ht : (pc : Int) + off = (tgt : Int)) (kt : x ≤ 0 → V P tgt lv r S) (kf : ¬ x ≤ 0 → V P (pc + 3) lv r S) : V P pc lv (.int x :: r) S := fun p l e s m args below meth c A H locs ls C hP hS hl => lv_if_le C.1 C.2.1 hd ht (fun h => kt h p l e s m args below meth c A H locs ls C hP hS hl) (fun h => kf h p l e s m args below meth c A H locs ls C hP hS hl)
theorem V_icmp_le {P : PX} {pc : Nat} {lv : LV} {r : List Value} {S : ST} {x y : Int32} {off : Int} (tgt : Nat) (hd : decode P.2.2.2.2.2.2.1 pc = .ok (.if_icmp .le off, 3)) (ht : (pc : Int) + off = (tgt : Int)) (kt : x ≤ y → V P tgt lv r S) (kf : ¬ x ≤ y → V P (pc + 3) lv r S) : V P pc lv (.int y :: .int x :: r) S := fun p l e s m args below meth c A H locs ls C hP hS hl => lv_icmp_le C.1 C.2.1 hd ht (fun h => kt h p l e s m args below meth c A H locs ls C hP hS hl) (fun h => kf h p l e s m args below meth c A H locs ls C hP hS hl)
theorem V_goto {P : PX} {pc : Nat} {lv : LV} {r : List Value} {S : ST} {off : Int} (tgt : Nat) (hd : decode P.2.2.2.2.2.2.1 pc = .ok (.goto off, 3)) (ht : (pc : Int) + off = (tgt : Int)) (k : V P tgt lv r S) : V P pc lv r S := fun p l e s m args below meth c A H locs ls C hP hS hl => lv_goto C.1 C.2.1 hd ht (k p l e s m args below meth c A H locs ls C hP hS hl)
theorem V_tsO {P : PX} {pc : Nat} {lv : LV} {r : List Value} {S : ST} {dflt lo hi : Int} {offs : Array Int} {len : Nat} {x : Int32} (tgt : Nat) (hd : decode P.2.2.2.2.2.2.1 pc = .ok (.tableswitch dflt lo hi offs, len)) (h : x.toInt < lo ∨ hi < x.toInt) (ht : (pc : Int) + dflt = (tgt : Int)) (k : V P tgt lv r S) : V P pc lv (.int x :: r) S := fun p l e s m args below meth c A H locs ls C hP hS hl => lv_tableOut C.1 C.2.1 hd h ht (k p l e s m args below meth c A H locs ls C hP hS hl)
theorem V_tsI {P : PX} {pc : Nat} {lv : LV} {r : List Value} {S : ST} {dflt lo hi : Int} {offs : Array Int} {len : Nat} {x : Int32} {off : Int} (tgt : Nat) (hd : decode P.2.2.2.2.2.2.1 pc = .ok (.tableswitch dflt lo hi offs, len)) (h1 : ¬ x.toInt < lo) (h2 : ¬ hi < x.toInt) (ho : offs[(x.toInt - lo).toNat]? = some off) (ht : (pc : Int) + off = (tgt : Int)) (k : V P tgt lv r S) : V P pc lv (.int x :: r) S := fun p l e s m args below meth c A H locs ls C hP hS hl => lv_tableIn C.1 C.2.1 hd h1 h2 ho ht (k p l e s m args below meth c A H locs ls C hP hS hl)
theorem V_lsw {P : PX} {pc : Nat} {lv : LV} {r : List Value} {S : ST} {dflt : Int} {ps : Array (Int × Int)} {len : Nat} {x : Int32} {off : Int} (tgt : Nat) (hd : decode P.2.2.2.2.2.2.1 pc = .ok (.lookupswitch dflt ps, len)) (hp : (ps.toList.zip (ps.toList.drop 1)).all (fun (a, next) => a.1 < next.1) = true) (ho : Op.lookupswitch.offset ps.toList dflt x.toInt = off) (ht : (pc : Int) + off = (tgt : Int)) (k : V P tgt lv r S) : V P pc lv (.int x :: r) S := fun p l e s m args below meth c A H locs ls C hP hS hl => lv_lookup C.1 C.2.1 hd hp ho ht (k p l e s m args below meth c A H locs ls C hP hS hl)
end
section
theorem iX0 : ∀ w ∈ u_ws RX0 TX0 4, w ∈ TB := by
  intro w hw
  obtain ⟨k, hk, rfl⟩ := List.mem_map.mp hw
  have hk := List.mem_range.mp hk
  match k, hk with
  | 0, _ => exact tw_194
  | 1, _ => exact tw_196
  | 2, _ => exact tw_198
  | 3, _ => exact tw_200
  | k + 4, h => exact absurd h (by omega)
theorem iX1 : ∀ w ∈ u_ws RX1 TX1 7, w ∈ TB := by
  intro w hw
  obtain ⟨k, hk, rfl⟩ := List.mem_map.mp hw
  have hk := List.mem_range.mp hk
  match k, hk with
  | 0, _ => exact tw_46
  | 1, _ => exact tw_48
  | 2, _ => exact tw_50
  | 3, _ => exact tw_52
  | 4, _ => exact tw_54
  | 5, _ => exact tw_56
  | 6, _ => exact tw_58
  | k + 7, h => exact absurd h (by omega)
theorem iX2 : ∀ w ∈ u_ws RX2 TX2 3, w ∈ TB := by
  intro w hw
  obtain ⟨k, hk, rfl⟩ := List.mem_map.mp hw
  have hk := List.mem_range.mp hk
  match k, hk with
  | 0, _ => exact tw_77
  | 1, _ => exact tw_79
  | 2, _ => exact tw_81
  | k + 3, h => exact absurd h (by omega)
theorem iX3 : ∀ w ∈ u_ws RX3 TX3 4, w ∈ TB := by
  intro w hw
  obtain ⟨k, hk, rfl⟩ := List.mem_map.mp hw
  have hk := List.mem_range.mp hk
  match k, hk with
  | 0, _ => exact tw_137
  | 1, _ => exact tw_139
  | 2, _ => exact tw_141
  | 3, _ => exact tw_143
  | k + 4, h => exact absurd h (by omega)
theorem iX4 : ∀ w ∈ u_ws RX4 TX4 10, w ∈ TB := by
  intro w hw
  obtain ⟨k, hk, rfl⟩ := List.mem_map.mp hw
  have hk := List.mem_range.mp hk
  match k, hk with
  | 0, _ => exact tw_104
  | 1, _ => exact tw_106
  | 2, _ => exact tw_108
  | 3, _ => exact tw_110
  | 4, _ => exact tw_112
  | 5, _ => exact tw_114
  | 6, _ => exact tw_116
  | 7, _ => exact tw_118
  | 8, _ => exact tw_120
  | 9, _ => exact tw_122
  | k + 10, h => exact absurd h (by omega)
theorem iX5 : ∀ w ∈ u_ws RX5 TX5 3, w ∈ TB := by
  intro w hw
  obtain ⟨k, hk, rfl⟩ := List.mem_map.mp hw
  have hk := List.mem_range.mp hk
  match k, hk with
  | 0, _ => exact tw_158
  | 1, _ => exact tw_160
  | 2, _ => exact tw_162
  | k + 3, h => exact absurd h (by omega)
theorem iX6 : ∀ w ∈ u_ws RX6 TX6 3, w ∈ TB := by
  intro w hw
  obtain ⟨k, hk, rfl⟩ := List.mem_map.mp hw
  have hk := List.mem_range.mp hk
  match k, hk with
  | 0, _ => exact tw_177
  | 1, _ => exact tw_179
  | 2, _ => exact tw_181
  | k + 3, h => exact absurd h (by omega)
theorem iX7 : ∀ w ∈ u_ws RX7 TX7 8, w ∈ TB := by
  intro w hw
  obtain ⟨k, hk, rfl⟩ := List.mem_map.mp hw
  have hk := List.mem_range.mp hk
  match k, hk with
  | 0, _ => exact tw_211
  | 1, _ => exact tw_213
  | 2, _ => exact tw_215
  | 3, _ => exact tw_217
  | 4, _ => exact tw_219
  | 5, _ => exact tw_221
  | 6, _ => exact tw_223
  | 7, _ => exact tw_225
  | k + 8, h => exact absurd h (by omega)
theorem iX8 : ∀ w ∈ u_ws RX8 TX8 28, w ∈ TB := by
  intro w hw
  obtain ⟨k, hk, rfl⟩ := List.mem_map.mp hw
  have hk := List.mem_range.mp hk
  match k, hk with
  | 0, _ => exact tw_656
  | 1, _ => exact tw_658
  | 2, _ => exact tw_660
  | 3, _ => exact tw_662
  | 4, _ => exact tw_664
  | 5, _ => exact tw_666
  | 6, _ => exact tw_668
  | 7, _ => exact tw_670
  | 8, _ => exact tw_672
  | 9, _ => exact tw_674
  | 10, _ => exact tw_676
  | 11, _ => exact tw_678
  | 12, _ => exact tw_680
  | 13, _ => exact tw_682
  | 14, _ => exact tw_684
  | 15, _ => exact tw_686
  | 16, _ => exact tw_688
  | 17, _ => exact tw_690
  | 18, _ => exact tw_692
  | 19, _ => exact tw_694
  | 20, _ => exact tw_696
  | 21, _ => exact tw_698
  | 22, _ => exact tw_700
  | 23, _ => exact tw_702
  | 24, _ => exact tw_704
  | 25, _ => exact tw_706
  | 26, _ => exact tw_708
  | 27, _ => exact tw_710
  | k + 28, h => exact absurd h (by omega)
theorem V_get {P : PX} {pc : Nat} {lv : LV} {r : List Value} {S : ST} (q0 : Nat) {a : Nat} {fs : List Value} {ci N index : Nat} {CC : String} {T : u_T} (he : (conc P.1 S)[q0]? = some (a, .inr (ci, fs))) (hc : vwCl[ci]? = some (CC, T, N)) (hin : ∀ w ∈ u_ws CC T N, w ∈ TB) (j : Nat) (hk : j < N) {v : Value} (hv : fs[j]? = some v) (hw : Cond.fieldLink P.2.2.2.2.2.1.cls index (T j).1 (T j).2.1 (T j).2.2.1 ∈ TB) (hd : decode P.2.2.2.2.2.2.1 pc = .ok (.getfield index, 3)) (k : V P (pc + 3) lv (v :: r) S) : V P pc lv (.ref a :: r) S := fun p l e s m args below meth c A H locs ls C hP hS hl => va_get C.1 C.2.1 C.2.2.2.2.2.1 hin C.2.2.2.2.1 C.2.2.2.2.2.2.2.1 hP q0 he hc j hk (C.2.2.2.2.2.1 _ hw) (fun _ h9 => h9) hv hd (k p l e s m args below meth c A H locs ls C hP hS hl)
theorem CT.D {P : PX} {p : Program} {s : State} {m : MethodId} {args : Array Value} {meth : Method} {c : Code} {A : Nat → Prop} (C : CT P p s m args meth c A) (S : ST) : va_D A (conc P.1 S) := conc_D C.2.2.2.2.2.2.2.2.2.1 C.2.2.2.2.2.2.2.2.2.2.2.1 S
theorem V_put {P : PX} {pc : Nat} {lv : LV} {r : List Value} {S : ST} (S2 : ST) (q0 : Nat) {a : Nat} {fs : List Value} {ci N index : Nat} {CC : String} {T : u_T} (he : (conc P.1 S)[q0]? = some (a, .inr (ci, fs))) (hc : vwCl[ci]? = some (CC, T, N)) (hin : ∀ w ∈ u_ws CC T N, w ∈ TB) (ty0 : Nat → FieldType) (hty : ∀ k, k < N → parseFieldDescriptor (T k).2.2.1 = some (ty0 k)) (hnm : ∀ a, a < N → ∀ b, b < N → a ≠ b → (T a).2.1 ≠ (T b).2.1) (j : Nat) (hk : j < N) (hfin : (T j).2.2.2 = false) {ty : FieldType} {v : Value} (hdd : parseFieldDescriptor (T j).2.2.1 = some ty) (hn : narrow ty v = v) (hfit : fits ty v = true) (hlen : j < fs.length) (hS2 : (conc P.1 S).set q0 (a, .inr (ci, fs.set j v)) = conc P.1 S2) (hw : Cond.fieldLink P.2.2.2.2.2.1.cls index (T j).1 (T j).2.1 (T j).2.2.1 ∈ TB) (hd : decode P.2.2.2.2.2.2.1 pc = .ok (.putfield index, 3)) (k : V P (pc + 3) lv r S2) : V P pc lv (v :: .ref a :: r) S := fun p l e s m args below meth c A H locs ls C hP hS hl => va_put C.1 C.2.1 C.2.2.2.2.2.1 hin ty0 hty hnm C.2.2.2.2.1 C.2.2.2.2.2.2.2.1 hP (C.D S) hS q0 he hc j hk (C.2.2.2.2.2.1 _ hw) (fun _ h9 => h9) hfin hdd hn hfit hlen hd (fun H locs hP hD hS => k p l e s m args below meth c A H locs ls C (hS2 ▸ hP) hS hl)
theorem g_0_0 {P : PX} {pc : Nat} {lv : LV} {r : List Value} {S : ST} {index : Nat} (hw : Cond.fieldLink P.2.2.2.2.2.1.cls index (TX7 0).1 (TX7 0).2.1 (TX7 0).2.2.1 ∈ TB) (hd : decode P.2.2.2.2.2.2.1 pc = .ok (.getfield index, 3)) (k : V P (pc + 3) lv (.ref (P.1.2.1 1) :: r) S) : V P pc lv (.ref (P.1.2.1 0) :: r) S := V_get 0 rfl rfl iX7 0 (by decide) rfl hw hd k
theorem g_0_1 {P : PX} {pc : Nat} {lv : LV} {r : List Value} {S : ST} {index : Nat} (hw : Cond.fieldLink P.2.2.2.2.2.1.cls index (TX7 1).1 (TX7 1).2.1 (TX7 1).2.2.1 ∈ TB) (hd : decode P.2.2.2.2.2.2.1 pc = .ok (.getfield index, 3)) (k : V P (pc + 3) lv (.ref (P.1.2.1 2) :: r) S) : V P pc lv (.ref (P.1.2.1 0) :: r) S := V_get 0 rfl rfl iX7 1 (by decide) rfl hw hd k
theorem g_0_2 {P : PX} {pc : Nat} {lv : LV} {r : List Value} {S : ST} {index : Nat} (hw : Cond.fieldLink P.2.2.2.2.2.1.cls index (TX7 2).1 (TX7 2).2.1 (TX7 2).2.2.1 ∈ TB) (hd : decode P.2.2.2.2.2.2.1 pc = .ok (.getfield index, 3)) (k : V P (pc + 3) lv (.ref (P.1.2.1 3) :: r) S) : V P pc lv (.ref (P.1.2.1 0) :: r) S := V_get 0 rfl rfl iX7 2 (by decide) rfl hw hd k
theorem g_0_3 {P : PX} {pc : Nat} {lv : LV} {r : List Value} {S : ST} {index : Nat} (hw : Cond.fieldLink P.2.2.2.2.2.1.cls index (TX7 3).1 (TX7 3).2.1 (TX7 3).2.2.1 ∈ TB) (hd : decode P.2.2.2.2.2.2.1 pc = .ok (.getfield index, 3)) (k : V P (pc + 3) lv (.ref (P.1.2.1 4) :: r) S) : V P pc lv (.ref (P.1.2.1 0) :: r) S := V_get 0 rfl rfl iX7 3 (by decide) rfl hw hd k
theorem g_0_4 {P : PX} {pc : Nat} {lv : LV} {r : List Value} {S : ST} {index : Nat} (hw : Cond.fieldLink P.2.2.2.2.2.1.cls index (TX7 4).1 (TX7 4).2.1 (TX7 4).2.2.1 ∈ TB) (hd : decode P.2.2.2.2.2.2.1 pc = .ok (.getfield index, 3)) (k : V P (pc + 3) lv (.ref (P.1.2.1 5) :: r) S) : V P pc lv (.ref (P.1.2.1 0) :: r) S := V_get 0 rfl rfl iX7 4 (by decide) rfl hw hd k
theorem g_0_5 {P : PX} {pc : Nat} {lv : LV} {r : List Value} {S : ST} {index : Nat} (hw : Cond.fieldLink P.2.2.2.2.2.1.cls index (TX7 5).1 (TX7 5).2.1 (TX7 5).2.2.1 ∈ TB) (hd : decode P.2.2.2.2.2.2.1 pc = .ok (.getfield index, 3)) (k : V P (pc + 3) lv (.ref (P.1.2.1 6) :: r) S) : V P pc lv (.ref (P.1.2.1 0) :: r) S := V_get 0 rfl rfl iX7 5 (by decide) rfl hw hd k
theorem g_0_6 {P : PX} {pc : Nat} {lv : LV} {r : List Value} {S : ST} {index : Nat} (hw : Cond.fieldLink P.2.2.2.2.2.1.cls index (TX7 6).1 (TX7 6).2.1 (TX7 6).2.2.1 ∈ TB) (hd : decode P.2.2.2.2.2.2.1 pc = .ok (.getfield index, 3)) (k : V P (pc + 3) lv (.ref (P.1.2.1 7) :: r) S) : V P pc lv (.ref (P.1.2.1 0) :: r) S := V_get 0 rfl rfl iX7 6 (by decide) rfl hw hd k
theorem g_0_7 {P : PX} {pc : Nat} {lv : LV} {r : List Value} {S : ST} {index : Nat} (hw : Cond.fieldLink P.2.2.2.2.2.1.cls index (TX7 7).1 (TX7 7).2.1 (TX7 7).2.2.1 ∈ TB) (hd : decode P.2.2.2.2.2.2.1 pc = .ok (.getfield index, 3)) (k : V P (pc + 3) lv (.ref (P.1.2.1 8) :: r) S) : V P pc lv (.ref (P.1.2.1 0) :: r) S := V_get 0 rfl rfl iX7 7 (by decide) rfl hw hd k
theorem g_1_0 {P : PX} {pc : Nat} {lv : LV} {r : List Value} {S : ST} {index : Nat} (hw : Cond.fieldLink P.2.2.2.2.2.1.cls index (TX1 0).1 (TX1 0).2.1 (TX1 0).2.2.1 ∈ TB) (hd : decode P.2.2.2.2.2.2.1 pc = .ok (.getfield index, 3)) (k : V P (pc + 3) lv (.int (S.1 0) :: r) S) : V P pc lv (.ref (P.1.2.1 1) :: r) S := V_get 1 rfl rfl iX1 0 (by decide) rfl hw hd k
theorem p_1_0 {P : PX} {pc : Nat} {lv : LV} {r : List Value} {S : ST} {x : Int32} {index : Nat} (hw : Cond.fieldLink P.2.2.2.2.2.1.cls index (TX1 0).1 (TX1 0).2.1 (TX1 0).2.2.1 ∈ TB) (hd : decode P.2.2.2.2.2.2.1 pc = .ok (.putfield index, 3)) (k : V P (pc + 3) lv r (setI S 0 x)) : V P pc lv (.int x :: .ref (P.1.2.1 1) :: r) S := V_put (setI S 0 x) 1 rfl rfl iX1 tyX1 tyX1_ok nmX1 0 (by decide) rfl (ty := .int) (by decide +kernel) rfl rfl (by show 0 < 7; decide) rfl hw hd k
theorem g_1_1 {P : PX} {pc : Nat} {lv : LV} {r : List Value} {S : ST} {index : Nat} (hw : Cond.fieldLink P.2.2.2.2.2.1.cls index (TX1 1).1 (TX1 1).2.1 (TX1 1).2.2.1 ∈ TB) (hd : decode P.2.2.2.2.2.2.1 pc = .ok (.getfield index, 3)) (k : V P (pc + 3) lv (.ref (P.1.2.1 9) :: r) S) : V P pc lv (.ref (P.1.2.1 1) :: r) S := V_get 1 rfl rfl iX1 1 (by decide) rfl hw hd k
theorem g_1_2 {P : PX} {pc : Nat} {lv : LV} {r : List Value} {S : ST} {index : Nat} (hw : Cond.fieldLink P.2.2.2.2.2.1.cls index (TX1 2).1 (TX1 2).2.1 (TX1 2).2.2.1 ∈ TB) (hd : decode P.2.2.2.2.2.2.1 pc = .ok (.getfield index, 3)) (k : V P (pc + 3) lv (.ref (P.1.2.1 10) :: r) S) : V P pc lv (.ref (P.1.2.1 1) :: r) S := V_get 1 rfl rfl iX1 2 (by decide) rfl hw hd k
theorem g_1_3 {P : PX} {pc : Nat} {lv : LV} {r : List Value} {S : ST} {index : Nat} (hw : Cond.fieldLink P.2.2.2.2.2.1.cls index (TX1 3).1 (TX1 3).2.1 (TX1 3).2.2.1 ∈ TB) (hd : decode P.2.2.2.2.2.2.1 pc = .ok (.getfield index, 3)) (k : V P (pc + 3) lv (.ref (P.1.2.1 11) :: r) S) : V P pc lv (.ref (P.1.2.1 1) :: r) S := V_get 1 rfl rfl iX1 3 (by decide) rfl hw hd k
theorem g_1_4 {P : PX} {pc : Nat} {lv : LV} {r : List Value} {S : ST} {index : Nat} (hw : Cond.fieldLink P.2.2.2.2.2.1.cls index (TX1 4).1 (TX1 4).2.1 (TX1 4).2.2.1 ∈ TB) (hd : decode P.2.2.2.2.2.2.1 pc = .ok (.getfield index, 3)) (k : V P (pc + 3) lv (.ref (P.1.2.1 12) :: r) S) : V P pc lv (.ref (P.1.2.1 1) :: r) S := V_get 1 rfl rfl iX1 4 (by decide) rfl hw hd k
theorem g_1_5 {P : PX} {pc : Nat} {lv : LV} {r : List Value} {S : ST} {index : Nat} (hw : Cond.fieldLink P.2.2.2.2.2.1.cls index (TX1 5).1 (TX1 5).2.1 (TX1 5).2.2.1 ∈ TB) (hd : decode P.2.2.2.2.2.2.1 pc = .ok (.getfield index, 3)) (k : V P (pc + 3) lv (.ref (P.1.2.1 13) :: r) S) : V P pc lv (.ref (P.1.2.1 1) :: r) S := V_get 1 rfl rfl iX1 5 (by decide) rfl hw hd k
theorem g_1_6 {P : PX} {pc : Nat} {lv : LV} {r : List Value} {S : ST} {index : Nat} (hw : Cond.fieldLink P.2.2.2.2.2.1.cls index (TX1 6).1 (TX1 6).2.1 (TX1 6).2.2.1 ∈ TB) (hd : decode P.2.2.2.2.2.2.1 pc = .ok (.getfield index, 3)) (k : V P (pc + 3) lv (.ref (P.1.2.1 14) :: r) S) : V P pc lv (.ref (P.1.2.1 1) :: r) S := V_get 1 rfl rfl iX1 6 (by decide) rfl hw hd k
theorem g_2_0 {P : PX} {pc : Nat} {lv : LV} {r : List Value} {S : ST} {index : Nat} (hw : Cond.fieldLink P.2.2.2.2.2.1.cls index (TX2 0).1 (TX2 0).2.1 (TX2 0).2.2.1 ∈ TB) (hd : decode P.2.2.2.2.2.2.1 pc = .ok (.getfield index, 3)) (k : V P (pc + 3) lv (.int (S.1 1) :: r) S) : V P pc lv (.ref (P.1.2.1 2) :: r) S := V_get 2 rfl rfl iX2 0 (by decide) rfl hw hd k
theorem p_2_0 {P : PX} {pc : Nat} {lv : LV} {r : List Value} {S : ST} {x : Int32} {index : Nat} (hw : Cond.fieldLink P.2.2.2.2.2.1.cls index (TX2 0).1 (TX2 0).2.1 (TX2 0).2.2.1 ∈ TB) (hd : decode P.2.2.2.2.2.2.1 pc = .ok (.putfield index, 3)) (k : V P (pc + 3) lv r (setI S 1 x)) : V P pc lv (.int x :: .ref (P.1.2.1 2) :: r) S := V_put (setI S 1 x) 2 rfl rfl iX2 tyX2 tyX2_ok nmX2 0 (by decide) rfl (ty := .int) (by decide +kernel) rfl rfl (by show 0 < 3; decide) rfl hw hd k
theorem g_2_1 {P : PX} {pc : Nat} {lv : LV} {r : List Value} {S : ST} {index : Nat} (hw : Cond.fieldLink P.2.2.2.2.2.1.cls index (TX2 1).1 (TX2 1).2.1 (TX2 1).2.2.1 ∈ TB) (hd : decode P.2.2.2.2.2.2.1 pc = .ok (.getfield index, 3)) (k : V P (pc + 3) lv (.ref (P.1.2.1 15) :: r) S) : V P pc lv (.ref (P.1.2.1 2) :: r) S := V_get 2 rfl rfl iX2 1 (by decide) rfl hw hd k
theorem g_2_2 {P : PX} {pc : Nat} {lv : LV} {r : List Value} {S : ST} {index : Nat} (hw : Cond.fieldLink P.2.2.2.2.2.1.cls index (TX2 2).1 (TX2 2).2.1 (TX2 2).2.2.1 ∈ TB) (hd : decode P.2.2.2.2.2.2.1 pc = .ok (.getfield index, 3)) (k : V P (pc + 3) lv (.ref (P.1.2.1 16) :: r) S) : V P pc lv (.ref (P.1.2.1 2) :: r) S := V_get 2 rfl rfl iX2 2 (by decide) rfl hw hd k
theorem g_3_0 {P : PX} {pc : Nat} {lv : LV} {r : List Value} {S : ST} {index : Nat} (hw : Cond.fieldLink P.2.2.2.2.2.1.cls index (TX4 0).1 (TX4 0).2.1 (TX4 0).2.2.1 ∈ TB) (hd : decode P.2.2.2.2.2.2.1 pc = .ok (.getfield index, 3)) (k : V P (pc + 3) lv (.ref (P.1.2.1 1) :: r) S) : V P pc lv (.ref (P.1.2.1 3) :: r) S := V_get 3 rfl rfl iX4 0 (by decide) rfl hw hd k
theorem g_3_1 {P : PX} {pc : Nat} {lv : LV} {r : List Value} {S : ST} {index : Nat} (hw : Cond.fieldLink P.2.2.2.2.2.1.cls index (TX4 1).1 (TX4 1).2.1 (TX4 1).2.2.1 ∈ TB) (hd : decode P.2.2.2.2.2.2.1 pc = .ok (.getfield index, 3)) (k : V P (pc + 3) lv (.ref (P.1.2.1 2) :: r) S) : V P pc lv (.ref (P.1.2.1 3) :: r) S := V_get 3 rfl rfl iX4 1 (by decide) rfl hw hd k
theorem g_3_2 {P : PX} {pc : Nat} {lv : LV} {r : List Value} {S : ST} {index : Nat} (hw : Cond.fieldLink P.2.2.2.2.2.1.cls index (TX4 2).1 (TX4 2).2.1 (TX4 2).2.2.1 ∈ TB) (hd : decode P.2.2.2.2.2.2.1 pc = .ok (.getfield index, 3)) (k : V P (pc + 3) lv (.ref (P.1.2.1 17) :: r) S) : V P pc lv (.ref (P.1.2.1 3) :: r) S := V_get 3 rfl rfl iX4 2 (by decide) rfl hw hd k
theorem g_3_3 {P : PX} {pc : Nat} {lv : LV} {r : List Value} {S : ST} {index : Nat} (hw : Cond.fieldLink P.2.2.2.2.2.1.cls index (TX4 3).1 (TX4 3).2.1 (TX4 3).2.2.1 ∈ TB) (hd : decode P.2.2.2.2.2.2.1 pc = .ok (.getfield index, 3)) (k : V P (pc + 3) lv (.int (S.1 6) :: r) S) : V P pc lv (.ref (P.1.2.1 3) :: r) S := V_get 3 rfl rfl iX4 3 (by decide) rfl hw hd k
theorem p_3_3 {P : PX} {pc : Nat} {lv : LV} {r : List Value} {S : ST} {x : Int32} {index : Nat} (hw : Cond.fieldLink P.2.2.2.2.2.1.cls index (TX4 3).1 (TX4 3).2.1 (TX4 3).2.2.1 ∈ TB) (hd : decode P.2.2.2.2.2.2.1 pc = .ok (.putfield index, 3)) (k : V P (pc + 3) lv r (setI S 6 x)) : V P pc lv (.int x :: .ref (P.1.2.1 3) :: r) S := V_put (setI S 6 x) 3 rfl rfl iX4 tyX4 tyX4_ok nmX4 3 (by decide) rfl (ty := .int) (by decide +kernel) rfl rfl (by show 3 < 10; decide) rfl hw hd k
theorem g_3_4 {P : PX} {pc : Nat} {lv : LV} {r : List Value} {S : ST} {index : Nat} (hw : Cond.fieldLink P.2.2.2.2.2.1.cls index (TX4 4).1 (TX4 4).2.1 (TX4 4).2.2.1 ∈ TB) (hd : decode P.2.2.2.2.2.2.1 pc = .ok (.getfield index, 3)) (k : V P (pc + 3) lv (.ref (P.1.2.1 18) :: r) S) : V P pc lv (.ref (P.1.2.1 3) :: r) S := V_get 3 rfl rfl iX4 4 (by decide) rfl hw hd k
theorem g_3_5 {P : PX} {pc : Nat} {lv : LV} {r : List Value} {S : ST} {index : Nat} (hw : Cond.fieldLink P.2.2.2.2.2.1.cls index (TX4 5).1 (TX4 5).2.1 (TX4 5).2.2.1 ∈ TB) (hd : decode P.2.2.2.2.2.2.1 pc = .ok (.getfield index, 3)) (k : V P (pc + 3) lv (.ref (P.1.2.1 19) :: r) S) : V P pc lv (.ref (P.1.2.1 3) :: r) S := V_get 3 rfl rfl iX4 5 (by decide) rfl hw hd k
theorem g_3_6 {P : PX} {pc : Nat} {lv : LV} {r : List Value} {S : ST} {index : Nat} (hw : Cond.fieldLink P.2.2.2.2.2.1.cls index (TX4 6).1 (TX4 6).2.1 (TX4 6).2.2.1 ∈ TB) (hd : decode P.2.2.2.2.2.2.1 pc = .ok (.getfield index, 3)) (k : V P (pc + 3) lv (.ref (P.1.2.1 20) :: r) S) : V P pc lv (.ref (P.1.2.1 3) :: r) S := V_get 3 rfl rfl iX4 6 (by decide) rfl hw hd k
theorem g_3_7 {P : PX} {pc : Nat} {lv : LV} {r : List Value} {S : ST} {index : Nat} (hw : Cond.fieldLink P.2.2.2.2.2.1.cls index (TX4 7).1 (TX4 7).2.1 (TX4 7).2.2.1 ∈ TB) (hd : decode P.2.2.2.2.2.2.1 pc = .ok (.getfield index, 3)) (k : V P (pc + 3) lv (.long (S.2.1 0) :: r) S) : V P pc lv (.ref (P.1.2.1 3) :: r) S := V_get 3 rfl rfl iX4 7 (by decide) rfl hw hd k
theorem p_3_7 {P : PX} {pc : Nat} {lv : LV} {r : List Value} {S : ST} {x : Int64} {index : Nat} (hw : Cond.fieldLink P.2.2.2.2.2.1.cls index (TX4 7).1 (TX4 7).2.1 (TX4 7).2.2.1 ∈ TB) (hd : decode P.2.2.2.2.2.2.1 pc = .ok (.putfield index, 3)) (k : V P (pc + 3) lv r (setL S 0 x)) : V P pc lv (.long x :: .ref (P.1.2.1 3) :: r) S := V_put (setL S 0 x) 3 rfl rfl iX4 tyX4 tyX4_ok nmX4 7 (by decide) rfl (ty := .long) (by decide +kernel) rfl rfl (by show 7 < 10; decide) rfl hw hd k
theorem g_3_8 {P : PX} {pc : Nat} {lv : LV} {r : List Value} {S : ST} {index : Nat} (hw : Cond.fieldLink P.2.2.2.2.2.1.cls index (TX4 8).1 (TX4 8).2.1 (TX4 8).2.2.1 ∈ TB) (hd : decode P.2.2.2.2.2.2.1 pc = .ok (.getfield index, 3)) (k : V P (pc + 3) lv (.int (S.1 7) :: r) S) : V P pc lv (.ref (P.1.2.1 3) :: r) S := V_get 3 rfl rfl iX4 8 (by decide) rfl hw hd k
theorem p_3_8 {P : PX} {pc : Nat} {lv : LV} {r : List Value} {S : ST} {x : Int32} {index : Nat} (hw : Cond.fieldLink P.2.2.2.2.2.1.cls index (TX4 8).1 (TX4 8).2.1 (TX4 8).2.2.1 ∈ TB) (hd : decode P.2.2.2.2.2.2.1 pc = .ok (.putfield index, 3)) (k : V P (pc + 3) lv r (setI S 7 x)) : V P pc lv (.int x :: .ref (P.1.2.1 3) :: r) S := V_put (setI S 7 x) 3 rfl rfl iX4 tyX4 tyX4_ok nmX4 8 (by decide) rfl (ty := .int) (by decide +kernel) rfl rfl (by show 8 < 10; decide) rfl hw hd k
theorem g_3_9 {P : PX} {pc : Nat} {lv : LV} {r : List Value} {S : ST} {index : Nat} (hw : Cond.fieldLink P.2.2.2.2.2.1.cls index (TX4 9).1 (TX4 9).2.1 (TX4 9).2.2.1 ∈ TB) (hd : decode P.2.2.2.2.2.2.1 pc = .ok (.getfield index, 3)) (k : V P (pc + 3) lv (.long (S.2.1 1) :: r) S) : V P pc lv (.ref (P.1.2.1 3) :: r) S := V_get 3 rfl rfl iX4 9 (by decide) rfl hw hd k
theorem p_3_9 {P : PX} {pc : Nat} {lv : LV} {r : List Value} {S : ST} {x : Int64} {index : Nat} (hw : Cond.fieldLink P.2.2.2.2.2.1.cls index (TX4 9).1 (TX4 9).2.1 (TX4 9).2.2.1 ∈ TB) (hd : decode P.2.2.2.2.2.2.1 pc = .ok (.putfield index, 3)) (k : V P (pc + 3) lv r (setL S 1 x)) : V P pc lv (.long x :: .ref (P.1.2.1 3) :: r) S := V_put (setL S 1 x) 3 rfl rfl iX4 tyX4 tyX4_ok nmX4 9 (by decide) rfl (ty := .long) (by decide +kernel) rfl rfl (by show 9 < 10; decide) rfl hw hd k
theorem g_4_0 {P : PX} {pc : Nat} {lv : LV} {r : List Value} {S : ST} {index : Nat} (hw : Cond.fieldLink P.2.2.2.2.2.1.cls index (TX3 0).1 (TX3 0).2.1 (TX3 0).2.2.1 ∈ TB) (hd : decode P.2.2.2.2.2.2.1 pc = .ok (.getfield index, 3)) (k : V P (pc + 3) lv (.ref (P.1.2.1 1) :: r) S) : V P pc lv (.ref (P.1.2.1 4) :: r) S := V_get 4 rfl rfl iX3 0 (by decide) rfl hw hd k
theorem g_4_1 {P : PX} {pc : Nat} {lv : LV} {r : List Value} {S : ST} {index : Nat} (hw : Cond.fieldLink P.2.2.2.2.2.1.cls index (TX3 1).1 (TX3 1).2.1 (TX3 1).2.2.1 ∈ TB) (hd : decode P.2.2.2.2.2.2.1 pc = .ok (.getfield index, 3)) (k : V P (pc + 3) lv (.int 0 :: r) S) : V P pc lv (.ref (P.1.2.1 4) :: r) S := V_get 4 rfl rfl iX3 1 (by decide) rfl hw hd k
theorem g_4_2 {P : PX} {pc : Nat} {lv : LV} {r : List Value} {S : ST} {index : Nat} (hw : Cond.fieldLink P.2.2.2.2.2.1.cls index (TX3 2).1 (TX3 2).2.1 (TX3 2).2.2.1 ∈ TB) (hd : decode P.2.2.2.2.2.2.1 pc = .ok (.getfield index, 3)) (k : V P (pc + 3) lv (.ref (P.1.2.1 21) :: r) S) : V P pc lv (.ref (P.1.2.1 4) :: r) S := V_get 4 rfl rfl iX3 2 (by decide) rfl hw hd k
theorem g_4_3 {P : PX} {pc : Nat} {lv : LV} {r : List Value} {S : ST} {index : Nat} (hw : Cond.fieldLink P.2.2.2.2.2.1.cls index (TX3 3).1 (TX3 3).2.1 (TX3 3).2.2.1 ∈ TB) (hd : decode P.2.2.2.2.2.2.1 pc = .ok (.getfield index, 3)) (k : V P (pc + 3) lv (.int (S.1 3) :: r) S) : V P pc lv (.ref (P.1.2.1 4) :: r) S := V_get 4 rfl rfl iX3 3 (by decide) rfl hw hd k
theorem p_4_3 {P : PX} {pc : Nat} {lv : LV} {r : List Value} {S : ST} {x : Int32} {index : Nat} (hx : x = 0 ∨ x = 1) (hw : Cond.fieldLink P.2.2.2.2.2.1.cls index (TX3 3).1 (TX3 3).2.1 (TX3 3).2.2.1 ∈ TB) (hd : decode P.2.2.2.2.2.2.1 pc = .ok (.putfield index, 3)) (k : V P (pc + 3) lv r (setI S 3 x)) : V P pc lv (.int x :: .ref (P.1.2.1 4) :: r) S := V_put (setI S 3 x) 4 rfl rfl iX3 tyX3 tyX3_ok nmX3 3 (by decide) rfl (ty := .boolean) (by decide +kernel) (by rcases hx with rfl | rfl <;> rfl) (by rcases hx with rfl | rfl <;> rfl) (by show 3 < 4; decide) rfl hw hd k
theorem g_5_0 {P : PX} {pc : Nat} {lv : LV} {r : List Value} {S : ST} {index : Nat} (hw : Cond.fieldLink P.2.2.2.2.2.1.cls index (TX3 0).1 (TX3 0).2.1 (TX3 0).2.2.1 ∈ TB) (hd : decode P.2.2.2.2.2.2.1 pc = .ok (.getfield index, 3)) (k : V P (pc + 3) lv (.ref (P.1.2.1 1) :: r) S) : V P pc lv (.ref (P.1.2.1 5) :: r) S := V_get 5 rfl rfl iX3 0 (by decide) rfl hw hd k
theorem g_5_1 {P : PX} {pc : Nat} {lv : LV} {r : List Value} {S : ST} {index : Nat} (hw : Cond.fieldLink P.2.2.2.2.2.1.cls index (TX3 1).1 (TX3 1).2.1 (TX3 1).2.2.1 ∈ TB) (hd : decode P.2.2.2.2.2.2.1 pc = .ok (.getfield index, 3)) (k : V P (pc + 3) lv (.int 1 :: r) S) : V P pc lv (.ref (P.1.2.1 5) :: r) S := V_get 5 rfl rfl iX3 1 (by decide) rfl hw hd k
theorem g_5_2 {P : PX} {pc : Nat} {lv : LV} {r : List Value} {S : ST} {index : Nat} (hw : Cond.fieldLink P.2.2.2.2.2.1.cls index (TX3 2).1 (TX3 2).2.1 (TX3 2).2.2.1 ∈ TB) (hd : decode P.2.2.2.2.2.2.1 pc = .ok (.getfield index, 3)) (k : V P (pc + 3) lv (.ref (P.1.2.1 22) :: r) S) : V P pc lv (.ref (P.1.2.1 5) :: r) S := V_get 5 rfl rfl iX3 2 (by decide) rfl hw hd k
theorem g_5_3 {P : PX} {pc : Nat} {lv : LV} {r : List Value} {S : ST} {index : Nat} (hw : Cond.fieldLink P.2.2.2.2.2.1.cls index (TX3 3).1 (TX3 3).2.1 (TX3 3).2.2.1 ∈ TB) (hd : decode P.2.2.2.2.2.2.1 pc = .ok (.getfield index, 3)) (k : V P (pc + 3) lv (.int (S.1 5) :: r) S) : V P pc lv (.ref (P.1.2.1 5) :: r) S := V_get 5 rfl rfl iX3 3 (by decide) rfl hw hd k
theorem p_5_3 {P : PX} {pc : Nat} {lv : LV} {r : List Value} {S : ST} {x : Int32} {index : Nat} (hx : x = 0 ∨ x = 1) (hw : Cond.fieldLink P.2.2.2.2.2.1.cls index (TX3 3).1 (TX3 3).2.1 (TX3 3).2.2.1 ∈ TB) (hd : decode P.2.2.2.2.2.2.1 pc = .ok (.putfield index, 3)) (k : V P (pc + 3) lv r (setI S 5 x)) : V P pc lv (.int x :: .ref (P.1.2.1 5) :: r) S := V_put (setI S 5 x) 5 rfl rfl iX3 tyX3 tyX3_ok nmX3 3 (by decide) rfl (ty := .boolean) (by decide +kernel) (by rcases hx with rfl | rfl <;> rfl) (by rcases hx with rfl | rfl <;> rfl) (by show 3 < 4; decide) rfl hw hd k
theorem g_6_0 {P : PX} {pc : Nat} {lv : LV} {r : List Value} {S : ST} {index : Nat} (hw : Cond.fieldLink P.2.2.2.2.2.1.cls index (TX5 0).1 (TX5 0).2.1 (TX5 0).2.2.1 ∈ TB) (hd : decode P.2.2.2.2.2.2.1 pc = .ok (.getfield index, 3)) (k : V P (pc + 3) lv (.int (S.1 8) :: r) S) : V P pc lv (.ref (P.1.2.1 6) :: r) S := V_get 6 rfl rfl iX5 0 (by decide) rfl hw hd k
theorem p_6_0 {P : PX} {pc : Nat} {lv : LV} {r : List Value} {S : ST} {x : Int32} {index : Nat} (hw : Cond.fieldLink P.2.2.2.2.2.1.cls index (TX5 0).1 (TX5 0).2.1 (TX5 0).2.2.1 ∈ TB) (hd : decode P.2.2.2.2.2.2.1 pc = .ok (.putfield index, 3)) (k : V P (pc + 3) lv r (setI S 8 x)) : V P pc lv (.int x :: .ref (P.1.2.1 6) :: r) S := V_put (setI S 8 x) 6 rfl rfl iX5 tyX5 tyX5_ok nmX5 0 (by decide) rfl (ty := .int) (by decide +kernel) rfl rfl (by show 0 < 3; decide) rfl hw hd k
theorem g_6_1 {P : PX} {pc : Nat} {lv : LV} {r : List Value} {S : ST} {index : Nat} (hw : Cond.fieldLink P.2.2.2.2.2.1.cls index (TX5 1).1 (TX5 1).2.1 (TX5 1).2.2.1 ∈ TB) (hd : decode P.2.2.2.2.2.2.1 pc = .ok (.getfield index, 3)) (k : V P (pc + 3) lv (.ref (P.1.2.1 23) :: r) S) : V P pc lv (.ref (P.1.2.1 6) :: r) S := V_get 6 rfl rfl iX5 1 (by decide) rfl hw hd k
theorem g_6_2 {P : PX} {pc : Nat} {lv : LV} {r : List Value} {S : ST} {index : Nat} (hw : Cond.fieldLink P.2.2.2.2.2.1.cls index (TX5 2).1 (TX5 2).2.1 (TX5 2).2.2.1 ∈ TB) (hd : decode P.2.2.2.2.2.2.1 pc = .ok (.getfield index, 3)) (k : V P (pc + 3) lv (.ref (P.1.2.1 24) :: r) S) : V P pc lv (.ref (P.1.2.1 6) :: r) S := V_get 6 rfl rfl iX5 2 (by decide) rfl hw hd k
theorem g_7_0 {P : PX} {pc : Nat} {lv : LV} {r : List Value} {S : ST} {index : Nat} (hw : Cond.fieldLink P.2.2.2.2.2.1.cls index (TX6 0).1 (TX6 0).2.1 (TX6 0).2.2.1 ∈ TB) (hd : decode P.2.2.2.2.2.2.1 pc = .ok (.getfield index, 3)) (k : V P (pc + 3) lv (.int (S.1 9) :: r) S) : V P pc lv (.ref (P.1.2.1 7) :: r) S := V_get 7 rfl rfl iX6 0 (by decide) rfl hw hd k
theorem p_7_0 {P : PX} {pc : Nat} {lv : LV} {r : List Value} {S : ST} {x : Int32} {index : Nat} (hw : Cond.fieldLink P.2.2.2.2.2.1.cls index (TX6 0).1 (TX6 0).2.1 (TX6 0).2.2.1 ∈ TB) (hd : decode P.2.2.2.2.2.2.1 pc = .ok (.putfield index, 3)) (k : V P (pc + 3) lv r (setI S 9 x)) : V P pc lv (.int x :: .ref (P.1.2.1 7) :: r) S := V_put (setI S 9 x) 7 rfl rfl iX6 tyX6 tyX6_ok nmX6 0 (by decide) rfl (ty := .int) (by decide +kernel) rfl rfl (by show 0 < 3; decide) rfl hw hd k
theorem g_7_1 {P : PX} {pc : Nat} {lv : LV} {r : List Value} {S : ST} {index : Nat} (hw : Cond.fieldLink P.2.2.2.2.2.1.cls index (TX6 1).1 (TX6 1).2.1 (TX6 1).2.2.1 ∈ TB) (hd : decode P.2.2.2.2.2.2.1 pc = .ok (.getfield index, 3)) (k : V P (pc + 3) lv (.ref (P.1.2.1 25) :: r) S) : V P pc lv (.ref (P.1.2.1 7) :: r) S := V_get 7 rfl rfl iX6 1 (by decide) rfl hw hd k
theorem g_7_2 {P : PX} {pc : Nat} {lv : LV} {r : List Value} {S : ST} {index : Nat} (hw : Cond.fieldLink P.2.2.2.2.2.1.cls index (TX6 2).1 (TX6 2).2.1 (TX6 2).2.2.1 ∈ TB) (hd : decode P.2.2.2.2.2.2.1 pc = .ok (.getfield index, 3)) (k : V P (pc + 3) lv (.ref (P.1.2.1 26) :: r) S) : V P pc lv (.ref (P.1.2.1 7) :: r) S := V_get 7 rfl rfl iX6 2 (by decide) rfl hw hd k
theorem g_8_0 {P : PX} {pc : Nat} {lv : LV} {r : List Value} {S : ST} {index : Nat} (hw : Cond.fieldLink P.2.2.2.2.2.1.cls index (TX0 0).1 (TX0 0).2.1 (TX0 0).2.2.1 ∈ TB) (hd : decode P.2.2.2.2.2.2.1 pc = .ok (.getfield index, 3)) (k : V P (pc + 3) lv (.ref (P.1.2.1 1) :: r) S) : V P pc lv (.ref (P.1.2.1 8) :: r) S := V_get 8 rfl rfl iX0 0 (by decide) rfl hw hd k
theorem g_8_1 {P : PX} {pc : Nat} {lv : LV} {r : List Value} {S : ST} {index : Nat} (hw : Cond.fieldLink P.2.2.2.2.2.1.cls index (TX0 1).1 (TX0 1).2.1 (TX0 1).2.2.1 ∈ TB) (hd : decode P.2.2.2.2.2.2.1 pc = .ok (.getfield index, 3)) (k : V P (pc + 3) lv (.ref (P.1.2.1 7) :: r) S) : V P pc lv (.ref (P.1.2.1 8) :: r) S := V_get 8 rfl rfl iX0 1 (by decide) rfl hw hd k
theorem g_8_2 {P : PX} {pc : Nat} {lv : LV} {r : List Value} {S : ST} {index : Nat} (hw : Cond.fieldLink P.2.2.2.2.2.1.cls index (TX0 2).1 (TX0 2).2.1 (TX0 2).2.2.1 ∈ TB) (hd : decode P.2.2.2.2.2.2.1 pc = .ok (.getfield index, 3)) (k : V P (pc + 3) lv (.ref (P.1.2.1 27) :: r) S) : V P pc lv (.ref (P.1.2.1 8) :: r) S := V_get 8 rfl rfl iX0 2 (by decide) rfl hw hd k
theorem g_8_3 {P : PX} {pc : Nat} {lv : LV} {r : List Value} {S : ST} {index : Nat} (hw : Cond.fieldLink P.2.2.2.2.2.1.cls index (TX0 3).1 (TX0 3).2.1 (TX0 3).2.2.1 ∈ TB) (hd : decode P.2.2.2.2.2.2.1 pc = .ok (.getfield index, 3)) (k : V P (pc + 3) lv (.ref (P.1.2.1 28) :: r) S) : V P pc lv (.ref (P.1.2.1 8) :: r) S := V_get 8 rfl rfl iX0 3 (by decide) rfl hw hd k
theorem g_29_0 {P : PX} {pc : Nat} {lv : LV} {r : List Value} {S : ST} {index : Nat} (hw : Cond.fieldLink P.2.2.2.2.2.1.cls index (TX8 0).1 (TX8 0).2.1 (TX8 0).2.2.1 ∈ TB) (hd : decode P.2.2.2.2.2.2.1 pc = .ok (.getfield index, 3)) (k : V P (pc + 3) lv (.int (S.1 10) :: r) S) : V P pc lv (.ref (P.1.2.1 29) :: r) S := V_get 29 rfl rfl iX8 0 (by decide) rfl hw hd k
theorem p_29_0 {P : PX} {pc : Nat} {lv : LV} {r : List Value} {S : ST} {x : Int32} {index : Nat} (hw : Cond.fieldLink P.2.2.2.2.2.1.cls index (TX8 0).1 (TX8 0).2.1 (TX8 0).2.2.1 ∈ TB) (hd : decode P.2.2.2.2.2.2.1 pc = .ok (.putfield index, 3)) (k : V P (pc + 3) lv r (setI S 10 x)) : V P pc lv (.int x :: .ref (P.1.2.1 29) :: r) S := V_put (setI S 10 x) 29 rfl rfl iX8 tyX8 tyX8_ok nmX8 0 (by decide) rfl (ty := .int) (by decide +kernel) rfl rfl (by show 0 < 28; decide) rfl hw hd k
theorem g_29_1 {P : PX} {pc : Nat} {lv : LV} {r : List Value} {S : ST} {index : Nat} (hw : Cond.fieldLink P.2.2.2.2.2.1.cls index (TX8 1).1 (TX8 1).2.1 (TX8 1).2.2.1 ∈ TB) (hd : decode P.2.2.2.2.2.2.1 pc = .ok (.getfield index, 3)) (k : V P (pc + 3) lv (.ref (P.1.2.1 30) :: r) S) : V P pc lv (.ref (P.1.2.1 29) :: r) S := V_get 29 rfl rfl iX8 1 (by decide) rfl hw hd k
theorem g_29_2 {P : PX} {pc : Nat} {lv : LV} {r : List Value} {S : ST} {index : Nat} (hw : Cond.fieldLink P.2.2.2.2.2.1.cls index (TX8 2).1 (TX8 2).2.1 (TX8 2).2.2.1 ∈ TB) (hd : decode P.2.2.2.2.2.2.1 pc = .ok (.getfield index, 3)) (k : V P (pc + 3) lv (.ref (P.1.2.1 31) :: r) S) : V P pc lv (.ref (P.1.2.1 29) :: r) S := V_get 29 rfl rfl iX8 2 (by decide) rfl hw hd k
theorem g_29_3 {P : PX} {pc : Nat} {lv : LV} {r : List Value} {S : ST} {index : Nat} (hw : Cond.fieldLink P.2.2.2.2.2.1.cls index (TX8 3).1 (TX8 3).2.1 (TX8 3).2.2.1 ∈ TB) (hd : decode P.2.2.2.2.2.2.1 pc = .ok (.getfield index, 3)) (k : V P (pc + 3) lv (.ref (P.1.2.1 32) :: r) S) : V P pc lv (.ref (P.1.2.1 29) :: r) S := V_get 29 rfl rfl iX8 3 (by decide) rfl hw hd k
theorem g_29_4 {P : PX} {pc : Nat} {lv : LV} {r : List Value} {S : ST} {index : Nat} (hw : Cond.fieldLink P.2.2.2.2.2.1.cls index (TX8 4).1 (TX8 4).2.1 (TX8 4).2.2.1 ∈ TB) (hd : decode P.2.2.2.2.2.2.1 pc = .ok (.getfield index, 3)) (k : V P (pc + 3) lv (.ref (P.1.2.1 33) :: r) S) : V P pc lv (.ref (P.1.2.1 29) :: r) S := V_get 29 rfl rfl iX8 4 (by decide) rfl hw hd k
theorem g_29_5 {P : PX} {pc : Nat} {lv : LV} {r : List Value} {S : ST} {index : Nat} (hw : Cond.fieldLink P.2.2.2.2.2.1.cls index (TX8 5).1 (TX8 5).2.1 (TX8 5).2.2.1 ∈ TB) (hd : decode P.2.2.2.2.2.2.1 pc = .ok (.getfield index, 3)) (k : V P (pc + 3) lv (.ref (P.1.2.1 34) :: r) S) : V P pc lv (.ref (P.1.2.1 29) :: r) S := V_get 29 rfl rfl iX8 5 (by decide) rfl hw hd k
theorem g_29_6 {P : PX} {pc : Nat} {lv : LV} {r : List Value} {S : ST} {index : Nat} (hw : Cond.fieldLink P.2.2.2.2.2.1.cls index (TX8 6).1 (TX8 6).2.1 (TX8 6).2.2.1 ∈ TB) (hd : decode P.2.2.2.2.2.2.1 pc = .ok (.getfield index, 3)) (k : V P (pc + 3) lv (.int (S.1 11) :: r) S) : V P pc lv (.ref (P.1.2.1 29) :: r) S := V_get 29 rfl rfl iX8 6 (by decide) rfl hw hd k
theorem p_29_6 {P : PX} {pc : Nat} {lv : LV} {r : List Value} {S : ST} {x : Int32} {index : Nat} (hw : Cond.fieldLink P.2.2.2.2.2.1.cls index (TX8 6).1 (TX8 6).2.1 (TX8 6).2.2.1 ∈ TB) (hd : decode P.2.2.2.2.2.2.1 pc = .ok (.putfield index, 3)) (k : V P (pc + 3) lv r (setI S 11 x)) : V P pc lv (.int x :: .ref (P.1.2.1 29) :: r) S := V_put (setI S 11 x) 29 rfl rfl iX8 tyX8 tyX8_ok nmX8 6 (by decide) rfl (ty := .int) (by decide +kernel) rfl rfl (by show 6 < 28; decide) rfl hw hd k
theorem g_29_7 {P : PX} {pc : Nat} {lv : LV} {r : List Value} {S : ST} {index : Nat} (hw : Cond.fieldLink P.2.2.2.2.2.1.cls index (TX8 7).1 (TX8 7).2.1 (TX8 7).2.2.1 ∈ TB) (hd : decode P.2.2.2.2.2.2.1 pc = .ok (.getfield index, 3)) (k : V P (pc + 3) lv (.ref (P.1.2.1 35) :: r) S) : V P pc lv (.ref (P.1.2.1 29) :: r) S := V_get 29 rfl rfl iX8 7 (by decide) rfl hw hd k
theorem g_29_8 {P : PX} {pc : Nat} {lv : LV} {r : List Value} {S : ST} {index : Nat} (hw : Cond.fieldLink P.2.2.2.2.2.1.cls index (TX8 8).1 (TX8 8).2.1 (TX8 8).2.2.1 ∈ TB) (hd : decode P.2.2.2.2.2.2.1 pc = .ok (.getfield index, 3)) (k : V P (pc + 3) lv (.ref (P.1.2.1 36) :: r) S) : V P pc lv (.ref (P.1.2.1 29) :: r) S := V_get 29 rfl rfl iX8 8 (by decide) rfl hw hd k
theorem g_29_9 {P : PX} {pc : Nat} {lv : LV} {r : List Value} {S : ST} {index : Nat} (hw : Cond.fieldLink P.2.2.2.2.2.1.cls index (TX8 9).1 (TX8 9).2.1 (TX8 9).2.2.1 ∈ TB) (hd : decode P.2.2.2.2.2.2.1 pc = .ok (.getfield index, 3)) (k : V P (pc + 3) lv (.ref (P.1.2.1 37) :: r) S) : V P pc lv (.ref (P.1.2.1 29) :: r) S := V_get 29 rfl rfl iX8 9 (by decide) rfl hw hd k
theorem g_29_10 {P : PX} {pc : Nat} {lv : LV} {r : List Value} {S : ST} {index : Nat} (hw : Cond.fieldLink P.2.2.2.2.2.1.cls index (TX8 10).1 (TX8 10).2.1 (TX8 10).2.2.1 ∈ TB) (hd : decode P.2.2.2.2.2.2.1 pc = .ok (.getfield index, 3)) (k : V P (pc + 3) lv (.int (S.1 12) :: r) S) : V P pc lv (.ref (P.1.2.1 29) :: r) S := V_get 29 rfl rfl iX8 10 (by decide) rfl hw hd k
theorem p_29_10 {P : PX} {pc : Nat} {lv : LV} {r : List Value} {S : ST} {x : Int32} {index : Nat} (hw : Cond.fieldLink P.2.2.2.2.2.1.cls index (TX8 10).1 (TX8 10).2.1 (TX8 10).2.2.1 ∈ TB) (hd : decode P.2.2.2.2.2.2.1 pc = .ok (.putfield index, 3)) (k : V P (pc + 3) lv r (setI S 12 x)) : V P pc lv (.int x :: .ref (P.1.2.1 29) :: r) S := V_put (setI S 12 x) 29 rfl rfl iX8 tyX8 tyX8_ok nmX8 10 (by decide) rfl (ty := .int) (by decide +kernel) rfl rfl (by show 10 < 28; decide) rfl hw hd k
theorem g_29_11 {P : PX} {pc : Nat} {lv : LV} {r : List Value} {S : ST} {index : Nat} (hw : Cond.fieldLink P.2.2.2.2.2.1.cls index (TX8 11).1 (TX8 11).2.1 (TX8 11).2.2.1 ∈ TB) (hd : decode P.2.2.2.2.2.2.1 pc = .ok (.getfield index, 3)) (k : V P (pc + 3) lv (.ref (P.1.2.1 38) :: r) S) : V P pc lv (.ref (P.1.2.1 29) :: r) S := V_get 29 rfl rfl iX8 11 (by decide) rfl hw hd k
theorem g_29_12 {P : PX} {pc : Nat} {lv : LV} {r : List Value} {S : ST} {index : Nat} (hw : Cond.fieldLink P.2.2.2.2.2.1.cls index (TX8 12).1 (TX8 12).2.1 (TX8 12).2.2.1 ∈ TB) (hd : decode P.2.2.2.2.2.2.1 pc = .ok (.getfield index, 3)) (k : V P (pc + 3) lv (.int (S.1 13) :: r) S) : V P pc lv (.ref (P.1.2.1 29) :: r) S := V_get 29 rfl rfl iX8 12 (by decide) rfl hw hd k
theorem p_29_12 {P : PX} {pc : Nat} {lv : LV} {r : List Value} {S : ST} {x : Int32} {index : Nat} (hw : Cond.fieldLink P.2.2.2.2.2.1.cls index (TX8 12).1 (TX8 12).2.1 (TX8 12).2.2.1 ∈ TB) (hd : decode P.2.2.2.2.2.2.1 pc = .ok (.putfield index, 3)) (k : V P (pc + 3) lv r (setI S 13 x)) : V P pc lv (.int x :: .ref (P.1.2.1 29) :: r) S := V_put (setI S 13 x) 29 rfl rfl iX8 tyX8 tyX8_ok nmX8 12 (by decide) rfl (ty := .int) (by decide +kernel) rfl rfl (by show 12 < 28; decide) rfl hw hd k
theorem g_29_13 {P : PX} {pc : Nat} {lv : LV} {r : List Value} {S : ST} {index : Nat} (hw : Cond.fieldLink P.2.2.2.2.2.1.cls index (TX8 13).1 (TX8 13).2.1 (TX8 13).2.2.1 ∈ TB) (hd : decode P.2.2.2.2.2.2.1 pc = .ok (.getfield index, 3)) (k : V P (pc + 3) lv (.ref (P.1.2.1 39) :: r) S) : V P pc lv (.ref (P.1.2.1 29) :: r) S := V_get 29 rfl rfl iX8 13 (by decide) rfl hw hd k
theorem g_29_14 {P : PX} {pc : Nat} {lv : LV} {r : List Value} {S : ST} {index : Nat} (hw : Cond.fieldLink P.2.2.2.2.2.1.cls index (TX8 14).1 (TX8 14).2.1 (TX8 14).2.2.1 ∈ TB) (hd : decode P.2.2.2.2.2.2.1 pc = .ok (.getfield index, 3)) (k : V P (pc + 3) lv (.int (S.1 14) :: r) S) : V P pc lv (.ref (P.1.2.1 29) :: r) S := V_get 29 rfl rfl iX8 14 (by decide) rfl hw hd k
theorem p_29_14 {P : PX} {pc : Nat} {lv : LV} {r : List Value} {S : ST} {x : Int32} {index : Nat} (hw : Cond.fieldLink P.2.2.2.2.2.1.cls index (TX8 14).1 (TX8 14).2.1 (TX8 14).2.2.1 ∈ TB) (hd : decode P.2.2.2.2.2.2.1 pc = .ok (.putfield index, 3)) (k : V P (pc + 3) lv r (setI S 14 x)) : V P pc lv (.int x :: .ref (P.1.2.1 29) :: r) S := V_put (setI S 14 x) 29 rfl rfl iX8 tyX8 tyX8_ok nmX8 14 (by decide) rfl (ty := .int) (by decide +kernel) rfl rfl (by show 14 < 28; decide) rfl hw hd k
theorem g_29_15 {P : PX} {pc : Nat} {lv : LV} {r : List Value} {S : ST} {index : Nat} (hw : Cond.fieldLink P.2.2.2.2.2.1.cls index (TX8 15).1 (TX8 15).2.1 (TX8 15).2.2.1 ∈ TB) (hd : decode P.2.2.2.2.2.2.1 pc = .ok (.getfield index, 3)) (k : V P (pc + 3) lv (.ref (P.1.2.1 40) :: r) S) : V P pc lv (.ref (P.1.2.1 29) :: r) S := V_get 29 rfl rfl iX8 15 (by decide) rfl hw hd k
theorem g_29_16 {P : PX} {pc : Nat} {lv : LV} {r : List Value} {S : ST} {index : Nat} (hw : Cond.fieldLink P.2.2.2.2.2.1.cls index (TX8 16).1 (TX8 16).2.1 (TX8 16).2.2.1 ∈ TB) (hd : decode P.2.2.2.2.2.2.1 pc = .ok (.getfield index, 3)) (k : V P (pc + 3) lv (.ref (P.1.2.1 41) :: r) S) : V P pc lv (.ref (P.1.2.1 29) :: r) S := V_get 29 rfl rfl iX8 16 (by decide) rfl hw hd k
theorem g_29_17 {P : PX} {pc : Nat} {lv : LV} {r : List Value} {S : ST} {index : Nat} (hw : Cond.fieldLink P.2.2.2.2.2.1.cls index (TX8 17).1 (TX8 17).2.1 (TX8 17).2.2.1 ∈ TB) (hd : decode P.2.2.2.2.2.2.1 pc = .ok (.getfield index, 3)) (k : V P (pc + 3) lv (.ref (P.1.2.1 42) :: r) S) : V P pc lv (.ref (P.1.2.1 29) :: r) S := V_get 29 rfl rfl iX8 17 (by decide) rfl hw hd k
theorem g_29_18 {P : PX} {pc : Nat} {lv : LV} {r : List Value} {S : ST} {index : Nat} (hw : Cond.fieldLink P.2.2.2.2.2.1.cls index (TX8 18).1 (TX8 18).2.1 (TX8 18).2.2.1 ∈ TB) (hd : decode P.2.2.2.2.2.2.1 pc = .ok (.getfield index, 3)) (k : V P (pc + 3) lv (.ref (P.1.2.1 43) :: r) S) : V P pc lv (.ref (P.1.2.1 29) :: r) S := V_get 29 rfl rfl iX8 18 (by decide) rfl hw hd k
theorem g_29_19 {P : PX} {pc : Nat} {lv : LV} {r : List Value} {S : ST} {index : Nat} (hw : Cond.fieldLink P.2.2.2.2.2.1.cls index (TX8 19).1 (TX8 19).2.1 (TX8 19).2.2.1 ∈ TB) (hd : decode P.2.2.2.2.2.2.1 pc = .ok (.getfield index, 3)) (k : V P (pc + 3) lv (.long (S.2.1 2) :: r) S) : V P pc lv (.ref (P.1.2.1 29) :: r) S := V_get 29 rfl rfl iX8 19 (by decide) rfl hw hd k
theorem p_29_19 {P : PX} {pc : Nat} {lv : LV} {r : List Value} {S : ST} {x : Int64} {index : Nat} (hw : Cond.fieldLink P.2.2.2.2.2.1.cls index (TX8 19).1 (TX8 19).2.1 (TX8 19).2.2.1 ∈ TB) (hd : decode P.2.2.2.2.2.2.1 pc = .ok (.putfield index, 3)) (k : V P (pc + 3) lv r (setL S 2 x)) : V P pc lv (.long x :: .ref (P.1.2.1 29) :: r) S := V_put (setL S 2 x) 29 rfl rfl iX8 tyX8 tyX8_ok nmX8 19 (by decide) rfl (ty := .long) (by decide +kernel) rfl rfl (by show 19 < 28; decide) rfl hw hd k
theorem g_29_20 {P : PX} {pc : Nat} {lv : LV} {r : List Value} {S : ST} {index : Nat} (hw : Cond.fieldLink P.2.2.2.2.2.1.cls index (TX8 20).1 (TX8 20).2.1 (TX8 20).2.2.1 ∈ TB) (hd : decode P.2.2.2.2.2.2.1 pc = .ok (.getfield index, 3)) (k : V P (pc + 3) lv (.int (S.1 15) :: r) S) : V P pc lv (.ref (P.1.2.1 29) :: r) S := V_get 29 rfl rfl iX8 20 (by decide) rfl hw hd k
theorem p_29_20 {P : PX} {pc : Nat} {lv : LV} {r : List Value} {S : ST} {x : Int32} {index : Nat} (hx : x = 0 ∨ x = 1) (hw : Cond.fieldLink P.2.2.2.2.2.1.cls index (TX8 20).1 (TX8 20).2.1 (TX8 20).2.2.1 ∈ TB) (hd : decode P.2.2.2.2.2.2.1 pc = .ok (.putfield index, 3)) (k : V P (pc + 3) lv r (setI S 15 x)) : V P pc lv (.int x :: .ref (P.1.2.1 29) :: r) S := V_put (setI S 15 x) 29 rfl rfl iX8 tyX8 tyX8_ok nmX8 20 (by decide) rfl (ty := .boolean) (by decide +kernel) (by rcases hx with rfl | rfl <;> rfl) (by rcases hx with rfl | rfl <;> rfl) (by show 20 < 28; decide) rfl hw hd k
theorem g_29_21 {P : PX} {pc : Nat} {lv : LV} {r : List Value} {S : ST} {index : Nat} (hw : Cond.fieldLink P.2.2.2.2.2.1.cls index (TX8 21).1 (TX8 21).2.1 (TX8 21).2.2.1 ∈ TB) (hd : decode P.2.2.2.2.2.2.1 pc = .ok (.getfield index, 3)) (k : V P (pc + 3) lv (.ref (P.1.2.1 44) :: r) S) : V P pc lv (.ref (P.1.2.1 29) :: r) S := V_get 29 rfl rfl iX8 21 (by decide) rfl hw hd k
theorem g_29_22 {P : PX} {pc : Nat} {lv : LV} {r : List Value} {S : ST} {index : Nat} (hw : Cond.fieldLink P.2.2.2.2.2.1.cls index (TX8 22).1 (TX8 22).2.1 (TX8 22).2.2.1 ∈ TB) (hd : decode P.2.2.2.2.2.2.1 pc = .ok (.getfield index, 3)) (k : V P (pc + 3) lv (.ref (P.1.2.1 45) :: r) S) : V P pc lv (.ref (P.1.2.1 29) :: r) S := V_get 29 rfl rfl iX8 22 (by decide) rfl hw hd k
theorem g_29_23 {P : PX} {pc : Nat} {lv : LV} {r : List Value} {S : ST} {index : Nat} (hw : Cond.fieldLink P.2.2.2.2.2.1.cls index (TX8 23).1 (TX8 23).2.1 (TX8 23).2.2.1 ∈ TB) (hd : decode P.2.2.2.2.2.2.1 pc = .ok (.getfield index, 3)) (k : V P (pc + 3) lv (.ref (P.1.2.1 46) :: r) S) : V P pc lv (.ref (P.1.2.1 29) :: r) S := V_get 29 rfl rfl iX8 23 (by decide) rfl hw hd k
theorem g_29_24 {P : PX} {pc : Nat} {lv : LV} {r : List Value} {S : ST} {index : Nat} (hw : Cond.fieldLink P.2.2.2.2.2.1.cls index (TX8 24).1 (TX8 24).2.1 (TX8 24).2.2.1 ∈ TB) (hd : decode P.2.2.2.2.2.2.1 pc = .ok (.getfield index, 3)) (k : V P (pc + 3) lv (.ref (P.1.2.1 47) :: r) S) : V P pc lv (.ref (P.1.2.1 29) :: r) S := V_get 29 rfl rfl iX8 24 (by decide) rfl hw hd k
theorem g_29_25 {P : PX} {pc : Nat} {lv : LV} {r : List Value} {S : ST} {index : Nat} (hw : Cond.fieldLink P.2.2.2.2.2.1.cls index (TX8 25).1 (TX8 25).2.1 (TX8 25).2.2.1 ∈ TB) (hd : decode P.2.2.2.2.2.2.1 pc = .ok (.getfield index, 3)) (k : V P (pc + 3) lv (.ref (P.1.2.1 48) :: r) S) : V P pc lv (.ref (P.1.2.1 29) :: r) S := V_get 29 rfl rfl iX8 25 (by decide) rfl hw hd k
theorem g_29_26 {P : PX} {pc : Nat} {lv : LV} {r : List Value} {S : ST} {index : Nat} (hw : Cond.fieldLink P.2.2.2.2.2.1.cls index (TX8 26).1 (TX8 26).2.1 (TX8 26).2.2.1 ∈ TB) (hd : decode P.2.2.2.2.2.2.1 pc = .ok (.getfield index, 3)) (k : V P (pc + 3) lv (.ref (P.1.2.1 49) :: r) S) : V P pc lv (.ref (P.1.2.1 29) :: r) S := V_get 29 rfl rfl iX8 26 (by decide) rfl hw hd k
theorem g_29_27 {P : PX} {pc : Nat} {lv : LV} {r : List Value} {S : ST} {index : Nat} (hw : Cond.fieldLink P.2.2.2.2.2.1.cls index (TX8 27).1 (TX8 27).2.1 (TX8 27).2.2.1 ∈ TB) (hd : decode P.2.2.2.2.2.2.1 pc = .ok (.getfield index, 3)) (k : V P (pc + 3) lv (.ref (P.1.2.1 50) :: r) S) : V P pc lv (.ref (P.1.2.1 29) :: r) S := V_get 29 rfl rfl iX8 27 (by decide) rfl hw hd k
theorem l_9 {P : PX} {pc : Nat} {lv : LV} {r : List Value} {S : ST} {x : Int32} (hin : vp_in x 12) (hd : decode P.2.2.2.2.2.2.1 pc = .ok (.iaload, 1)) (k : V P (pc + 1) lv (.int (S.2.2.1 9 x.toNatClampNeg) :: r) S) : V P pc lv (.int x :: .ref (P.1.2.1 9) :: r) S := fun p l e s m args below meth c A H locs ls C hP hS hl => va_iald C.1 C.2.1 C.2.2.2.2.2.2.2.1 hP 9 0 rfl rfl hin hd (k p l e s m args below meth c A H locs ls C hP hS hl)
theorem s_9 {P : PX} {pc : Nat} {lv : LV} {r : List Value} {S : ST} {x : Int32} {y : Int32} (hin : vp_in x 12) (hd : decode P.2.2.2.2.2.2.1 pc = .ok (.iastore, 1)) (k : V P (pc + 1) lv r (setA S 9 x.toNatClampNeg y)) : V P pc lv (.int y :: .int x :: .ref (P.1.2.1 9) :: r) S := fun p l e s m args below meth c A H locs ls C hP hS hl => va_iast C.1 C.2.1 C.2.2.2.2.2.2.2.1 hP (C.D S) hS 9 0 rfl rfl hin hd (fun H locs hP hD hS => k p l e s m args below meth c A H locs ls C hP hS hl)
theorem n_9 {P : PX} {pc : Nat} {lv : LV} {r : List Value} {S : ST} (hd : decode P.2.2.2.2.2.2.1 pc = .ok (.arraylength, 1)) (k : V P (pc + 1) lv (.int 12 :: r) S) : V P pc lv (.ref (P.1.2.1 9) :: r) S := fun p l e s m args below meth c A H locs ls C hP hS hl => va_alen C.1 C.2.1 C.2.2.2.2.2.2.2.1 hP 9 0 rfl rfl (by rfl) hd (k p l e s m args below meth c A H locs ls C hP hS hl)
theorem l_10 {P : PX} {pc : Nat} {lv : LV} {r : List Value} {S : ST} {x : Int32} (hin : vp_in x 12) (hd : decode P.2.2.2.2.2.2.1 pc = .ok (.iaload, 1)) (k : V P (pc + 1) lv (.int (S.2.2.1 10 x.toNatClampNeg) :: r) S) : V P pc lv (.int x :: .ref (P.1.2.1 10) :: r) S := fun p l e s m args below meth c A H locs ls C hP hS hl => va_iald C.1 C.2.1 C.2.2.2.2.2.2.2.1 hP 10 0 rfl rfl hin hd (k p l e s m args below meth c A H locs ls C hP hS hl)
theorem s_10 {P : PX} {pc : Nat} {lv : LV} {r : List Value} {S : ST} {x : Int32} {y : Int32} (hin : vp_in x 12) (hd : decode P.2.2.2.2.2.2.1 pc = .ok (.iastore, 1)) (k : V P (pc + 1) lv r (setA S 10 x.toNatClampNeg y)) : V P pc lv (.int y :: .int x :: .ref (P.1.2.1 10) :: r) S := fun p l e s m args below meth c A H locs ls C hP hS hl => va_iast C.1 C.2.1 C.2.2.2.2.2.2.2.1 hP (C.D S) hS 10 0 rfl rfl hin hd (fun H locs hP hD hS => k p l e s m args below meth c A H locs ls C hP hS hl)
theorem n_10 {P : PX} {pc : Nat} {lv : LV} {r : List Value} {S : ST} (hd : decode P.2.2.2.2.2.2.1 pc = .ok (.arraylength, 1)) (k : V P (pc + 1) lv (.int 12 :: r) S) : V P pc lv (.ref (P.1.2.1 10) :: r) S := fun p l e s m args below meth c A H locs ls C hP hS hl => va_alen C.1 C.2.1 C.2.2.2.2.2.2.2.1 hP 10 0 rfl rfl (by rfl) hd (k p l e s m args below meth c A H locs ls C hP hS hl)
theorem l_11 {P : PX} {pc : Nat} {lv : LV} {r : List Value} {S : ST} {x : Int32} (hin : vp_in x 12) (hd : decode P.2.2.2.2.2.2.1 pc = .ok (.iaload, 1)) (k : V P (pc + 1) lv (.int (S.2.2.1 11 x.toNatClampNeg) :: r) S) : V P pc lv (.int x :: .ref (P.1.2.1 11) :: r) S := fun p l e s m args below meth c A H locs ls C hP hS hl => va_iald C.1 C.2.1 C.2.2.2.2.2.2.2.1 hP 11 0 rfl rfl hin hd (k p l e s m args below meth c A H locs ls C hP hS hl)
theorem s_11 {P : PX} {pc : Nat} {lv : LV} {r : List Value} {S : ST} {x : Int32} {y : Int32} (hin : vp_in x 12) (hd : decode P.2.2.2.2.2.2.1 pc = .ok (.iastore, 1)) (k : V P (pc + 1) lv r (setA S 11 x.toNatClampNeg y)) : V P pc lv (.int y :: .int x :: .ref (P.1.2.1 11) :: r) S := fun p l e s m args below meth c A H locs ls C hP hS hl => va_iast C.1 C.2.1 C.2.2.2.2.2.2.2.1 hP (C.D S) hS 11 0 rfl rfl hin hd (fun H locs hP hD hS => k p l e s m args below meth c A H locs ls C hP hS hl)
theorem n_11 {P : PX} {pc : Nat} {lv : LV} {r : List Value} {S : ST} (hd : decode P.2.2.2.2.2.2.1 pc = .ok (.arraylength, 1)) (k : V P (pc + 1) lv (.int 12 :: r) S) : V P pc lv (.ref (P.1.2.1 11) :: r) S := fun p l e s m args below meth c A H locs ls C hP hS hl => va_alen C.1 C.2.1 C.2.2.2.2.2.2.2.1 hP 11 0 rfl rfl (by rfl) hd (k p l e s m args below meth c A H locs ls C hP hS hl)
theorem l_12 {P : PX} {pc : Nat} {lv : LV} {r : List Value} {S : ST} {x : Int32} (hin : vp_in x 12) (hd : decode P.2.2.2.2.2.2.1 pc = .ok (.iaload, 1)) (k : V P (pc + 1) lv (.int (S.2.2.1 12 x.toNatClampNeg) :: r) S) : V P pc lv (.int x :: .ref (P.1.2.1 12) :: r) S := fun p l e s m args below meth c A H locs ls C hP hS hl => va_iald C.1 C.2.1 C.2.2.2.2.2.2.2.1 hP 12 0 rfl rfl hin hd (k p l e s m args below meth c A H locs ls C hP hS hl)
theorem s_12 {P : PX} {pc : Nat} {lv : LV} {r : List Value} {S : ST} {x : Int32} {y : Int32} (hin : vp_in x 12) (hd : decode P.2.2.2.2.2.2.1 pc = .ok (.iastore, 1)) (k : V P (pc + 1) lv r (setA S 12 x.toNatClampNeg y)) : V P pc lv (.int y :: .int x :: .ref (P.1.2.1 12) :: r) S := fun p l e s m args below meth c A H locs ls C hP hS hl => va_iast C.1 C.2.1 C.2.2.2.2.2.2.2.1 hP (C.D S) hS 12 0 rfl rfl hin hd (fun H locs hP hD hS => k p l e s m args below meth c A H locs ls C hP hS hl)
theorem n_12 {P : PX} {pc : Nat} {lv : LV} {r : List Value} {S : ST} (hd : decode P.2.2.2.2.2.2.1 pc = .ok (.arraylength, 1)) (k : V P (pc + 1) lv (.int 12 :: r) S) : V P pc lv (.ref (P.1.2.1 12) :: r) S := fun p l e s m args below meth c A H locs ls C hP hS hl => va_alen C.1 C.2.1 C.2.2.2.2.2.2.2.1 hP 12 0 rfl rfl (by rfl) hd (k p l e s m args below meth c A H locs ls C hP hS hl)
theorem l_13 {P : PX} {pc : Nat} {lv : LV} {r : List Value} {S : ST} {x : Int32} (hin : vp_in x 12) (hd : decode P.2.2.2.2.2.2.1 pc = .ok (.iaload, 1)) (k : V P (pc + 1) lv (.int (S.2.2.1 13 x.toNatClampNeg) :: r) S) : V P pc lv (.int x :: .ref (P.1.2.1 13) :: r) S := fun p l e s m args below meth c A H locs ls C hP hS hl => va_iald C.1 C.2.1 C.2.2.2.2.2.2.2.1 hP 13 0 rfl rfl hin hd (k p l e s m args below meth c A H locs ls C hP hS hl)
theorem s_13 {P : PX} {pc : Nat} {lv : LV} {r : List Value} {S : ST} {x : Int32} {y : Int32} (hin : vp_in x 12) (hd : decode P.2.2.2.2.2.2.1 pc = .ok (.iastore, 1)) (k : V P (pc + 1) lv r (setA S 13 x.toNatClampNeg y)) : V P pc lv (.int y :: .int x :: .ref (P.1.2.1 13) :: r) S := fun p l e s m args below meth c A H locs ls C hP hS hl => va_iast C.1 C.2.1 C.2.2.2.2.2.2.2.1 hP (C.D S) hS 13 0 rfl rfl hin hd (fun H locs hP hD hS => k p l e s m args below meth c A H locs ls C hP hS hl)
theorem n_13 {P : PX} {pc : Nat} {lv : LV} {r : List Value} {S : ST} (hd : decode P.2.2.2.2.2.2.1 pc = .ok (.arraylength, 1)) (k : V P (pc + 1) lv (.int 12 :: r) S) : V P pc lv (.ref (P.1.2.1 13) :: r) S := fun p l e s m args below meth c A H locs ls C hP hS hl => va_alen C.1 C.2.1 C.2.2.2.2.2.2.2.1 hP 13 0 rfl rfl (by rfl) hd (k p l e s m args below meth c A H locs ls C hP hS hl)
theorem l_14 {P : PX} {pc : Nat} {lv : LV} {r : List Value} {S : ST} {x : Int32} (hin : vp_in x 12) (hd : decode P.2.2.2.2.2.2.1 pc = .ok (.iaload, 1)) (k : V P (pc + 1) lv (.int (S.2.2.1 14 x.toNatClampNeg) :: r) S) : V P pc lv (.int x :: .ref (P.1.2.1 14) :: r) S := fun p l e s m args below meth c A H locs ls C hP hS hl => va_iald C.1 C.2.1 C.2.2.2.2.2.2.2.1 hP 14 0 rfl rfl hin hd (k p l e s m args below meth c A H locs ls C hP hS hl)
theorem s_14 {P : PX} {pc : Nat} {lv : LV} {r : List Value} {S : ST} {x : Int32} {y : Int32} (hin : vp_in x 12) (hd : decode P.2.2.2.2.2.2.1 pc = .ok (.iastore, 1)) (k : V P (pc + 1) lv r (setA S 14 x.toNatClampNeg y)) : V P pc lv (.int y :: .int x :: .ref (P.1.2.1 14) :: r) S := fun p l e s m args below meth c A H locs ls C hP hS hl => va_iast C.1 C.2.1 C.2.2.2.2.2.2.2.1 hP (C.D S) hS 14 0 rfl rfl hin hd (fun H locs hP hD hS => k p l e s m args below meth c A H locs ls C hP hS hl)
theorem n_14 {P : PX} {pc : Nat} {lv : LV} {r : List Value} {S : ST} (hd : decode P.2.2.2.2.2.2.1 pc = .ok (.arraylength, 1)) (k : V P (pc + 1) lv (.int 12 :: r) S) : V P pc lv (.ref (P.1.2.1 14) :: r) S := fun p l e s m args below meth c A H locs ls C hP hS hl => va_alen C.1 C.2.1 C.2.2.2.2.2.2.2.1 hP 14 0 rfl rfl (by rfl) hd (k p l e s m args below meth c A H locs ls C hP hS hl)
theorem l_15 {P : PX} {pc : Nat} {lv : LV} {r : List Value} {S : ST} {x : Int32} (hin : vp_in x 12) (hd : decode P.2.2.2.2.2.2.1 pc = .ok (.iaload, 1)) (k : V P (pc + 1) lv (.int (S.2.2.1 15 x.toNatClampNeg) :: r) S) : V P pc lv (.int x :: .ref (P.1.2.1 15) :: r) S := fun p l e s m args below meth c A H locs ls C hP hS hl => va_iald C.1 C.2.1 C.2.2.2.2.2.2.2.1 hP 15 0 rfl rfl hin hd (k p l e s m args below meth c A H locs ls C hP hS hl)
theorem s_15 {P : PX} {pc : Nat} {lv : LV} {r : List Value} {S : ST} {x : Int32} {y : Int32} (hin : vp_in x 12) (hd : decode P.2.2.2.2.2.2.1 pc = .ok (.iastore, 1)) (k : V P (pc + 1) lv r (setA S 15 x.toNatClampNeg y)) : V P pc lv (.int y :: .int x :: .ref (P.1.2.1 15) :: r) S := fun p l e s m args below meth c A H locs ls C hP hS hl => va_iast C.1 C.2.1 C.2.2.2.2.2.2.2.1 hP (C.D S) hS 15 0 rfl rfl hin hd (fun H locs hP hD hS => k p l e s m args below meth c A H locs ls C hP hS hl)
theorem n_15 {P : PX} {pc : Nat} {lv : LV} {r : List Value} {S : ST} (hd : decode P.2.2.2.2.2.2.1 pc = .ok (.arraylength, 1)) (k : V P (pc + 1) lv (.int 12 :: r) S) : V P pc lv (.ref (P.1.2.1 15) :: r) S := fun p l e s m args below meth c A H locs ls C hP hS hl => va_alen C.1 C.2.1 C.2.2.2.2.2.2.2.1 hP 15 0 rfl rfl (by rfl) hd (k p l e s m args below meth c A H locs ls C hP hS hl)
theorem l_16 {P : PX} {pc : Nat} {lv : LV} {r : List Value} {S : ST} {x : Int32} (hin : vp_in x 12) (hd : decode P.2.2.2.2.2.2.1 pc = .ok (.baload, 1)) (k : V P (pc + 1) lv (.int (S.2.2.1 16 x.toNatClampNeg) :: r) S) : V P pc lv (.int x :: .ref (P.1.2.1 16) :: r) S := fun p l e s m args below meth c A H locs ls C hP hS hl => va_zald C.1 C.2.1 C.2.2.2.2.2.2.2.1 hP 16 2 rfl rfl hin hd (k p l e s m args below meth c A H locs ls C hP hS hl)
theorem s_16 {P : PX} {pc : Nat} {lv : LV} {r : List Value} {S : ST} {x : Int32} {y : Int32} (hin : vp_in x 12) (hd : decode P.2.2.2.2.2.2.1 pc = .ok (.bastore, 1)) (k : V P (pc + 1) lv r (setA S 16 x.toNatClampNeg (vp_nar .boolean y))) : V P pc lv (.int y :: .int x :: .ref (P.1.2.1 16) :: r) S := fun p l e s m args below meth c A H locs ls C hP hS hl => va_zast C.1 C.2.1 C.2.2.2.2.2.2.2.1 hP (C.D S) hS 16 2 rfl rfl hin hd (fun H locs hP hD hS => k p l e s m args below meth c A H locs ls C hP hS hl)
theorem n_16 {P : PX} {pc : Nat} {lv : LV} {r : List Value} {S : ST} (hd : decode P.2.2.2.2.2.2.1 pc = .ok (.arraylength, 1)) (k : V P (pc + 1) lv (.int 12 :: r) S) : V P pc lv (.ref (P.1.2.1 16) :: r) S := fun p l e s m args below meth c A H locs ls C hP hS hl => va_alen C.1 C.2.1 C.2.2.2.2.2.2.2.1 hP 16 2 rfl rfl (by rfl) hd (k p l e s m args below meth c A H locs ls C hP hS hl)
theorem l_17 {P : PX} {pc : Nat} {lv : LV} {r : List Value} {S : ST} {x : Int32} (hin : vp_in x 5) (hd : decode P.2.2.2.2.2.2.1 pc = .ok (.iaload, 1)) (k : V P (pc + 1) lv (.int (S.2.2.1 17 x.toNatClampNeg) :: r) S) : V P pc lv (.int x :: .ref (P.1.2.1 17) :: r) S := fun p l e s m args below meth c A H locs ls C hP hS hl => va_iald C.1 C.2.1 C.2.2.2.2.2.2.2.1 hP 17 0 rfl rfl hin hd (k p l e s m args below meth c A H locs ls C hP hS hl)
theorem s_17 {P : PX} {pc : Nat} {lv : LV} {r : List Value} {S : ST} {x : Int32} {y : Int32} (hin : vp_in x 5) (hd : decode P.2.2.2.2.2.2.1 pc = .ok (.iastore, 1)) (k : V P (pc + 1) lv r (setA S 17 x.toNatClampNeg y)) : V P pc lv (.int y :: .int x :: .ref (P.1.2.1 17) :: r) S := fun p l e s m args below meth c A H locs ls C hP hS hl => va_iast C.1 C.2.1 C.2.2.2.2.2.2.2.1 hP (C.D S) hS 17 0 rfl rfl hin hd (fun H locs hP hD hS => k p l e s m args below meth c A H locs ls C hP hS hl)
theorem n_17 {P : PX} {pc : Nat} {lv : LV} {r : List Value} {S : ST} (hd : decode P.2.2.2.2.2.2.1 pc = .ok (.arraylength, 1)) (k : V P (pc + 1) lv (.int 5 :: r) S) : V P pc lv (.ref (P.1.2.1 17) :: r) S := fun p l e s m args below meth c A H locs ls C hP hS hl => va_alen C.1 C.2.1 C.2.2.2.2.2.2.2.1 hP 17 0 rfl rfl (by rfl) hd (k p l e s m args below meth c A H locs ls C hP hS hl)
theorem l_18 {P : PX} {pc : Nat} {lv : LV} {r : List Value} {S : ST} {x : Int32} (hin : vp_in x 210) (hd : decode P.2.2.2.2.2.2.1 pc = .ok (.iaload, 1)) (k : V P (pc + 1) lv (.int (S.2.2.1 18 x.toNatClampNeg) :: r) S) : V P pc lv (.int x :: .ref (P.1.2.1 18) :: r) S := fun p l e s m args below meth c A H locs ls C hP hS hl => va_iald C.1 C.2.1 C.2.2.2.2.2.2.2.1 hP 18 0 rfl rfl hin hd (k p l e s m args below meth c A H locs ls C hP hS hl)
theorem s_18 {P : PX} {pc : Nat} {lv : LV} {r : List Value} {S : ST} {x : Int32} {y : Int32} (hin : vp_in x 210) (hd : decode P.2.2.2.2.2.2.1 pc = .ok (.iastore, 1)) (k : V P (pc + 1) lv r (setA S 18 x.toNatClampNeg y)) : V P pc lv (.int y :: .int x :: .ref (P.1.2.1 18) :: r) S := fun p l e s m args below meth c A H locs ls C hP hS hl => va_iast C.1 C.2.1 C.2.2.2.2.2.2.2.1 hP (C.D S) hS 18 0 rfl rfl hin hd (fun H locs hP hD hS => k p l e s m args below meth c A H locs ls C hP hS hl)
theorem n_18 {P : PX} {pc : Nat} {lv : LV} {r : List Value} {S : ST} (hd : decode P.2.2.2.2.2.2.1 pc = .ok (.arraylength, 1)) (k : V P (pc + 1) lv (.int 210 :: r) S) : V P pc lv (.ref (P.1.2.1 18) :: r) S := fun p l e s m args below meth c A H locs ls C hP hS hl => va_alen C.1 C.2.1 C.2.2.2.2.2.2.2.1 hP 18 0 rfl rfl (by rfl) hd (k p l e s m args below meth c A H locs ls C hP hS hl)
theorem l_19 {P : PX} {pc : Nat} {lv : LV} {r : List Value} {S : ST} {x : Int32} (hin : vp_in x 210) (hd : decode P.2.2.2.2.2.2.1 pc = .ok (.laload, 1)) (k : V P (pc + 1) lv (.long (S.2.2.2 19 x.toNatClampNeg) :: r) S) : V P pc lv (.int x :: .ref (P.1.2.1 19) :: r) S := fun p l e s m args below meth c A H locs ls C hP hS hl => va_lald C.1 C.2.1 C.2.2.2.2.2.2.2.1 hP 19 1 rfl rfl hin hd (k p l e s m args below meth c A H locs ls C hP hS hl)
theorem s_19 {P : PX} {pc : Nat} {lv : LV} {r : List Value} {S : ST} {x : Int32} {y : Int64} (hin : vp_in x 210) (hd : decode P.2.2.2.2.2.2.1 pc = .ok (.lastore, 1)) (k : V P (pc + 1) lv r (setJ S 19 x.toNatClampNeg y)) : V P pc lv (.long y :: .int x :: .ref (P.1.2.1 19) :: r) S := fun p l e s m args below meth c A H locs ls C hP hS hl => va_last C.1 C.2.1 C.2.2.2.2.2.2.2.1 hP (C.D S) hS 19 1 rfl rfl hin hd (fun H locs hP hD hS => k p l e s m args below meth c A H locs ls C hP hS hl)
theorem n_19 {P : PX} {pc : Nat} {lv : LV} {r : List Value} {S : ST} (hd : decode P.2.2.2.2.2.2.1 pc = .ok (.arraylength, 1)) (k : V P (pc + 1) lv (.int 210 :: r) S) : V P pc lv (.ref (P.1.2.1 19) :: r) S := fun p l e s m args below meth c A H locs ls C hP hS hl => va_alen C.1 C.2.1 C.2.2.2.2.2.2.2.1 hP 19 1 rfl rfl (by rfl) hd (k p l e s m args below meth c A H locs ls C hP hS hl)
theorem l_20 {P : PX} {pc : Nat} {lv : LV} {r : List Value} {S : ST} {x : Int32} (hin : vp_in x 210) (hd : decode P.2.2.2.2.2.2.1 pc = .ok (.iaload, 1)) (k : V P (pc + 1) lv (.int (S.2.2.1 20 x.toNatClampNeg) :: r) S) : V P pc lv (.int x :: .ref (P.1.2.1 20) :: r) S := fun p l e s m args below meth c A H locs ls C hP hS hl => va_iald C.1 C.2.1 C.2.2.2.2.2.2.2.1 hP 20 0 rfl rfl hin hd (k p l e s m args below meth c A H locs ls C hP hS hl)
theorem s_20 {P : PX} {pc : Nat} {lv : LV} {r : List Value} {S : ST} {x : Int32} {y : Int32} (hin : vp_in x 210) (hd : decode P.2.2.2.2.2.2.1 pc = .ok (.iastore, 1)) (k : V P (pc + 1) lv r (setA S 20 x.toNatClampNeg y)) : V P pc lv (.int y :: .int x :: .ref (P.1.2.1 20) :: r) S := fun p l e s m args below meth c A H locs ls C hP hS hl => va_iast C.1 C.2.1 C.2.2.2.2.2.2.2.1 hP (C.D S) hS 20 0 rfl rfl hin hd (fun H locs hP hD hS => k p l e s m args below meth c A H locs ls C hP hS hl)
theorem n_20 {P : PX} {pc : Nat} {lv : LV} {r : List Value} {S : ST} (hd : decode P.2.2.2.2.2.2.1 pc = .ok (.arraylength, 1)) (k : V P (pc + 1) lv (.int 210 :: r) S) : V P pc lv (.ref (P.1.2.1 20) :: r) S := fun p l e s m args below meth c A H locs ls C hP hS hl => va_alen C.1 C.2.1 C.2.2.2.2.2.2.2.1 hP 20 0 rfl rfl (by rfl) hd (k p l e s m args below meth c A H locs ls C hP hS hl)
theorem l_21 {P : PX} {pc : Nat} {lv : LV} {r : List Value} {S : ST} {x : Int32} (hin : vp_in x 4096) (hd : decode P.2.2.2.2.2.2.1 pc = .ok (.iaload, 1)) (k : V P (pc + 1) lv (.int (S.2.2.1 21 x.toNatClampNeg) :: r) S) : V P pc lv (.int x :: .ref (P.1.2.1 21) :: r) S := fun p l e s m args below meth c A H locs ls C hP hS hl => va_iald C.1 C.2.1 C.2.2.2.2.2.2.2.1 hP 21 0 rfl rfl hin hd (k p l e s m args below meth c A H locs ls C hP hS hl)
theorem s_21 {P : PX} {pc : Nat} {lv : LV} {r : List Value} {S : ST} {x : Int32} {y : Int32} (hin : vp_in x 4096) (hd : decode P.2.2.2.2.2.2.1 pc = .ok (.iastore, 1)) (k : V P (pc + 1) lv r (setA S 21 x.toNatClampNeg y)) : V P pc lv (.int y :: .int x :: .ref (P.1.2.1 21) :: r) S := fun p l e s m args below meth c A H locs ls C hP hS hl => va_iast C.1 C.2.1 C.2.2.2.2.2.2.2.1 hP (C.D S) hS 21 0 rfl rfl hin hd (fun H locs hP hD hS => k p l e s m args below meth c A H locs ls C hP hS hl)
theorem n_21 {P : PX} {pc : Nat} {lv : LV} {r : List Value} {S : ST} (hd : decode P.2.2.2.2.2.2.1 pc = .ok (.arraylength, 1)) (k : V P (pc + 1) lv (.int 4096 :: r) S) : V P pc lv (.ref (P.1.2.1 21) :: r) S := fun p l e s m args below meth c A H locs ls C hP hS hl => va_alen C.1 C.2.1 C.2.2.2.2.2.2.2.1 hP 21 0 rfl rfl (by rfl) hd (k p l e s m args below meth c A H locs ls C hP hS hl)
theorem l_22 {P : PX} {pc : Nat} {lv : LV} {r : List Value} {S : ST} {x : Int32} (hin : vp_in x 4096) (hd : decode P.2.2.2.2.2.2.1 pc = .ok (.iaload, 1)) (k : V P (pc + 1) lv (.int (S.2.2.1 22 x.toNatClampNeg) :: r) S) : V P pc lv (.int x :: .ref (P.1.2.1 22) :: r) S := fun p l e s m args below meth c A H locs ls C hP hS hl => va_iald C.1 C.2.1 C.2.2.2.2.2.2.2.1 hP 22 0 rfl rfl hin hd (k p l e s m args below meth c A H locs ls C hP hS hl)
theorem s_22 {P : PX} {pc : Nat} {lv : LV} {r : List Value} {S : ST} {x : Int32} {y : Int32} (hin : vp_in x 4096) (hd : decode P.2.2.2.2.2.2.1 pc = .ok (.iastore, 1)) (k : V P (pc + 1) lv r (setA S 22 x.toNatClampNeg y)) : V P pc lv (.int y :: .int x :: .ref (P.1.2.1 22) :: r) S := fun p l e s m args below meth c A H locs ls C hP hS hl => va_iast C.1 C.2.1 C.2.2.2.2.2.2.2.1 hP (C.D S) hS 22 0 rfl rfl hin hd (fun H locs hP hD hS => k p l e s m args below meth c A H locs ls C hP hS hl)
theorem n_22 {P : PX} {pc : Nat} {lv : LV} {r : List Value} {S : ST} (hd : decode P.2.2.2.2.2.2.1 pc = .ok (.arraylength, 1)) (k : V P (pc + 1) lv (.int 4096 :: r) S) : V P pc lv (.ref (P.1.2.1 22) :: r) S := fun p l e s m args below meth c A H locs ls C hP hS hl => va_alen C.1 C.2.1 C.2.2.2.2.2.2.2.1 hP 22 0 rfl rfl (by rfl) hd (k p l e s m args below meth c A H locs ls C hP hS hl)
theorem l_23 {P : PX} {pc : Nat} {lv : LV} {r : List Value} {S : ST} {x : Int32} (hin : vp_in x 40) (hd : decode P.2.2.2.2.2.2.1 pc = .ok (.iaload, 1)) (k : V P (pc + 1) lv (.int (S.2.2.1 23 x.toNatClampNeg) :: r) S) : V P pc lv (.int x :: .ref (P.1.2.1 23) :: r) S := fun p l e s m args below meth c A H locs ls C hP hS hl => va_iald C.1 C.2.1 C.2.2.2.2.2.2.2.1 hP 23 0 rfl rfl hin hd (k p l e s m args below meth c A H locs ls C hP hS hl)
theorem s_23 {P : PX} {pc : Nat} {lv : LV} {r : List Value} {S : ST} {x : Int32} {y : Int32} (hin : vp_in x 40) (hd : decode P.2.2.2.2.2.2.1 pc = .ok (.iastore, 1)) (k : V P (pc + 1) lv r (setA S 23 x.toNatClampNeg y)) : V P pc lv (.int y :: .int x :: .ref (P.1.2.1 23) :: r) S := fun p l e s m args below meth c A H locs ls C hP hS hl => va_iast C.1 C.2.1 C.2.2.2.2.2.2.2.1 hP (C.D S) hS 23 0 rfl rfl hin hd (fun H locs hP hD hS => k p l e s m args below meth c A H locs ls C hP hS hl)
theorem n_23 {P : PX} {pc : Nat} {lv : LV} {r : List Value} {S : ST} (hd : decode P.2.2.2.2.2.2.1 pc = .ok (.arraylength, 1)) (k : V P (pc + 1) lv (.int 40 :: r) S) : V P pc lv (.ref (P.1.2.1 23) :: r) S := fun p l e s m args below meth c A H locs ls C hP hS hl => va_alen C.1 C.2.1 C.2.2.2.2.2.2.2.1 hP 23 0 rfl rfl (by rfl) hd (k p l e s m args below meth c A H locs ls C hP hS hl)
theorem l_24 {P : PX} {pc : Nat} {lv : LV} {r : List Value} {S : ST} {x : Int32} (hin : vp_in x 42) (hd : decode P.2.2.2.2.2.2.1 pc = .ok (.iaload, 1)) (k : V P (pc + 1) lv (.int (S.2.2.1 24 x.toNatClampNeg) :: r) S) : V P pc lv (.int x :: .ref (P.1.2.1 24) :: r) S := fun p l e s m args below meth c A H locs ls C hP hS hl => va_iald C.1 C.2.1 C.2.2.2.2.2.2.2.1 hP 24 0 rfl rfl hin hd (k p l e s m args below meth c A H locs ls C hP hS hl)
theorem s_24 {P : PX} {pc : Nat} {lv : LV} {r : List Value} {S : ST} {x : Int32} {y : Int32} (hin : vp_in x 42) (hd : decode P.2.2.2.2.2.2.1 pc = .ok (.iastore, 1)) (k : V P (pc + 1) lv r (setA S 24 x.toNatClampNeg y)) : V P pc lv (.int y :: .int x :: .ref (P.1.2.1 24) :: r) S := fun p l e s m args below meth c A H locs ls C hP hS hl => va_iast C.1 C.2.1 C.2.2.2.2.2.2.2.1 hP (C.D S) hS 24 0 rfl rfl hin hd (fun H locs hP hD hS => k p l e s m args below meth c A H locs ls C hP hS hl)
theorem n_24 {P : PX} {pc : Nat} {lv : LV} {r : List Value} {S : ST} (hd : decode P.2.2.2.2.2.2.1 pc = .ok (.arraylength, 1)) (k : V P (pc + 1) lv (.int 42 :: r) S) : V P pc lv (.ref (P.1.2.1 24) :: r) S := fun p l e s m args below meth c A H locs ls C hP hS hl => va_alen C.1 C.2.1 C.2.2.2.2.2.2.2.1 hP 24 0 rfl rfl (by rfl) hd (k p l e s m args below meth c A H locs ls C hP hS hl)
theorem l_25 {P : PX} {pc : Nat} {lv : LV} {r : List Value} {S : ST} {x : Int32} (hin : vp_in x 64) (hd : decode P.2.2.2.2.2.2.1 pc = .ok (.laload, 1)) (k : V P (pc + 1) lv (.long (S.2.2.2 25 x.toNatClampNeg) :: r) S) : V P pc lv (.int x :: .ref (P.1.2.1 25) :: r) S := fun p l e s m args below meth c A H locs ls C hP hS hl => va_lald C.1 C.2.1 C.2.2.2.2.2.2.2.1 hP 25 1 rfl rfl hin hd (k p l e s m args below meth c A H locs ls C hP hS hl)
theorem s_25 {P : PX} {pc : Nat} {lv : LV} {r : List Value} {S : ST} {x : Int32} {y : Int64} (hin : vp_in x 64) (hd : decode P.2.2.2.2.2.2.1 pc = .ok (.lastore, 1)) (k : V P (pc + 1) lv r (setJ S 25 x.toNatClampNeg y)) : V P pc lv (.long y :: .int x :: .ref (P.1.2.1 25) :: r) S := fun p l e s m args below meth c A H locs ls C hP hS hl => va_last C.1 C.2.1 C.2.2.2.2.2.2.2.1 hP (C.D S) hS 25 1 rfl rfl hin hd (fun H locs hP hD hS => k p l e s m args below meth c A H locs ls C hP hS hl)
theorem n_25 {P : PX} {pc : Nat} {lv : LV} {r : List Value} {S : ST} (hd : decode P.2.2.2.2.2.2.1 pc = .ok (.arraylength, 1)) (k : V P (pc + 1) lv (.int 64 :: r) S) : V P pc lv (.ref (P.1.2.1 25) :: r) S := fun p l e s m args below meth c A H locs ls C hP hS hl => va_alen C.1 C.2.1 C.2.2.2.2.2.2.2.1 hP 25 1 rfl rfl (by rfl) hd (k p l e s m args below meth c A H locs ls C hP hS hl)
theorem l_26 {P : PX} {pc : Nat} {lv : LV} {r : List Value} {S : ST} {x : Int32} (hin : vp_in x 40) (hd : decode P.2.2.2.2.2.2.1 pc = .ok (.laload, 1)) (k : V P (pc + 1) lv (.long (S.2.2.2 26 x.toNatClampNeg) :: r) S) : V P pc lv (.int x :: .ref (P.1.2.1 26) :: r) S := fun p l e s m args below meth c A H locs ls C hP hS hl => va_lald C.1 C.2.1 C.2.2.2.2.2.2.2.1 hP 26 1 rfl rfl hin hd (k p l e s m args below meth c A H locs ls C hP hS hl)
theorem s_26 {P : PX} {pc : Nat} {lv : LV} {r : List Value} {S : ST} {x : Int32} {y : Int64} (hin : vp_in x 40) (hd : decode P.2.2.2.2.2.2.1 pc = .ok (.lastore, 1)) (k : V P (pc + 1) lv r (setJ S 26 x.toNatClampNeg y)) : V P pc lv (.long y :: .int x :: .ref (P.1.2.1 26) :: r) S := fun p l e s m args below meth c A H locs ls C hP hS hl => va_last C.1 C.2.1 C.2.2.2.2.2.2.2.1 hP (C.D S) hS 26 1 rfl rfl hin hd (fun H locs hP hD hS => k p l e s m args below meth c A H locs ls C hP hS hl)
theorem n_26 {P : PX} {pc : Nat} {lv : LV} {r : List Value} {S : ST} (hd : decode P.2.2.2.2.2.2.1 pc = .ok (.arraylength, 1)) (k : V P (pc + 1) lv (.int 40 :: r) S) : V P pc lv (.ref (P.1.2.1 26) :: r) S := fun p l e s m args below meth c A H locs ls C hP hS hl => va_alen C.1 C.2.1 C.2.2.2.2.2.2.2.1 hP 26 1 rfl rfl (by rfl) hd (k p l e s m args below meth c A H locs ls C hP hS hl)
theorem l_27 {P : PX} {pc : Nat} {lv : LV} {r : List Value} {S : ST} {x : Int32} (hin : vp_in x 64) (hd : decode P.2.2.2.2.2.2.1 pc = .ok (.laload, 1)) (k : V P (pc + 1) lv (.long (S.2.2.2 27 x.toNatClampNeg) :: r) S) : V P pc lv (.int x :: .ref (P.1.2.1 27) :: r) S := fun p l e s m args below meth c A H locs ls C hP hS hl => va_lald C.1 C.2.1 C.2.2.2.2.2.2.2.1 hP 27 1 rfl rfl hin hd (k p l e s m args below meth c A H locs ls C hP hS hl)
theorem s_27 {P : PX} {pc : Nat} {lv : LV} {r : List Value} {S : ST} {x : Int32} {y : Int64} (hin : vp_in x 64) (hd : decode P.2.2.2.2.2.2.1 pc = .ok (.lastore, 1)) (k : V P (pc + 1) lv r (setJ S 27 x.toNatClampNeg y)) : V P pc lv (.long y :: .int x :: .ref (P.1.2.1 27) :: r) S := fun p l e s m args below meth c A H locs ls C hP hS hl => va_last C.1 C.2.1 C.2.2.2.2.2.2.2.1 hP (C.D S) hS 27 1 rfl rfl hin hd (fun H locs hP hD hS => k p l e s m args below meth c A H locs ls C hP hS hl)
theorem n_27 {P : PX} {pc : Nat} {lv : LV} {r : List Value} {S : ST} (hd : decode P.2.2.2.2.2.2.1 pc = .ok (.arraylength, 1)) (k : V P (pc + 1) lv (.int 64 :: r) S) : V P pc lv (.ref (P.1.2.1 27) :: r) S := fun p l e s m args below meth c A H locs ls C hP hS hl => va_alen C.1 C.2.1 C.2.2.2.2.2.2.2.1 hP 27 1 rfl rfl (by rfl) hd (k p l e s m args below meth c A H locs ls C hP hS hl)
theorem l_28 {P : PX} {pc : Nat} {lv : LV} {r : List Value} {S : ST} {x : Int32} (hin : vp_in x 64) (hd : decode P.2.2.2.2.2.2.1 pc = .ok (.laload, 1)) (k : V P (pc + 1) lv (.long (S.2.2.2 28 x.toNatClampNeg) :: r) S) : V P pc lv (.int x :: .ref (P.1.2.1 28) :: r) S := fun p l e s m args below meth c A H locs ls C hP hS hl => va_lald C.1 C.2.1 C.2.2.2.2.2.2.2.1 hP 28 1 rfl rfl hin hd (k p l e s m args below meth c A H locs ls C hP hS hl)
theorem s_28 {P : PX} {pc : Nat} {lv : LV} {r : List Value} {S : ST} {x : Int32} {y : Int64} (hin : vp_in x 64) (hd : decode P.2.2.2.2.2.2.1 pc = .ok (.lastore, 1)) (k : V P (pc + 1) lv r (setJ S 28 x.toNatClampNeg y)) : V P pc lv (.long y :: .int x :: .ref (P.1.2.1 28) :: r) S := fun p l e s m args below meth c A H locs ls C hP hS hl => va_last C.1 C.2.1 C.2.2.2.2.2.2.2.1 hP (C.D S) hS 28 1 rfl rfl hin hd (fun H locs hP hD hS => k p l e s m args below meth c A H locs ls C hP hS hl)
theorem n_28 {P : PX} {pc : Nat} {lv : LV} {r : List Value} {S : ST} (hd : decode P.2.2.2.2.2.2.1 pc = .ok (.arraylength, 1)) (k : V P (pc + 1) lv (.int 64 :: r) S) : V P pc lv (.ref (P.1.2.1 28) :: r) S := fun p l e s m args below meth c A H locs ls C hP hS hl => va_alen C.1 C.2.1 C.2.2.2.2.2.2.2.1 hP 28 1 rfl rfl (by rfl) hd (k p l e s m args below meth c A H locs ls C hP hS hl)
theorem l_30 {P : PX} {pc : Nat} {lv : LV} {r : List Value} {S : ST} {x : Int32} (hin : vp_in x 12) (hd : decode P.2.2.2.2.2.2.1 pc = .ok (.iaload, 1)) (k : V P (pc + 1) lv (.int (S.2.2.1 30 x.toNatClampNeg) :: r) S) : V P pc lv (.int x :: .ref (P.1.2.1 30) :: r) S := fun p l e s m args below meth c A H locs ls C hP hS hl => va_iald C.1 C.2.1 C.2.2.2.2.2.2.2.1 hP 30 0 rfl rfl hin hd (k p l e s m args below meth c A H locs ls C hP hS hl)
theorem s_30 {P : PX} {pc : Nat} {lv : LV} {r : List Value} {S : ST} {x : Int32} {y : Int32} (hin : vp_in x 12) (hd : decode P.2.2.2.2.2.2.1 pc = .ok (.iastore, 1)) (k : V P (pc + 1) lv r (setA S 30 x.toNatClampNeg y)) : V P pc lv (.int y :: .int x :: .ref (P.1.2.1 30) :: r) S := fun p l e s m args below meth c A H locs ls C hP hS hl => va_iast C.1 C.2.1 C.2.2.2.2.2.2.2.1 hP (C.D S) hS 30 0 rfl rfl hin hd (fun H locs hP hD hS => k p l e s m args below meth c A H locs ls C hP hS hl)
theorem n_30 {P : PX} {pc : Nat} {lv : LV} {r : List Value} {S : ST} (hd : decode P.2.2.2.2.2.2.1 pc = .ok (.arraylength, 1)) (k : V P (pc + 1) lv (.int 12 :: r) S) : V P pc lv (.ref (P.1.2.1 30) :: r) S := fun p l e s m args below meth c A H locs ls C hP hS hl => va_alen C.1 C.2.1 C.2.2.2.2.2.2.2.1 hP 30 0 rfl rfl (by rfl) hd (k p l e s m args below meth c A H locs ls C hP hS hl)
theorem l_31 {P : PX} {pc : Nat} {lv : LV} {r : List Value} {S : ST} {x : Int32} (hin : vp_in x 12) (hd : decode P.2.2.2.2.2.2.1 pc = .ok (.iaload, 1)) (k : V P (pc + 1) lv (.int (S.2.2.1 31 x.toNatClampNeg) :: r) S) : V P pc lv (.int x :: .ref (P.1.2.1 31) :: r) S := fun p l e s m args below meth c A H locs ls C hP hS hl => va_iald C.1 C.2.1 C.2.2.2.2.2.2.2.1 hP 31 0 rfl rfl hin hd (k p l e s m args below meth c A H locs ls C hP hS hl)
theorem s_31 {P : PX} {pc : Nat} {lv : LV} {r : List Value} {S : ST} {x : Int32} {y : Int32} (hin : vp_in x 12) (hd : decode P.2.2.2.2.2.2.1 pc = .ok (.iastore, 1)) (k : V P (pc + 1) lv r (setA S 31 x.toNatClampNeg y)) : V P pc lv (.int y :: .int x :: .ref (P.1.2.1 31) :: r) S := fun p l e s m args below meth c A H locs ls C hP hS hl => va_iast C.1 C.2.1 C.2.2.2.2.2.2.2.1 hP (C.D S) hS 31 0 rfl rfl hin hd (fun H locs hP hD hS => k p l e s m args below meth c A H locs ls C hP hS hl)
theorem n_31 {P : PX} {pc : Nat} {lv : LV} {r : List Value} {S : ST} (hd : decode P.2.2.2.2.2.2.1 pc = .ok (.arraylength, 1)) (k : V P (pc + 1) lv (.int 12 :: r) S) : V P pc lv (.ref (P.1.2.1 31) :: r) S := fun p l e s m args below meth c A H locs ls C hP hS hl => va_alen C.1 C.2.1 C.2.2.2.2.2.2.2.1 hP 31 0 rfl rfl (by rfl) hd (k p l e s m args below meth c A H locs ls C hP hS hl)
theorem l_32 {P : PX} {pc : Nat} {lv : LV} {r : List Value} {S : ST} {x : Int32} (hin : vp_in x 12) (hd : decode P.2.2.2.2.2.2.1 pc = .ok (.iaload, 1)) (k : V P (pc + 1) lv (.int (S.2.2.1 32 x.toNatClampNeg) :: r) S) : V P pc lv (.int x :: .ref (P.1.2.1 32) :: r) S := fun p l e s m args below meth c A H locs ls C hP hS hl => va_iald C.1 C.2.1 C.2.2.2.2.2.2.2.1 hP 32 0 rfl rfl hin hd (k p l e s m args below meth c A H locs ls C hP hS hl)
theorem s_32 {P : PX} {pc : Nat} {lv : LV} {r : List Value} {S : ST} {x : Int32} {y : Int32} (hin : vp_in x 12) (hd : decode P.2.2.2.2.2.2.1 pc = .ok (.iastore, 1)) (k : V P (pc + 1) lv r (setA S 32 x.toNatClampNeg y)) : V P pc lv (.int y :: .int x :: .ref (P.1.2.1 32) :: r) S := fun p l e s m args below meth c A H locs ls C hP hS hl => va_iast C.1 C.2.1 C.2.2.2.2.2.2.2.1 hP (C.D S) hS 32 0 rfl rfl hin hd (fun H locs hP hD hS => k p l e s m args below meth c A H locs ls C hP hS hl)
theorem n_32 {P : PX} {pc : Nat} {lv : LV} {r : List Value} {S : ST} (hd : decode P.2.2.2.2.2.2.1 pc = .ok (.arraylength, 1)) (k : V P (pc + 1) lv (.int 12 :: r) S) : V P pc lv (.ref (P.1.2.1 32) :: r) S := fun p l e s m args below meth c A H locs ls C hP hS hl => va_alen C.1 C.2.1 C.2.2.2.2.2.2.2.1 hP 32 0 rfl rfl (by rfl) hd (k p l e s m args below meth c A H locs ls C hP hS hl)
theorem l_33 {P : PX} {pc : Nat} {lv : LV} {r : List Value} {S : ST} {x : Int32} (hin : vp_in x 12) (hd : decode P.2.2.2.2.2.2.1 pc = .ok (.iaload, 1)) (k : V P (pc + 1) lv (.int (S.2.2.1 33 x.toNatClampNeg) :: r) S) : V P pc lv (.int x :: .ref (P.1.2.1 33) :: r) S := fun p l e s m args below meth c A H locs ls C hP hS hl => va_iald C.1 C.2.1 C.2.2.2.2.2.2.2.1 hP 33 0 rfl rfl hin hd (k p l e s m args below meth c A H locs ls C hP hS hl)
theorem s_33 {P : PX} {pc : Nat} {lv : LV} {r : List Value} {S : ST} {x : Int32} {y : Int32} (hin : vp_in x 12) (hd : decode P.2.2.2.2.2.2.1 pc = .ok (.iastore, 1)) (k : V P (pc + 1) lv r (setA S 33 x.toNatClampNeg y)) : V P pc lv (.int y :: .int x :: .ref (P.1.2.1 33) :: r) S := fun p l e s m args below meth c A H locs ls C hP hS hl => va_iast C.1 C.2.1 C.2.2.2.2.2.2.2.1 hP (C.D S) hS 33 0 rfl rfl hin hd (fun H locs hP hD hS => k p l e s m args below meth c A H locs ls C hP hS hl)
theorem n_33 {P : PX} {pc : Nat} {lv : LV} {r : List Value} {S : ST} (hd : decode P.2.2.2.2.2.2.1 pc = .ok (.arraylength, 1)) (k : V P (pc + 1) lv (.int 12 :: r) S) : V P pc lv (.ref (P.1.2.1 33) :: r) S := fun p l e s m args below meth c A H locs ls C hP hS hl => va_alen C.1 C.2.1 C.2.2.2.2.2.2.2.1 hP 33 0 rfl rfl (by rfl) hd (k p l e s m args below meth c A H locs ls C hP hS hl)
theorem l_34 {P : PX} {pc : Nat} {lv : LV} {r : List Value} {S : ST} {x : Int32} (hin : vp_in x 12) (hd : decode P.2.2.2.2.2.2.1 pc = .ok (.baload, 1)) (k : V P (pc + 1) lv (.int (S.2.2.1 34 x.toNatClampNeg) :: r) S) : V P pc lv (.int x :: .ref (P.1.2.1 34) :: r) S := fun p l e s m args below meth c A H locs ls C hP hS hl => va_zald C.1 C.2.1 C.2.2.2.2.2.2.2.1 hP 34 2 rfl rfl hin hd (k p l e s m args below meth c A H locs ls C hP hS hl)
theorem s_34 {P : PX} {pc : Nat} {lv : LV} {r : List Value} {S : ST} {x : Int32} {y : Int32} (hin : vp_in x 12) (hd : decode P.2.2.2.2.2.2.1 pc = .ok (.bastore, 1)) (k : V P (pc + 1) lv r (setA S 34 x.toNatClampNeg (vp_nar .boolean y))) : V P pc lv (.int y :: .int x :: .ref (P.1.2.1 34) :: r) S := fun p l e s m args below meth c A H locs ls C hP hS hl => va_zast C.1 C.2.1 C.2.2.2.2.2.2.2.1 hP (C.D S) hS 34 2 rfl rfl hin hd (fun H locs hP hD hS => k p l e s m args below meth c A H locs ls C hP hS hl)
theorem n_34 {P : PX} {pc : Nat} {lv : LV} {r : List Value} {S : ST} (hd : decode P.2.2.2.2.2.2.1 pc = .ok (.arraylength, 1)) (k : V P (pc + 1) lv (.int 12 :: r) S) : V P pc lv (.ref (P.1.2.1 34) :: r) S := fun p l e s m args below meth c A H locs ls C hP hS hl => va_alen C.1 C.2.1 C.2.2.2.2.2.2.2.1 hP 34 2 rfl rfl (by rfl) hd (k p l e s m args below meth c A H locs ls C hP hS hl)
theorem l_35 {P : PX} {pc : Nat} {lv : LV} {r : List Value} {S : ST} {x : Int32} (hin : vp_in x 12) (hd : decode P.2.2.2.2.2.2.1 pc = .ok (.iaload, 1)) (k : V P (pc + 1) lv (.int (S.2.2.1 35 x.toNatClampNeg) :: r) S) : V P pc lv (.int x :: .ref (P.1.2.1 35) :: r) S := fun p l e s m args below meth c A H locs ls C hP hS hl => va_iald C.1 C.2.1 C.2.2.2.2.2.2.2.1 hP 35 0 rfl rfl hin hd (k p l e s m args below meth c A H locs ls C hP hS hl)
theorem s_35 {P : PX} {pc : Nat} {lv : LV} {r : List Value} {S : ST} {x : Int32} {y : Int32} (hin : vp_in x 12) (hd : decode P.2.2.2.2.2.2.1 pc = .ok (.iastore, 1)) (k : V P (pc + 1) lv r (setA S 35 x.toNatClampNeg y)) : V P pc lv (.int y :: .int x :: .ref (P.1.2.1 35) :: r) S := fun p l e s m args below meth c A H locs ls C hP hS hl => va_iast C.1 C.2.1 C.2.2.2.2.2.2.2.1 hP (C.D S) hS 35 0 rfl rfl hin hd (fun H locs hP hD hS => k p l e s m args below meth c A H locs ls C hP hS hl)
theorem n_35 {P : PX} {pc : Nat} {lv : LV} {r : List Value} {S : ST} (hd : decode P.2.2.2.2.2.2.1 pc = .ok (.arraylength, 1)) (k : V P (pc + 1) lv (.int 12 :: r) S) : V P pc lv (.ref (P.1.2.1 35) :: r) S := fun p l e s m args below meth c A H locs ls C hP hS hl => va_alen C.1 C.2.1 C.2.2.2.2.2.2.2.1 hP 35 0 rfl rfl (by rfl) hd (k p l e s m args below meth c A H locs ls C hP hS hl)
theorem l_36 {P : PX} {pc : Nat} {lv : LV} {r : List Value} {S : ST} {x : Int32} (hin : vp_in x 12) (hd : decode P.2.2.2.2.2.2.1 pc = .ok (.baload, 1)) (k : V P (pc + 1) lv (.int (S.2.2.1 36 x.toNatClampNeg) :: r) S) : V P pc lv (.int x :: .ref (P.1.2.1 36) :: r) S := fun p l e s m args below meth c A H locs ls C hP hS hl => va_zald C.1 C.2.1 C.2.2.2.2.2.2.2.1 hP 36 2 rfl rfl hin hd (k p l e s m args below meth c A H locs ls C hP hS hl)
theorem s_36 {P : PX} {pc : Nat} {lv : LV} {r : List Value} {S : ST} {x : Int32} {y : Int32} (hin : vp_in x 12) (hd : decode P.2.2.2.2.2.2.1 pc = .ok (.bastore, 1)) (k : V P (pc + 1) lv r (setA S 36 x.toNatClampNeg (vp_nar .boolean y))) : V P pc lv (.int y :: .int x :: .ref (P.1.2.1 36) :: r) S := fun p l e s m args below meth c A H locs ls C hP hS hl => va_zast C.1 C.2.1 C.2.2.2.2.2.2.2.1 hP (C.D S) hS 36 2 rfl rfl hin hd (fun H locs hP hD hS => k p l e s m args below meth c A H locs ls C hP hS hl)
theorem n_36 {P : PX} {pc : Nat} {lv : LV} {r : List Value} {S : ST} (hd : decode P.2.2.2.2.2.2.1 pc = .ok (.arraylength, 1)) (k : V P (pc + 1) lv (.int 12 :: r) S) : V P pc lv (.ref (P.1.2.1 36) :: r) S := fun p l e s m args below meth c A H locs ls C hP hS hl => va_alen C.1 C.2.1 C.2.2.2.2.2.2.2.1 hP 36 2 rfl rfl (by rfl) hd (k p l e s m args below meth c A H locs ls C hP hS hl)
theorem l_37 {P : PX} {pc : Nat} {lv : LV} {r : List Value} {S : ST} {x : Int32} (hin : vp_in x 5) (hd : decode P.2.2.2.2.2.2.1 pc = .ok (.iaload, 1)) (k : V P (pc + 1) lv (.int (S.2.2.1 37 x.toNatClampNeg) :: r) S) : V P pc lv (.int x :: .ref (P.1.2.1 37) :: r) S := fun p l e s m args below meth c A H locs ls C hP hS hl => va_iald C.1 C.2.1 C.2.2.2.2.2.2.2.1 hP 37 0 rfl rfl hin hd (k p l e s m args below meth c A H locs ls C hP hS hl)
theorem s_37 {P : PX} {pc : Nat} {lv : LV} {r : List Value} {S : ST} {x : Int32} {y : Int32} (hin : vp_in x 5) (hd : decode P.2.2.2.2.2.2.1 pc = .ok (.iastore, 1)) (k : V P (pc + 1) lv r (setA S 37 x.toNatClampNeg y)) : V P pc lv (.int y :: .int x :: .ref (P.1.2.1 37) :: r) S := fun p l e s m args below meth c A H locs ls C hP hS hl => va_iast C.1 C.2.1 C.2.2.2.2.2.2.2.1 hP (C.D S) hS 37 0 rfl rfl hin hd (fun H locs hP hD hS => k p l e s m args below meth c A H locs ls C hP hS hl)
theorem n_37 {P : PX} {pc : Nat} {lv : LV} {r : List Value} {S : ST} (hd : decode P.2.2.2.2.2.2.1 pc = .ok (.arraylength, 1)) (k : V P (pc + 1) lv (.int 5 :: r) S) : V P pc lv (.ref (P.1.2.1 37) :: r) S := fun p l e s m args below meth c A H locs ls C hP hS hl => va_alen C.1 C.2.1 C.2.2.2.2.2.2.2.1 hP 37 0 rfl rfl (by rfl) hd (k p l e s m args below meth c A H locs ls C hP hS hl)
theorem l_38 {P : PX} {pc : Nat} {lv : LV} {r : List Value} {S : ST} {x : Int32} (hin : vp_in x 40) (hd : decode P.2.2.2.2.2.2.1 pc = .ok (.iaload, 1)) (k : V P (pc + 1) lv (.int (S.2.2.1 38 x.toNatClampNeg) :: r) S) : V P pc lv (.int x :: .ref (P.1.2.1 38) :: r) S := fun p l e s m args below meth c A H locs ls C hP hS hl => va_iald C.1 C.2.1 C.2.2.2.2.2.2.2.1 hP 38 0 rfl rfl hin hd (k p l e s m args below meth c A H locs ls C hP hS hl)
theorem s_38 {P : PX} {pc : Nat} {lv : LV} {r : List Value} {S : ST} {x : Int32} {y : Int32} (hin : vp_in x 40) (hd : decode P.2.2.2.2.2.2.1 pc = .ok (.iastore, 1)) (k : V P (pc + 1) lv r (setA S 38 x.toNatClampNeg y)) : V P pc lv (.int y :: .int x :: .ref (P.1.2.1 38) :: r) S := fun p l e s m args below meth c A H locs ls C hP hS hl => va_iast C.1 C.2.1 C.2.2.2.2.2.2.2.1 hP (C.D S) hS 38 0 rfl rfl hin hd (fun H locs hP hD hS => k p l e s m args below meth c A H locs ls C hP hS hl)
theorem n_38 {P : PX} {pc : Nat} {lv : LV} {r : List Value} {S : ST} (hd : decode P.2.2.2.2.2.2.1 pc = .ok (.arraylength, 1)) (k : V P (pc + 1) lv (.int 40 :: r) S) : V P pc lv (.ref (P.1.2.1 38) :: r) S := fun p l e s m args below meth c A H locs ls C hP hS hl => va_alen C.1 C.2.1 C.2.2.2.2.2.2.2.1 hP 38 0 rfl rfl (by rfl) hd (k p l e s m args below meth c A H locs ls C hP hS hl)
theorem l_39 {P : PX} {pc : Nat} {lv : LV} {r : List Value} {S : ST} {x : Int32} (hin : vp_in x 40) (hd : decode P.2.2.2.2.2.2.1 pc = .ok (.iaload, 1)) (k : V P (pc + 1) lv (.int (S.2.2.1 39 x.toNatClampNeg) :: r) S) : V P pc lv (.int x :: .ref (P.1.2.1 39) :: r) S := fun p l e s m args below meth c A H locs ls C hP hS hl => va_iald C.1 C.2.1 C.2.2.2.2.2.2.2.1 hP 39 0 rfl rfl hin hd (k p l e s m args below meth c A H locs ls C hP hS hl)
theorem s_39 {P : PX} {pc : Nat} {lv : LV} {r : List Value} {S : ST} {x : Int32} {y : Int32} (hin : vp_in x 40) (hd : decode P.2.2.2.2.2.2.1 pc = .ok (.iastore, 1)) (k : V P (pc + 1) lv r (setA S 39 x.toNatClampNeg y)) : V P pc lv (.int y :: .int x :: .ref (P.1.2.1 39) :: r) S := fun p l e s m args below meth c A H locs ls C hP hS hl => va_iast C.1 C.2.1 C.2.2.2.2.2.2.2.1 hP (C.D S) hS 39 0 rfl rfl hin hd (fun H locs hP hD hS => k p l e s m args below meth c A H locs ls C hP hS hl)
theorem n_39 {P : PX} {pc : Nat} {lv : LV} {r : List Value} {S : ST} (hd : decode P.2.2.2.2.2.2.1 pc = .ok (.arraylength, 1)) (k : V P (pc + 1) lv (.int 40 :: r) S) : V P pc lv (.ref (P.1.2.1 39) :: r) S := fun p l e s m args below meth c A H locs ls C hP hS hl => va_alen C.1 C.2.1 C.2.2.2.2.2.2.2.1 hP 39 0 rfl rfl (by rfl) hd (k p l e s m args below meth c A H locs ls C hP hS hl)
theorem l_40 {P : PX} {pc : Nat} {lv : LV} {r : List Value} {S : ST} {x : Int32} (hin : vp_in x 210) (hd : decode P.2.2.2.2.2.2.1 pc = .ok (.iaload, 1)) (k : V P (pc + 1) lv (.int (S.2.2.1 40 x.toNatClampNeg) :: r) S) : V P pc lv (.int x :: .ref (P.1.2.1 40) :: r) S := fun p l e s m args below meth c A H locs ls C hP hS hl => va_iald C.1 C.2.1 C.2.2.2.2.2.2.2.1 hP 40 0 rfl rfl hin hd (k p l e s m args below meth c A H locs ls C hP hS hl)
theorem s_40 {P : PX} {pc : Nat} {lv : LV} {r : List Value} {S : ST} {x : Int32} {y : Int32} (hin : vp_in x 210) (hd : decode P.2.2.2.2.2.2.1 pc = .ok (.iastore, 1)) (k : V P (pc + 1) lv r (setA S 40 x.toNatClampNeg y)) : V P pc lv (.int y :: .int x :: .ref (P.1.2.1 40) :: r) S := fun p l e s m args below meth c A H locs ls C hP hS hl => va_iast C.1 C.2.1 C.2.2.2.2.2.2.2.1 hP (C.D S) hS 40 0 rfl rfl hin hd (fun H locs hP hD hS => k p l e s m args below meth c A H locs ls C hP hS hl)
theorem n_40 {P : PX} {pc : Nat} {lv : LV} {r : List Value} {S : ST} (hd : decode P.2.2.2.2.2.2.1 pc = .ok (.arraylength, 1)) (k : V P (pc + 1) lv (.int 210 :: r) S) : V P pc lv (.ref (P.1.2.1 40) :: r) S := fun p l e s m args below meth c A H locs ls C hP hS hl => va_alen C.1 C.2.1 C.2.2.2.2.2.2.2.1 hP 40 0 rfl rfl (by rfl) hd (k p l e s m args below meth c A H locs ls C hP hS hl)
theorem l_41 {P : PX} {pc : Nat} {lv : LV} {r : List Value} {S : ST} {x : Int32} (hin : vp_in x 210) (hd : decode P.2.2.2.2.2.2.1 pc = .ok (.iaload, 1)) (k : V P (pc + 1) lv (.int (S.2.2.1 41 x.toNatClampNeg) :: r) S) : V P pc lv (.int x :: .ref (P.1.2.1 41) :: r) S := fun p l e s m args below meth c A H locs ls C hP hS hl => va_iald C.1 C.2.1 C.2.2.2.2.2.2.2.1 hP 41 0 rfl rfl hin hd (k p l e s m args below meth c A H locs ls C hP hS hl)
theorem s_41 {P : PX} {pc : Nat} {lv : LV} {r : List Value} {S : ST} {x : Int32} {y : Int32} (hin : vp_in x 210) (hd : decode P.2.2.2.2.2.2.1 pc = .ok (.iastore, 1)) (k : V P (pc + 1) lv r (setA S 41 x.toNatClampNeg y)) : V P pc lv (.int y :: .int x :: .ref (P.1.2.1 41) :: r) S := fun p l e s m args below meth c A H locs ls C hP hS hl => va_iast C.1 C.2.1 C.2.2.2.2.2.2.2.1 hP (C.D S) hS 41 0 rfl rfl hin hd (fun H locs hP hD hS => k p l e s m args below meth c A H locs ls C hP hS hl)
theorem n_41 {P : PX} {pc : Nat} {lv : LV} {r : List Value} {S : ST} (hd : decode P.2.2.2.2.2.2.1 pc = .ok (.arraylength, 1)) (k : V P (pc + 1) lv (.int 210 :: r) S) : V P pc lv (.ref (P.1.2.1 41) :: r) S := fun p l e s m args below meth c A H locs ls C hP hS hl => va_alen C.1 C.2.1 C.2.2.2.2.2.2.2.1 hP 41 0 rfl rfl (by rfl) hd (k p l e s m args below meth c A H locs ls C hP hS hl)
theorem l_42 {P : PX} {pc : Nat} {lv : LV} {r : List Value} {S : ST} {x : Int32} (hin : vp_in x 210) (hd : decode P.2.2.2.2.2.2.1 pc = .ok (.iaload, 1)) (k : V P (pc + 1) lv (.int (S.2.2.1 42 x.toNatClampNeg) :: r) S) : V P pc lv (.int x :: .ref (P.1.2.1 42) :: r) S := fun p l e s m args below meth c A H locs ls C hP hS hl => va_iald C.1 C.2.1 C.2.2.2.2.2.2.2.1 hP 42 0 rfl rfl hin hd (k p l e s m args below meth c A H locs ls C hP hS hl)
theorem s_42 {P : PX} {pc : Nat} {lv : LV} {r : List Value} {S : ST} {x : Int32} {y : Int32} (hin : vp_in x 210) (hd : decode P.2.2.2.2.2.2.1 pc = .ok (.iastore, 1)) (k : V P (pc + 1) lv r (setA S 42 x.toNatClampNeg y)) : V P pc lv (.int y :: .int x :: .ref (P.1.2.1 42) :: r) S := fun p l e s m args below meth c A H locs ls C hP hS hl => va_iast C.1 C.2.1 C.2.2.2.2.2.2.2.1 hP (C.D S) hS 42 0 rfl rfl hin hd (fun H locs hP hD hS => k p l e s m args below meth c A H locs ls C hP hS hl)
theorem n_42 {P : PX} {pc : Nat} {lv : LV} {r : List Value} {S : ST} (hd : decode P.2.2.2.2.2.2.1 pc = .ok (.arraylength, 1)) (k : V P (pc + 1) lv (.int 210 :: r) S) : V P pc lv (.ref (P.1.2.1 42) :: r) S := fun p l e s m args below meth c A H locs ls C hP hS hl => va_alen C.1 C.2.1 C.2.2.2.2.2.2.2.1 hP 42 0 rfl rfl (by rfl) hd (k p l e s m args below meth c A H locs ls C hP hS hl)
theorem l_43 {P : PX} {pc : Nat} {lv : LV} {r : List Value} {S : ST} {x : Int32} (hin : vp_in x 210) (hd : decode P.2.2.2.2.2.2.1 pc = .ok (.laload, 1)) (k : V P (pc + 1) lv (.long (S.2.2.2 43 x.toNatClampNeg) :: r) S) : V P pc lv (.int x :: .ref (P.1.2.1 43) :: r) S := fun p l e s m args below meth c A H locs ls C hP hS hl => va_lald C.1 C.2.1 C.2.2.2.2.2.2.2.1 hP 43 1 rfl rfl hin hd (k p l e s m args below meth c A H locs ls C hP hS hl)
theorem s_43 {P : PX} {pc : Nat} {lv : LV} {r : List Value} {S : ST} {x : Int32} {y : Int64} (hin : vp_in x 210) (hd : decode P.2.2.2.2.2.2.1 pc = .ok (.lastore, 1)) (k : V P (pc + 1) lv r (setJ S 43 x.toNatClampNeg y)) : V P pc lv (.long y :: .int x :: .ref (P.1.2.1 43) :: r) S := fun p l e s m args below meth c A H locs ls C hP hS hl => va_last C.1 C.2.1 C.2.2.2.2.2.2.2.1 hP (C.D S) hS 43 1 rfl rfl hin hd (fun H locs hP hD hS => k p l e s m args below meth c A H locs ls C hP hS hl)
theorem n_43 {P : PX} {pc : Nat} {lv : LV} {r : List Value} {S : ST} (hd : decode P.2.2.2.2.2.2.1 pc = .ok (.arraylength, 1)) (k : V P (pc + 1) lv (.int 210 :: r) S) : V P pc lv (.ref (P.1.2.1 43) :: r) S := fun p l e s m args below meth c A H locs ls C hP hS hl => va_alen C.1 C.2.1 C.2.2.2.2.2.2.2.1 hP 43 1 rfl rfl (by rfl) hd (k p l e s m args below meth c A H locs ls C hP hS hl)
theorem l_44 {P : PX} {pc : Nat} {lv : LV} {r : List Value} {S : ST} {x : Int32} (hin : vp_in x 4096) (hd : decode P.2.2.2.2.2.2.1 pc = .ok (.iaload, 1)) (k : V P (pc + 1) lv (.int (S.2.2.1 44 x.toNatClampNeg) :: r) S) : V P pc lv (.int x :: .ref (P.1.2.1 44) :: r) S := fun p l e s m args below meth c A H locs ls C hP hS hl => va_iald C.1 C.2.1 C.2.2.2.2.2.2.2.1 hP 44 0 rfl rfl hin hd (k p l e s m args below meth c A H locs ls C hP hS hl)
theorem s_44 {P : PX} {pc : Nat} {lv : LV} {r : List Value} {S : ST} {x : Int32} {y : Int32} (hin : vp_in x 4096) (hd : decode P.2.2.2.2.2.2.1 pc = .ok (.iastore, 1)) (k : V P (pc + 1) lv r (setA S 44 x.toNatClampNeg y)) : V P pc lv (.int y :: .int x :: .ref (P.1.2.1 44) :: r) S := fun p l e s m args below meth c A H locs ls C hP hS hl => va_iast C.1 C.2.1 C.2.2.2.2.2.2.2.1 hP (C.D S) hS 44 0 rfl rfl hin hd (fun H locs hP hD hS => k p l e s m args below meth c A H locs ls C hP hS hl)
theorem n_44 {P : PX} {pc : Nat} {lv : LV} {r : List Value} {S : ST} (hd : decode P.2.2.2.2.2.2.1 pc = .ok (.arraylength, 1)) (k : V P (pc + 1) lv (.int 4096 :: r) S) : V P pc lv (.ref (P.1.2.1 44) :: r) S := fun p l e s m args below meth c A H locs ls C hP hS hl => va_alen C.1 C.2.1 C.2.2.2.2.2.2.2.1 hP 44 0 rfl rfl (by rfl) hd (k p l e s m args below meth c A H locs ls C hP hS hl)
theorem l_45 {P : PX} {pc : Nat} {lv : LV} {r : List Value} {S : ST} {x : Int32} (hin : vp_in x 4096) (hd : decode P.2.2.2.2.2.2.1 pc = .ok (.iaload, 1)) (k : V P (pc + 1) lv (.int (S.2.2.1 45 x.toNatClampNeg) :: r) S) : V P pc lv (.int x :: .ref (P.1.2.1 45) :: r) S := fun p l e s m args below meth c A H locs ls C hP hS hl => va_iald C.1 C.2.1 C.2.2.2.2.2.2.2.1 hP 45 0 rfl rfl hin hd (k p l e s m args below meth c A H locs ls C hP hS hl)
theorem s_45 {P : PX} {pc : Nat} {lv : LV} {r : List Value} {S : ST} {x : Int32} {y : Int32} (hin : vp_in x 4096) (hd : decode P.2.2.2.2.2.2.1 pc = .ok (.iastore, 1)) (k : V P (pc + 1) lv r (setA S 45 x.toNatClampNeg y)) : V P pc lv (.int y :: .int x :: .ref (P.1.2.1 45) :: r) S := fun p l e s m args below meth c A H locs ls C hP hS hl => va_iast C.1 C.2.1 C.2.2.2.2.2.2.2.1 hP (C.D S) hS 45 0 rfl rfl hin hd (fun H locs hP hD hS => k p l e s m args below meth c A H locs ls C hP hS hl)
theorem n_45 {P : PX} {pc : Nat} {lv : LV} {r : List Value} {S : ST} (hd : decode P.2.2.2.2.2.2.1 pc = .ok (.arraylength, 1)) (k : V P (pc + 1) lv (.int 4096 :: r) S) : V P pc lv (.ref (P.1.2.1 45) :: r) S := fun p l e s m args below meth c A H locs ls C hP hS hl => va_alen C.1 C.2.1 C.2.2.2.2.2.2.2.1 hP 45 0 rfl rfl (by rfl) hd (k p l e s m args below meth c A H locs ls C hP hS hl)
theorem l_46 {P : PX} {pc : Nat} {lv : LV} {r : List Value} {S : ST} {x : Int32} (hin : vp_in x 4096) (hd : decode P.2.2.2.2.2.2.1 pc = .ok (.iaload, 1)) (k : V P (pc + 1) lv (.int (S.2.2.1 46 x.toNatClampNeg) :: r) S) : V P pc lv (.int x :: .ref (P.1.2.1 46) :: r) S := fun p l e s m args below meth c A H locs ls C hP hS hl => va_iald C.1 C.2.1 C.2.2.2.2.2.2.2.1 hP 46 0 rfl rfl hin hd (k p l e s m args below meth c A H locs ls C hP hS hl)
theorem s_46 {P : PX} {pc : Nat} {lv : LV} {r : List Value} {S : ST} {x : Int32} {y : Int32} (hin : vp_in x 4096) (hd : decode P.2.2.2.2.2.2.1 pc = .ok (.iastore, 1)) (k : V P (pc + 1) lv r (setA S 46 x.toNatClampNeg y)) : V P pc lv (.int y :: .int x :: .ref (P.1.2.1 46) :: r) S := fun p l e s m args below meth c A H locs ls C hP hS hl => va_iast C.1 C.2.1 C.2.2.2.2.2.2.2.1 hP (C.D S) hS 46 0 rfl rfl hin hd (fun H locs hP hD hS => k p l e s m args below meth c A H locs ls C hP hS hl)
theorem n_46 {P : PX} {pc : Nat} {lv : LV} {r : List Value} {S : ST} (hd : decode P.2.2.2.2.2.2.1 pc = .ok (.arraylength, 1)) (k : V P (pc + 1) lv (.int 4096 :: r) S) : V P pc lv (.ref (P.1.2.1 46) :: r) S := fun p l e s m args below meth c A H locs ls C hP hS hl => va_alen C.1 C.2.1 C.2.2.2.2.2.2.2.1 hP 46 0 rfl rfl (by rfl) hd (k p l e s m args below meth c A H locs ls C hP hS hl)
theorem l_47 {P : PX} {pc : Nat} {lv : LV} {r : List Value} {S : ST} {x : Int32} (hin : vp_in x 4096) (hd : decode P.2.2.2.2.2.2.1 pc = .ok (.iaload, 1)) (k : V P (pc + 1) lv (.int (S.2.2.1 47 x.toNatClampNeg) :: r) S) : V P pc lv (.int x :: .ref (P.1.2.1 47) :: r) S := fun p l e s m args below meth c A H locs ls C hP hS hl => va_iald C.1 C.2.1 C.2.2.2.2.2.2.2.1 hP 47 0 rfl rfl hin hd (k p l e s m args below meth c A H locs ls C hP hS hl)
theorem s_47 {P : PX} {pc : Nat} {lv : LV} {r : List Value} {S : ST} {x : Int32} {y : Int32} (hin : vp_in x 4096) (hd : decode P.2.2.2.2.2.2.1 pc = .ok (.iastore, 1)) (k : V P (pc + 1) lv r (setA S 47 x.toNatClampNeg y)) : V P pc lv (.int y :: .int x :: .ref (P.1.2.1 47) :: r) S := fun p l e s m args below meth c A H locs ls C hP hS hl => va_iast C.1 C.2.1 C.2.2.2.2.2.2.2.1 hP (C.D S) hS 47 0 rfl rfl hin hd (fun H locs hP hD hS => k p l e s m args below meth c A H locs ls C hP hS hl)
theorem n_47 {P : PX} {pc : Nat} {lv : LV} {r : List Value} {S : ST} (hd : decode P.2.2.2.2.2.2.1 pc = .ok (.arraylength, 1)) (k : V P (pc + 1) lv (.int 4096 :: r) S) : V P pc lv (.ref (P.1.2.1 47) :: r) S := fun p l e s m args below meth c A H locs ls C hP hS hl => va_alen C.1 C.2.1 C.2.2.2.2.2.2.2.1 hP 47 0 rfl rfl (by rfl) hd (k p l e s m args below meth c A H locs ls C hP hS hl)
theorem l_48 {P : PX} {pc : Nat} {lv : LV} {r : List Value} {S : ST} {x : Int32} (hin : vp_in x 10) (hd : decode P.2.2.2.2.2.2.1 pc = .ok (.iaload, 1)) (k : V P (pc + 1) lv (.int (S.2.2.1 48 x.toNatClampNeg) :: r) S) : V P pc lv (.int x :: .ref (P.1.2.1 48) :: r) S := fun p l e s m args below meth c A H locs ls C hP hS hl => va_iald C.1 C.2.1 C.2.2.2.2.2.2.2.1 hP 48 0 rfl rfl hin hd (k p l e s m args below meth c A H locs ls C hP hS hl)
theorem s_48 {P : PX} {pc : Nat} {lv : LV} {r : List Value} {S : ST} {x : Int32} {y : Int32} (hin : vp_in x 10) (hd : decode P.2.2.2.2.2.2.1 pc = .ok (.iastore, 1)) (k : V P (pc + 1) lv r (setA S 48 x.toNatClampNeg y)) : V P pc lv (.int y :: .int x :: .ref (P.1.2.1 48) :: r) S := fun p l e s m args below meth c A H locs ls C hP hS hl => va_iast C.1 C.2.1 C.2.2.2.2.2.2.2.1 hP (C.D S) hS 48 0 rfl rfl hin hd (fun H locs hP hD hS => k p l e s m args below meth c A H locs ls C hP hS hl)
theorem n_48 {P : PX} {pc : Nat} {lv : LV} {r : List Value} {S : ST} (hd : decode P.2.2.2.2.2.2.1 pc = .ok (.arraylength, 1)) (k : V P (pc + 1) lv (.int 10 :: r) S) : V P pc lv (.ref (P.1.2.1 48) :: r) S := fun p l e s m args below meth c A H locs ls C hP hS hl => va_alen C.1 C.2.1 C.2.2.2.2.2.2.2.1 hP 48 0 rfl rfl (by rfl) hd (k p l e s m args below meth c A H locs ls C hP hS hl)
theorem l_49 {P : PX} {pc : Nat} {lv : LV} {r : List Value} {S : ST} {x : Int32} (hin : vp_in x 41) (hd : decode P.2.2.2.2.2.2.1 pc = .ok (.baload, 1)) (k : V P (pc + 1) lv (.int (S.2.2.1 49 x.toNatClampNeg) :: r) S) : V P pc lv (.int x :: .ref (P.1.2.1 49) :: r) S := fun p l e s m args below meth c A H locs ls C hP hS hl => va_zald C.1 C.2.1 C.2.2.2.2.2.2.2.1 hP 49 2 rfl rfl hin hd (k p l e s m args below meth c A H locs ls C hP hS hl)
theorem s_49 {P : PX} {pc : Nat} {lv : LV} {r : List Value} {S : ST} {x : Int32} {y : Int32} (hin : vp_in x 41) (hd : decode P.2.2.2.2.2.2.1 pc = .ok (.bastore, 1)) (k : V P (pc + 1) lv r (setA S 49 x.toNatClampNeg (vp_nar .boolean y))) : V P pc lv (.int y :: .int x :: .ref (P.1.2.1 49) :: r) S := fun p l e s m args below meth c A H locs ls C hP hS hl => va_zast C.1 C.2.1 C.2.2.2.2.2.2.2.1 hP (C.D S) hS 49 2 rfl rfl hin hd (fun H locs hP hD hS => k p l e s m args below meth c A H locs ls C hP hS hl)
theorem n_49 {P : PX} {pc : Nat} {lv : LV} {r : List Value} {S : ST} (hd : decode P.2.2.2.2.2.2.1 pc = .ok (.arraylength, 1)) (k : V P (pc + 1) lv (.int 41 :: r) S) : V P pc lv (.ref (P.1.2.1 49) :: r) S := fun p l e s m args below meth c A H locs ls C hP hS hl => va_alen C.1 C.2.1 C.2.2.2.2.2.2.2.1 hP 49 2 rfl rfl (by rfl) hd (k p l e s m args below meth c A H locs ls C hP hS hl)
theorem l_50 {P : PX} {pc : Nat} {lv : LV} {r : List Value} {S : ST} {x : Int32} (hin : vp_in x 4096) (hd : decode P.2.2.2.2.2.2.1 pc = .ok (.baload, 1)) (k : V P (pc + 1) lv (.int (S.2.2.1 50 x.toNatClampNeg) :: r) S) : V P pc lv (.int x :: .ref (P.1.2.1 50) :: r) S := fun p l e s m args below meth c A H locs ls C hP hS hl => va_zald C.1 C.2.1 C.2.2.2.2.2.2.2.1 hP 50 2 rfl rfl hin hd (k p l e s m args below meth c A H locs ls C hP hS hl)
theorem s_50 {P : PX} {pc : Nat} {lv : LV} {r : List Value} {S : ST} {x : Int32} {y : Int32} (hin : vp_in x 4096) (hd : decode P.2.2.2.2.2.2.1 pc = .ok (.bastore, 1)) (k : V P (pc + 1) lv r (setA S 50 x.toNatClampNeg (vp_nar .boolean y))) : V P pc lv (.int y :: .int x :: .ref (P.1.2.1 50) :: r) S := fun p l e s m args below meth c A H locs ls C hP hS hl => va_zast C.1 C.2.1 C.2.2.2.2.2.2.2.1 hP (C.D S) hS 50 2 rfl rfl hin hd (fun H locs hP hD hS => k p l e s m args below meth c A H locs ls C hP hS hl)
theorem n_50 {P : PX} {pc : Nat} {lv : LV} {r : List Value} {S : ST} (hd : decode P.2.2.2.2.2.2.1 pc = .ok (.arraylength, 1)) (k : V P (pc + 1) lv (.int 4096 :: r) S) : V P pc lv (.ref (P.1.2.1 50) :: r) S := fun p l e s m args below meth c A H locs ls C hP hS hl => va_alen C.1 C.2.1 C.2.2.2.2.2.2.2.1 hP 50 2 rfl rfl (by rfl) hd (k p l e s m args below meth c A H locs ls C hP hS hl)
theorem V_low {P : PX} {pc : Nat} {lv : LV} {r : List Value} {S : ST} {index : Nat} (hw : Cond.fieldLink P.2.2.2.2.2.1.cls index "BrokeWhere" "LOW_SETS" "[J" ∈ TB) (hd : decode P.2.2.2.2.2.2.1 pc = .ok (.getstatic index, 3)) (k : V P (pc + 3) lv (.ref P.1.2.2.2 :: r) S) : V P pc lv r S := fun p l e s m args below meth c A H locs ls C hP hS hl => va_gets C.1 C.2.1 C.2.2.2.2.2.2.2.2.2.2.1.1 hS C.2.2.2.2.1 (C.2.2.2.2.2.1 _ hw) (fun _ h => h) hd (k p l e s m args below meth c A H locs ls C hP hS hl)
theorem l_low {P : PX} {pc : Nat} {lv : LV} {r : List Value} {S : ST} {x : Int32} (hin : vp_in x 6) (hd : decode P.2.2.2.2.2.2.1 pc = .ok (.laload, 1)) (k : V P (pc + 1) lv (.long (lowF x.toNatClampNeg) :: r) S) : V P pc lv (.int x :: .ref P.1.2.2.2 :: r) S := fun p l e s m args below meth c A H locs ls C hP hS hl => va_tl C.1 C.2.1 C.2.2.2.2.2.2.2.2.2.2.1.2 hS hin rfl hd (k p l e s m args below meth c A H locs ls C hP hS hl)
theorem V_mmax {P : PX} {pc : Nat} {lv : LV} {r : List Value} {S : ST} {x y : Int32} {index : Nat} (hw : Cond.methodLink P.2.2.2.2.2.1.cls index Lib.Math.max.name ∈ TB) (hR : 1 ≤ P.2.1.frames ∧ (r.map fun v => v.category).sum + 15 ≤ P.2.1.locals ∧ P.2.2.1.1 ≤ P.2.1.cells ∧ P.2.2.1.2 ≤ P.2.1.slots) (hd : decode P.2.2.2.2.2.2.1 pc = .ok (.invokestatic index, 3)) (k : V P (pc + 3) lv (.int (if x < y then y else x) :: r) S) : V P pc lv (.int y :: .int x :: r) S := fun p l e s m args below meth c A H locs ls C hP hS hl => va_mmax C.1 C.2.1 (by rw [C.2.2.2.1]; exact hl.1.symm) C.2.2.2.2.1 (C.2.2.2.2.2.1 _ hw) (C.2.2.2.2.2.1 _ tw_461) (C.2.2.2.2.2.1 _ tw_10) (C.2.2.2.2.2.1 _ tw_462) hR.1 (by have := hR.2.1; omega) hR.2.2.1 hR.2.2.2 hd (k p l e s m args below meth c A H locs ls C hP hS hl)
theorem V_mmin {P : PX} {pc : Nat} {lv : LV} {r : List Value} {S : ST} {x y : Int32} {index : Nat} (hw : Cond.methodLink P.2.2.2.2.2.1.cls index Lib.Math.min.name ∈ TB) (hR : 1 ≤ P.2.1.frames ∧ (r.map fun v => v.category).sum + 15 ≤ P.2.1.locals ∧ P.2.2.1.1 ≤ P.2.1.cells ∧ P.2.2.1.2 ≤ P.2.1.slots) (hd : decode P.2.2.2.2.2.2.1 pc = .ok (.invokestatic index, 3)) (k : V P (pc + 3) lv (.int (if y < x then y else x) :: r) S) : V P pc lv (.int y :: .int x :: r) S := fun p l e s m args below meth c A H locs ls C hP hS hl => va_mmin C.1 C.2.1 (by rw [C.2.2.2.1]; exact hl.1.symm) C.2.2.2.2.1 (C.2.2.2.2.2.1 _ hw) (C.2.2.2.2.2.1 _ tw_464) (C.2.2.2.2.2.1 _ tw_10) (C.2.2.2.2.2.1 _ tw_465) hR.1 (by have := hR.2.1; omega) hR.2.2.1 hR.2.2.2 hd (k p l e s m args below meth c A H locs ls C hP hS hl)
theorem V_lmax {P : PX} {pc : Nat} {lv : LV} {r : List Value} {S : ST} {x y : Int64} {index : Nat} (hw : Cond.methodLink P.2.2.2.2.2.1.cls index Lib.MathLoose.max_long.x ∈ TB) (hR : 1 ≤ P.2.1.frames ∧ (r.map fun v => v.category).sum + 15 ≤ P.2.1.locals ∧ P.2.2.1.1 ≤ P.2.1.cells ∧ P.2.2.1.2 ≤ P.2.1.slots) (hd : decode P.2.2.2.2.2.2.1 pc = .ok (.invokestatic index, 3)) (k : V P (pc + 3) lv (.long (if y < x then x else y) :: r) S) : V P pc lv (.long y :: .long x :: r) S := fun p l e s m args below meth c A H locs ls C hP hS hl => va_mmax_long C.1 C.2.1 (by rw [C.2.2.2.1]; exact hl.1.symm) C.2.2.2.2.1 (C.2.2.2.2.2.1 _ hw) (C.2.2.2.2.2.1 _ tw_356) (C.2.2.2.2.2.1 _ tw_10) (C.2.2.2.2.2.1 _ tw_357) hR.1 (by have := hR.2.1; omega) hR.2.2.1 hR.2.2.2 hd (k p l e s m args below meth c A H locs ls C hP hS hl)
theorem V_labs {P : PX} {pc : Nat} {lv : LV} {r : List Value} {S : ST} {x : Int64} {index : Nat} (hw : Cond.methodLink P.2.2.2.2.2.1.cls index Lib.MathLoose.abs_long.x ∈ TB) (hR : 1 ≤ P.2.1.frames ∧ (r.map fun v => v.category).sum + 15 ≤ P.2.1.locals ∧ P.2.2.1.1 ≤ P.2.1.cells ∧ P.2.2.1.2 ≤ P.2.1.slots) (hd : decode P.2.2.2.2.2.2.1 pc = .ok (.invokestatic index, 3)) (k : V P (pc + 3) lv (.long (if 0 < x then x else -x) :: r) S) : V P pc lv (.long x :: r) S := fun p l e s m args below meth c A H locs ls C hP hS hl => va_mabs_long C.1 C.2.1 (by rw [C.2.2.2.1]; exact hl.1.symm) C.2.2.2.2.1 (C.2.2.2.2.2.1 _ hw) (C.2.2.2.2.2.1 _ tw_416) (C.2.2.2.2.2.1 _ tw_10) (C.2.2.2.2.2.1 _ tw_417) hR.1 (by have := hR.2.1; omega) hR.2.2.1 hR.2.2.2 hd (k p l e s m args below meth c A H locs ls C hP hS hl)
theorem WA_mono {G : GX} {a b : Nat} (h : a ≤ b) : ∀ q, WA G b q → WA G a q := fun q hq => hq.elim Or.inl (fun z => Or.inr (Nat.le_trans h z))
theorem CT.A {P : PX} {p : Program} {s : State} {m : MethodId} {args : Array Value} {meth : Method} {c : Code} {A : Nat → Prop} (C : CT P p s m args meth c A) {sz : Nat} (h : s.heap.size ≤ sz) : ∀ q, WA P.1 sz q → A q := by
  intro q hq
  rcases hq with ⟨i, hi, rfl⟩ | hq
  · exact C.2.2.2.2.2.2.2.2.2.2.2.1 i hi
  · exact C.2.2.2.2.2.2.2.2.2.2.2.2.1 q (Nat.le_trans h hq)
/-- the callee's world at a call -/
theorem CT.world {P : PX} {p : Program} {s : State} {m : MethodId} {args : Array Value} {meth : Method} {c : Code} {A : Nat → Prop} {H : Heap} {locs : List Loc} {S : ST} (C : CT P p s m args meth c A) (hP : va_P P.1.1 vwCl (conc P.1 S) H) (hS : va_S A s.heap H locs) (U : State) (hU : U.heap = H) (hW : s.WarmedH U.vm) : U.heap.size = H.size ∧ Wld P.1 S H.size U := by
  refine ⟨by rw [hU], by rw [hU]; exact hP, va_K.moved hW.alike C.2.2.2.2.2.2.2.1, NW.warm hW C.2.2.2.2.2.2.2.2.1, C.2.2.2.2.2.2.2.2.2.1, ?_⟩
  have h1 := C.2.2.2.2.2.2.2.2.2.2.1
  rw [hU]
  exact LX.moved hW.alike (LX.narrow (LX.kept h1 (fun a h2 h3 => hS.2.1 a h2 h3)) (C.A hS.1))
theorem Wld.blind {G : GX} {S : ST} {sz : Nat} {As : List Value} : FrameBlind (va_Pc As (fun U => U.heap.size = sz ∧ Wld G S sz U)) := by
  intro a U g mk h
  obtain ⟨h0, h1, h2, h3, h4, h5, h6⟩ := h
  exact ⟨h0, h1, h2, va_K.moved (u := U) (U := U.calling g mk a) (Vm.Alike.refl U.vm) h3, NW.same (s := U) (U := U.calling g mk a) rfl h4, h5, LX.moved (u := U) (U := U.calling g mk a) (Vm.Alike.refl U.vm) h6⟩
/-- behind a call -/
theorem V_run {P : PX} {pc : Nat} {lv : LV} {r st0 : List Value} {p : Program} {l : Launch} {e : Env} {s : State} {m : MethodId} {args : Array Value} {below : List Frame} {meth : Method} {c : Code} {A : Nat → Prop} {H : Heap} {locs : List Loc} {ls : Array Slot} {a : Array Value} {Q' : Option Value → ST → Prop} (C : CT P p s m args meth c A) (hS : va_S A s.heap H locs) (hl : lv_has ls P.2.2.2.2.2.2.2.1 lv) (hQ : ∀ v S', Q' v S' → V P (pc + 3) lv (v.toList ++ r) S')
    (hr : va_Run p l e P.2.1 s m args below meth c H locs P.2.2.1.1 P.2.2.1.2 0 0 (F0 m pc ls st0) r (QC P.1 Q' (WA P.1 H.size) a) (WA P.1 H.size)) : W p l e P.2.1 s m args below meth c H locs P.2.2.1.1 P.2.2.1.2 (P.2.2.2.1 below args s A) (F0 m pc ls st0) := by
  intro T hT X
  obtain ⟨v, st₀, t, T', L, h0, X', hL, e1, e2, ⟨⟨r', S', hv, hV, hP'⟩, hz, hk⟩, st⟩ := hr T hT X
  cases hv
  rw [h0] at hz hk
  have hA := C.A hS.1
  have hS' : va_S A s.heap T'.heap (locs ++ L) := by
    refine ⟨Nat.le_trans hS.1 (by rw [e1]; exact hz), fun q h1 h2 => ?_, fun q hq => ?_⟩
    · rw [e1, hk q (Nat.lt_of_lt_of_le h1 hS.1) (fun z => h2 (hA q z))]
      exact hS.2.1 q h1 h2
    · rcases List.mem_append.mp hq with h | h
      · exact hS.2.2 q h
      · exact hA _ (hL q h)
  obtain ⟨t2, a1, b1⟩ := hQ v S' hV p l e s m args below meth c A T'.heap (locs ++ L) ls C (by rw [e1]; exact hP') hS' hl T' rfl X'
  exact ⟨t2, st t2 a1, b1⟩
def RmOk (R : Room) (kn : Nat × Nat) (d mL : Nat) : Prop := (d + 1 ≤ R.frames ∧ 8 + (mL + 11) + 40 * d ≤ R.locals) ∧ kn.1 + 0 ≤ R.cells ∧ kn.2 + 0 ≤ R.slots
theorem rmOk {d mL : Nat} (h : mL ≤ 21) : RmOk (rm (d + 1)) (0, 0) d mL := ⟨⟨Nat.le_refl _, by show 8 + (mL + 11) + 40 * d ≤ 40 * (d + 1); omega⟩, Nat.le_refl _, Nat.le_refl _⟩
/-- what the tables say of a method -/
def OkM (K : MX) (n : Nat) : Prop := Cond.code K.1 K.2.1 K.2.2.1 K.2.2.2 ∈ TB ∧ Cond.initialized K.1.cls ∈ TB ∧ K.1.cls ≠ "java/lang/invoke/MethodHandle" ∧ K.1.cls ≠ "java/lang/invoke/VarHandle" ∧ (parseMethodDescriptor K.1.desc).map (fun d => d.parameters.length) = some n
def OkV (K : MX) (n : Nat) : Prop := OkM K n ∧ Cond.instanceMethod K.1 ∈ TB ∧ Cond.selects K.1.cls K.1 K.1 ∈ TB
def OkS (K : MX) (n : Nat) : Prop := OkM K n ∧ Cond.static K.1 ∈ TB
/-- a cell that is an object of a kind -/
def ObjAt (G : GX) (q0 : Nat) (CC : String) : Prop := ∀ S : ST, ∃ (ci : Nat) (fs : List Value) (T : u_T) (N : Nat), (conc G S)[q0]? = some (G.2.1 q0, .inr (ci, fs)) ∧ vwCl[ci]? = some (CC, T, N)
set_option maxHeartbeats 1000000 in
theorem V_callV {P : PX} {pc : Nat} {lv : LV} {r : List Value} {S : ST} {d n index : Nat} {K : MX} {Q' : Option Value → ST → Prop} {As : List Value} (q0 : Nat) (hok : OkV K n) (hw : Cond.methodLink P.2.2.2.2.2.1.cls index K.1 ∈ TB) (hob : ObjAt P.1 q0 K.1.cls) (hn : As.length = n) (hR : RmOk P.2.1 P.2.2.1 d K.2.2.1) (hW : (r.map fun v => v.category).sum ≤ 8) (hd : decode P.2.2.2.2.2.2.1 pc = .ok (.invokevirtual index, 3)) {st0 : List Value} (hst : st0 = As.reverse ++ .ref (P.1.2.1 q0) :: r)
    (hC : Cn P.1 d K (.ref (P.1.2.1 q0) :: As) S Q') (hQ : ∀ v S', Q' v S' → V P (pc + 3) lv (v.toList ++ r) S') : V P pc lv st0 S := by
  intro p l e s m args below meth c A H locs ls C hP hS hl
  obtain ⟨⟨k1, k2, k3, k4, k5⟩, k6, k7⟩ := hok
  subst hst
  obtain ⟨ci, fs, T, N, ho1, ho2⟩ := hob S
  refine V_run C hS hl hQ (a := (.ref (P.1.2.1 q0) :: As).toArray) (va_runV (C := K.1.cls) (Ts := TB) (own := P.2.2.2.2.2.1.cls) (nL := P.2.2.2.2.2.2.2.1) (As := As) ⟨C.1, C.2.1, C.2.2.2.1, C.2.2.2.2.1, C.2.2.2.2.2.1⟩ (hC l H.size) (cwV (ws' := TB) n C.2.2.2.2.2.1 (TB_in ?_) rfl rfl rfl ⟨rfl, k3, k4, k5⟩ hR.1) ⟨Wld.blind, va_recv C.2.2.2.2.2.2.2.1 hP ho2 ho1, fun U hU hW => ⟨rfl, C.world hP hS U hU hW⟩⟩ rfl hn hl.1 rfl (lv_room hW) hd hR.2)
  intro w hw2
  simp only [wsV, List.cons_append, List.nil_append, List.mem_cons] at hw2
  rcases hw2 with rfl | rfl | rfl | rfl | rfl | h
  · exact hw
  · exact k6
  · exact k7
  · exact k2
  · exact k1
  · exact h
set_option maxHeartbeats 1000000 in
theorem V_callS {P : PX} {pc : Nat} {lv : LV} {r : List Value} {S : ST} {d n index : Nat} {K : MX} {Q' : Option Value → ST → Prop} {As : List Value} (hok : OkS K n) (hw : Cond.methodLink P.2.2.2.2.2.1.cls index K.1 ∈ TB) (hn : As.length = n) (hR : RmOk P.2.1 P.2.2.1 d K.2.2.1) (hW : (r.map fun v => v.category).sum ≤ 8) (hd : decode P.2.2.2.2.2.2.1 pc = .ok (.invokestatic index, 3)) {st0 : List Value} (hst : st0 = As.reverse ++ r)
    (hC : Cn P.1 d K As S Q') (hQ : ∀ v S', Q' v S' → V P (pc + 3) lv (v.toList ++ r) S') : V P pc lv st0 S := by
  intro p l e s m args below meth c A H locs ls C hP hS hl
  obtain ⟨⟨k1, k2, k3, k4, k5⟩, k6⟩ := hok
  subst hst
  refine V_run C hS hl hQ (a := As.toArray) (va_runS (Ts := TB) (own := P.2.2.2.2.2.1.cls) (nL := P.2.2.2.2.2.2.2.1) (As := As) ⟨C.1, C.2.1, C.2.2.2.1, C.2.2.2.2.1, C.2.2.2.2.2.1⟩ (hC l H.size) (va_cwS (ws' := TB) n C.2.2.2.2.2.1 (TB_in ?_) rfl rfl rfl ⟨k3, k4, k5⟩ hR.1) ⟨Wld.blind, fun U hU hW => ⟨rfl, C.world hP hS U hU hW⟩⟩ rfl hn hl.1 rfl (lv_room hW) hd hR.2)
  intro w hw2
  simp only [va_wsS, List.cons_append, List.nil_append, List.mem_cons] at hw2
  rcases hw2 with rfl | rfl | rfl | rfl | h
  · exact hw
  · exact k6
  · exact k2
  · exact k1
  · exact h
theorem NL_of {w : Cond} (i : Nat) (h : tables_1[i]? = some w) (hg : nestW w = true) : w ∈ NL := List.mem_filter.mpr ⟨List.mem_of_getElem? h, hg⟩
set_option maxHeartbeats 1000000 in
theorem V_callSN {P : PX} {pc : Nat} {lv : LV} {r : List Value} {S : ST} {d n index : Nat} {K : MX} {Q' : Option Value → ST → Prop} {host : String} {As : List Value} (hok : OkS K n) (hw : Cond.methodLinkNest P.2.2.2.2.2.1.cls index K.1 host ∈ NL) (hn : As.length = n) (hR : RmOk P.2.1 P.2.2.1 d K.2.2.1) (hW : (r.map fun v => v.category).sum ≤ 8) (hd : decode P.2.2.2.2.2.2.1 pc = .ok (.invokestatic index, 3)) {st0 : List Value} (hst : st0 = As.reverse ++ r)
    (hC : Cn P.1 d K As S Q') (hQ : ∀ v S', Q' v S' → V P (pc + 3) lv (v.toList ++ r) S') : V P pc lv st0 S := by
  intro p l e s m args below meth c A H locs ls C hP hS hl
  obtain ⟨⟨k1, k2, k3, k4, k5⟩, k6⟩ := hok
  subst hst
  refine V_run C hS hl hQ (a := As.toArray) (va_runSN (Ts := TB) (own := P.2.2.2.2.2.1.cls) (nL := P.2.2.2.2.2.2.2.1) (As := As) ⟨C.1, C.2.1, C.2.2.2.1, C.2.2.2.2.1, C.2.2.2.2.2.1⟩ (hC l H.size) ⟨va_cnB (ws' := TB) n C.2.2.2.2.2.1 (TB_in ?_) rfl rfl rfl (C.2.2.2.2.2.2.2.2.1 _ hw) (C.2.2.2.2.2.1 _ k2) ⟨k3, k4, k5⟩ hR.1, C.2.2.2.2.2.1 _ k6, trivial⟩ ⟨Wld.blind, fun U hU hW => ⟨rfl, C.world hP hS U hU hW⟩⟩ rfl hn hl.1 rfl (lv_room hW) hd hR.2)
  intro w hw2
  rcases List.mem_cons.mp hw2 with rfl | h
  · exact k1
  · exact h
theorem V_iret {G : GX} {d : Nat} {M : MX} {Q : Option Value → ST → Prop} {pc : Nat} {lv : LV} {S : ST} {x : Int32} (hr : M.2.2.2 = some .int) (hd : decode M.2.1 pc = .ok (.ireturn, 1)) (hq : Q (some (.int x)) S) : V (pM G d M Q) pc lv [.int x] S := fun p l e s m args below meth c A H locs ls C hP hS hl => W.iret C.1 C.2.1 (by rw [C.2.2.1]; exact hr) (fun t ht hW => ⟨⟨_, S, rfl, hq, by rw [ht]; exact hP⟩, hS.F ht⟩) hS.2.2 hd C.2.2.2.2.2.2.1
theorem V_lret {G : GX} {d : Nat} {M : MX} {Q : Option Value → ST → Prop} {pc : Nat} {lv : LV} {S : ST} {x : Int64} (hr : M.2.2.2 = some .long) (hd : decode M.2.1 pc = .ok (.lreturn, 1)) (hq : Q (some (.long x)) S) : V (pM G d M Q) pc lv [.long x] S := fun p l e s m args below meth c A H locs ls C hP hS hl => W.lret C.1 C.2.1 (by rw [C.2.2.1]; exact hr) (fun t ht hW => ⟨⟨_, S, rfl, hq, by rw [ht]; exact hP⟩, hS.F ht⟩) hS.2.2 hd C.2.2.2.2.2.2.1
theorem V_zret {G : GX} {d : Nat} {M : MX} {Q : Option Value → ST → Prop} {pc : Nat} {lv : LV} {S : ST} {x : Int32} (hr : M.2.2.2 = some .boolean) (hd : decode M.2.1 pc = .ok (.ireturn, 1)) (hx : x &&& 1 = x) (hq : Q (some (.int x)) S) : V (pM G d M Q) pc lv [.int x] S := fun p l e s m args below meth c A H locs ls C hP hS hl => W.zret C.1 C.2.1 (by rw [C.2.2.1]; exact hr) (by show Value.int (x &&& 1) = _; rw [hx]) (fun t ht hW => ⟨⟨_, S, rfl, hq, by rw [ht]; exact hP⟩, hS.F ht⟩) hS.2.2 hd C.2.2.2.2.2.2.1
theorem V_vret {G : GX} {d : Nat} {M : MX} {Q : Option Value → ST → Prop} {pc : Nat} {lv : LV} {S : ST} (hr : M.2.2.2 = none) (hd : decode M.2.1 pc = .ok (.return_, 1)) (hq : Q none S) : V (pM G d M Q) pc lv [] S := fun p l e s m args below meth c A H locs ls C hP hS hl => W.vret C.1 C.2.1 (by rw [C.2.2.1]; exact hr) (fun t ht hW => ⟨⟨_, S, rfl, hq, by rw [ht]; exact hP⟩, hS.F ht⟩) hS.2.2 hd C.2.2.2.2.2.2.1
theorem V_aret {G : GX} {d : Nat} {M : MX} {Q : Option Value → ST → Prop} {pc : Nat} {lv : LV} {S : ST} {x : Nat} {ty : FieldType} (hr : M.2.2.2 = some (.array ty)) (hd : decode M.2.1 pc = .ok (.areturn, 1)) (hq : Q (some (.ref x)) S) : V (pM G d M Q) pc lv [.ref x] S := fun p l e s m args below meth c A H locs ls C hP hS hl => W.aret C.1 C.2.1 (by rw [C.2.2.1]; exact hr) (Or.inr ⟨ty, rfl⟩) (Or.inr ⟨x, rfl⟩) (fun t ht hW => ⟨⟨_, S, rfl, hq, by rw [ht]; exact hP⟩, hS.F ht⟩) hS.2.2 hd C.2.2.2.2.2.2.1
end
section
abbrev mX0_soundSets : MX := (⟨"BrokeWhere$Families", "soundSets", "(I)J"⟩, prog_2_method_2_code, 5, (some FieldType.long))
theorem ok_X0_soundSets : OkV mX0_soundSets 1 := ⟨⟨tw_541, tw_8, by decide, by decide, by decide +kernel⟩, tw_540, ts_10⟩
abbrev mX0_isSound : MX := (⟨"BrokeWhere$Families", "isSound", "(I)Z"⟩, prog_2_method_3_code, 2, (some FieldType.boolean))
theorem ok_X0_isSound : OkV mX0_isSound 1 := ⟨⟨tw_537, tw_8, by decide, by decide, by decide +kernel⟩, tw_535, tw_536⟩
abbrev mX0_leastOut : MX := (⟨"BrokeWhere$Families", "leastOut", "(I)I"⟩, prog_2_method_4_code, 5, (some FieldType.int))
theorem ok_X0_leastOut : OkV mX0_leastOut 1 := ⟨⟨tw_572, tw_8, by decide, by decide, by decide +kernel⟩, tw_570, tw_571⟩
abbrev mX0_isLess : MX := (⟨"BrokeWhere$Families", "isLess", "(II)Z"⟩, prog_2_method_5_code, 4, (some FieldType.boolean))
theorem ok_X0_isLess : OkV mX0_isLess 2 := ⟨⟨tw_577, tw_8, by decide, by decide, by decide +kernel⟩, tw_576, ts_11⟩
abbrev mX0_findCores : MX := (⟨"BrokeWhere$Families", "findCores", "(I)V"⟩, prog_2_method_6_code, 4, none)
theorem ok_X0_findCores : OkV mX0_findCores 1 := ⟨⟨tw_593, tw_8, by decide, by decide, by decide +kernel⟩, tw_591, tw_592⟩
abbrev mX0_countFound : MX := (⟨"BrokeWhere$Families", "countFound", "()I"⟩, prog_2_method_7_code, 3, (some FieldType.int))
theorem ok_X0_countFound : OkV mX0_countFound 0 := ⟨⟨tw_603, tw_8, by decide, by decide, by decide +kernel⟩, tw_601, tw_602⟩
abbrev mX0_foundAt : MX := (⟨"BrokeWhere$Families", "foundAt", "(I)I"⟩, prog_2_method_8_code, 5, (some FieldType.int))
theorem ok_X0_foundAt : OkV mX0_foundAt 1 := ⟨⟨tw_613, tw_8, by decide, by decide, by decide +kernel⟩, tw_611, tw_612⟩
abbrev mX0_foundFrom : MX := (⟨"BrokeWhere$Families", "foundFrom", "(II)I"⟩, prog_2_method_9_code, 5, (some FieldType.int))
theorem ok_X0_foundFrom : OkV mX0_foundFrom 2 := ⟨⟨tw_617, tw_8, by decide, by decide, by decide +kernel⟩, tw_616, ts_12⟩
abbrev mX1_knows : MX := (⟨"BrokeWhere$History", "knows", "(I)Z"⟩, prog_3_method_2_code, 2, (some FieldType.boolean))
theorem ok_X1_knows : OkV mX1_knows 1 := ⟨⟨tw_239, tw_2, by decide, by decide, by decide +kernel⟩, tw_237, tw_238⟩
abbrev mX1_hears : MX := (⟨"BrokeWhere$History", "hears", "(I)Z"⟩, prog_3_method_3_code, 2, (some FieldType.boolean))
theorem ok_X1_hears : OkV mX1_hears 1 := ⟨⟨tw_290, tw_2, by decide, by decide, by decide +kernel⟩, tw_288, tw_289⟩
abbrev mX1_mayStandOn : MX := (⟨"BrokeWhere$History", "mayStandOn", "(II)Z"⟩, prog_3_method_4_code, 3, (some FieldType.boolean))
theorem ok_X1_mayStandOn : OkV mX1_mayStandOn 2 := ⟨⟨tw_235, tw_2, by decide, by decide, by decide +kernel⟩, tw_233, tw_234⟩
abbrev mX1_add : MX := (⟨"BrokeWhere$History", "add", "(III)I"⟩, prog_3_method_5_code, 7, (some FieldType.int))
theorem ok_X1_add : OkV mX1_add 3 := ⟨⟨tw_250, tw_2, by decide, by decide, by decide +kernel⟩, tw_248, tw_249⟩
abbrev mX1_mayBe : MX := (⟨"BrokeWhere$History", "mayBe", "(III)Z"⟩, prog_3_method_6_code, 4, (some FieldType.boolean))
theorem ok_X1_mayBe : OkV mX1_mayBe 3 := ⟨⟨tw_266, tw_2, by decide, by decide, by decide +kernel⟩, tw_264, tw_265⟩
abbrev mX1_row : MX := (⟨"BrokeWhere$History", "row", "(I)[I"⟩, prog_3_method_7_code, 2, (some (FieldType.array FieldType.int)))
theorem ok_X1_row : OkV mX1_row 1 := ⟨⟨tw_275, tw_2, by decide, by decide, by decide +kernel⟩, tw_273, tw_274⟩
abbrev mX1_everyVersion : MX := (⟨"BrokeWhere$History", "everyVersion", "()I"⟩, prog_3_method_8_code, 1, (some FieldType.int))
theorem ok_X1_everyVersion : OkV mX1_everyVersion 0 := ⟨⟨tw_430, tw_2, by decide, by decide, by decide +kernel⟩, tw_428, tw_429⟩
abbrev mX1_hearing : MX := (⟨"BrokeWhere$History", "hearing", "()I"⟩, prog_3_method_9_code, 3, (some FieldType.int))
theorem ok_X1_hearing : OkV mX1_hearing 0 := ⟨⟨tw_485, tw_2, by decide, by decide, by decide +kernel⟩, tw_483, tw_484⟩
abbrev mX1_twinsOf : MX := (⟨"BrokeWhere$History", "twinsOf", "(I)I"⟩, prog_3_method_10_code, 5, (some FieldType.int))
theorem ok_X1_twinsOf : OkV mX1_twinsOf 1 := ⟨⟨tw_481, tw_2, by decide, by decide, by decide +kernel⟩, tw_479, tw_480⟩
abbrev mX1_sizes : MX := (⟨"BrokeWhere$History", "sizes", "(I)I"⟩, prog_3_method_11_code, 4, (some FieldType.int))
theorem ok_X1_sizes : OkV mX1_sizes 1 := ⟨⟨tw_459, tw_2, by decide, by decide, by decide +kernel⟩, tw_457, tw_458⟩
abbrev mX2_add : MX := (⟨"BrokeWhere$Log", "add", "(IZ)I"⟩, prog_4_method_2_code, 4, (some FieldType.int))
theorem ok_X2_add : OkV mX2_add 2 := ⟨⟨tw_294, tw_3, by decide, by decide, by decide +kernel⟩, tw_292, tw_293⟩
abbrev mX2_holdsTestOf : MX := (⟨"BrokeWhere$Log", "holdsTestOf", "(I)Z"⟩, prog_4_method_3_code, 3, (some FieldType.boolean))
theorem ok_X2_holdsTestOf : OkV mX2_holdsTestOf 1 := ⟨⟨tw_271, tw_3, by decide, by decide, by decide +kernel⟩, tw_269, tw_270⟩
abbrev mX3_price : MX := (⟨"BrokeWhere$Partings", "price", "(I)I"⟩, prog_5_method_2_code, 2, (some FieldType.int))
theorem ok_X3_price : OkV mX3_price 1 := ⟨⟨tw_434, tw_5, by decide, by decide, by decide +kernel⟩, tw_432, tw_433⟩
abbrev mX3_start : MX := (⟨"BrokeWhere$Partings", "start", "(I)I"⟩, prog_5_method_3_code, 4, (some FieldType.int))
theorem ok_X3_start : OkV mX3_start 1 := ⟨⟨tw_469, tw_5, by decide, by decide, by decide +kernel⟩, tw_467, tw_468⟩
abbrev mX3_refresh : MX := (⟨"BrokeWhere$Partings", "refresh", "()V"⟩, prog_5_method_4_code, 1, none)
theorem ok_X3_refresh : OkV mX3_refresh 0 := ⟨⟨tw_438, tw_5, by decide, by decide, by decide +kernel⟩, tw_437, ts_5⟩
abbrev mX3_parts : MX := (⟨"BrokeWhere$Partings", "parts", "(II)Z"⟩, prog_5_method_5_code, 4, (some FieldType.boolean))
theorem ok_X3_parts : OkV mX3_parts 2 := ⟨⟨tw_450, tw_5, by decide, by decide, by decide +kernel⟩, tw_449, ts_7⟩
abbrev mX3_priceAt : MX := (⟨"BrokeWhere$Partings", "priceAt", "(II)I"⟩, prog_5_method_6_code, 6, (some FieldType.int))
theorem ok_X3_priceAt : OkV mX3_priceAt 2 := ⟨⟨tw_445, tw_5, by decide, by decide, by decide +kernel⟩, tw_444, ts_6⟩
abbrev mX3_priceBy : MX := (⟨"BrokeWhere$Partings", "priceBy", "(III)I"⟩, prog_5_method_7_code, 6, (some FieldType.int))
theorem ok_X3_priceBy : OkV mX3_priceBy 3 := ⟨⟨tw_455, tw_5, by decide, by decide, by decide +kernel⟩, tw_454, ts_8⟩
abbrev mX4_failingOf : MX := (⟨"BrokeWhere$Stories", "failingOf", "(III)I"⟩, prog_6_method_2_code, 5, (some FieldType.int))
theorem ok_X4_failingOf : OkV mX4_failingOf 3 := ⟨⟨tw_321, tw_4, by decide, by decide, by decide +kernel⟩, tw_319, tw_320⟩
abbrev mX4_tenths : MX := (⟨"BrokeWhere$Stories", "tenths", "(ZZ)I"⟩, prog_6_method_3_code, 3, (some FieldType.int))
theorem ok_X4_tenths : OkV mX4_tenths 2 := ⟨⟨tw_326, tw_4, by decide, by decide, by decide +kernel⟩, tw_324, tw_325⟩
abbrev mX4_weightOf : MX := (⟨"BrokeWhere$Stories", "weightOf", "(III)J"⟩, prog_6_method_4_code, 8, (some FieldType.long))
theorem ok_X4_weightOf : OkV mX4_weightOf 3 := ⟨⟨tw_317, tw_4, by decide, by decide, by decide +kernel⟩, tw_315, tw_316⟩
abbrev mX4_weigh : MX := (⟨"BrokeWhere$Stories", "weigh", "()V"⟩, prog_6_method_5_code, 3, none)
theorem ok_X4_weigh : OkV mX4_weigh 0 := ⟨⟨tw_336, tw_4, by decide, by decide, by decide +kernel⟩, tw_334, tw_335⟩
abbrev mX4_weighFrom : MX := (⟨"BrokeWhere$Stories", "weighFrom", "(II)V"⟩, prog_6_method_6_code, 6, none)
theorem ok_X4_weighFrom : OkV mX4_weighFrom 2 := ⟨⟨tw_340, tw_4, by decide, by decide, by decide +kernel⟩, tw_339, ts_2⟩
abbrev mX4_take : MX := (⟨"BrokeWhere$Stories", "take", "(III)V"⟩, prog_6_method_7_code, 6, none)
theorem ok_X4_take : OkV mX4_take 3 := ⟨⟨tw_344, tw_4, by decide, by decide, by decide +kernel⟩, tw_343, ts_3⟩
abbrev mX4_weightOfSort : MX := (⟨"BrokeWhere$Stories", "weightOfSort", "(I)J"⟩, prog_6_method_8_code, 5, (some FieldType.long))
theorem ok_X4_weightOfSort : OkV mX4_weightOfSort 1 := ⟨⟨tw_365, tw_4, by decide, by decide, by decide +kernel⟩, tw_363, tw_364⟩
abbrev mX4_weightBlaming : MX := (⟨"BrokeWhere$Stories", "weightBlaming", "(I)J"⟩, prog_6_method_9_code, 6, (some FieldType.long))
theorem ok_X4_weightBlaming : OkV mX4_weightBlaming 1 := ⟨⟨tw_377, tw_4, by decide, by decide, by decide +kernel⟩, tw_375, tw_376⟩
abbrev mX4_hopeWeight : MX := (⟨"BrokeWhere$Stories", "hopeWeight", "(I)J"⟩, prog_6_method_10_code, 8, (some FieldType.long))
theorem ok_X4_hopeWeight : OkV mX4_hopeWeight 1 := ⟨⟨tw_398, tw_4, by decide, by decide, by decide +kernel⟩, tw_396, tw_397⟩
abbrev mX4_gap : MX := (⟨"BrokeWhere$Stories", "gap", "(I)J"⟩, prog_6_method_11_code, 5, (some FieldType.long))
theorem ok_X4_gap : OkV mX4_gap 1 := ⟨⟨tw_413, tw_4, by decide, by decide, by decide +kernel⟩, tw_411, tw_412⟩
abbrev mX4_nextVersion : MX := (⟨"BrokeWhere$Stories", "nextVersion", "(I)I"⟩, prog_6_method_12_code, 9, (some FieldType.int))
theorem ok_X4_nextVersion : OkV mX4_nextVersion 1 := ⟨⟨tw_408, tw_4, by decide, by decide, by decide +kernel⟩, tw_406, tw_407⟩
abbrev mX4_guessIsBelow : MX := (⟨"BrokeWhere$Stories", "guessIsBelow", "(I)Z"⟩, prog_6_method_13_code, 2, (some FieldType.boolean))
theorem ok_X4_guessIsBelow : OkV mX4_guessIsBelow 1 := ⟨⟨tw_563, tw_4, by decide, by decide, by decide +kernel⟩, tw_561, tw_562⟩
abbrev mX5_add : MX := (⟨"BrokeWhere$Text", "add", "(I)I"⟩, prog_7_method_2_code, 2, (some FieldType.int))
theorem ok_X5_add : OkV mX5_add 1 := ⟨⟨tw_493, tw_6, by decide, by decide, by decide +kernel⟩, tw_491, tw_492⟩
abbrev mX5_textsOf : MX := (⟨"BrokeWhere$Text", "textsOf", "(I)I"⟩, prog_7_method_3_code, 1, (some FieldType.int))
theorem ok_X5_textsOf : OkS mX5_textsOf 1 := ⟨⟨tw_508, tw_6, by decide, by decide, by decide +kernel⟩, tw_507⟩
abbrev mX5_firstFault : MX := (⟨"BrokeWhere$Text", "firstFault", "()I"⟩, prog_7_method_4_code, 6, (some FieldType.int))
theorem ok_X5_firstFault : OkV mX5_firstFault 0 := ⟨⟨tw_505, tw_6, by decide, by decide, by decide +kernel⟩, tw_503, tw_504⟩
abbrev mX6_take : MX := (⟨"BrokeWhere$Truth", "take", "(LBrokeWhere$Text;)V"⟩, prog_8_method_2_code, 3, none)
theorem ok_X6_take : OkV mX6_take 1 := ⟨⟨tw_516, tw_7, by decide, by decide, by decide +kernel⟩, tw_514, tw_515⟩
abbrev mX6_valueOf : MX := (⟨"BrokeWhere$Truth", "valueOf", "(LBrokeWhere$Text;I)J"⟩, prog_8_method_3_code, 11, (some FieldType.long))
theorem ok_X6_valueOf : OkV mX6_valueOf 2 := ⟨⟨tw_520, tw_7, by decide, by decide, by decide +kernel⟩, tw_519, ts_9⟩
abbrev mX7_version : MX := (⟨"BrokeWhere", "version", "(III)I"⟩, prog_1_method_2_code, 4, (some FieldType.int))
theorem ok_X7_version : OkV mX7_version 3 := ⟨⟨tw_231, tw_1, by decide, by decide, by decide +kernel⟩, tw_229, tw_230⟩
abbrev mX7_has : MX := (⟨"BrokeWhere", "has", "(I)I"⟩, prog_1_method_3_code, 2, (some FieldType.int))
theorem ok_X7_has : OkV mX7_has 1 := ⟨⟨tw_257, tw_1, by decide, by decide, by decide +kernel⟩, tw_255, tw_256⟩
abbrev mX7_set : MX := (⟨"BrokeWhere", "set", "(III)I"⟩, prog_1_method_4_code, 4, (some FieldType.int))
theorem ok_X7_set : OkV mX7_set 3 := ⟨⟨tw_262, tw_1, by decide, by decide, by decide +kernel⟩, tw_260, tw_261⟩
abbrev mX7_trust : MX := (⟨"BrokeWhere", "trust", "(II)I"⟩, prog_1_method_5_code, 3, (some FieldType.int))
theorem ok_X7_trust : OkV mX7_trust 2 := ⟨⟨tw_282, tw_1, by decide, by decide, by decide +kernel⟩, tw_280, tw_281⟩
abbrev mX7_test : MX := (⟨"BrokeWhere", "test", "(IZ)I"⟩, prog_1_method_6_code, 3, (some FieldType.int))
theorem ok_X7_test : OkV mX7_test 2 := ⟨⟨tw_286, tw_1, by decide, by decide, by decide +kernel⟩, tw_284, tw_285⟩
abbrev mX7_tested : MX := (⟨"BrokeWhere", "tested", "(II)I"⟩, prog_1_method_7_code, 3, (some FieldType.int))
theorem ok_X7_tested : OkV mX7_tested 2 := ⟨⟨tw_298, tw_1, by decide, by decide, by decide +kernel⟩, tw_296, tw_297⟩
abbrev mX7_untest : MX := (⟨"BrokeWhere", "untest", "()I"⟩, prog_1_method_8_code, 1, (some FieldType.int))
theorem ok_X7_untest : OkV mX7_untest 0 := ⟨⟨tw_305, tw_1, by decide, by decide, by decide +kernel⟩, tw_303, tw_304⟩
abbrev mX7_weight : MX := (⟨"BrokeWhere", "weight", "(III)J"⟩, prog_1_method_9_code, 5, (some FieldType.long))
theorem ok_X7_weight : OkV mX7_weight 3 := ⟨⟨tw_309, tw_1, by decide, by decide, by decide +kernel⟩, tw_307, tw_308⟩
abbrev mX7_odds : MX := (⟨"BrokeWhere", "odds", "(IIII)J"⟩, prog_1_method_10_code, 6, (some FieldType.long))
theorem ok_X7_odds : OkV mX7_odds 4 := ⟨⟨tw_331, tw_1, by decide, by decide, by decide +kernel⟩, tw_329, tw_330⟩
abbrev mX7_sorts : MX := (⟨"BrokeWhere", "sorts", "(II)J"⟩, prog_1_method_11_code, 3, (some FieldType.long))
theorem ok_X7_sorts : OkV mX7_sorts 2 := ⟨⟨tw_361, tw_1, by decide, by decide, by decide +kernel⟩, tw_359, tw_360⟩
abbrev mX7_blame : MX := (⟨"BrokeWhere", "blame", "(II)J"⟩, prog_1_method_12_code, 3, (some FieldType.long))
theorem ok_X7_blame : OkV mX7_blame 2 := ⟨⟨tw_372, tw_1, by decide, by decide, by decide +kernel⟩, tw_370, tw_371⟩
abbrev mX7_guess : MX := (⟨"BrokeWhere", "guess", "(I)I"⟩, prog_1_method_13_code, 4, (some FieldType.int))
theorem ok_X7_guess : OkV mX7_guess 1 := ⟨⟨tw_387, tw_1, by decide, by decide, by decide +kernel⟩, tw_385, tw_386⟩
abbrev mX7_hope : MX := (⟨"BrokeWhere", "hope", "(II)J"⟩, prog_1_method_14_code, 3, (some FieldType.long))
theorem ok_X7_hope : OkV mX7_hope 2 := ⟨⟨tw_394, tw_1, by decide, by decide, by decide +kernel⟩, tw_392, tw_393⟩
abbrev mX7_next : MX := (⟨"BrokeWhere", "next", "(I)I"⟩, prog_1_method_15_code, 2, (some FieldType.int))
theorem ok_X7_next : OkV mX7_next 1 := ⟨⟨tw_404, tw_1, by decide, by decide, by decide +kernel⟩, tw_402, tw_403⟩
abbrev mX7_worst : MX := (⟨"BrokeWhere", "worst", "(II)I"⟩, prog_1_method_16_code, 3, (some FieldType.int))
theorem ok_X7_worst : OkV mX7_worst 2 := ⟨⟨tw_422, tw_1, by decide, by decide, by decide +kernel⟩, tw_420, tw_421⟩
abbrev mX7_mean : MX := (⟨"BrokeWhere", "mean", "(II)I"⟩, prog_1_method_17_code, 3, (some FieldType.int))
theorem ok_X7_mean : OkV mX7_mean 2 := ⟨⟨tw_473, tw_1, by decide, by decide, by decide +kernel⟩, tw_471, tw_472⟩
abbrev mX7_twins : MX := (⟨"BrokeWhere", "twins", "(I)I"⟩, prog_1_method_18_code, 2, (some FieldType.int))
theorem ok_X7_twins : OkV mX7_twins 1 := ⟨⟨tw_477, tw_1, by decide, by decide, by decide +kernel⟩, tw_475, tw_476⟩
abbrev mX7_say : MX := (⟨"BrokeWhere", "say", "(I)I"⟩, prog_1_method_19_code, 2, (some FieldType.int))
theorem ok_X7_say : OkV mX7_say 1 := ⟨⟨tw_489, tw_1, by decide, by decide, by decide +kernel⟩, tw_487, tw_488⟩
abbrev mX7_wipe : MX := (⟨"BrokeWhere", "wipe", "()I"⟩, prog_1_method_20_code, 2, (some FieldType.int))
theorem ok_X7_wipe : OkV mX7_wipe 0 := ⟨⟨tw_497, tw_1, by decide, by decide, by decide +kernel⟩, tw_495, tw_496⟩
abbrev mX7_fault : MX := (⟨"BrokeWhere", "fault", "()I"⟩, prog_1_method_21_code, 1, (some FieldType.int))
theorem ok_X7_fault : OkV mX7_fault 0 := ⟨⟨tw_501, tw_1, by decide, by decide, by decide +kernel⟩, tw_499, tw_500⟩
abbrev mX7_truth : MX := (⟨"BrokeWhere", "truth", "()I"⟩, prog_1_method_22_code, 1, (some FieldType.int))
theorem ok_X7_truth : OkV mX7_truth 0 := ⟨⟨tw_512, tw_1, by decide, by decide, by decide +kernel⟩, tw_510, tw_511⟩
abbrev mX7_fails : MX := (⟨"BrokeWhere", "fails", "(II)I"⟩, prog_1_method_23_code, 3, (some FieldType.int))
theorem ok_X7_fails : OkV mX7_fails 2 := ⟨⟨tw_533, tw_1, by decide, by decide, by decide +kernel⟩, tw_531, tw_532⟩
abbrev mX7_play : MX := (⟨"BrokeWhere", "play", "(I)I"⟩, prog_1_method_24_code, 4, (some FieldType.int))
theorem ok_X7_play : OkV mX7_play 1 := ⟨⟨tw_558, tw_1, by decide, by decide, by decide +kernel⟩, tw_556, tw_557⟩
abbrev mX7_out : MX := (⟨"BrokeWhere", "out", "(II)I"⟩, prog_1_method_25_code, 4, (some FieldType.int))
theorem ok_X7_out : OkV mX7_out 2 := ⟨⟨tw_568, tw_1, by decide, by decide, by decide +kernel⟩, tw_566, tw_567⟩
abbrev mX7_core : MX := (⟨"BrokeWhere", "core", "(II)I"⟩, prog_1_method_26_code, 3, (some FieldType.int))
theorem ok_X7_core : OkV mX7_core 2 := ⟨⟨tw_589, tw_1, by decide, by decide, by decide +kernel⟩, tw_587, tw_588⟩
abbrev mX7_told : MX := (⟨"BrokeWhere", "told", "(I)I"⟩, prog_1_method_27_code, 4, (some FieldType.int))
theorem ok_X7_told : OkV mX7_told 1 := ⟨⟨tw_621, tw_1, by decide, by decide, by decide +kernel⟩, tw_619, tw_620⟩
abbrev mX7_forgetPartings : MX := (⟨"BrokeWhere", "forgetPartings", "()V"⟩, prog_1_method_28_code, 1, none)
theorem ok_X7_forgetPartings : OkV mX7_forgetPartings 0 := ⟨⟨tw_246, tw_1, by decide, by decide, by decide +kernel⟩, tw_245, ts_0⟩
abbrev mX7_storyRefusal : MX := (⟨"BrokeWhere", "storyRefusal", "(III)I"⟩, prog_1_method_29_code, 5, (some FieldType.int))
theorem ok_X7_storyRefusal : OkV mX7_storyRefusal 3 := ⟨⟨tw_313, tw_1, by decide, by decide, by decide +kernel⟩, tw_312, ts_1⟩
abbrev mX7_parting : MX := (⟨"BrokeWhere", "parting", "(LBrokeWhere$Partings;II)I"⟩, prog_1_method_30_code, 4, (some FieldType.int))
theorem ok_X7_parting : OkV mX7_parting 3 := ⟨⟨tw_426, tw_1, by decide, by decide, by decide +kernel⟩, tw_425, ts_4⟩
abbrev mX7_isFrom : MX := (⟨"BrokeWhere", "isFrom", "(III)Z"⟩, prog_1_method_31_code, 3, (some FieldType.boolean))
theorem ok_X7_isFrom : OkS mX7_isFrom 3 := ⟨⟨tw_242, tw_1, by decide, by decide, by decide +kernel⟩, tw_241⟩
abbrev mX7_asNumber : MX := (⟨"BrokeWhere", "asNumber", "(Z)I"⟩, prog_1_method_32_code, 1, (some FieldType.int))
theorem ok_X7_asNumber : OkS mX7_asNumber 1 := ⟨⟨tw_301, tw_1, by decide, by decide, by decide +kernel⟩, tw_300⟩
abbrev mX7_isBit : MX := (⟨"BrokeWhere", "isBit", "(II)Z"⟩, prog_1_method_33_code, 2, (some FieldType.boolean))
theorem ok_X7_isBit : OkS mX7_isBit 2 := ⟨⟨tw_253, tw_1, by decide, by decide, by decide +kernel⟩, tw_252⟩
abbrev mX7_swap : MX := (⟨"BrokeWhere", "swap", "([III)I"⟩, prog_1_method_34_code, 4, (some FieldType.int))
theorem ok_X7_swap : OkS mX7_swap 3 := ⟨⟨tw_278, tw_1, by decide, by decide, by decide +kernel⟩, tw_277⟩
abbrev mX7_fraction : MX := (⟨"BrokeWhere", "fraction", "(JJI)J"⟩, prog_1_method_35_code, 5, (some FieldType.long))
theorem ok_X7_fraction : OkS mX7_fraction 3 := ⟨⟨tw_351, tw_1, by decide, by decide, by decide +kernel⟩, tw_350⟩
abbrev mX7_commonDivisor : MX := (⟨"BrokeWhere", "commonDivisor", "(JJ)J"⟩, prog_1_method_36_code, 7, (some FieldType.long))
theorem ok_X7_commonDivisor : OkS mX7_commonDivisor 2 := ⟨⟨tw_354, tw_1, by decide, by decide, by decide +kernel⟩, tw_353⟩
abbrev mX7_storyAt : MX := (⟨"BrokeWhere", "storyAt", "(III)I"⟩, prog_1_method_37_code, 3, (some FieldType.int))
theorem ok_X7_storyAt : OkS mX7_storyAt 3 := ⟨⟨tw_348, tw_1, by decide, by decide, by decide +kernel⟩, tw_347⟩
abbrev mX7_sortAt : MX := (⟨"BrokeWhere", "sortAt", "(I)I"⟩, prog_1_method_38_code, 1, (some FieldType.int))
theorem ok_X7_sortAt : OkS mX7_sortAt 1 := ⟨⟨tw_368, tw_1, by decide, by decide, by decide +kernel⟩, tw_367⟩
abbrev mX7_firstAt : MX := (⟨"BrokeWhere", "firstAt", "(I)I"⟩, prog_1_method_39_code, 1, (some FieldType.int))
theorem ok_X7_firstAt : OkS mX7_firstAt 1 := ⟨⟨tw_383, tw_1, by decide, by decide, by decide +kernel⟩, tw_382⟩
abbrev mX7_secondAt : MX := (⟨"BrokeWhere", "secondAt", "(I)I"⟩, prog_1_method_40_code, 1, (some FieldType.int))
theorem ok_X7_secondAt : OkS mX7_secondAt 1 := ⟨⟨tw_380, tw_1, by decide, by decide, by decide +kernel⟩, tw_379⟩
abbrev mX7_setsWith : MX := (⟨"BrokeWhere", "setsWith", "(II)J"⟩, prog_1_method_41_code, 2, (some FieldType.long))
theorem ok_X7_setsWith : OkS mX7_setsWith 2 := ⟨⟨tw_524, tw_1, by decide, by decide, by decide +kernel⟩, tw_523⟩
abbrev mX7_setsWithAll : MX := (⟨"BrokeWhere", "setsWithAll", "(II)J"⟩, prog_1_method_42_code, 5, (some FieldType.long))
theorem ok_X7_setsWithAll : OkS mX7_setsWithAll 2 := ⟨⟨tw_546, tw_1, by decide, by decide, by decide +kernel⟩, tw_545⟩
abbrev mX7_setsWithin : MX := (⟨"BrokeWhere", "setsWithin", "(II)J"⟩, prog_1_method_43_code, 5, (some FieldType.long))
theorem ok_X7_setsWithin : OkS mX7_setsWithin 2 := ⟨⟨tw_596, tw_1, by decide, by decide, by decide +kernel⟩, tw_595⟩
abbrev mX7_setsGiven : MX := (⟨"BrokeWhere", "setsGiven", "(I[JI)J"⟩, prog_1_method_44_code, 4, (some FieldType.long))
theorem ok_X7_setsGiven : OkS mX7_setsGiven 3 := ⟨⟨tw_599, tw_1, by decide, by decide, by decide +kernel⟩, tw_598⟩
abbrev mX7_isAmong : MX := (⟨"BrokeWhere", "isAmong", "([JI)Z"⟩, prog_1_method_45_code, 2, (some FieldType.boolean))
theorem ok_X7_isAmong : OkS mX7_isAmong 2 := ⟨⟨tw_553, tw_1, by decide, by decide, by decide +kernel⟩, tw_552⟩
abbrev mX7_isOfWord : MX := (⟨"BrokeWhere", "isOfWord", "(JI)Z"⟩, prog_1_method_46_code, 3, (some FieldType.boolean))
theorem ok_X7_isOfWord : OkS mX7_isOfWord 2 := ⟨⟨tw_550, tw_1, by decide, by decide, by decide +kernel⟩, tw_549⟩
abbrev mX8_in : MX := (⟨"BrokeWhereModel", "in", "(III)Z"⟩, prog_10_method_2_code, 3, (some FieldType.boolean))
theorem ok_X8_in : OkS mX8_in 3 := ⟨⟨tw_723, tw_9, by decide, by decide, by decide +kernel⟩, tw_722⟩
abbrev mX8_isVersion : MX := (⟨"BrokeWhereModel", "isVersion", "(I)Z"⟩, prog_10_method_3_code, 2, (some FieldType.boolean))
theorem ok_X8_isVersion : OkV mX8_isVersion 1 := ⟨⟨tw_720, tw_9, by decide, by decide, by decide +kernel⟩, tw_719, ts_13⟩
abbrev mX8_isPart : MX := (⟨"BrokeWhereModel", "isPart", "(I)Z"⟩, prog_10_method_4_code, 1, (some FieldType.boolean))
theorem ok_X8_isPart : OkS mX8_isPart 1 := ⟨⟨tw_734, tw_9, by decide, by decide, by decide +kernel⟩, tw_733⟩
abbrev mX8_hasBit : MX := (⟨"BrokeWhereModel", "hasBit", "(II)Z"⟩, prog_10_method_5_code, 2, (some FieldType.boolean))
theorem ok_X8_hasBit : OkS mX8_hasBit 2 := ⟨⟨tw_774, tw_9, by decide, by decide, by decide +kernel⟩, tw_773⟩
abbrev mX8_version : MX := (⟨"BrokeWhereModel", "version", "(III)I"⟩, prog_10_method_6_code, 5, (some FieldType.int))
theorem ok_X8_version : OkV mX8_version 3 := ⟨⟨tw_716, tw_9, by decide, by decide, by decide +kernel⟩, tw_714, tw_715⟩
abbrev mX8_has : MX := (⟨"BrokeWhereModel", "has", "(I)I"⟩, prog_10_method_7_code, 2, (some FieldType.int))
theorem ok_X8_has : OkV mX8_has 1 := ⟨⟨tw_727, tw_9, by decide, by decide, by decide +kernel⟩, tw_725, tw_726⟩
abbrev mX8_isTested : MX := (⟨"BrokeWhereModel", "isTested", "(I)Z"⟩, prog_10_method_8_code, 4, (some FieldType.boolean))
theorem ok_X8_isTested : OkV mX8_isTested 1 := ⟨⟨tw_738, tw_9, by decide, by decide, by decide +kernel⟩, tw_737, ts_14⟩
abbrev mX8_set : MX := (⟨"BrokeWhereModel", "set", "(III)I"⟩, prog_10_method_9_code, 6, (some FieldType.int))
theorem ok_X8_set : OkV mX8_set 3 := ⟨⟨tw_731, tw_9, by decide, by decide, by decide +kernel⟩, tw_729, tw_730⟩
abbrev mX8_trust : MX := (⟨"BrokeWhereModel", "trust", "(II)I"⟩, prog_10_method_10_code, 4, (some FieldType.int))
theorem ok_X8_trust : OkV mX8_trust 2 := ⟨⟨tw_742, tw_9, by decide, by decide, by decide +kernel⟩, tw_740, tw_741⟩
abbrev mX8_test : MX := (⟨"BrokeWhereModel", "test", "(IZ)I"⟩, prog_10_method_11_code, 3, (some FieldType.int))
theorem ok_X8_test : OkV mX8_test 2 := ⟨⟨tw_746, tw_9, by decide, by decide, by decide +kernel⟩, tw_744, tw_745⟩
abbrev mX8_tested : MX := (⟨"BrokeWhereModel", "tested", "(II)I"⟩, prog_10_method_12_code, 3, (some FieldType.int))
theorem ok_X8_tested : OkV mX8_tested 2 := ⟨⟨tw_750, tw_9, by decide, by decide, by decide +kernel⟩, tw_748, tw_749⟩
abbrev mX8_untest : MX := (⟨"BrokeWhereModel", "untest", "()I"⟩, prog_10_method_13_code, 1, (some FieldType.int))
theorem ok_X8_untest : OkV mX8_untest 0 := ⟨⟨tw_754, tw_9, by decide, by decide, by decide +kernel⟩, tw_752, tw_753⟩
abbrev mX8_shouldFail : MX := (⟨"BrokeWhereModel", "shouldFail", "(IIII)Z"⟩, prog_10_method_14_code, 7, (some FieldType.boolean))
theorem ok_X8_shouldFail : OkV mX8_shouldFail 4 := ⟨⟨tw_771, tw_9, by decide, by decide, by decide +kernel⟩, tw_770, ts_17⟩
abbrev mX8_tenths : MX := (⟨"BrokeWhereModel", "tenths", "(ZZ)I"⟩, prog_10_method_15_code, 4, (some FieldType.int))
theorem ok_X8_tenths : OkV mX8_tenths 2 := ⟨⟨tw_778, tw_9, by decide, by decide, by decide +kernel⟩, tw_777, ts_18⟩
abbrev mX8_weightOf : MX := (⟨"BrokeWhereModel", "weightOf", "(III)J"⟩, prog_10_method_16_code, 7, (some FieldType.long))
theorem ok_X8_weightOf : OkV mX8_weightOf 3 := ⟨⟨tw_767, tw_9, by decide, by decide, by decide +kernel⟩, tw_766, ts_16⟩
abbrev mX8_add : MX := (⟨"BrokeWhereModel", "add", "(III)V"⟩, prog_10_method_17_code, 4, none)
theorem ok_X8_add : OkV mX8_add 3 := ⟨⟨tw_791, tw_9, by decide, by decide, by decide +kernel⟩, tw_790, ts_20⟩
abbrev mX8_layStories : MX := (⟨"BrokeWhereModel", "layStories", "()V"⟩, prog_10_method_18_code, 4, none)
theorem ok_X8_layStories : OkV mX8_layStories 0 := ⟨⟨tw_787, tw_9, by decide, by decide, by decide +kernel⟩, tw_786, ts_19⟩
abbrev mX8_isStory : MX := (⟨"BrokeWhereModel", "isStory", "(III)Z"⟩, prog_10_method_19_code, 4, (some FieldType.boolean))
theorem ok_X8_isStory : OkV mX8_isStory 3 := ⟨⟨tw_763, tw_9, by decide, by decide, by decide +kernel⟩, tw_762, ts_15⟩
abbrev mX8_weight : MX := (⟨"BrokeWhereModel", "weight", "(III)J"⟩, prog_10_method_20_code, 4, (some FieldType.long))
theorem ok_X8_weight : OkV mX8_weight 3 := ⟨⟨tw_758, tw_9, by decide, by decide, by decide +kernel⟩, tw_756, tw_757⟩
abbrev mX8_term : MX := (⟨"BrokeWhereModel", "term", "(JJI)J"⟩, prog_10_method_21_code, 11, (some FieldType.long))
theorem ok_X8_term : OkS mX8_term 3 := ⟨⟨tw_794, tw_9, by decide, by decide, by decide +kernel⟩, tw_793⟩
abbrev mX8_odds : MX := (⟨"BrokeWhereModel", "odds", "(IIII)J"⟩, prog_10_method_22_code, 5, (some FieldType.long))
theorem ok_X8_odds : OkV mX8_odds 4 := ⟨⟨tw_783, tw_9, by decide, by decide, by decide +kernel⟩, tw_781, tw_782⟩
abbrev mX8_sorts : MX := (⟨"BrokeWhereModel", "sorts", "(II)J"⟩, prog_10_method_23_code, 6, (some FieldType.long))
theorem ok_X8_sorts : OkV mX8_sorts 2 := ⟨⟨tw_798, tw_9, by decide, by decide, by decide +kernel⟩, tw_796, tw_797⟩
abbrev mX8_blame : MX := (⟨"BrokeWhereModel", "blame", "(II)J"⟩, prog_10_method_24_code, 6, (some FieldType.long))
theorem ok_X8_blame : OkV mX8_blame 2 := ⟨⟨tw_802, tw_9, by decide, by decide, by decide +kernel⟩, tw_800, tw_801⟩
abbrev mX8_guessOf : MX := (⟨"BrokeWhereModel", "guessOf", "()I"⟩, prog_10_method_25_code, 3, (some FieldType.int))
theorem ok_X8_guessOf : OkV mX8_guessOf 0 := ⟨⟨tw_810, tw_9, by decide, by decide, by decide +kernel⟩, tw_809, ts_21⟩
abbrev mX8_guess : MX := (⟨"BrokeWhereModel", "guess", "(I)I"⟩, prog_10_method_26_code, 3, (some FieldType.int))
theorem ok_X8_guess : OkV mX8_guess 1 := ⟨⟨tw_806, tw_9, by decide, by decide, by decide +kernel⟩, tw_804, tw_805⟩
abbrev mX8_canTest : MX := (⟨"BrokeWhereModel", "canTest", "(I)Z"⟩, prog_10_method_27_code, 2, (some FieldType.boolean))
theorem ok_X8_canTest : OkV mX8_canTest 1 := ⟨⟨tw_818, tw_9, by decide, by decide, by decide +kernel⟩, tw_817, ts_22⟩
abbrev mX8_hopeOf : MX := (⟨"BrokeWhereModel", "hopeOf", "(I)J"⟩, prog_10_method_28_code, 12, (some FieldType.long))
theorem ok_X8_hopeOf : OkV mX8_hopeOf 1 := ⟨⟨tw_822, tw_9, by decide, by decide, by decide +kernel⟩, tw_821, ts_23⟩
abbrev mX8_hope : MX := (⟨"BrokeWhereModel", "hope", "(II)J"⟩, prog_10_method_29_code, 3, (some FieldType.long))
theorem ok_X8_hope : OkV mX8_hope 2 := ⟨⟨tw_814, tw_9, by decide, by decide, by decide +kernel⟩, tw_812, tw_813⟩
abbrev mX8_badness : MX := (⟨"BrokeWhereModel", "badness", "(II)J"⟩, prog_10_method_30_code, 6, (some FieldType.long))
theorem ok_X8_badness : OkV mX8_badness 2 := ⟨⟨tw_835, tw_9, by decide, by decide, by decide +kernel⟩, tw_834, ts_25⟩
abbrev mX8_nextOf : MX := (⟨"BrokeWhereModel", "nextOf", "(I)I"⟩, prog_10_method_31_code, 8, (some FieldType.int))
theorem ok_X8_nextOf : OkV mX8_nextOf 1 := ⟨⟨tw_831, tw_9, by decide, by decide, by decide +kernel⟩, tw_830, ts_24⟩
abbrev mX8_next : MX := (⟨"BrokeWhereModel", "next", "(I)I"⟩, prog_10_method_32_code, 2, (some FieldType.int))
theorem ok_X8_next : OkV mX8_next 1 := ⟨⟨tw_827, tw_9, by decide, by decide, by decide +kernel⟩, tw_825, tw_826⟩
abbrev mX8_laySet : MX := (⟨"BrokeWhereModel", "laySet", "(I)V"⟩, prog_10_method_33_code, 8, none)
theorem ok_X8_laySet : OkV mX8_laySet 1 := ⟨⟨tw_851, tw_9, by decide, by decide, by decide +kernel⟩, tw_850, ts_28⟩
abbrev mX8_lay : MX := (⟨"BrokeWhereModel", "lay", "()V"⟩, prog_10_method_34_code, 2, none)
theorem ok_X8_lay : OkV mX8_lay 0 := ⟨⟨tw_847, tw_9, by decide, by decide, by decide +kernel⟩, tw_846, ts_27⟩
abbrev mX8_isSet : MX := (⟨"BrokeWhereModel", "isSet", "(I)Z"⟩, prog_10_method_35_code, 2, (some FieldType.boolean))
theorem ok_X8_isSet : OkV mX8_isSet 1 := ⟨⟨tw_843, tw_9, by decide, by decide, by decide +kernel⟩, tw_842, ts_26⟩
abbrev mX8_worst : MX := (⟨"BrokeWhereModel", "worst", "(II)I"⟩, prog_10_method_36_code, 3, (some FieldType.int))
theorem ok_X8_worst : OkV mX8_worst 2 := ⟨⟨tw_839, tw_9, by decide, by decide, by decide +kernel⟩, tw_837, tw_838⟩
abbrev mX8_mean : MX := (⟨"BrokeWhereModel", "mean", "(II)I"⟩, prog_10_method_37_code, 3, (some FieldType.int))
theorem ok_X8_mean : OkV mX8_mean 2 := ⟨⟨tw_855, tw_9, by decide, by decide, by decide +kernel⟩, tw_853, tw_854⟩
abbrev mX8_twins : MX := (⟨"BrokeWhereModel", "twins", "(I)I"⟩, prog_10_method_38_code, 4, (some FieldType.int))
theorem ok_X8_twins : OkV mX8_twins 1 := ⟨⟨tw_859, tw_9, by decide, by decide, by decide +kernel⟩, tw_857, tw_858⟩
abbrev mX8_say : MX := (⟨"BrokeWhereModel", "say", "(I)I"⟩, prog_10_method_39_code, 2, (some FieldType.int))
theorem ok_X8_say : OkV mX8_say 1 := ⟨⟨tw_863, tw_9, by decide, by decide, by decide +kernel⟩, tw_861, tw_862⟩
abbrev mX8_wipe : MX := (⟨"BrokeWhereModel", "wipe", "()I"⟩, prog_10_method_40_code, 2, (some FieldType.int))
theorem ok_X8_wipe : OkV mX8_wipe 0 := ⟨⟨tw_867, tw_9, by decide, by decide, by decide +kernel⟩, tw_865, tw_866⟩
abbrev mX8_faultOf : MX := (⟨"BrokeWhereModel", "faultOf", "()I"⟩, prog_10_method_41_code, 6, (some FieldType.int))
theorem ok_X8_faultOf : OkV mX8_faultOf 0 := ⟨⟨tw_875, tw_9, by decide, by decide, by decide +kernel⟩, tw_874, ts_29⟩
abbrev mX8_fault : MX := (⟨"BrokeWhereModel", "fault", "()I"⟩, prog_10_method_42_code, 1, (some FieldType.int))
theorem ok_X8_fault : OkV mX8_fault 0 := ⟨⟨tw_871, tw_9, by decide, by decide, by decide +kernel⟩, tw_869, tw_870⟩
abbrev mX8_truth : MX := (⟨"BrokeWhereModel", "truth", "()I"⟩, prog_10_method_43_code, 2, (some FieldType.int))
theorem ok_X8_truth : OkV mX8_truth 0 := ⟨⟨tw_879, tw_9, by decide, by decide, by decide +kernel⟩, tw_877, tw_878⟩
abbrev mX8_failsOf : MX := (⟨"BrokeWhereModel", "failsOf", "(I)Z"⟩, prog_10_method_44_code, 5, (some FieldType.boolean))
theorem ok_X8_failsOf : OkV mX8_failsOf 1 := ⟨⟨tw_891, tw_9, by decide, by decide, by decide +kernel⟩, tw_890, ts_31⟩
abbrev mX8_isSound : MX := (⟨"BrokeWhereModel", "isSound", "(I)Z"⟩, prog_10_method_45_code, 4, (some FieldType.boolean))
theorem ok_X8_isSound : OkV mX8_isSound 1 := ⟨⟨tw_887, tw_9, by decide, by decide, by decide +kernel⟩, tw_886, ts_30⟩
abbrev mX8_fails : MX := (⟨"BrokeWhereModel", "fails", "(II)I"⟩, prog_10_method_46_code, 3, (some FieldType.int))
theorem ok_X8_fails : OkV mX8_fails 2 := ⟨⟨tw_883, tw_9, by decide, by decide, by decide +kernel⟩, tw_881, tw_882⟩
abbrev mX8_play : MX := (⟨"BrokeWhereModel", "play", "(I)I"⟩, prog_10_method_47_code, 4, (some FieldType.int))
theorem ok_X8_play : OkV mX8_play 1 := ⟨⟨tw_895, tw_9, by decide, by decide, by decide +kernel⟩, tw_893, tw_894⟩
abbrev mX8_isSure : MX := (⟨"BrokeWhereModel", "isSure", "(I)Z"⟩, prog_10_method_48_code, 3, (some FieldType.boolean))
theorem ok_X8_isSure : OkV mX8_isSure 1 := ⟨⟨tw_899, tw_9, by decide, by decide, by decide +kernel⟩, tw_898, ts_32⟩
abbrev mX8_bits : MX := (⟨"BrokeWhereModel", "bits", "(I)I"⟩, prog_10_method_49_code, 3, (some FieldType.int))
theorem ok_X8_bits : OkS mX8_bits 1 := ⟨⟨tw_906, tw_9, by decide, by decide, by decide +kernel⟩, tw_905⟩
abbrev mX8_sizes : MX := (⟨"BrokeWhereModel", "sizes", "(I)I"⟩, prog_10_method_50_code, 4, (some FieldType.int))
theorem ok_X8_sizes : OkV mX8_sizes 1 := ⟨⟨tw_910, tw_9, by decide, by decide, by decide +kernel⟩, tw_909, ts_33⟩
abbrev mX8_out : MX := (⟨"BrokeWhereModel", "out", "(II)I"⟩, prog_10_method_51_code, 7, (some FieldType.int))
theorem ok_X8_out : OkV mX8_out 2 := ⟨⟨tw_903, tw_9, by decide, by decide, by decide +kernel⟩, tw_901, tw_902⟩
abbrev mX8_core : MX := (⟨"BrokeWhereModel", "core", "(II)I"⟩, prog_10_method_52_code, 8, (some FieldType.int))
theorem ok_X8_core : OkV mX8_core 2 := ⟨⟨tw_914, tw_9, by decide, by decide, by decide +kernel⟩, tw_912, tw_913⟩
abbrev mX8_told : MX := (⟨"BrokeWhereModel", "told", "(I)I"⟩, prog_10_method_53_code, 4, (some FieldType.int))
theorem ok_X8_told : OkV mX8_told 1 := ⟨⟨tw_918, tw_9, by decide, by decide, by decide +kernel⟩, tw_916, tw_917⟩
abbrev mJ6_bitCount_0f7a4 : MX := (⟨"java/lang/Integer", "bitCount", "(I)I"⟩, prog_11_method_49_code, 1, (some FieldType.int))
theorem ok_J6_bitCount_0f7a4 : OkS mJ6_bitCount_0f7a4 1 := ⟨⟨tw_580, tw_12, by decide, by decide, by decide +kernel⟩, tw_579⟩
abbrev mJ13_bitCount_95d88 : MX := (⟨"java/lang/Long", "bitCount", "(J)I"⟩, prog_12_method_50_code, 2, (some FieldType.int))
theorem ok_J13_bitCount_95d88 : OkS mJ13_bitCount_95d88 1 := ⟨⟨tw_606, tw_13, by decide, by decide, by decide +kernel⟩, tw_605⟩
abbrev mJ9_abs_067f4 : MX := (⟨"java/lang/Math", "abs", "(J)J"⟩, prog_13_method_61_code, 2, (some FieldType.long))
theorem ok_J9_abs_067f4 : OkS mJ9_abs_067f4 1 := ⟨⟨tw_417, tw_10, by decide, by decide, by decide +kernel⟩, tw_416⟩
abbrev mJ9_max_7cf53 : MX := (⟨"java/lang/Math", "max", "(II)I"⟩, prog_13_method_65_code, 2, (some FieldType.int))
theorem ok_J9_max_7cf53 : OkS mJ9_max_7cf53 2 := ⟨⟨tw_462, tw_10, by decide, by decide, by decide +kernel⟩, tw_461⟩
abbrev mJ9_max_f86c9 : MX := (⟨"java/lang/Math", "max", "(JJ)J"⟩, prog_13_method_66_code, 4, (some FieldType.long))
theorem ok_J9_max_f86c9 : OkS mJ9_max_f86c9 2 := ⟨⟨tw_357, tw_10, by decide, by decide, by decide +kernel⟩, tw_356⟩
abbrev mJ9_min_7cf53 : MX := (⟨"java/lang/Math", "min", "(II)I"⟩, prog_13_method_69_code, 2, (some FieldType.int))
theorem ok_J9_min_7cf53 : OkS mJ9_min_7cf53 2 := ⟨⟨tw_465, tw_10, by decide, by decide, by decide +kernel⟩, tw_464⟩
abbrev mJ7_fill_53178 : MX := (⟨"java/util/Arrays", "fill", "([II)V"⟩, prog_14_method_103_code, 4, none)
theorem ok_J7_fill_53178 : OkS mJ7_fill_53178 2 := ⟨⟨tw_441, tw_11, by decide, by decide, by decide +kernel⟩, tw_440⟩
theorem ob_0 (G : GX) : ObjAt G 0 "BrokeWhere" := fun S => ⟨_, _, _, _, rfl, rfl⟩
theorem ob_1 (G : GX) : ObjAt G 1 "BrokeWhere$History" := fun S => ⟨_, _, _, _, rfl, rfl⟩
theorem ob_2 (G : GX) : ObjAt G 2 "BrokeWhere$Log" := fun S => ⟨_, _, _, _, rfl, rfl⟩
theorem ob_3 (G : GX) : ObjAt G 3 "BrokeWhere$Stories" := fun S => ⟨_, _, _, _, rfl, rfl⟩
theorem ob_4 (G : GX) : ObjAt G 4 "BrokeWhere$Partings" := fun S => ⟨_, _, _, _, rfl, rfl⟩
theorem ob_5 (G : GX) : ObjAt G 5 "BrokeWhere$Partings" := fun S => ⟨_, _, _, _, rfl, rfl⟩
theorem ob_6 (G : GX) : ObjAt G 6 "BrokeWhere$Text" := fun S => ⟨_, _, _, _, rfl, rfl⟩
theorem ob_7 (G : GX) : ObjAt G 7 "BrokeWhere$Truth" := fun S => ⟨_, _, _, _, rfl, rfl⟩
theorem ob_8 (G : GX) : ObjAt G 8 "BrokeWhere$Families" := fun S => ⟨_, _, _, _, rfl, rfl⟩
theorem ob_29 (G : GX) : ObjAt G 29 "BrokeWhereModel" := fun S => ⟨_, _, _, _, rfl, rfl⟩
theorem nl_24 : Cond.methodLinkNest "BrokeWhere" 11 ⟨"BrokeWhere$History", "<init>", "()V"⟩ "BrokeWhere" ∈ NL := NL_of 24 (by decide +kernel) rfl
theorem nl_64 : Cond.methodLinkNest "BrokeWhere" 18 ⟨"BrokeWhere$Log", "<init>", "()V"⟩ "BrokeWhere" ∈ NL := NL_of 64 (by decide +kernel) rfl
theorem nl_148 : Cond.methodLinkNest "BrokeWhere" 46 ⟨"BrokeWhere$Text", "<init>", "()V"⟩ "BrokeWhere" ∈ NL := NL_of 148 (by decide +kernel) rfl
theorem nl_167 : Cond.methodLinkNest "BrokeWhere" 53 ⟨"BrokeWhere$Truth", "<init>", "()V"⟩ "BrokeWhere" ∈ NL := NL_of 167 (by decide +kernel) rfl
theorem nl_251 : Cond.methodLinkNest "BrokeWhere$History" 38 ⟨"BrokeWhere", "isBit", "(II)Z"⟩ "BrokeWhere" ∈ NL := NL_of 251 (by decide +kernel) rfl
theorem nl_267 : Cond.methodLinkNest "BrokeWhere$History" 42 ⟨"BrokeWhere", "isFrom", "(III)Z"⟩ "BrokeWhere" ∈ NL := NL_of 267 (by decide +kernel) rfl
theorem nl_322 : Cond.methodLinkNest "BrokeWhere$Stories" 54 ⟨"BrokeWhere", "isBit", "(II)Z"⟩ "BrokeWhere" ∈ NL := NL_of 322 (by decide +kernel) rfl
theorem nl_346 : Cond.methodLinkNest "BrokeWhere$Stories" 90 ⟨"BrokeWhere", "storyAt", "(III)I"⟩ "BrokeWhere" ∈ NL := NL_of 346 (by decide +kernel) rfl
theorem nl_366 : Cond.methodLinkNest "BrokeWhere$Stories" 93 ⟨"BrokeWhere", "sortAt", "(I)I"⟩ "BrokeWhere" ∈ NL := NL_of 366 (by decide +kernel) rfl
theorem nl_378 : Cond.methodLinkNest "BrokeWhere$Stories" 97 ⟨"BrokeWhere", "secondAt", "(I)I"⟩ "BrokeWhere" ∈ NL := NL_of 378 (by decide +kernel) rfl
theorem nl_381 : Cond.methodLinkNest "BrokeWhere$Stories" 100 ⟨"BrokeWhere", "firstAt", "(I)I"⟩ "BrokeWhere" ∈ NL := NL_of 381 (by decide +kernel) rfl
theorem nl_446 : Cond.methodLinkNest "BrokeWhere$Partings" 60 ⟨"BrokeWhere", "isFrom", "(III)Z"⟩ "BrokeWhere" ∈ NL := NL_of 446 (by decide +kernel) rfl
theorem nl_522 : Cond.methodLinkNest "BrokeWhere$Truth" 37 ⟨"BrokeWhere", "setsWith", "(II)J"⟩ "BrokeWhere" ∈ NL := NL_of 522 (by decide +kernel) rfl
theorem nl_543 : Cond.methodLinkNest "BrokeWhere$Families" 38 ⟨"BrokeWhere", "setsWith", "(II)J"⟩ "BrokeWhere" ∈ NL := NL_of 543 (by decide +kernel) rfl
theorem nl_544 : Cond.methodLinkNest "BrokeWhere$Families" 42 ⟨"BrokeWhere", "setsWithAll", "(II)J"⟩ "BrokeWhere" ∈ NL := NL_of 544 (by decide +kernel) rfl
theorem nl_548 : Cond.methodLinkNest "BrokeWhere$Families" 49 ⟨"BrokeWhere", "isOfWord", "(JI)Z"⟩ "BrokeWhere" ∈ NL := NL_of 548 (by decide +kernel) rfl
theorem nl_573 : Cond.methodLinkNest "BrokeWhere$Families" 58 ⟨"BrokeWhere", "isAmong", "([JI)Z"⟩ "BrokeWhere" ∈ NL := NL_of 573 (by decide +kernel) rfl
theorem nl_594 : Cond.methodLinkNest "BrokeWhere$Families" 75 ⟨"BrokeWhere", "setsWithin", "(II)J"⟩ "BrokeWhere" ∈ NL := NL_of 594 (by decide +kernel) rfl
theorem nl_597 : Cond.methodLinkNest "BrokeWhere$Families" 78 ⟨"BrokeWhere", "setsGiven", "(I[JI)J"⟩ "BrokeWhere" ∈ NL := NL_of 597 (by decide +kernel) rfl
theorem V_S {P : PX} {pc : Nat} {lv : LV} {st0 : List Value} {S S2 : ST} (h : S = S2) (k : V P pc lv st0 S2) : V P pc lv st0 S := h ▸ k
theorem V_topi {P : PX} {pc : Nat} {lv : LV} {r : List Value} {S : ST} {x v : Int32} (h : x = v) (k : V P pc lv (.int v :: r) S) : V P pc lv (.int x :: r) S := h ▸ k
theorem V_topl {P : PX} {pc : Nat} {lv : LV} {r : List Value} {S : ST} {x v : Int64} (h : x = v) (k : V P pc lv (.long v :: r) S) : V P pc lv (.long x :: r) S := h ▸ k
def b2i (b : Bool) : Int32 := if b then 1 else 0
theorem b2i_nar (b : Bool) : b2i b &&& 1 = b2i b := by cases b <;> rfl
theorem b2i_0 {b : Bool} : b2i b = 0 ↔ b = false := by cases b <;> decide
theorem b2i_1 {b : Bool} : b2i b = 1 ↔ b = true := by cases b <;> decide
theorem b2i_t {b : Bool} (h : b = true) : b2i b = 1 := by rw [h]; rfl
theorem b2i_f {b : Bool} (h : b = false) : b2i b = 0 := by rw [h]; rfl
theorem vpz (b : Bool) : vp_nar .boolean (b2i b) = b2i b := by cases b <;> rfl
theorem vpz0 : vp_nar .boolean 0 = 0 := rfl
theorem vpz1 : vp_nar .boolean 1 = 1 := rfl
theorem V_ifb_eq {P : PX} {pc : Nat} {lv : LV} {r : List Value} {S : ST} {b : Bool} {off : Int} (tgt : Nat) (hd : decode P.2.2.2.2.2.2.1 pc = .ok (.ifCond .eq off, 3)) (ht : (pc : Int) + off = (tgt : Int)) (kt : b = false → V P tgt lv r S) (kf : b = true → V P (pc + 3) lv r S) : V P pc lv (.int (b2i b) :: r) S := V_if_eq tgt hd ht (fun h => kt (b2i_0.mp h)) (fun h => kf (by cases b with | false => exact absurd rfl h | true => rfl))
theorem V_ifb_ne {P : PX} {pc : Nat} {lv : LV} {r : List Value} {S : ST} {b : Bool} {off : Int} (tgt : Nat) (hd : decode P.2.2.2.2.2.2.1 pc = .ok (.ifCond .ne off, 3)) (ht : (pc : Int) + off = (tgt : Int)) (kt : b = true → V P tgt lv r S) (kf : b = false → V P (pc + 3) lv r S) : V P pc lv (.int (b2i b) :: r) S := V_if_ne tgt hd ht (fun h => kt (by cases b with | false => exact absurd rfl h | true => rfl)) (fun h => kf (by cases b with | false => rfl | true => exact absurd h (by decide)))
theorem mR {d : Nat} {r : List Value} (h : (r.map fun v => v.category).sum ≤ 25) : 1 ≤ (rm (d + 1)).frames ∧ (r.map fun v => v.category).sum + 15 ≤ (rm (d + 1)).locals ∧ (0 : Nat) ≤ (rm (d + 1)).cells ∧ (0 : Nat) ≤ (rm (d + 1)).slots := ⟨Nat.succ_le_succ (Nat.zero_le _), by show _ ≤ 40 * (d + 1); omega, Nat.le_refl _, Nat.le_refl _⟩
theorem V_icmp_eqn {P : PX} {pc : Nat} {lv : LV} {r : List Value} {S : ST} {a b : Nat} {off : Int} (tgt : Nat) (hd : decode P.2.2.2.2.2.2.1 pc = .ok (.if_icmp .eq off, 3)) (ht : (pc : Int) + off = (tgt : Int)) (ha : a < 2 ^ 31) (hb : b < 2 ^ 31) (kt : a = b → V P tgt lv r S) (kf : a ≠ b → V P (pc + 3) lv r S) : V P pc lv (.int (nI b) :: .int (nI a) :: r) S := V_icmp_eq tgt hd ht (fun h => kt (by have e1 := @nI_eq a b ha hb; have e2 := @nI_leI a b ha hb; have e3 := @nI_leI b a hb ha; have e4 := @nI_ltI a b ha hb; have e5 := @nI_ltI b a hb ha; simp only [e1, e2, e3, e4, e5, ne_eq] at h ⊢; omega)) (fun h => kf (by have e1 := @nI_eq a b ha hb; have e2 := @nI_leI a b ha hb; have e3 := @nI_leI b a hb ha; have e4 := @nI_ltI a b ha hb; have e5 := @nI_ltI b a hb ha; simp only [e1, e2, e3, e4, e5, ne_eq] at h ⊢; omega))
theorem V_icmp_nen {P : PX} {pc : Nat} {lv : LV} {r : List Value} {S : ST} {a b : Nat} {off : Int} (tgt : Nat) (hd : decode P.2.2.2.2.2.2.1 pc = .ok (.if_icmp .ne off, 3)) (ht : (pc : Int) + off = (tgt : Int)) (ha : a < 2 ^ 31) (hb : b < 2 ^ 31) (kt : a ≠ b → V P tgt lv r S) (kf : a = b → V P (pc + 3) lv r S) : V P pc lv (.int (nI b) :: .int (nI a) :: r) S := V_icmp_ne tgt hd ht (fun h => kt (by have e1 := @nI_eq a b ha hb; have e2 := @nI_leI a b ha hb; have e3 := @nI_leI b a hb ha; have e4 := @nI_ltI a b ha hb; have e5 := @nI_ltI b a hb ha; simp only [e1, e2, e3, e4, e5, ne_eq] at h ⊢; omega)) (fun h => kf (by have e1 := @nI_eq a b ha hb; have e2 := @nI_leI a b ha hb; have e3 := @nI_leI b a hb ha; have e4 := @nI_ltI a b ha hb; have e5 := @nI_ltI b a hb ha; simp only [e1, e2, e3, e4, e5, ne_eq] at h ⊢; omega))
theorem V_icmp_ltn {P : PX} {pc : Nat} {lv : LV} {r : List Value} {S : ST} {a b : Nat} {off : Int} (tgt : Nat) (hd : decode P.2.2.2.2.2.2.1 pc = .ok (.if_icmp .lt off, 3)) (ht : (pc : Int) + off = (tgt : Int)) (ha : a < 2 ^ 31) (hb : b < 2 ^ 31) (kt : a < b → V P tgt lv r S) (kf : b ≤ a → V P (pc + 3) lv r S) : V P pc lv (.int (nI b) :: .int (nI a) :: r) S := V_icmp_lt tgt hd ht (fun h => kt (by have e1 := @nI_eq a b ha hb; have e2 := @nI_leI a b ha hb; have e3 := @nI_leI b a hb ha; have e4 := @nI_ltI a b ha hb; have e5 := @nI_ltI b a hb ha; simp only [e1, e2, e3, e4, e5, ne_eq] at h ⊢; omega)) (fun h => kf (by have e1 := @nI_eq a b ha hb; have e2 := @nI_leI a b ha hb; have e3 := @nI_leI b a hb ha; have e4 := @nI_ltI a b ha hb; have e5 := @nI_ltI b a hb ha; simp only [e1, e2, e3, e4, e5, ne_eq] at h ⊢; omega))
theorem V_icmp_gen {P : PX} {pc : Nat} {lv : LV} {r : List Value} {S : ST} {a b : Nat} {off : Int} (tgt : Nat) (hd : decode P.2.2.2.2.2.2.1 pc = .ok (.if_icmp .ge off, 3)) (ht : (pc : Int) + off = (tgt : Int)) (ha : a < 2 ^ 31) (hb : b < 2 ^ 31) (kt : b ≤ a → V P tgt lv r S) (kf : a < b → V P (pc + 3) lv r S) : V P pc lv (.int (nI b) :: .int (nI a) :: r) S := V_icmp_ge tgt hd ht (fun h => kt (by have e1 := @nI_eq a b ha hb; have e2 := @nI_leI a b ha hb; have e3 := @nI_leI b a hb ha; have e4 := @nI_ltI a b ha hb; have e5 := @nI_ltI b a hb ha; simp only [e1, e2, e3, e4, e5, ne_eq] at h ⊢; omega)) (fun h => kf (by have e1 := @nI_eq a b ha hb; have e2 := @nI_leI a b ha hb; have e3 := @nI_leI b a hb ha; have e4 := @nI_ltI a b ha hb; have e5 := @nI_ltI b a hb ha; simp only [e1, e2, e3, e4, e5, ne_eq] at h ⊢; omega))
theorem V_icmp_gtn {P : PX} {pc : Nat} {lv : LV} {r : List Value} {S : ST} {a b : Nat} {off : Int} (tgt : Nat) (hd : decode P.2.2.2.2.2.2.1 pc = .ok (.if_icmp .gt off, 3)) (ht : (pc : Int) + off = (tgt : Int)) (ha : a < 2 ^ 31) (hb : b < 2 ^ 31) (kt : b < a → V P tgt lv r S) (kf : a ≤ b → V P (pc + 3) lv r S) : V P pc lv (.int (nI b) :: .int (nI a) :: r) S := V_icmp_gt tgt hd ht (fun h => kt (by have e1 := @nI_eq a b ha hb; have e2 := @nI_leI a b ha hb; have e3 := @nI_leI b a hb ha; have e4 := @nI_ltI a b ha hb; have e5 := @nI_ltI b a hb ha; simp only [e1, e2, e3, e4, e5, ne_eq] at h ⊢; omega)) (fun h => kf (by have e1 := @nI_eq a b ha hb; have e2 := @nI_leI a b ha hb; have e3 := @nI_leI b a hb ha; have e4 := @nI_ltI a b ha hb; have e5 := @nI_ltI b a hb ha; simp only [e1, e2, e3, e4, e5, ne_eq] at h ⊢; omega))
theorem V_icmp_len {P : PX} {pc : Nat} {lv : LV} {r : List Value} {S : ST} {a b : Nat} {off : Int} (tgt : Nat) (hd : decode P.2.2.2.2.2.2.1 pc = .ok (.if_icmp .le off, 3)) (ht : (pc : Int) + off = (tgt : Int)) (ha : a < 2 ^ 31) (hb : b < 2 ^ 31) (kt : a ≤ b → V P tgt lv r S) (kf : b < a → V P (pc + 3) lv r S) : V P pc lv (.int (nI b) :: .int (nI a) :: r) S := V_icmp_le tgt hd ht (fun h => kt (by have e1 := @nI_eq a b ha hb; have e2 := @nI_leI a b ha hb; have e3 := @nI_leI b a hb ha; have e4 := @nI_ltI a b ha hb; have e5 := @nI_ltI b a hb ha; simp only [e1, e2, e3, e4, e5, ne_eq] at h ⊢; omega)) (fun h => kf (by have e1 := @nI_eq a b ha hb; have e2 := @nI_leI a b ha hb; have e3 := @nI_leI b a hb ha; have e4 := @nI_ltI a b ha hb; have e5 := @nI_ltI b a hb ha; simp only [e1, e2, e3, e4, e5, ne_eq] at h ⊢; omega))
theorem V_if_eqn {P : PX} {pc : Nat} {lv : LV} {r : List Value} {S : ST} {a : Nat} {off : Int} (tgt : Nat) (hd : decode P.2.2.2.2.2.2.1 pc = .ok (.ifCond .eq off, 3)) (ht : (pc : Int) + off = (tgt : Int)) (ha : a < 2 ^ 31) (kt : a = 0 → V P tgt lv r S) (kf : 0 < a → V P (pc + 3) lv r S) : V P pc lv (.int (nI a) :: r) S := V_if_eq tgt hd ht (fun h => kt (by have hb : (0 : Nat) < 2 ^ 31 := Nat.two_pow_pos 31; have e1 := @nI_eq a 0 ha hb; have e2 := @nI_leI a 0 ha hb; have e3 := @nI_leI 0 a hb ha; have e4 := @nI_ltI a 0 ha hb; have e5 := @nI_ltI 0 a hb ha; rw [nI_0] at e1 e2 e3 e4 e5; simp only [e1, e2, e3, e4, e5] at h ⊢; try omega)) (fun h => kf (by have hb : (0 : Nat) < 2 ^ 31 := Nat.two_pow_pos 31; have e1 := @nI_eq a 0 ha hb; have e2 := @nI_leI a 0 ha hb; have e3 := @nI_leI 0 a hb ha; have e4 := @nI_ltI a 0 ha hb; have e5 := @nI_ltI 0 a hb ha; rw [nI_0] at e1 e2 e3 e4 e5; simp only [e1, e2, e3, e4, e5] at h ⊢; try omega))
theorem V_if_nen {P : PX} {pc : Nat} {lv : LV} {r : List Value} {S : ST} {a : Nat} {off : Int} (tgt : Nat) (hd : decode P.2.2.2.2.2.2.1 pc = .ok (.ifCond .ne off, 3)) (ht : (pc : Int) + off = (tgt : Int)) (ha : a < 2 ^ 31) (kt : 0 < a → V P tgt lv r S) (kf : a = 0 → V P (pc + 3) lv r S) : V P pc lv (.int (nI a) :: r) S := V_if_ne tgt hd ht (fun h => kt (by have hb : (0 : Nat) < 2 ^ 31 := Nat.two_pow_pos 31; have e1 := @nI_eq a 0 ha hb; have e2 := @nI_leI a 0 ha hb; have e3 := @nI_leI 0 a hb ha; have e4 := @nI_ltI a 0 ha hb; have e5 := @nI_ltI 0 a hb ha; rw [nI_0] at e1 e2 e3 e4 e5; simp only [e1, e2, e3, e4, e5] at h ⊢; try omega)) (fun h => kf (by have hb : (0 : Nat) < 2 ^ 31 := Nat.two_pow_pos 31; have e1 := @nI_eq a 0 ha hb; have e2 := @nI_leI a 0 ha hb; have e3 := @nI_leI 0 a hb ha; have e4 := @nI_ltI a 0 ha hb; have e5 := @nI_ltI 0 a hb ha; rw [nI_0] at e1 e2 e3 e4 e5; simp only [e1, e2, e3, e4, e5] at h ⊢; try omega))
theorem V_if_ltn {P : PX} {pc : Nat} {lv : LV} {r : List Value} {S : ST} {a : Nat} {off : Int} (tgt : Nat) (hd : decode P.2.2.2.2.2.2.1 pc = .ok (.ifCond .lt off, 3)) (ht : (pc : Int) + off = (tgt : Int)) (ha : a < 2 ^ 31) (kt : False → V P tgt lv r S) (kf : True → V P (pc + 3) lv r S) : V P pc lv (.int (nI a) :: r) S := V_if_lt tgt hd ht (fun h => kt (by have hb : (0 : Nat) < 2 ^ 31 := Nat.two_pow_pos 31; have e1 := @nI_eq a 0 ha hb; have e2 := @nI_leI a 0 ha hb; have e3 := @nI_leI 0 a hb ha; have e4 := @nI_ltI a 0 ha hb; have e5 := @nI_ltI 0 a hb ha; rw [nI_0] at e1 e2 e3 e4 e5; simp only [e1, e2, e3, e4, e5] at h ⊢; try omega)) (fun h => kf (by have hb : (0 : Nat) < 2 ^ 31 := Nat.two_pow_pos 31; have e1 := @nI_eq a 0 ha hb; have e2 := @nI_leI a 0 ha hb; have e3 := @nI_leI 0 a hb ha; have e4 := @nI_ltI a 0 ha hb; have e5 := @nI_ltI 0 a hb ha; rw [nI_0] at e1 e2 e3 e4 e5; simp only [e1, e2, e3, e4, e5] at h ⊢; try omega))
theorem V_if_gen {P : PX} {pc : Nat} {lv : LV} {r : List Value} {S : ST} {a : Nat} {off : Int} (tgt : Nat) (hd : decode P.2.2.2.2.2.2.1 pc = .ok (.ifCond .ge off, 3)) (ht : (pc : Int) + off = (tgt : Int)) (ha : a < 2 ^ 31) (kt : True → V P tgt lv r S) (kf : False → V P (pc + 3) lv r S) : V P pc lv (.int (nI a) :: r) S := V_if_ge tgt hd ht (fun h => kt (by have hb : (0 : Nat) < 2 ^ 31 := Nat.two_pow_pos 31; have e1 := @nI_eq a 0 ha hb; have e2 := @nI_leI a 0 ha hb; have e3 := @nI_leI 0 a hb ha; have e4 := @nI_ltI a 0 ha hb; have e5 := @nI_ltI 0 a hb ha; rw [nI_0] at e1 e2 e3 e4 e5; simp only [e1, e2, e3, e4, e5] at h ⊢; try omega)) (fun h => kf (by have hb : (0 : Nat) < 2 ^ 31 := Nat.two_pow_pos 31; have e1 := @nI_eq a 0 ha hb; have e2 := @nI_leI a 0 ha hb; have e3 := @nI_leI 0 a hb ha; have e4 := @nI_ltI a 0 ha hb; have e5 := @nI_ltI 0 a hb ha; rw [nI_0] at e1 e2 e3 e4 e5; simp only [e1, e2, e3, e4, e5] at h ⊢; try omega))
theorem V_if_gtn {P : PX} {pc : Nat} {lv : LV} {r : List Value} {S : ST} {a : Nat} {off : Int} (tgt : Nat) (hd : decode P.2.2.2.2.2.2.1 pc = .ok (.ifCond .gt off, 3)) (ht : (pc : Int) + off = (tgt : Int)) (ha : a < 2 ^ 31) (kt : 0 < a → V P tgt lv r S) (kf : a = 0 → V P (pc + 3) lv r S) : V P pc lv (.int (nI a) :: r) S := V_if_gt tgt hd ht (fun h => kt (by have hb : (0 : Nat) < 2 ^ 31 := Nat.two_pow_pos 31; have e1 := @nI_eq a 0 ha hb; have e2 := @nI_leI a 0 ha hb; have e3 := @nI_leI 0 a hb ha; have e4 := @nI_ltI a 0 ha hb; have e5 := @nI_ltI 0 a hb ha; rw [nI_0] at e1 e2 e3 e4 e5; simp only [e1, e2, e3, e4, e5] at h ⊢; try omega)) (fun h => kf (by have hb : (0 : Nat) < 2 ^ 31 := Nat.two_pow_pos 31; have e1 := @nI_eq a 0 ha hb; have e2 := @nI_leI a 0 ha hb; have e3 := @nI_leI 0 a hb ha; have e4 := @nI_ltI a 0 ha hb; have e5 := @nI_ltI 0 a hb ha; rw [nI_0] at e1 e2 e3 e4 e5; simp only [e1, e2, e3, e4, e5] at h ⊢; try omega))
theorem V_if_len {P : PX} {pc : Nat} {lv : LV} {r : List Value} {S : ST} {a : Nat} {off : Int} (tgt : Nat) (hd : decode P.2.2.2.2.2.2.1 pc = .ok (.ifCond .le off, 3)) (ht : (pc : Int) + off = (tgt : Int)) (ha : a < 2 ^ 31) (kt : a = 0 → V P tgt lv r S) (kf : 0 < a → V P (pc + 3) lv r S) : V P pc lv (.int (nI a) :: r) S := V_if_le tgt hd ht (fun h => kt (by have hb : (0 : Nat) < 2 ^ 31 := Nat.two_pow_pos 31; have e1 := @nI_eq a 0 ha hb; have e2 := @nI_leI a 0 ha hb; have e3 := @nI_leI 0 a hb ha; have e4 := @nI_ltI a 0 ha hb; have e5 := @nI_ltI 0 a hb ha; rw [nI_0] at e1 e2 e3 e4 e5; simp only [e1, e2, e3, e4, e5] at h ⊢; try omega)) (fun h => kf (by have hb : (0 : Nat) < 2 ^ 31 := Nat.two_pow_pos 31; have e1 := @nI_eq a 0 ha hb; have e2 := @nI_leI a 0 ha hb; have e3 := @nI_leI 0 a hb ha; have e4 := @nI_ltI a 0 ha hb; have e5 := @nI_ltI 0 a hb ha; rw [nI_0] at e1 e2 e3 e4 e5; simp only [e1, e2, e3, e4, e5] at h ⊢; try omega))
theorem l_9n {P : PX} {pc : Nat} {lv : LV} {r : List Value} {S : ST} {i : Nat} (hi : i < 12) (hd : decode P.2.2.2.2.2.2.1 pc = .ok (.iaload, 1)) (k : V P (pc + 1) lv (.int (S.2.2.1 9 i) :: r) S) : V P pc lv (.int (nI i) :: .ref (P.1.2.1 9) :: r) S := l_9 (vp_in_nI hi (by decide)) hd (by rw [nI_clamp (by omega)]; exact k)
theorem s_9n {P : PX} {pc : Nat} {lv : LV} {r : List Value} {S : ST} {i : Nat} {y : Int32} (hi : i < 12) (hd : decode P.2.2.2.2.2.2.1 pc = .ok (.iastore, 1)) (k : V P (pc + 1) lv r (setA S 9 i y)) : V P pc lv (.int y :: .int (nI i) :: .ref (P.1.2.1 9) :: r) S := s_9 (vp_in_nI hi (by decide)) hd (by rw [nI_clamp (by omega)]; exact k)
theorem l_10n {P : PX} {pc : Nat} {lv : LV} {r : List Value} {S : ST} {i : Nat} (hi : i < 12) (hd : decode P.2.2.2.2.2.2.1 pc = .ok (.iaload, 1)) (k : V P (pc + 1) lv (.int (S.2.2.1 10 i) :: r) S) : V P pc lv (.int (nI i) :: .ref (P.1.2.1 10) :: r) S := l_10 (vp_in_nI hi (by decide)) hd (by rw [nI_clamp (by omega)]; exact k)
theorem s_10n {P : PX} {pc : Nat} {lv : LV} {r : List Value} {S : ST} {i : Nat} {y : Int32} (hi : i < 12) (hd : decode P.2.2.2.2.2.2.1 pc = .ok (.iastore, 1)) (k : V P (pc + 1) lv r (setA S 10 i y)) : V P pc lv (.int y :: .int (nI i) :: .ref (P.1.2.1 10) :: r) S := s_10 (vp_in_nI hi (by decide)) hd (by rw [nI_clamp (by omega)]; exact k)
theorem l_11n {P : PX} {pc : Nat} {lv : LV} {r : List Value} {S : ST} {i : Nat} (hi : i < 12) (hd : decode P.2.2.2.2.2.2.1 pc = .ok (.iaload, 1)) (k : V P (pc + 1) lv (.int (S.2.2.1 11 i) :: r) S) : V P pc lv (.int (nI i) :: .ref (P.1.2.1 11) :: r) S := l_11 (vp_in_nI hi (by decide)) hd (by rw [nI_clamp (by omega)]; exact k)
theorem s_11n {P : PX} {pc : Nat} {lv : LV} {r : List Value} {S : ST} {i : Nat} {y : Int32} (hi : i < 12) (hd : decode P.2.2.2.2.2.2.1 pc = .ok (.iastore, 1)) (k : V P (pc + 1) lv r (setA S 11 i y)) : V P pc lv (.int y :: .int (nI i) :: .ref (P.1.2.1 11) :: r) S := s_11 (vp_in_nI hi (by decide)) hd (by rw [nI_clamp (by omega)]; exact k)
theorem l_12n {P : PX} {pc : Nat} {lv : LV} {r : List Value} {S : ST} {i : Nat} (hi : i < 12) (hd : decode P.2.2.2.2.2.2.1 pc = .ok (.iaload, 1)) (k : V P (pc + 1) lv (.int (S.2.2.1 12 i) :: r) S) : V P pc lv (.int (nI i) :: .ref (P.1.2.1 12) :: r) S := l_12 (vp_in_nI hi (by decide)) hd (by rw [nI_clamp (by omega)]; exact k)
theorem s_12n {P : PX} {pc : Nat} {lv : LV} {r : List Value} {S : ST} {i : Nat} {y : Int32} (hi : i < 12) (hd : decode P.2.2.2.2.2.2.1 pc = .ok (.iastore, 1)) (k : V P (pc + 1) lv r (setA S 12 i y)) : V P pc lv (.int y :: .int (nI i) :: .ref (P.1.2.1 12) :: r) S := s_12 (vp_in_nI hi (by decide)) hd (by rw [nI_clamp (by omega)]; exact k)
theorem l_13n {P : PX} {pc : Nat} {lv : LV} {r : List Value} {S : ST} {i : Nat} (hi : i < 12) (hd : decode P.2.2.2.2.2.2.1 pc = .ok (.iaload, 1)) (k : V P (pc + 1) lv (.int (S.2.2.1 13 i) :: r) S) : V P pc lv (.int (nI i) :: .ref (P.1.2.1 13) :: r) S := l_13 (vp_in_nI hi (by decide)) hd (by rw [nI_clamp (by omega)]; exact k)
theorem s_13n {P : PX} {pc : Nat} {lv : LV} {r : List Value} {S : ST} {i : Nat} {y : Int32} (hi : i < 12) (hd : decode P.2.2.2.2.2.2.1 pc = .ok (.iastore, 1)) (k : V P (pc + 1) lv r (setA S 13 i y)) : V P pc lv (.int y :: .int (nI i) :: .ref (P.1.2.1 13) :: r) S := s_13 (vp_in_nI hi (by decide)) hd (by rw [nI_clamp (by omega)]; exact k)
theorem l_14n {P : PX} {pc : Nat} {lv : LV} {r : List Value} {S : ST} {i : Nat} (hi : i < 12) (hd : decode P.2.2.2.2.2.2.1 pc = .ok (.iaload, 1)) (k : V P (pc + 1) lv (.int (S.2.2.1 14 i) :: r) S) : V P pc lv (.int (nI i) :: .ref (P.1.2.1 14) :: r) S := l_14 (vp_in_nI hi (by decide)) hd (by rw [nI_clamp (by omega)]; exact k)
theorem s_14n {P : PX} {pc : Nat} {lv : LV} {r : List Value} {S : ST} {i : Nat} {y : Int32} (hi : i < 12) (hd : decode P.2.2.2.2.2.2.1 pc = .ok (.iastore, 1)) (k : V P (pc + 1) lv r (setA S 14 i y)) : V P pc lv (.int y :: .int (nI i) :: .ref (P.1.2.1 14) :: r) S := s_14 (vp_in_nI hi (by decide)) hd (by rw [nI_clamp (by omega)]; exact k)
theorem l_15n {P : PX} {pc : Nat} {lv : LV} {r : List Value} {S : ST} {i : Nat} (hi : i < 12) (hd : decode P.2.2.2.2.2.2.1 pc = .ok (.iaload, 1)) (k : V P (pc + 1) lv (.int (S.2.2.1 15 i) :: r) S) : V P pc lv (.int (nI i) :: .ref (P.1.2.1 15) :: r) S := l_15 (vp_in_nI hi (by decide)) hd (by rw [nI_clamp (by omega)]; exact k)
theorem s_15n {P : PX} {pc : Nat} {lv : LV} {r : List Value} {S : ST} {i : Nat} {y : Int32} (hi : i < 12) (hd : decode P.2.2.2.2.2.2.1 pc = .ok (.iastore, 1)) (k : V P (pc + 1) lv r (setA S 15 i y)) : V P pc lv (.int y :: .int (nI i) :: .ref (P.1.2.1 15) :: r) S := s_15 (vp_in_nI hi (by decide)) hd (by rw [nI_clamp (by omega)]; exact k)
theorem l_16n {P : PX} {pc : Nat} {lv : LV} {r : List Value} {S : ST} {i : Nat} (hi : i < 12) (hd : decode P.2.2.2.2.2.2.1 pc = .ok (.baload, 1)) (k : V P (pc + 1) lv (.int (S.2.2.1 16 i) :: r) S) : V P pc lv (.int (nI i) :: .ref (P.1.2.1 16) :: r) S := l_16 (vp_in_nI hi (by decide)) hd (by rw [nI_clamp (by omega)]; exact k)
theorem s_16n {P : PX} {pc : Nat} {lv : LV} {r : List Value} {S : ST} {i : Nat} {y : Int32} (hi : i < 12) (hd : decode P.2.2.2.2.2.2.1 pc = .ok (.bastore, 1)) (k : V P (pc + 1) lv r (setA S 16 i (vp_nar .boolean y))) : V P pc lv (.int y :: .int (nI i) :: .ref (P.1.2.1 16) :: r) S := s_16 (vp_in_nI hi (by decide)) hd (by rw [nI_clamp (by omega)]; exact k)
theorem l_17n {P : PX} {pc : Nat} {lv : LV} {r : List Value} {S : ST} {i : Nat} (hi : i < 5) (hd : decode P.2.2.2.2.2.2.1 pc = .ok (.iaload, 1)) (k : V P (pc + 1) lv (.int (S.2.2.1 17 i) :: r) S) : V P pc lv (.int (nI i) :: .ref (P.1.2.1 17) :: r) S := l_17 (vp_in_nI hi (by decide)) hd (by rw [nI_clamp (by omega)]; exact k)
theorem s_17n {P : PX} {pc : Nat} {lv : LV} {r : List Value} {S : ST} {i : Nat} {y : Int32} (hi : i < 5) (hd : decode P.2.2.2.2.2.2.1 pc = .ok (.iastore, 1)) (k : V P (pc + 1) lv r (setA S 17 i y)) : V P pc lv (.int y :: .int (nI i) :: .ref (P.1.2.1 17) :: r) S := s_17 (vp_in_nI hi (by decide)) hd (by rw [nI_clamp (by omega)]; exact k)
theorem l_18n {P : PX} {pc : Nat} {lv : LV} {r : List Value} {S : ST} {i : Nat} (hi : i < 210) (hd : decode P.2.2.2.2.2.2.1 pc = .ok (.iaload, 1)) (k : V P (pc + 1) lv (.int (S.2.2.1 18 i) :: r) S) : V P pc lv (.int (nI i) :: .ref (P.1.2.1 18) :: r) S := l_18 (vp_in_nI hi (by decide)) hd (by rw [nI_clamp (by omega)]; exact k)
theorem s_18n {P : PX} {pc : Nat} {lv : LV} {r : List Value} {S : ST} {i : Nat} {y : Int32} (hi : i < 210) (hd : decode P.2.2.2.2.2.2.1 pc = .ok (.iastore, 1)) (k : V P (pc + 1) lv r (setA S 18 i y)) : V P pc lv (.int y :: .int (nI i) :: .ref (P.1.2.1 18) :: r) S := s_18 (vp_in_nI hi (by decide)) hd (by rw [nI_clamp (by omega)]; exact k)
theorem l_19n {P : PX} {pc : Nat} {lv : LV} {r : List Value} {S : ST} {i : Nat} (hi : i < 210) (hd : decode P.2.2.2.2.2.2.1 pc = .ok (.laload, 1)) (k : V P (pc + 1) lv (.long (S.2.2.2 19 i) :: r) S) : V P pc lv (.int (nI i) :: .ref (P.1.2.1 19) :: r) S := l_19 (vp_in_nI hi (by decide)) hd (by rw [nI_clamp (by omega)]; exact k)
theorem s_19n {P : PX} {pc : Nat} {lv : LV} {r : List Value} {S : ST} {i : Nat} {y : Int64} (hi : i < 210) (hd : decode P.2.2.2.2.2.2.1 pc = .ok (.lastore, 1)) (k : V P (pc + 1) lv r (setJ S 19 i y)) : V P pc lv (.long y :: .int (nI i) :: .ref (P.1.2.1 19) :: r) S := s_19 (vp_in_nI hi (by decide)) hd (by rw [nI_clamp (by omega)]; exact k)
theorem l_20n {P : PX} {pc : Nat} {lv : LV} {r : List Value} {S : ST} {i : Nat} (hi : i < 210) (hd : decode P.2.2.2.2.2.2.1 pc = .ok (.iaload, 1)) (k : V P (pc + 1) lv (.int (S.2.2.1 20 i) :: r) S) : V P pc lv (.int (nI i) :: .ref (P.1.2.1 20) :: r) S := l_20 (vp_in_nI hi (by decide)) hd (by rw [nI_clamp (by omega)]; exact k)
theorem s_20n {P : PX} {pc : Nat} {lv : LV} {r : List Value} {S : ST} {i : Nat} {y : Int32} (hi : i < 210) (hd : decode P.2.2.2.2.2.2.1 pc = .ok (.iastore, 1)) (k : V P (pc + 1) lv r (setA S 20 i y)) : V P pc lv (.int y :: .int (nI i) :: .ref (P.1.2.1 20) :: r) S := s_20 (vp_in_nI hi (by decide)) hd (by rw [nI_clamp (by omega)]; exact k)
theorem l_21n {P : PX} {pc : Nat} {lv : LV} {r : List Value} {S : ST} {i : Nat} (hi : i < 4096) (hd : decode P.2.2.2.2.2.2.1 pc = .ok (.iaload, 1)) (k : V P (pc + 1) lv (.int (S.2.2.1 21 i) :: r) S) : V P pc lv (.int (nI i) :: .ref (P.1.2.1 21) :: r) S := l_21 (vp_in_nI hi (by decide)) hd (by rw [nI_clamp (by omega)]; exact k)
theorem s_21n {P : PX} {pc : Nat} {lv : LV} {r : List Value} {S : ST} {i : Nat} {y : Int32} (hi : i < 4096) (hd : decode P.2.2.2.2.2.2.1 pc = .ok (.iastore, 1)) (k : V P (pc + 1) lv r (setA S 21 i y)) : V P pc lv (.int y :: .int (nI i) :: .ref (P.1.2.1 21) :: r) S := s_21 (vp_in_nI hi (by decide)) hd (by rw [nI_clamp (by omega)]; exact k)
theorem l_22n {P : PX} {pc : Nat} {lv : LV} {r : List Value} {S : ST} {i : Nat} (hi : i < 4096) (hd : decode P.2.2.2.2.2.2.1 pc = .ok (.iaload, 1)) (k : V P (pc + 1) lv (.int (S.2.2.1 22 i) :: r) S) : V P pc lv (.int (nI i) :: .ref (P.1.2.1 22) :: r) S := l_22 (vp_in_nI hi (by decide)) hd (by rw [nI_clamp (by omega)]; exact k)
theorem s_22n {P : PX} {pc : Nat} {lv : LV} {r : List Value} {S : ST} {i : Nat} {y : Int32} (hi : i < 4096) (hd : decode P.2.2.2.2.2.2.1 pc = .ok (.iastore, 1)) (k : V P (pc + 1) lv r (setA S 22 i y)) : V P pc lv (.int y :: .int (nI i) :: .ref (P.1.2.1 22) :: r) S := s_22 (vp_in_nI hi (by decide)) hd (by rw [nI_clamp (by omega)]; exact k)
theorem l_23n {P : PX} {pc : Nat} {lv : LV} {r : List Value} {S : ST} {i : Nat} (hi : i < 40) (hd : decode P.2.2.2.2.2.2.1 pc = .ok (.iaload, 1)) (k : V P (pc + 1) lv (.int (S.2.2.1 23 i) :: r) S) : V P pc lv (.int (nI i) :: .ref (P.1.2.1 23) :: r) S := l_23 (vp_in_nI hi (by decide)) hd (by rw [nI_clamp (by omega)]; exact k)
theorem s_23n {P : PX} {pc : Nat} {lv : LV} {r : List Value} {S : ST} {i : Nat} {y : Int32} (hi : i < 40) (hd : decode P.2.2.2.2.2.2.1 pc = .ok (.iastore, 1)) (k : V P (pc + 1) lv r (setA S 23 i y)) : V P pc lv (.int y :: .int (nI i) :: .ref (P.1.2.1 23) :: r) S := s_23 (vp_in_nI hi (by decide)) hd (by rw [nI_clamp (by omega)]; exact k)
theorem l_24n {P : PX} {pc : Nat} {lv : LV} {r : List Value} {S : ST} {i : Nat} (hi : i < 42) (hd : decode P.2.2.2.2.2.2.1 pc = .ok (.iaload, 1)) (k : V P (pc + 1) lv (.int (S.2.2.1 24 i) :: r) S) : V P pc lv (.int (nI i) :: .ref (P.1.2.1 24) :: r) S := l_24 (vp_in_nI hi (by decide)) hd (by rw [nI_clamp (by omega)]; exact k)
theorem s_24n {P : PX} {pc : Nat} {lv : LV} {r : List Value} {S : ST} {i : Nat} {y : Int32} (hi : i < 42) (hd : decode P.2.2.2.2.2.2.1 pc = .ok (.iastore, 1)) (k : V P (pc + 1) lv r (setA S 24 i y)) : V P pc lv (.int y :: .int (nI i) :: .ref (P.1.2.1 24) :: r) S := s_24 (vp_in_nI hi (by decide)) hd (by rw [nI_clamp (by omega)]; exact k)
theorem l_25n {P : PX} {pc : Nat} {lv : LV} {r : List Value} {S : ST} {i : Nat} (hi : i < 64) (hd : decode P.2.2.2.2.2.2.1 pc = .ok (.laload, 1)) (k : V P (pc + 1) lv (.long (S.2.2.2 25 i) :: r) S) : V P pc lv (.int (nI i) :: .ref (P.1.2.1 25) :: r) S := l_25 (vp_in_nI hi (by decide)) hd (by rw [nI_clamp (by omega)]; exact k)
theorem s_25n {P : PX} {pc : Nat} {lv : LV} {r : List Value} {S : ST} {i : Nat} {y : Int64} (hi : i < 64) (hd : decode P.2.2.2.2.2.2.1 pc = .ok (.lastore, 1)) (k : V P (pc + 1) lv r (setJ S 25 i y)) : V P pc lv (.long y :: .int (nI i) :: .ref (P.1.2.1 25) :: r) S := s_25 (vp_in_nI hi (by decide)) hd (by rw [nI_clamp (by omega)]; exact k)
theorem l_26n {P : PX} {pc : Nat} {lv : LV} {r : List Value} {S : ST} {i : Nat} (hi : i < 40) (hd : decode P.2.2.2.2.2.2.1 pc = .ok (.laload, 1)) (k : V P (pc + 1) lv (.long (S.2.2.2 26 i) :: r) S) : V P pc lv (.int (nI i) :: .ref (P.1.2.1 26) :: r) S := l_26 (vp_in_nI hi (by decide)) hd (by rw [nI_clamp (by omega)]; exact k)
theorem s_26n {P : PX} {pc : Nat} {lv : LV} {r : List Value} {S : ST} {i : Nat} {y : Int64} (hi : i < 40) (hd : decode P.2.2.2.2.2.2.1 pc = .ok (.lastore, 1)) (k : V P (pc + 1) lv r (setJ S 26 i y)) : V P pc lv (.long y :: .int (nI i) :: .ref (P.1.2.1 26) :: r) S := s_26 (vp_in_nI hi (by decide)) hd (by rw [nI_clamp (by omega)]; exact k)
theorem l_27n {P : PX} {pc : Nat} {lv : LV} {r : List Value} {S : ST} {i : Nat} (hi : i < 64) (hd : decode P.2.2.2.2.2.2.1 pc = .ok (.laload, 1)) (k : V P (pc + 1) lv (.long (S.2.2.2 27 i) :: r) S) : V P pc lv (.int (nI i) :: .ref (P.1.2.1 27) :: r) S := l_27 (vp_in_nI hi (by decide)) hd (by rw [nI_clamp (by omega)]; exact k)
theorem s_27n {P : PX} {pc : Nat} {lv : LV} {r : List Value} {S : ST} {i : Nat} {y : Int64} (hi : i < 64) (hd : decode P.2.2.2.2.2.2.1 pc = .ok (.lastore, 1)) (k : V P (pc + 1) lv r (setJ S 27 i y)) : V P pc lv (.long y :: .int (nI i) :: .ref (P.1.2.1 27) :: r) S := s_27 (vp_in_nI hi (by decide)) hd (by rw [nI_clamp (by omega)]; exact k)
theorem l_28n {P : PX} {pc : Nat} {lv : LV} {r : List Value} {S : ST} {i : Nat} (hi : i < 64) (hd : decode P.2.2.2.2.2.2.1 pc = .ok (.laload, 1)) (k : V P (pc + 1) lv (.long (S.2.2.2 28 i) :: r) S) : V P pc lv (.int (nI i) :: .ref (P.1.2.1 28) :: r) S := l_28 (vp_in_nI hi (by decide)) hd (by rw [nI_clamp (by omega)]; exact k)
theorem s_28n {P : PX} {pc : Nat} {lv : LV} {r : List Value} {S : ST} {i : Nat} {y : Int64} (hi : i < 64) (hd : decode P.2.2.2.2.2.2.1 pc = .ok (.lastore, 1)) (k : V P (pc + 1) lv r (setJ S 28 i y)) : V P pc lv (.long y :: .int (nI i) :: .ref (P.1.2.1 28) :: r) S := s_28 (vp_in_nI hi (by decide)) hd (by rw [nI_clamp (by omega)]; exact k)
theorem l_30n {P : PX} {pc : Nat} {lv : LV} {r : List Value} {S : ST} {i : Nat} (hi : i < 12) (hd : decode P.2.2.2.2.2.2.1 pc = .ok (.iaload, 1)) (k : V P (pc + 1) lv (.int (S.2.2.1 30 i) :: r) S) : V P pc lv (.int (nI i) :: .ref (P.1.2.1 30) :: r) S := l_30 (vp_in_nI hi (by decide)) hd (by rw [nI_clamp (by omega)]; exact k)
theorem s_30n {P : PX} {pc : Nat} {lv : LV} {r : List Value} {S : ST} {i : Nat} {y : Int32} (hi : i < 12) (hd : decode P.2.2.2.2.2.2.1 pc = .ok (.iastore, 1)) (k : V P (pc + 1) lv r (setA S 30 i y)) : V P pc lv (.int y :: .int (nI i) :: .ref (P.1.2.1 30) :: r) S := s_30 (vp_in_nI hi (by decide)) hd (by rw [nI_clamp (by omega)]; exact k)
theorem l_31n {P : PX} {pc : Nat} {lv : LV} {r : List Value} {S : ST} {i : Nat} (hi : i < 12) (hd : decode P.2.2.2.2.2.2.1 pc = .ok (.iaload, 1)) (k : V P (pc + 1) lv (.int (S.2.2.1 31 i) :: r) S) : V P pc lv (.int (nI i) :: .ref (P.1.2.1 31) :: r) S := l_31 (vp_in_nI hi (by decide)) hd (by rw [nI_clamp (by omega)]; exact k)
theorem s_31n {P : PX} {pc : Nat} {lv : LV} {r : List Value} {S : ST} {i : Nat} {y : Int32} (hi : i < 12) (hd : decode P.2.2.2.2.2.2.1 pc = .ok (.iastore, 1)) (k : V P (pc + 1) lv r (setA S 31 i y)) : V P pc lv (.int y :: .int (nI i) :: .ref (P.1.2.1 31) :: r) S := s_31 (vp_in_nI hi (by decide)) hd (by rw [nI_clamp (by omega)]; exact k)
theorem l_32n {P : PX} {pc : Nat} {lv : LV} {r : List Value} {S : ST} {i : Nat} (hi : i < 12) (hd : decode P.2.2.2.2.2.2.1 pc = .ok (.iaload, 1)) (k : V P (pc + 1) lv (.int (S.2.2.1 32 i) :: r) S) : V P pc lv (.int (nI i) :: .ref (P.1.2.1 32) :: r) S := l_32 (vp_in_nI hi (by decide)) hd (by rw [nI_clamp (by omega)]; exact k)
theorem s_32n {P : PX} {pc : Nat} {lv : LV} {r : List Value} {S : ST} {i : Nat} {y : Int32} (hi : i < 12) (hd : decode P.2.2.2.2.2.2.1 pc = .ok (.iastore, 1)) (k : V P (pc + 1) lv r (setA S 32 i y)) : V P pc lv (.int y :: .int (nI i) :: .ref (P.1.2.1 32) :: r) S := s_32 (vp_in_nI hi (by decide)) hd (by rw [nI_clamp (by omega)]; exact k)
theorem l_33n {P : PX} {pc : Nat} {lv : LV} {r : List Value} {S : ST} {i : Nat} (hi : i < 12) (hd : decode P.2.2.2.2.2.2.1 pc = .ok (.iaload, 1)) (k : V P (pc + 1) lv (.int (S.2.2.1 33 i) :: r) S) : V P pc lv (.int (nI i) :: .ref (P.1.2.1 33) :: r) S := l_33 (vp_in_nI hi (by decide)) hd (by rw [nI_clamp (by omega)]; exact k)
theorem s_33n {P : PX} {pc : Nat} {lv : LV} {r : List Value} {S : ST} {i : Nat} {y : Int32} (hi : i < 12) (hd : decode P.2.2.2.2.2.2.1 pc = .ok (.iastore, 1)) (k : V P (pc + 1) lv r (setA S 33 i y)) : V P pc lv (.int y :: .int (nI i) :: .ref (P.1.2.1 33) :: r) S := s_33 (vp_in_nI hi (by decide)) hd (by rw [nI_clamp (by omega)]; exact k)
theorem l_34n {P : PX} {pc : Nat} {lv : LV} {r : List Value} {S : ST} {i : Nat} (hi : i < 12) (hd : decode P.2.2.2.2.2.2.1 pc = .ok (.baload, 1)) (k : V P (pc + 1) lv (.int (S.2.2.1 34 i) :: r) S) : V P pc lv (.int (nI i) :: .ref (P.1.2.1 34) :: r) S := l_34 (vp_in_nI hi (by decide)) hd (by rw [nI_clamp (by omega)]; exact k)
theorem s_34n {P : PX} {pc : Nat} {lv : LV} {r : List Value} {S : ST} {i : Nat} {y : Int32} (hi : i < 12) (hd : decode P.2.2.2.2.2.2.1 pc = .ok (.bastore, 1)) (k : V P (pc + 1) lv r (setA S 34 i (vp_nar .boolean y))) : V P pc lv (.int y :: .int (nI i) :: .ref (P.1.2.1 34) :: r) S := s_34 (vp_in_nI hi (by decide)) hd (by rw [nI_clamp (by omega)]; exact k)
theorem l_35n {P : PX} {pc : Nat} {lv : LV} {r : List Value} {S : ST} {i : Nat} (hi : i < 12) (hd : decode P.2.2.2.2.2.2.1 pc = .ok (.iaload, 1)) (k : V P (pc + 1) lv (.int (S.2.2.1 35 i) :: r) S) : V P pc lv (.int (nI i) :: .ref (P.1.2.1 35) :: r) S := l_35 (vp_in_nI hi (by decide)) hd (by rw [nI_clamp (by omega)]; exact k)
theorem s_35n {P : PX} {pc : Nat} {lv : LV} {r : List Value} {S : ST} {i : Nat} {y : Int32} (hi : i < 12) (hd : decode P.2.2.2.2.2.2.1 pc = .ok (.iastore, 1)) (k : V P (pc + 1) lv r (setA S 35 i y)) : V P pc lv (.int y :: .int (nI i) :: .ref (P.1.2.1 35) :: r) S := s_35 (vp_in_nI hi (by decide)) hd (by rw [nI_clamp (by omega)]; exact k)
theorem l_36n {P : PX} {pc : Nat} {lv : LV} {r : List Value} {S : ST} {i : Nat} (hi : i < 12) (hd : decode P.2.2.2.2.2.2.1 pc = .ok (.baload, 1)) (k : V P (pc + 1) lv (.int (S.2.2.1 36 i) :: r) S) : V P pc lv (.int (nI i) :: .ref (P.1.2.1 36) :: r) S := l_36 (vp_in_nI hi (by decide)) hd (by rw [nI_clamp (by omega)]; exact k)
theorem s_36n {P : PX} {pc : Nat} {lv : LV} {r : List Value} {S : ST} {i : Nat} {y : Int32} (hi : i < 12) (hd : decode P.2.2.2.2.2.2.1 pc = .ok (.bastore, 1)) (k : V P (pc + 1) lv r (setA S 36 i (vp_nar .boolean y))) : V P pc lv (.int y :: .int (nI i) :: .ref (P.1.2.1 36) :: r) S := s_36 (vp_in_nI hi (by decide)) hd (by rw [nI_clamp (by omega)]; exact k)
theorem l_37n {P : PX} {pc : Nat} {lv : LV} {r : List Value} {S : ST} {i : Nat} (hi : i < 5) (hd : decode P.2.2.2.2.2.2.1 pc = .ok (.iaload, 1)) (k : V P (pc + 1) lv (.int (S.2.2.1 37 i) :: r) S) : V P pc lv (.int (nI i) :: .ref (P.1.2.1 37) :: r) S := l_37 (vp_in_nI hi (by decide)) hd (by rw [nI_clamp (by omega)]; exact k)
theorem s_37n {P : PX} {pc : Nat} {lv : LV} {r : List Value} {S : ST} {i : Nat} {y : Int32} (hi : i < 5) (hd : decode P.2.2.2.2.2.2.1 pc = .ok (.iastore, 1)) (k : V P (pc + 1) lv r (setA S 37 i y)) : V P pc lv (.int y :: .int (nI i) :: .ref (P.1.2.1 37) :: r) S := s_37 (vp_in_nI hi (by decide)) hd (by rw [nI_clamp (by omega)]; exact k)
theorem l_38n {P : PX} {pc : Nat} {lv : LV} {r : List Value} {S : ST} {i : Nat} (hi : i < 40) (hd : decode P.2.2.2.2.2.2.1 pc = .ok (.iaload, 1)) (k : V P (pc + 1) lv (.int (S.2.2.1 38 i) :: r) S) : V P pc lv (.int (nI i) :: .ref (P.1.2.1 38) :: r) S := l_38 (vp_in_nI hi (by decide)) hd (by rw [nI_clamp (by omega)]; exact k)
theorem s_38n {P : PX} {pc : Nat} {lv : LV} {r : List Value} {S : ST} {i : Nat} {y : Int32} (hi : i < 40) (hd : decode P.2.2.2.2.2.2.1 pc = .ok (.iastore, 1)) (k : V P (pc + 1) lv r (setA S 38 i y)) : V P pc lv (.int y :: .int (nI i) :: .ref (P.1.2.1 38) :: r) S := s_38 (vp_in_nI hi (by decide)) hd (by rw [nI_clamp (by omega)]; exact k)
theorem l_39n {P : PX} {pc : Nat} {lv : LV} {r : List Value} {S : ST} {i : Nat} (hi : i < 40) (hd : decode P.2.2.2.2.2.2.1 pc = .ok (.iaload, 1)) (k : V P (pc + 1) lv (.int (S.2.2.1 39 i) :: r) S) : V P pc lv (.int (nI i) :: .ref (P.1.2.1 39) :: r) S := l_39 (vp_in_nI hi (by decide)) hd (by rw [nI_clamp (by omega)]; exact k)
theorem s_39n {P : PX} {pc : Nat} {lv : LV} {r : List Value} {S : ST} {i : Nat} {y : Int32} (hi : i < 40) (hd : decode P.2.2.2.2.2.2.1 pc = .ok (.iastore, 1)) (k : V P (pc + 1) lv r (setA S 39 i y)) : V P pc lv (.int y :: .int (nI i) :: .ref (P.1.2.1 39) :: r) S := s_39 (vp_in_nI hi (by decide)) hd (by rw [nI_clamp (by omega)]; exact k)
theorem l_40n {P : PX} {pc : Nat} {lv : LV} {r : List Value} {S : ST} {i : Nat} (hi : i < 210) (hd : decode P.2.2.2.2.2.2.1 pc = .ok (.iaload, 1)) (k : V P (pc + 1) lv (.int (S.2.2.1 40 i) :: r) S) : V P pc lv (.int (nI i) :: .ref (P.1.2.1 40) :: r) S := l_40 (vp_in_nI hi (by decide)) hd (by rw [nI_clamp (by omega)]; exact k)
theorem s_40n {P : PX} {pc : Nat} {lv : LV} {r : List Value} {S : ST} {i : Nat} {y : Int32} (hi : i < 210) (hd : decode P.2.2.2.2.2.2.1 pc = .ok (.iastore, 1)) (k : V P (pc + 1) lv r (setA S 40 i y)) : V P pc lv (.int y :: .int (nI i) :: .ref (P.1.2.1 40) :: r) S := s_40 (vp_in_nI hi (by decide)) hd (by rw [nI_clamp (by omega)]; exact k)
theorem l_41n {P : PX} {pc : Nat} {lv : LV} {r : List Value} {S : ST} {i : Nat} (hi : i < 210) (hd : decode P.2.2.2.2.2.2.1 pc = .ok (.iaload, 1)) (k : V P (pc + 1) lv (.int (S.2.2.1 41 i) :: r) S) : V P pc lv (.int (nI i) :: .ref (P.1.2.1 41) :: r) S := l_41 (vp_in_nI hi (by decide)) hd (by rw [nI_clamp (by omega)]; exact k)
theorem s_41n {P : PX} {pc : Nat} {lv : LV} {r : List Value} {S : ST} {i : Nat} {y : Int32} (hi : i < 210) (hd : decode P.2.2.2.2.2.2.1 pc = .ok (.iastore, 1)) (k : V P (pc + 1) lv r (setA S 41 i y)) : V P pc lv (.int y :: .int (nI i) :: .ref (P.1.2.1 41) :: r) S := s_41 (vp_in_nI hi (by decide)) hd (by rw [nI_clamp (by omega)]; exact k)
theorem l_42n {P : PX} {pc : Nat} {lv : LV} {r : List Value} {S : ST} {i : Nat} (hi : i < 210) (hd : decode P.2.2.2.2.2.2.1 pc = .ok (.iaload, 1)) (k : V P (pc + 1) lv (.int (S.2.2.1 42 i) :: r) S) : V P pc lv (.int (nI i) :: .ref (P.1.2.1 42) :: r) S := l_42 (vp_in_nI hi (by decide)) hd (by rw [nI_clamp (by omega)]; exact k)
theorem s_42n {P : PX} {pc : Nat} {lv : LV} {r : List Value} {S : ST} {i : Nat} {y : Int32} (hi : i < 210) (hd : decode P.2.2.2.2.2.2.1 pc = .ok (.iastore, 1)) (k : V P (pc + 1) lv r (setA S 42 i y)) : V P pc lv (.int y :: .int (nI i) :: .ref (P.1.2.1 42) :: r) S := s_42 (vp_in_nI hi (by decide)) hd (by rw [nI_clamp (by omega)]; exact k)
theorem l_43n {P : PX} {pc : Nat} {lv : LV} {r : List Value} {S : ST} {i : Nat} (hi : i < 210) (hd : decode P.2.2.2.2.2.2.1 pc = .ok (.laload, 1)) (k : V P (pc + 1) lv (.long (S.2.2.2 43 i) :: r) S) : V P pc lv (.int (nI i) :: .ref (P.1.2.1 43) :: r) S := l_43 (vp_in_nI hi (by decide)) hd (by rw [nI_clamp (by omega)]; exact k)
theorem s_43n {P : PX} {pc : Nat} {lv : LV} {r : List Value} {S : ST} {i : Nat} {y : Int64} (hi : i < 210) (hd : decode P.2.2.2.2.2.2.1 pc = .ok (.lastore, 1)) (k : V P (pc + 1) lv r (setJ S 43 i y)) : V P pc lv (.long y :: .int (nI i) :: .ref (P.1.2.1 43) :: r) S := s_43 (vp_in_nI hi (by decide)) hd (by rw [nI_clamp (by omega)]; exact k)
theorem l_44n {P : PX} {pc : Nat} {lv : LV} {r : List Value} {S : ST} {i : Nat} (hi : i < 4096) (hd : decode P.2.2.2.2.2.2.1 pc = .ok (.iaload, 1)) (k : V P (pc + 1) lv (.int (S.2.2.1 44 i) :: r) S) : V P pc lv (.int (nI i) :: .ref (P.1.2.1 44) :: r) S := l_44 (vp_in_nI hi (by decide)) hd (by rw [nI_clamp (by omega)]; exact k)
theorem s_44n {P : PX} {pc : Nat} {lv : LV} {r : List Value} {S : ST} {i : Nat} {y : Int32} (hi : i < 4096) (hd : decode P.2.2.2.2.2.2.1 pc = .ok (.iastore, 1)) (k : V P (pc + 1) lv r (setA S 44 i y)) : V P pc lv (.int y :: .int (nI i) :: .ref (P.1.2.1 44) :: r) S := s_44 (vp_in_nI hi (by decide)) hd (by rw [nI_clamp (by omega)]; exact k)
theorem l_45n {P : PX} {pc : Nat} {lv : LV} {r : List Value} {S : ST} {i : Nat} (hi : i < 4096) (hd : decode P.2.2.2.2.2.2.1 pc = .ok (.iaload, 1)) (k : V P (pc + 1) lv (.int (S.2.2.1 45 i) :: r) S) : V P pc lv (.int (nI i) :: .ref (P.1.2.1 45) :: r) S := l_45 (vp_in_nI hi (by decide)) hd (by rw [nI_clamp (by omega)]; exact k)
theorem s_45n {P : PX} {pc : Nat} {lv : LV} {r : List Value} {S : ST} {i : Nat} {y : Int32} (hi : i < 4096) (hd : decode P.2.2.2.2.2.2.1 pc = .ok (.iastore, 1)) (k : V P (pc + 1) lv r (setA S 45 i y)) : V P pc lv (.int y :: .int (nI i) :: .ref (P.1.2.1 45) :: r) S := s_45 (vp_in_nI hi (by decide)) hd (by rw [nI_clamp (by omega)]; exact k)
theorem l_46n {P : PX} {pc : Nat} {lv : LV} {r : List Value} {S : ST} {i : Nat} (hi : i < 4096) (hd : decode P.2.2.2.2.2.2.1 pc = .ok (.iaload, 1)) (k : V P (pc + 1) lv (.int (S.2.2.1 46 i) :: r) S) : V P pc lv (.int (nI i) :: .ref (P.1.2.1 46) :: r) S := l_46 (vp_in_nI hi (by decide)) hd (by rw [nI_clamp (by omega)]; exact k)
theorem s_46n {P : PX} {pc : Nat} {lv : LV} {r : List Value} {S : ST} {i : Nat} {y : Int32} (hi : i < 4096) (hd : decode P.2.2.2.2.2.2.1 pc = .ok (.iastore, 1)) (k : V P (pc + 1) lv r (setA S 46 i y)) : V P pc lv (.int y :: .int (nI i) :: .ref (P.1.2.1 46) :: r) S := s_46 (vp_in_nI hi (by decide)) hd (by rw [nI_clamp (by omega)]; exact k)
theorem l_47n {P : PX} {pc : Nat} {lv : LV} {r : List Value} {S : ST} {i : Nat} (hi : i < 4096) (hd : decode P.2.2.2.2.2.2.1 pc = .ok (.iaload, 1)) (k : V P (pc + 1) lv (.int (S.2.2.1 47 i) :: r) S) : V P pc lv (.int (nI i) :: .ref (P.1.2.1 47) :: r) S := l_47 (vp_in_nI hi (by decide)) hd (by rw [nI_clamp (by omega)]; exact k)
theorem s_47n {P : PX} {pc : Nat} {lv : LV} {r : List Value} {S : ST} {i : Nat} {y : Int32} (hi : i < 4096) (hd : decode P.2.2.2.2.2.2.1 pc = .ok (.iastore, 1)) (k : V P (pc + 1) lv r (setA S 47 i y)) : V P pc lv (.int y :: .int (nI i) :: .ref (P.1.2.1 47) :: r) S := s_47 (vp_in_nI hi (by decide)) hd (by rw [nI_clamp (by omega)]; exact k)
theorem l_48n {P : PX} {pc : Nat} {lv : LV} {r : List Value} {S : ST} {i : Nat} (hi : i < 10) (hd : decode P.2.2.2.2.2.2.1 pc = .ok (.iaload, 1)) (k : V P (pc + 1) lv (.int (S.2.2.1 48 i) :: r) S) : V P pc lv (.int (nI i) :: .ref (P.1.2.1 48) :: r) S := l_48 (vp_in_nI hi (by decide)) hd (by rw [nI_clamp (by omega)]; exact k)
theorem s_48n {P : PX} {pc : Nat} {lv : LV} {r : List Value} {S : ST} {i : Nat} {y : Int32} (hi : i < 10) (hd : decode P.2.2.2.2.2.2.1 pc = .ok (.iastore, 1)) (k : V P (pc + 1) lv r (setA S 48 i y)) : V P pc lv (.int y :: .int (nI i) :: .ref (P.1.2.1 48) :: r) S := s_48 (vp_in_nI hi (by decide)) hd (by rw [nI_clamp (by omega)]; exact k)
theorem l_49n {P : PX} {pc : Nat} {lv : LV} {r : List Value} {S : ST} {i : Nat} (hi : i < 41) (hd : decode P.2.2.2.2.2.2.1 pc = .ok (.baload, 1)) (k : V P (pc + 1) lv (.int (S.2.2.1 49 i) :: r) S) : V P pc lv (.int (nI i) :: .ref (P.1.2.1 49) :: r) S := l_49 (vp_in_nI hi (by decide)) hd (by rw [nI_clamp (by omega)]; exact k)
theorem s_49n {P : PX} {pc : Nat} {lv : LV} {r : List Value} {S : ST} {i : Nat} {y : Int32} (hi : i < 41) (hd : decode P.2.2.2.2.2.2.1 pc = .ok (.bastore, 1)) (k : V P (pc + 1) lv r (setA S 49 i (vp_nar .boolean y))) : V P pc lv (.int y :: .int (nI i) :: .ref (P.1.2.1 49) :: r) S := s_49 (vp_in_nI hi (by decide)) hd (by rw [nI_clamp (by omega)]; exact k)
theorem l_50n {P : PX} {pc : Nat} {lv : LV} {r : List Value} {S : ST} {i : Nat} (hi : i < 4096) (hd : decode P.2.2.2.2.2.2.1 pc = .ok (.baload, 1)) (k : V P (pc + 1) lv (.int (S.2.2.1 50 i) :: r) S) : V P pc lv (.int (nI i) :: .ref (P.1.2.1 50) :: r) S := l_50 (vp_in_nI hi (by decide)) hd (by rw [nI_clamp (by omega)]; exact k)
theorem s_50n {P : PX} {pc : Nat} {lv : LV} {r : List Value} {S : ST} {i : Nat} {y : Int32} (hi : i < 4096) (hd : decode P.2.2.2.2.2.2.1 pc = .ok (.bastore, 1)) (k : V P (pc + 1) lv r (setA S 50 i (vp_nar .boolean y))) : V P pc lv (.int y :: .int (nI i) :: .ref (P.1.2.1 50) :: r) S := s_50 (vp_in_nI hi (by decide)) hd (by rw [nI_clamp (by omega)]; exact k)
theorem l_lown {P : PX} {pc : Nat} {lv : LV} {r : List Value} {S : ST} {i : Nat} (hi : i < 6) (hd : decode P.2.2.2.2.2.2.1 pc = .ok (.laload, 1)) (k : V P (pc + 1) lv (.long (lowF i) :: r) S) : V P pc lv (.int (nI i) :: .ref P.1.2.2.2 :: r) S := l_low (vp_in_nI hi (by decide)) hd (by rw [nI_clamp (by omega)]; exact k)
theorem V_cVi {P : PX} {pc : Nat} {lv : LV} {r : List Value} {S : ST} {d n index : Nat} {K : MX} {As : List Value} (q0 : Nat) (hok : OkV K n) (hw : Cond.methodLink P.2.2.2.2.2.1.cls index K.1 ∈ TB) (hob : ObjAt P.1 q0 K.1.cls) (hn : As.length = n) (hR : RmOk P.2.1 P.2.2.1 d K.2.2.1) (hW : (r.map fun v => v.category).sum ≤ 8) (hd : decode P.2.2.2.2.2.2.1 pc = .ok (.invokevirtual index, 3)) {st0 : List Value} (hst : st0 = As.reverse ++ .ref (P.1.2.1 q0) :: r) (hC : Cn P.1 d K (.ref (P.1.2.1 q0) :: As) S (qi (fun (x : Int32) S2 => V P (pc + 3) lv (.int x :: r) S2))) : V P pc lv st0 S := V_callV q0 hok hw hob hn hR hW hd hst hC (fun v S2 h => by obtain ⟨x, rfl, h⟩ := h; exact h)
theorem V_cSi {P : PX} {pc : Nat} {lv : LV} {r : List Value} {S : ST} {d n index : Nat} {K : MX} {As : List Value} (hok : OkS K n) (hw : Cond.methodLink P.2.2.2.2.2.1.cls index K.1 ∈ TB) (hn : As.length = n) (hR : RmOk P.2.1 P.2.2.1 d K.2.2.1) (hW : (r.map fun v => v.category).sum ≤ 8) (hd : decode P.2.2.2.2.2.2.1 pc = .ok (.invokestatic index, 3)) {st0 : List Value} (hst : st0 = As.reverse ++ r) (hC : Cn P.1 d K As S (qi (fun (x : Int32) S2 => V P (pc + 3) lv (.int x :: r) S2))) : V P pc lv st0 S := V_callS hok hw hn hR hW hd hst hC (fun v S2 h => by obtain ⟨x, rfl, h⟩ := h; exact h)
theorem V_cNi {P : PX} {pc : Nat} {lv : LV} {r : List Value} {S : ST} {d n index : Nat} {K : MX} {host : String} {As : List Value} (hok : OkS K n) (hw : Cond.methodLinkNest P.2.2.2.2.2.1.cls index K.1 host ∈ NL) (hn : As.length = n) (hR : RmOk P.2.1 P.2.2.1 d K.2.2.1) (hW : (r.map fun v => v.category).sum ≤ 8) (hd : decode P.2.2.2.2.2.2.1 pc = .ok (.invokestatic index, 3)) {st0 : List Value} (hst : st0 = As.reverse ++ r) (hC : Cn P.1 d K As S (qi (fun (x : Int32) S2 => V P (pc + 3) lv (.int x :: r) S2))) : V P pc lv st0 S := V_callSN hok hw hn hR hW hd hst hC (fun v S2 h => by obtain ⟨x, rfl, h⟩ := h; exact h)
theorem V_cVl {P : PX} {pc : Nat} {lv : LV} {r : List Value} {S : ST} {d n index : Nat} {K : MX} {As : List Value} (q0 : Nat) (hok : OkV K n) (hw : Cond.methodLink P.2.2.2.2.2.1.cls index K.1 ∈ TB) (hob : ObjAt P.1 q0 K.1.cls) (hn : As.length = n) (hR : RmOk P.2.1 P.2.2.1 d K.2.2.1) (hW : (r.map fun v => v.category).sum ≤ 8) (hd : decode P.2.2.2.2.2.2.1 pc = .ok (.invokevirtual index, 3)) {st0 : List Value} (hst : st0 = As.reverse ++ .ref (P.1.2.1 q0) :: r) (hC : Cn P.1 d K (.ref (P.1.2.1 q0) :: As) S (ql (fun (x : Int64) S2 => V P (pc + 3) lv (.long x :: r) S2))) : V P pc lv st0 S := V_callV q0 hok hw hob hn hR hW hd hst hC (fun v S2 h => by obtain ⟨x, rfl, h⟩ := h; exact h)
theorem V_cSl {P : PX} {pc : Nat} {lv : LV} {r : List Value} {S : ST} {d n index : Nat} {K : MX} {As : List Value} (hok : OkS K n) (hw : Cond.methodLink P.2.2.2.2.2.1.cls index K.1 ∈ TB) (hn : As.length = n) (hR : RmOk P.2.1 P.2.2.1 d K.2.2.1) (hW : (r.map fun v => v.category).sum ≤ 8) (hd : decode P.2.2.2.2.2.2.1 pc = .ok (.invokestatic index, 3)) {st0 : List Value} (hst : st0 = As.reverse ++ r) (hC : Cn P.1 d K As S (ql (fun (x : Int64) S2 => V P (pc + 3) lv (.long x :: r) S2))) : V P pc lv st0 S := V_callS hok hw hn hR hW hd hst hC (fun v S2 h => by obtain ⟨x, rfl, h⟩ := h; exact h)
theorem V_cNl {P : PX} {pc : Nat} {lv : LV} {r : List Value} {S : ST} {d n index : Nat} {K : MX} {host : String} {As : List Value} (hok : OkS K n) (hw : Cond.methodLinkNest P.2.2.2.2.2.1.cls index K.1 host ∈ NL) (hn : As.length = n) (hR : RmOk P.2.1 P.2.2.1 d K.2.2.1) (hW : (r.map fun v => v.category).sum ≤ 8) (hd : decode P.2.2.2.2.2.2.1 pc = .ok (.invokestatic index, 3)) {st0 : List Value} (hst : st0 = As.reverse ++ r) (hC : Cn P.1 d K As S (ql (fun (x : Int64) S2 => V P (pc + 3) lv (.long x :: r) S2))) : V P pc lv st0 S := V_callSN hok hw hn hR hW hd hst hC (fun v S2 h => by obtain ⟨x, rfl, h⟩ := h; exact h)
theorem V_cVr {P : PX} {pc : Nat} {lv : LV} {r : List Value} {S : ST} {d n index : Nat} {K : MX} {As : List Value} (q0 : Nat) (hok : OkV K n) (hw : Cond.methodLink P.2.2.2.2.2.1.cls index K.1 ∈ TB) (hob : ObjAt P.1 q0 K.1.cls) (hn : As.length = n) (hR : RmOk P.2.1 P.2.2.1 d K.2.2.1) (hW : (r.map fun v => v.category).sum ≤ 8) (hd : decode P.2.2.2.2.2.2.1 pc = .ok (.invokevirtual index, 3)) {st0 : List Value} (hst : st0 = As.reverse ++ .ref (P.1.2.1 q0) :: r) (hC : Cn P.1 d K (.ref (P.1.2.1 q0) :: As) S (qr (fun (x : Nat) S2 => V P (pc + 3) lv (.ref x :: r) S2))) : V P pc lv st0 S := V_callV q0 hok hw hob hn hR hW hd hst hC (fun v S2 h => by obtain ⟨x, rfl, h⟩ := h; exact h)
theorem V_cSr {P : PX} {pc : Nat} {lv : LV} {r : List Value} {S : ST} {d n index : Nat} {K : MX} {As : List Value} (hok : OkS K n) (hw : Cond.methodLink P.2.2.2.2.2.1.cls index K.1 ∈ TB) (hn : As.length = n) (hR : RmOk P.2.1 P.2.2.1 d K.2.2.1) (hW : (r.map fun v => v.category).sum ≤ 8) (hd : decode P.2.2.2.2.2.2.1 pc = .ok (.invokestatic index, 3)) {st0 : List Value} (hst : st0 = As.reverse ++ r) (hC : Cn P.1 d K As S (qr (fun (x : Nat) S2 => V P (pc + 3) lv (.ref x :: r) S2))) : V P pc lv st0 S := V_callS hok hw hn hR hW hd hst hC (fun v S2 h => by obtain ⟨x, rfl, h⟩ := h; exact h)
theorem V_cNr {P : PX} {pc : Nat} {lv : LV} {r : List Value} {S : ST} {d n index : Nat} {K : MX} {host : String} {As : List Value} (hok : OkS K n) (hw : Cond.methodLinkNest P.2.2.2.2.2.1.cls index K.1 host ∈ NL) (hn : As.length = n) (hR : RmOk P.2.1 P.2.2.1 d K.2.2.1) (hW : (r.map fun v => v.category).sum ≤ 8) (hd : decode P.2.2.2.2.2.2.1 pc = .ok (.invokestatic index, 3)) {st0 : List Value} (hst : st0 = As.reverse ++ r) (hC : Cn P.1 d K As S (qr (fun (x : Nat) S2 => V P (pc + 3) lv (.ref x :: r) S2))) : V P pc lv st0 S := V_callSN hok hw hn hR hW hd hst hC (fun v S2 h => by obtain ⟨x, rfl, h⟩ := h; exact h)
theorem V_cVv {P : PX} {pc : Nat} {lv : LV} {r : List Value} {S : ST} {d n index : Nat} {K : MX} {As : List Value} (q0 : Nat) (hok : OkV K n) (hw : Cond.methodLink P.2.2.2.2.2.1.cls index K.1 ∈ TB) (hob : ObjAt P.1 q0 K.1.cls) (hn : As.length = n) (hR : RmOk P.2.1 P.2.2.1 d K.2.2.1) (hW : (r.map fun v => v.category).sum ≤ 8) (hd : decode P.2.2.2.2.2.2.1 pc = .ok (.invokevirtual index, 3)) {st0 : List Value} (hst : st0 = As.reverse ++ .ref (P.1.2.1 q0) :: r) (hC : Cn P.1 d K (.ref (P.1.2.1 q0) :: As) S (qv (fun S2 => V P (pc + 3) lv (r) S2))) : V P pc lv st0 S := V_callV q0 hok hw hob hn hR hW hd hst hC (fun v S2 h => by obtain ⟨rfl, h⟩ := h; exact h)
theorem V_cSv {P : PX} {pc : Nat} {lv : LV} {r : List Value} {S : ST} {d n index : Nat} {K : MX} {As : List Value} (hok : OkS K n) (hw : Cond.methodLink P.2.2.2.2.2.1.cls index K.1 ∈ TB) (hn : As.length = n) (hR : RmOk P.2.1 P.2.2.1 d K.2.2.1) (hW : (r.map fun v => v.category).sum ≤ 8) (hd : decode P.2.2.2.2.2.2.1 pc = .ok (.invokestatic index, 3)) {st0 : List Value} (hst : st0 = As.reverse ++ r) (hC : Cn P.1 d K As S (qv (fun S2 => V P (pc + 3) lv (r) S2))) : V P pc lv st0 S := V_callS hok hw hn hR hW hd hst hC (fun v S2 h => by obtain ⟨rfl, h⟩ := h; exact h)
theorem V_cNv {P : PX} {pc : Nat} {lv : LV} {r : List Value} {S : ST} {d n index : Nat} {K : MX} {host : String} {As : List Value} (hok : OkS K n) (hw : Cond.methodLinkNest P.2.2.2.2.2.1.cls index K.1 host ∈ NL) (hn : As.length = n) (hR : RmOk P.2.1 P.2.2.1 d K.2.2.1) (hW : (r.map fun v => v.category).sum ≤ 8) (hd : decode P.2.2.2.2.2.2.1 pc = .ok (.invokestatic index, 3)) {st0 : List Value} (hst : st0 = As.reverse ++ r) (hC : Cn P.1 d K As S (qv (fun S2 => V P (pc + 3) lv (r) S2))) : V P pc lv st0 S := V_callSN hok hw hn hR hW hd hst hC (fun v S2 h => by obtain ⟨rfl, h⟩ := h; exact h)
end
section
theorem kb_m6 : (Int8.ofInt (-6)).toInt32 = (-6) := by decide +kernel
theorem kb_m5 : (Int8.ofInt (-5)).toInt32 = (-5) := by decide +kernel
theorem kb_m4 : (Int8.ofInt (-4)).toInt32 = (-4) := by decide +kernel
theorem kb_m3 : (Int8.ofInt (-3)).toInt32 = (-3) := by decide +kernel
theorem kb_m2 : (Int8.ofInt (-2)).toInt32 = (-2) := by decide +kernel
theorem kb_6 : (Int8.ofInt (6)).toInt32 = 6 := by decide +kernel
theorem kb_8 : (Int8.ofInt (8)).toInt32 = 8 := by decide +kernel
theorem kb_9 : (Int8.ofInt (9)).toInt32 = 9 := by decide +kernel
theorem kb_10 : (Int8.ofInt (10)).toInt32 = 10 := by decide +kernel
theorem kb_11 : (Int8.ofInt (11)).toInt32 = 11 := by decide +kernel
theorem kb_12 : (Int8.ofInt (12)).toInt32 = 12 := by decide +kernel
theorem kb_16 : (Int8.ofInt (16)).toInt32 = 16 := by decide +kernel
theorem kb_20 : (Int8.ofInt (20)).toInt32 = 20 := by decide +kernel
theorem kb_31 : (Int8.ofInt (31)).toInt32 = 31 := by decide +kernel
theorem kb_32 : (Int8.ofInt (32)).toInt32 = 32 := by decide +kernel
theorem kb_33 : (Int8.ofInt (33)).toInt32 = 33 := by decide +kernel
theorem kb_38 : (Int8.ofInt (38)).toInt32 = 38 := by decide +kernel
theorem kb_40 : (Int8.ofInt (40)).toInt32 = 40 := by decide +kernel
theorem kb_41 : (Int8.ofInt (41)).toInt32 = 41 := by decide +kernel
theorem kb_42 : (Int8.ofInt (42)).toInt32 = 42 := by decide +kernel
theorem kb_61 : (Int8.ofInt (61)).toInt32 = 61 := by decide +kernel
theorem kb_63 : (Int8.ofInt (63)).toInt32 = 63 := by decide +kernel
theorem kb_64 : (Int8.ofInt (64)).toInt32 = 64 := by decide +kernel
theorem kb_97 : (Int8.ofInt (97)).toInt32 = 97 := by decide +kernel
theorem kb_108 : (Int8.ofInt (108)).toInt32 = 108 := by decide +kernel
theorem kb_109 : (Int8.ofInt (109)).toInt32 = 109 := by decide +kernel
theorem kb_124 : (Int8.ofInt (124)).toInt32 = 124 := by decide +kernel
theorem kb_126 : (Int8.ofInt (126)).toInt32 = 126 := by decide +kernel
theorem kb_127 : (Int8.ofInt (127)).toInt32 = 127 := by decide +kernel
theorem ki_m1 : Int32.ofInt (-1) = (-1) := by decide +kernel
theorem ki_0 : Int32.ofInt (0) = 0 := by decide +kernel
theorem ki_1 : Int32.ofInt (1) = 1 := by decide +kernel
theorem ki_2 : Int32.ofInt (2) = 2 := by decide +kernel
theorem ki_3 : Int32.ofInt (3) = 3 := by decide +kernel
theorem ki_4 : Int32.ofInt (4) = 4 := by decide +kernel
theorem ki_5 : Int32.ofInt (5) = 5 := by decide +kernel
theorem ks_144 : (Int16.ofInt (144)).toInt32 = 144 := by decide +kernel
theorem ks_200 : (Int16.ofInt (200)).toInt32 = 200 := by decide +kernel
theorem ks_210 : (Int16.ofInt (210)).toInt32 = 210 := by decide +kernel
theorem ks_4095 : (Int16.ofInt (4095)).toInt32 = 4095 := by decide +kernel
theorem ks_4096 : (Int16.ofInt (4096)).toInt32 = 4096 := by decide +kernel
end
section
theorem qcast {α : Type} {Q : α → ST → Prop} {a b : α} {S : ST} (h : Q a S) (e : b = a) : Q b S := e ▸ h
def bt (x : Int32) (i : Nat) : Bool := x.toBitVec.getLsbD i
theorem b_ext {x y : Int32} (h : ∀ i, i < 32 → bt x i = bt y i) : x = y := Int32.toBitVec_inj.mp (BitVec.eq_of_getLsbD_eq (fun i hi => h i hi))
theorem b_or (x y : Int32) (i : Nat) : bt (x ||| y) i = (bt x i || bt y i) := by unfold bt; rw [Int32.toBitVec_or, BitVec.getLsbD_or]
theorem b_and (x y : Int32) (i : Nat) : bt (x &&& y) i = (bt x i && bt y i) := by unfold bt; rw [Int32.toBitVec_and, BitVec.getLsbD_and]
theorem b_xor (x y : Int32) (i : Nat) : bt (x ^^^ y) i = (bt x i ^^ bt y i) := by unfold bt; rw [Int32.toBitVec_xor, BitVec.getLsbD_xor]
theorem b_big {x : Int32} {i : Nat} (h : 32 ≤ i) : bt x i = false := BitVec.getLsbD_of_ge _ _ h
theorem b_m1 : ∀ i, i < 32 → bt (-1) i = true := by decide +kernel
theorem b_0 (i : Nat) : bt 0 i = false := BitVec.getLsbD_zero
theorem s_l : ∀ n, n < 32 → ((nI n &&& 31).toBitVec.smod 32).toNat = n := by decide +kernel
theorem b_shl (n : Nat) (hn : n < 32) (x : Int32) {i : Nat} (hi : i < 32) : bt (x <<< (nI n &&& 31)) i = (decide (n ≤ i) && bt x (i - n)) := by
  unfold bt
  rw [Int32.toBitVec_shiftLeft]
  show (x.toBitVec <<< ((nI n &&& 31).toBitVec.smod 32).toNat).getLsbD i = _
  rw [s_l n hn, BitVec.getLsbD_shiftLeft]
  rcases Nat.lt_or_ge i n with h | h
  · simp [h, Nat.not_le.mpr h]
  · simp [hi, h, Nat.not_lt.mpr h]
theorem b_sshr (n : Nat) (hn : n < 32) (x : Int32) {i : Nat} (hi : i < 32) : bt (x >>> (nI n &&& 31)) i = if n + i < 32 then bt x (n + i) else bt x 31 := by
  unfold bt
  rw [Int32.toBitVec_shiftRight]
  show (x.toBitVec.sshiftRight ((nI n &&& 31).toBitVec.smod 32).toNat).getLsbD i = _
  rw [s_l n hn, BitVec.getLsbD_sshiftRight, BitVec.msb_eq_getLsbD_last]
  simp [hi]
theorem b_1 : ∀ i, i < 32 → bt 1 i = decide (i = 0) := by decide +kernel
theorem b_sh1 {k : Nat} (hk : k < 32) {i : Nat} (hi : i < 32) : bt (1 <<< (nI k &&& 31)) i = decide (i = k) := by
  rw [b_shl k hk 1 hi]
  rcases Nat.lt_or_ge i k with h | h
  · simp [Nat.not_le.mpr h, Nat.ne_of_lt h]
  · rw [b_1 (i - k) (by omega)]
    simp only [h, decide_true, Bool.true_and]
    congr 1
    apply propext
    omega
/-- one bit of an int, as both programs ask for it -/
theorem b_ask (x : Int32) {k : Nat} (hk : k < 32) : (x >>> (nI k &&& 31)) &&& 1 = b2i (bt x k) := by
  apply b_ext
  intro i hi
  rw [b_and, b_1 i hi]
  cases hb : bt x k
  · rw [b2i_f rfl, b_0]
    by_cases h0 : i = 0
    · subst h0
      rw [b_sshr k hk x (by omega)]
      simp [hk, hb]
    · simp [h0]
  · rw [b2i_t rfl, b_1 i hi]
    by_cases h0 : i = 0
    · subst h0
      rw [b_sshr k hk x (by omega)]
      simp [hk, hb]
    · simp [h0]
theorem V_lv {P : PX} {pc : Nat} {lv : LV} {st0 : List Value} {S : ST} (lv2 : LV) (ks : List Nat) (h : lv_pick lv ks = lv2) (k : V P pc lv2 st0 S) : V P pc lv st0 S := fun p l e s m args below meth c A H locs ls C hP hS hl => k p l e s m args below meth c A H locs ls C hP hS (lv_sub hl ks h)
theorem V_lveq {P : PX} {pc : Nat} {lv : LV} {st0 : List Value} {S : ST} (lv2 : LV) (h : lv = lv2) (k : V P pc lv2 st0 S) : V P pc lv st0 S := h ▸ k
theorem qcast2 {α : Type} {Q : α → ST → Prop} {a b : α} {S S2 : ST} (h : Q a S) (e : b = a) (e2 : S2 = S) : Q b S2 := e ▸ e2 ▸ h
def fr (v lo hi : Int32) : Bool := decide (lo ≤ v ∧ v ≤ hi)
def kn (n : Nat) (v : Int32) : Bool := decide (0 ≤ v ∧ v < nI n)
theorem fr_t {v lo hi : Int32} : fr v lo hi = true ↔ lo ≤ v ∧ v ≤ hi := decide_eq_true_iff
theorem fr_f {v lo hi : Int32} : fr v lo hi = false ↔ ¬ (lo ≤ v ∧ v ≤ hi) := decide_eq_false_iff_not
theorem kn_t {n : Nat} {v : Int32} : kn n v = true ↔ 0 ≤ v ∧ v < nI n := decide_eq_true_iff
theorem kn_f {n : Nat} {v : Int32} : kn n v = false ↔ ¬ (0 ≤ v ∧ v < nI n) := decide_eq_false_iff_not
theorem nI_T {n : Nat} (h : n < 2 ^ 31) : (nI n).toInt = (n : Int) := nI_toInt h
theorem kn_fr {n : Nat} (h : n ≤ 12) (v : Int32) : fr v 0 (nI n - 1) = kn n v := by
  unfold fr kn
  congr 1
  apply propext
  have h1 : (nI n - 1).toInt = (n : Int) - 1 := pk_sub_toInt (a := n) (b := 1) (by omega) (by omega)
  have h2 : (nI n).toInt = (n : Int) := nI_toInt (by omega)
  simp only [Int32.lt_iff_toInt_lt, Int32.le_iff_toInt_le]
  rw [h1, h2]
  have h3 : (0 : Int32).toInt = 0 := rfl
  omega
theorem kn_ex {n : Nat} {v : Int32} (h : kn n v = true) (hn : n < 2 ^ 31) : ∃ k, k < n ∧ v = nI k := by
  obtain ⟨h1, h2⟩ := kn_t.mp h
  obtain ⟨j, hj, rfl⟩ := nI_of (x := v) (Int32.not_lt.mpr h1)
  exact ⟨j, (nI_ltI hj hn).mp h2, rfl⟩
theorem kn_nI {n k : Nat} (hk : k < 2 ^ 31) (hn : n < 2 ^ 31) : kn n (nI k) = decide (k < n) := by
  unfold kn
  congr 1
  apply propext
  rw [nI_ltI hk hn]
  exact ⟨fun h => h.2, fun h => ⟨nI_pos' hk, h⟩⟩
/-- the bits below n where p holds -/
def bitsOf (p : Nat → Bool) : Nat → Int32
  | 0 => 0
  | k + 1 => if p k then bitsOf p k ||| 1 <<< (nI k &&& 31) else bitsOf p k
theorem bits_t {p : Nat → Bool} {k : Nat} (h : p k = true) : bitsOf p (k + 1) = bitsOf p k ||| 1 <<< (nI k &&& 31) := by rw [bitsOf, if_pos h]
theorem bits_f {p : Nat → Bool} {k : Nat} (h : p k = false) : bitsOf p (k + 1) = bitsOf p k := by rw [bitsOf, if_neg (by rw [h]; exact Bool.false_ne_true)]
theorem bt_bits (p : Nat → Bool) : ∀ {n : Nat}, n ≤ 32 → ∀ {i : Nat}, i < 32 → bt (bitsOf p n) i = (decide (i < n) && p i)
  | 0, _, i, _ => by simp [bitsOf, b_0]
  | n + 1, hn, i, hi => by
    have ih := bt_bits p (n := n) (by omega) hi
    unfold bitsOf
    split
    · rename_i hp
      rw [b_or, ih, b_sh1 (by omega) hi]
      by_cases h : i = n
      · subst h; simp [hp]
      · have : decide (i < n + 1) = decide (i < n) := by congr 1; apply propext; omega
        simp [h, this]
    · rename_i hp
      rw [ih]
      by_cases h : i = n
      · subst h; simp [hp]
      · have : decide (i < n + 1) = decide (i < n) := by congr 1; apply propext; omega
        simp [this]
theorem bits_cong {p q : Nat → Bool} {n : Nat} (h : ∀ k, k < n → p k = q k) : bitsOf p n = bitsOf q n := by
  induction n with
  | zero => rfl
  | succ n ih =>
    unfold bitsOf
    rw [ih (fun k hk => h k (by omega)), h n (by omega)]
/-- the sum of f over the bits of a set -/
def szs (f : Nat → Int32) (s : Int32) : Nat → Int32
  | 0 => 0
  | k + 1 => if bt s k then szs f s k + f k else szs f s k
theorem szs_t {f : Nat → Int32} {s : Int32} {k : Nat} (h : bt s k = true) : szs f s (k + 1) = szs f s k + f k := by rw [szs, if_pos h]
theorem szs_f {f : Nat → Int32} {s : Int32} {k : Nat} (h : bt s k = false) : szs f s (k + 1) = szs f s k := by rw [szs, if_neg (by rw [h]; exact Bool.false_ne_true)]
theorem szs_cong {f g : Nat → Int32} {s : Int32} {n : Nat} (h : ∀ k, k < n → f k = g k) : szs f s n = szs g s n := by
  induction n with
  | zero => rfl
  | succ n ih =>
    unfold szs
    rw [ih (fun k hk => h k (by omega)), h n (by omega)]
theorem c_X7_isFrom {G : GX} {d : Nat} {S : ST} {v lo hi : Int32} {Q : Int32 → ST → Prop}  (hq : Q (b2i (fr v lo hi)) S) : Cn G d mX7_isFrom [.int v, .int lo, .int hi] S (qi Q) := by
  refine Cn.intro (lv := [(0, .int v), (1, .int lo), (2, .int hi)]) (by decide) (Nat.le_of_ble_eq_true rfl) rfl ?_
  refine V_iload_n dX7_isFrom_0 rfl 0 rfl ?_
  refine V_iload_n dX7_isFrom_1 rfl 1 rfl ?_
  refine V_icmp_lt 14 dX7_isFrom_2 (by decide) (fun h1 => ?_) (fun h1 => ?_)
  · refine V_iconst (v := 0) dX7_isFrom_14 ki_0 ?_
    refine V_zret rfl dX7_isFrom_15 rfl ⟨_, rfl, ?_⟩
    exact qcast hq (b2i_f (decide_eq_false (by simp only [Int32.lt_iff_toInt_lt, Int32.le_iff_toInt_le, Int32.not_lt, Int32.not_le] at *; omega))).symm
  · refine V_iload_n dX7_isFrom_5 rfl 0 rfl ?_
    refine V_iload_n dX7_isFrom_6 rfl 2 rfl ?_
    refine V_icmp_gt 14 dX7_isFrom_7 (by decide) (fun h2 => ?_) (fun h2 => ?_)
    · refine V_iconst (v := 0) dX7_isFrom_14 ki_0 ?_
      refine V_zret rfl dX7_isFrom_15 rfl ⟨_, rfl, ?_⟩
      exact qcast hq (b2i_f (decide_eq_false (by simp only [Int32.lt_iff_toInt_lt, Int32.le_iff_toInt_le, Int32.not_lt, Int32.not_le] at *; omega))).symm
    · refine V_iconst (v := 1) dX7_isFrom_10 ki_1 ?_
      refine V_goto 15 dX7_isFrom_11 (by decide) ?_
      refine V_zret rfl dX7_isFrom_15 rfl ⟨_, rfl, ?_⟩
      exact qcast hq (b2i_t (decide_eq_true (by simp only [Int32.lt_iff_toInt_lt, Int32.le_iff_toInt_le, Int32.not_lt, Int32.not_le] at *; omega))).symm
theorem c_X7_asNumber {G : GX} {d : Nat} {S : ST} {b : Bool} {Q : Int32 → ST → Prop}  (hq : Q (b2i b) S) : Cn G d mX7_asNumber [.int (b2i b)] S (qi Q) := by
  refine Cn.intro (lv := [(0, .int (b2i b))]) (by decide) (Nat.le_of_ble_eq_true rfl) rfl ?_
  refine V_iload_n dX7_asNumber_0 rfl 0 rfl ?_
  refine V_ifb_eq 8 dX7_asNumber_1 (by decide) (fun h1 => ?_) (fun h1 => ?_)
  · refine V_iconst (v := 0) dX7_asNumber_8 ki_0 ?_
    refine V_iret rfl dX7_asNumber_9 ⟨_, rfl, ?_⟩
    exact qcast hq (by rw [h1]; rfl)
  · refine V_iconst (v := 1) dX7_asNumber_4 ki_1 ?_
    refine V_goto 9 dX7_asNumber_5 (by decide) ?_
    refine V_iret rfl dX7_asNumber_9 ⟨_, rfl, ?_⟩
    exact qcast hq (by rw [h1]; rfl)
theorem c_X7_isBit {G : GX} {d : Nat} {S : ST} {x : Int32} {k : Nat} {Q : Int32 → ST → Prop} (hk : k < 32) (hq : Q (b2i (bt x k)) S) : Cn G d mX7_isBit [.int x, .int (nI k)] S (qi Q) := by
  refine Cn.intro (lv := [(0, .int x), (1, .int (nI k))]) (by decide) (Nat.le_of_ble_eq_true rfl) rfl ?_
  refine V_iload_n dX7_isBit_0 rfl 0 rfl ?_
  refine V_iload_n dX7_isBit_1 rfl 1 rfl ?_
  refine V_ishr dX7_isBit_2 ?_
  refine V_iconst (v := 1) dX7_isBit_3 ki_1 ?_
  refine V_iand dX7_isBit_4 ?_
  refine V_topi (v := b2i (bt x k)) (b_ask x hk) ?_
  refine V_ifb_eq 12 dX7_isBit_5 (by decide) (fun h1 => ?_) (fun h1 => ?_)
  · refine V_iconst (v := 0) dX7_isBit_12 ki_0 ?_
    refine V_zret rfl dX7_isBit_13 rfl ⟨_, rfl, ?_⟩
    exact qcast hq (by rw [h1]; rfl)
  · refine V_iconst (v := 1) dX7_isBit_8 ki_1 ?_
    refine V_goto 13 dX7_isBit_9 (by decide) ?_
    refine V_zret rfl dX7_isBit_13 rfl ⟨_, rfl, ?_⟩
    exact qcast hq (by rw [h1]; rfl)
theorem c_X8_in {G : GX} {d : Nat} {S : ST} {v lo hi : Int32} {Q : Int32 → ST → Prop}  (hq : Q (b2i (fr v lo hi)) S) : Cn G d mX8_in [.int v, .int lo, .int hi] S (qi Q) := by
  refine Cn.intro (lv := [(0, .int v), (1, .int lo), (2, .int hi)]) (by decide) (Nat.le_of_ble_eq_true rfl) rfl ?_
  refine V_iload_n dX8_in_0 rfl 0 rfl ?_
  refine V_iload_n dX8_in_1 rfl 1 rfl ?_
  refine V_icmp_lt 14 dX8_in_2 (by decide) (fun h1 => ?_) (fun h1 => ?_)
  · refine V_iconst (v := 0) dX8_in_14 ki_0 ?_
    refine V_zret rfl dX8_in_15 rfl ⟨_, rfl, ?_⟩
    exact qcast hq (b2i_f (decide_eq_false (by simp only [Int32.lt_iff_toInt_lt, Int32.le_iff_toInt_le, Int32.not_lt, Int32.not_le] at *; omega))).symm
  · refine V_iload_n dX8_in_5 rfl 0 rfl ?_
    refine V_iload_n dX8_in_6 rfl 2 rfl ?_
    refine V_icmp_gt 14 dX8_in_7 (by decide) (fun h2 => ?_) (fun h2 => ?_)
    · refine V_iconst (v := 0) dX8_in_14 ki_0 ?_
      refine V_zret rfl dX8_in_15 rfl ⟨_, rfl, ?_⟩
      exact qcast hq (b2i_f (decide_eq_false (by simp only [Int32.lt_iff_toInt_lt, Int32.le_iff_toInt_le, Int32.not_lt, Int32.not_le] at *; omega))).symm
    · refine V_iconst (v := 1) dX8_in_10 ki_1 ?_
      refine V_goto 15 dX8_in_11 (by decide) ?_
      refine V_zret rfl dX8_in_15 rfl ⟨_, rfl, ?_⟩
      exact qcast hq (b2i_t (decide_eq_true (by simp only [Int32.lt_iff_toInt_lt, Int32.le_iff_toInt_le, Int32.not_lt, Int32.not_le] at *; omega))).symm
theorem c_X8_isPart {G : GX} {d : Nat} {S : ST} {v : Int32} {Q : Int32 → ST → Prop}  (hq : Q (b2i (fr v 0 1)) S) : Cn G (d + 1) mX8_isPart [.int v] S (qi Q) := by
  refine Cn.intro (lv := [(0, .int v)]) (by decide) (Nat.le_of_ble_eq_true rfl) rfl ?_
  refine V_iload_n dX8_isPart_0 rfl 0 rfl ?_
  refine V_iconst (v := 0) dX8_isPart_1 ki_0 ?_
  refine V_iconst (v := 1) dX8_isPart_2 ki_1 ?_
  refine V_cSi (P := pM G (d + 1) mX8_isPart _) (d := d) (r := []) (As := [.int v, .int 0, .int 1]) (K := mX8_in) ok_X8_in tw_721 rfl (rmOk (Nat.le_of_ble_eq_true rfl)) (Nat.le_of_ble_eq_true rfl) dX8_isPart_3 rfl (c_X8_in ?_)
  refine V_zret rfl dX8_isPart_6 (b2i_nar _) ⟨_, rfl, ?_⟩
  exact hq
theorem c_X8_hasBit {G : GX} {d : Nat} {S : ST} {x : Int32} {k : Nat} {Q : Int32 → ST → Prop} (hk : k < 32) (hq : Q (b2i (bt x k)) S) : Cn G d mX8_hasBit [.int x, .int (nI k)] S (qi Q) := by
  refine Cn.intro (lv := [(0, .int x), (1, .int (nI k))]) (by decide) (Nat.le_of_ble_eq_true rfl) rfl ?_
  refine V_iload_n dX8_hasBit_0 rfl 0 rfl ?_
  refine V_iload_n dX8_hasBit_1 rfl 1 rfl ?_
  refine V_ishr dX8_hasBit_2 ?_
  refine V_iconst (v := 1) dX8_hasBit_3 ki_1 ?_
  refine V_iand dX8_hasBit_4 ?_
  refine V_topi (v := b2i (bt x k)) (b_ask x hk) ?_
  refine V_iconst (v := 1) dX8_hasBit_5 ki_1 ?_
  refine V_icmp_ne 13 dX8_hasBit_6 (by decide) (fun h1 => ?_) (fun h1 => ?_)
  · refine V_iconst (v := 0) dX8_hasBit_13 ki_0 ?_
    refine V_zret rfl dX8_hasBit_14 rfl ⟨_, rfl, ?_⟩
    exact qcast hq (by cases hb : bt x k <;> simp [hb, b2i] at h1 ⊢)
  · refine V_iconst (v := 1) dX8_hasBit_9 ki_1 ?_
    refine V_goto 14 dX8_hasBit_10 (by decide) ?_
    refine V_zret rfl dX8_hasBit_14 rfl ⟨_, rfl, ?_⟩
    exact qcast hq (by cases hb : bt x k <;> simp [hb, b2i] at h1 ⊢)
theorem c_X8_isVersion {G : GX} {d : Nat} {S : ST} {v : Int32} {n : Nat} {Q : Int32 → ST → Prop} (hn : S.1 10 = nI n) (h12 : n ≤ 12) (hq : Q (b2i (kn n v)) S) : Cn G (d + 1) mX8_isVersion [.ref (G.2.1 29), .int v] S (qi Q) := by
  refine Cn.intro (lv := [(0, .ref (G.2.1 29)), (1, .int v)]) (by decide) (Nat.le_of_ble_eq_true rfl) rfl ?_
  refine V_iload_n dX8_isVersion_0 rfl 1 rfl ?_
  refine V_iconst (v := 0) dX8_isVersion_1 ki_0 ?_
  refine V_aload_n dX8_isVersion_2 rfl 0 rfl ?_
  refine g_29_0 tw_628 dX8_isVersion_3 ?_
  refine V_topi (v := nI n) (hn) ?_
  refine V_iconst (v := 1) dX8_isVersion_6 ki_1 ?_
  refine V_isub dX8_isVersion_7 ?_
  refine V_cSi (P := pM G (d + 1) mX8_isVersion _) (d := d) (r := []) (As := [.int v, .int 0, .int ((nI n) - 1)]) (K := mX8_in) ok_X8_in tw_721 rfl (rmOk (Nat.le_of_ble_eq_true rfl)) (Nat.le_of_ble_eq_true rfl) dX8_isVersion_8 rfl (c_X8_in ?_)
  refine V_zret rfl dX8_isVersion_11 (b2i_nar _) ⟨_, rfl, ?_⟩
  exact qcast hq (by rw [kn_fr h12])
theorem c_X1_knows {G : GX} {d : Nat} {S : ST} {v : Int32} {n : Nat} {Q : Int32 → ST → Prop} (hn : S.1 0 = nI n) (hq : Q (b2i (kn n v)) S) : Cn G d mX1_knows [.ref (G.2.1 1), .int v] S (qi Q) := by
  refine Cn.intro (lv := [(0, .ref (G.2.1 1)), (1, .int v)]) (by decide) (Nat.le_of_ble_eq_true rfl) rfl ?_
  refine V_iload_n dX1_knows_0 rfl 1 rfl ?_
  refine V_if_lt 16 dX1_knows_1 (by decide) (fun h1 => ?_) (fun h1 => ?_)
  · refine V_iconst (v := 0) dX1_knows_16 ki_0 ?_
    refine V_zret rfl dX1_knows_17 rfl ⟨_, rfl, ?_⟩
    exact qcast hq (b2i_f (decide_eq_false (by simp only [Int32.lt_iff_toInt_lt, Int32.le_iff_toInt_le, Int32.not_lt, Int32.not_le] at *; omega))).symm
  · refine V_iload_n dX1_knows_4 rfl 1 rfl ?_
    refine V_aload_n dX1_knows_5 rfl 0 rfl ?_
    refine g_1_0 tw_28 dX1_knows_6 ?_
    refine V_topi (v := nI n) (hn) ?_
    refine V_icmp_ge 16 dX1_knows_9 (by decide) (fun h2 => ?_) (fun h2 => ?_)
    · refine V_iconst (v := 0) dX1_knows_16 ki_0 ?_
      refine V_zret rfl dX1_knows_17 rfl ⟨_, rfl, ?_⟩
      exact qcast hq (b2i_f (decide_eq_false (by simp only [Int32.lt_iff_toInt_lt, Int32.le_iff_toInt_le, Int32.not_lt, Int32.not_le] at *; omega))).symm
    · refine V_iconst (v := 1) dX1_knows_12 ki_1 ?_
      refine V_goto 17 dX1_knows_13 (by decide) ?_
      refine V_zret rfl dX1_knows_17 rfl ⟨_, rfl, ?_⟩
      exact qcast hq (b2i_t (decide_eq_true (by simp only [Int32.lt_iff_toInt_lt, Int32.le_iff_toInt_le, Int32.not_lt, Int32.not_le] at *; omega))).symm
end
section
def hrs (n : Nat) (df : Nat → Int32) (v : Int32) : Bool := kn n v && decide (df v.toNatClampNeg = 0)
def mso (n : Nat) (a b : Int32) : Bool := if b = -1 then decide (a = -1) || kn n a else kn n a && kn n b && decide (a ≠ b)
theorem vp_kn {n N : Nat} {v : Int32} (h : kn n v = true) (hn : n < 2 ^ 31) (hN : n ≤ N) (hB : N < 2 ^ 31) : vp_in v N := by
  obtain ⟨k, hk, rfl⟩ := kn_ex h hn
  exact vp_in_nI (by omega) hB
theorem c_X1_hears {G : GX} {d : Nat} {S : ST} {v : Int32} {n : Nat} {Q : Int32 → ST → Prop} (hn : S.1 0 = nI n) (h12 : n ≤ 12) (hq : Q (b2i (hrs n (S.2.2.1 14) v)) S) : Cn G (d + 1) mX1_hears [.ref (G.2.1 1), .int v] S (qi Q) := by
  refine Cn.intro (lv := [(0, .ref (G.2.1 1)), (1, .int v)]) (by decide) (Nat.le_of_ble_eq_true rfl) rfl ?_
  refine V_aload_n dX1_hears_0 rfl 0 rfl ?_
  refine V_iload_n dX1_hears_1 rfl 1 rfl ?_
  refine V_cVi (P := pM G (d + 1) mX1_hears _) (d := d) 1 (r := []) (As := [.int v]) (K := mX1_knows) ok_X1_knows tw_236 (ob_1 _) rfl (rmOk (Nat.le_of_ble_eq_true rfl)) (Nat.le_of_ble_eq_true rfl) dX1_hears_2 rfl (c_X1_knows hn ?_)
  refine V_ifb_eq 21 dX1_hears_5 (by decide) (fun h1 => ?_) (fun h1 => ?_)
  · refine V_iconst (v := 0) dX1_hears_21 ki_0 ?_
    refine V_zret rfl dX1_hears_22 rfl ⟨_, rfl, ?_⟩
    exact qcast hq (by simp [hrs, b2i, h1])
  · refine V_aload_n dX1_hears_8 rfl 0 rfl ?_
    refine g_1_6 tw_45 dX1_hears_9 ?_
    refine V_iload_n dX1_hears_12 rfl 1 rfl ?_
    refine l_14 (vp_kn h1 (by omega) h12 (by decide)) dX1_hears_13 ?_
    refine V_if_ne 21 dX1_hears_14 (by decide) (fun h2 => ?_) (fun h2 => ?_)
    · refine V_iconst (v := 0) dX1_hears_21 ki_0 ?_
      refine V_zret rfl dX1_hears_22 rfl ⟨_, rfl, ?_⟩
      exact qcast hq (by simp [hrs, b2i, h1, h2])
    · refine V_iconst (v := 1) dX1_hears_17 ki_1 ?_
      refine V_goto 22 dX1_hears_18 (by decide) ?_
      refine V_zret rfl dX1_hears_22 rfl ⟨_, rfl, ?_⟩
      exact qcast hq (by simp [hrs, b2i, h1, h2])
theorem c_X1_mayStandOn {G : GX} {d : Nat} {S : ST} {a b : Int32} {n : Nat} {Q : Int32 → ST → Prop} (hn : S.1 0 = nI n) (hq : Q (b2i (mso n a b)) S) : Cn G (d + 1) mX1_mayStandOn [.ref (G.2.1 1), .int a, .int b] S (qi Q) := by
  refine Cn.intro (lv := [(0, .ref (G.2.1 1)), (1, .int a), (2, .int b)]) (by decide) (Nat.le_of_ble_eq_true rfl) rfl ?_
  refine V_iload_n dX1_mayStandOn_0 rfl 2 rfl ?_
  refine V_iconst (v := -1) dX1_mayStandOn_1 ki_m1 ?_
  refine V_icmp_ne 24 dX1_mayStandOn_2 (by decide) (fun h1 => ?_) (fun h1 => ?_)
  · refine V_aload_n dX1_mayStandOn_24 rfl 0 rfl ?_
    refine V_iload_n dX1_mayStandOn_25 rfl 1 rfl ?_
    refine V_cVi (P := pM G (d + 1) mX1_mayStandOn _) (d := d) 1 (r := []) (As := [.int a]) (K := mX1_knows) ok_X1_knows tw_236 (ob_1 _) rfl (rmOk (Nat.le_of_ble_eq_true rfl)) (Nat.le_of_ble_eq_true rfl) dX1_mayStandOn_26 rfl (c_X1_knows hn ?_)
    refine V_ifb_eq 49 dX1_mayStandOn_29 (by decide) (fun h2 => ?_) (fun h2 => ?_)
    · refine V_iconst (v := 0) dX1_mayStandOn_49 ki_0 ?_
      refine V_zret rfl dX1_mayStandOn_50 rfl ⟨_, rfl, ?_⟩
      exact qcast hq (by simp [mso, b2i, h1, h2])
    · refine V_aload_n dX1_mayStandOn_32 rfl 0 rfl ?_
      refine V_iload_n dX1_mayStandOn_33 rfl 2 rfl ?_
      refine V_cVi (P := pM G (d + 1) mX1_mayStandOn _) (d := d) 1 (r := []) (As := [.int b]) (K := mX1_knows) ok_X1_knows tw_236 (ob_1 _) rfl (rmOk (Nat.le_of_ble_eq_true rfl)) (Nat.le_of_ble_eq_true rfl) dX1_mayStandOn_34 rfl (c_X1_knows hn ?_)
      refine V_ifb_eq 49 dX1_mayStandOn_37 (by decide) (fun h3 => ?_) (fun h3 => ?_)
      · refine V_iconst (v := 0) dX1_mayStandOn_49 ki_0 ?_
        refine V_zret rfl dX1_mayStandOn_50 rfl ⟨_, rfl, ?_⟩
        exact qcast hq (by simp [mso, b2i, h1, h2, h3])
      · refine V_iload_n dX1_mayStandOn_40 rfl 1 rfl ?_
        refine V_iload_n dX1_mayStandOn_41 rfl 2 rfl ?_
        refine V_icmp_eq 49 dX1_mayStandOn_42 (by decide) (fun h4 => ?_) (fun h4 => ?_)
        · refine V_iconst (v := 0) dX1_mayStandOn_49 ki_0 ?_
          refine V_zret rfl dX1_mayStandOn_50 rfl ⟨_, rfl, ?_⟩
          exact qcast hq (by simp [mso, b2i, h1, h2, h3, h4])
        · refine V_iconst (v := 1) dX1_mayStandOn_45 ki_1 ?_
          refine V_goto 50 dX1_mayStandOn_46 (by decide) ?_
          refine V_zret rfl dX1_mayStandOn_50 rfl ⟨_, rfl, ?_⟩
          exact qcast hq (by simp [mso, b2i, h1, h2, h3, h4])
  · refine V_iload_n dX1_mayStandOn_5 rfl 1 rfl ?_
    refine V_iconst (v := -1) dX1_mayStandOn_6 ki_m1 ?_
    refine V_icmp_eq 18 dX1_mayStandOn_7 (by decide) (fun h5 => ?_) (fun h5 => ?_)
    · refine V_iconst (v := 1) dX1_mayStandOn_18 ki_1 ?_
      refine V_goto 23 dX1_mayStandOn_19 (by decide) ?_
      refine V_zret rfl dX1_mayStandOn_23 rfl ⟨_, rfl, ?_⟩
      exact qcast hq (by simp [mso, b2i, h1, h5])
    · refine V_aload_n dX1_mayStandOn_10 rfl 0 rfl ?_
      refine V_iload_n dX1_mayStandOn_11 rfl 1 rfl ?_
      refine V_cVi (P := pM G (d + 1) mX1_mayStandOn _) (d := d) 1 (r := []) (As := [.int a]) (K := mX1_knows) ok_X1_knows tw_236 (ob_1 _) rfl (rmOk (Nat.le_of_ble_eq_true rfl)) (Nat.le_of_ble_eq_true rfl) dX1_mayStandOn_12 rfl (c_X1_knows hn ?_)
      refine V_ifb_eq 22 dX1_mayStandOn_15 (by decide) (fun h6 => ?_) (fun h6 => ?_)
      · refine V_iconst (v := 0) dX1_mayStandOn_22 ki_0 ?_
        refine V_zret rfl dX1_mayStandOn_23 rfl ⟨_, rfl, ?_⟩
        exact qcast hq (by simp [mso, b2i, h1, h5, h6])
      · refine V_iconst (v := 1) dX1_mayStandOn_18 ki_1 ?_
        refine V_goto 23 dX1_mayStandOn_19 (by decide) ?_
        refine V_zret rfl dX1_mayStandOn_23 rfl ⟨_, rfl, ?_⟩
        exact qcast hq (by simp [mso, b2i, h1, h5, h6])
theorem c_X1_row {G : GX} {d : Nat} {S : ST} {w : Int32} {Q : Nat → ST → Prop}  (hq : Q (G.2.1 (if w = 0 then 11 else if w = 1 then 12 else if w = 2 then 13 else 14)) S) : Cn G d mX1_row [.ref (G.2.1 1), .int w] S (qr Q) := by
  refine Cn.intro (lv := [(0, .ref (G.2.1 1)), (1, .int w)]) (by decide) (Nat.le_of_ble_eq_true rfl) rfl ?_
  refine V_iload_n dX1_row_0 rfl 1 rfl ?_
  by_cases h1 : w = 0
  · refine V_tsI 28 (off := 27) dX1_row_1 (by rw [h1]; decide +kernel) (by rw [h1]; decide +kernel) (by rw [h1]; decide +kernel) (by decide) ?_
    refine V_aload_n dX1_row_28 rfl 0 rfl ?_
    refine g_1_3 tw_38 dX1_row_29 ?_
    refine V_aret rfl dX1_row_32 ⟨_, rfl, ?_⟩
    exact qcast hq (by simp [pM, h1])
  by_cases h2 : w = 1
  · refine V_tsI 33 (off := 32) dX1_row_1 (by rw [h2]; decide +kernel) (by rw [h2]; decide +kernel) (by rw [h2]; decide +kernel) (by decide) ?_
    refine V_aload_n dX1_row_33 rfl 0 rfl ?_
    refine g_1_4 tw_40 dX1_row_34 ?_
    refine V_aret rfl dX1_row_37 ⟨_, rfl, ?_⟩
    exact qcast hq (by simp [pM, h1, h2])
  by_cases h3 : w = 2
  · refine V_tsI 38 (off := 37) dX1_row_1 (by rw [h3]; decide +kernel) (by rw [h3]; decide +kernel) (by rw [h3]; decide +kernel) (by decide) ?_
    refine V_aload_n dX1_row_38 rfl 0 rfl ?_
    refine g_1_5 tw_43 dX1_row_39 ?_
    refine V_aret rfl dX1_row_42 ⟨_, rfl, ?_⟩
    exact qcast hq (by simp [pM, h1, h2, h3])
  refine V_tsO 43 dX1_row_1 (by have zh1 := lv_neT (k := 0) (a := 0) h1 rfl; have zh2 := lv_neT (k := 1) (a := 1) h2 rfl; have zh3 := lv_neT (k := 2) (a := 2) h3 rfl; omega) (by decide) ?_
  refine V_aload_n dX1_row_43 rfl 0 rfl ?_
  refine g_1_6 tw_45 dX1_row_44 ?_
  refine V_aret rfl dX1_row_47 ⟨_, rfl, ?_⟩
  exact qcast hq (by simp [pM, h1, h2, h3])
theorem c_X1_everyVersion {G : GX} {d : Nat} {S : ST} {n : Nat} {Q : Int32 → ST → Prop} (hn : S.1 0 = nI n) (hq : Q (1 <<< (nI n &&& 31) - 1) S) : Cn G d mX1_everyVersion [.ref (G.2.1 1)] S (qi Q) := by
  refine Cn.intro (lv := [(0, .ref (G.2.1 1))]) (by decide) (Nat.le_of_ble_eq_true rfl) rfl ?_
  refine V_iconst (v := 1) dX1_everyVersion_0 ki_1 ?_
  refine V_aload_n dX1_everyVersion_1 rfl 0 rfl ?_
  refine g_1_0 tw_28 dX1_everyVersion_2 ?_
  refine V_topi (v := nI n) (hn) ?_
  refine V_ishl dX1_everyVersion_5 ?_
  refine V_iconst (v := 1) dX1_everyVersion_6 ki_1 ?_
  refine V_isub dX1_everyVersion_7 ?_
  refine V_iret rfl dX1_everyVersion_8 ⟨_, rfl, ?_⟩
  exact hq
theorem c_X1_mayBe {G : GX} {d : Nat} {S : ST} {v : Nat} {w x : Int32} {Q : Int32 → ST → Prop}  (hq : Q (b2i (if w = 0 ∨ w = 1 then fr x 1 9 else if w = 2 then fr x 0 (1 <<< (nI v &&& 31) - 1) else if w = 3 then fr x 0 1 else false)) S) : Cn G (d + 1) mX1_mayBe [.ref (G.2.1 1), .int (nI v), .int w, .int x] S (qi Q) := by
  refine Cn.intro (lv := [(0, .ref (G.2.1 1)), (1, .int (nI v)), (2, .int w), (3, .int x)]) (by decide) (Nat.le_of_ble_eq_true rfl) rfl ?_
  refine V_iload_n dX1_mayBe_0 rfl 2 rfl ?_
  by_cases h1 : w = 0
  · refine V_tsI 32 (off := 31) dX1_mayBe_1 (by rw [h1]; decide +kernel) (by rw [h1]; decide +kernel) (by rw [h1]; decide +kernel) (by decide) ?_
    refine V_iload_n dX1_mayBe_32 rfl 3 rfl ?_
    refine V_iconst (v := 1) dX1_mayBe_33 ki_1 ?_
    refine V_bipush (v := 9) dX1_mayBe_34 kb_9 ?_
    refine V_cNi (P := pM G (d + 1) mX1_mayBe _) (d := d) (r := []) (As := [.int x, .int 1, .int 9]) (K := mX7_isFrom) ok_X7_isFrom nl_267 rfl (rmOk (Nat.le_of_ble_eq_true rfl)) (Nat.le_of_ble_eq_true rfl) dX1_mayBe_36 rfl (c_X7_isFrom ?_)
    refine V_zret rfl dX1_mayBe_39 (b2i_nar _) ⟨_, rfl, ?_⟩
    exact qcast hq (by simp [b2i, h1])
  by_cases h2 : w = 1
  · refine V_tsI 32 (off := 31) dX1_mayBe_1 (by rw [h2]; decide +kernel) (by rw [h2]; decide +kernel) (by rw [h2]; decide +kernel) (by decide) ?_
    refine V_iload_n dX1_mayBe_32 rfl 3 rfl ?_
    refine V_iconst (v := 1) dX1_mayBe_33 ki_1 ?_
    refine V_bipush (v := 9) dX1_mayBe_34 kb_9 ?_
    refine V_cNi (P := pM G (d + 1) mX1_mayBe _) (d := d) (r := []) (As := [.int x, .int 1, .int 9]) (K := mX7_isFrom) ok_X7_isFrom nl_267 rfl (rmOk (Nat.le_of_ble_eq_true rfl)) (Nat.le_of_ble_eq_true rfl) dX1_mayBe_36 rfl (c_X7_isFrom ?_)
    refine V_zret rfl dX1_mayBe_39 (b2i_nar _) ⟨_, rfl, ?_⟩
    exact qcast hq (by simp [b2i, h1, h2])
  by_cases h3 : w = 2
  · refine V_tsI 40 (off := 39) dX1_mayBe_1 (by rw [h3]; decide +kernel) (by rw [h3]; decide +kernel) (by rw [h3]; decide +kernel) (by decide) ?_
    refine V_iload_n dX1_mayBe_40 rfl 3 rfl ?_
    refine V_iconst (v := 0) dX1_mayBe_41 ki_0 ?_
    refine V_iconst (v := 1) dX1_mayBe_42 ki_1 ?_
    refine V_iload_n dX1_mayBe_43 rfl 1 rfl ?_
    refine V_ishl dX1_mayBe_44 ?_
    refine V_iconst (v := 1) dX1_mayBe_45 ki_1 ?_
    refine V_isub dX1_mayBe_46 ?_
    refine V_cNi (P := pM G (d + 1) mX1_mayBe _) (d := d) (r := []) (As := [.int x, .int 0, .int ((1 <<< ((nI v) &&& 31)) - 1)]) (K := mX7_isFrom) ok_X7_isFrom nl_267 rfl (rmOk (Nat.le_of_ble_eq_true rfl)) (Nat.le_of_ble_eq_true rfl) dX1_mayBe_47 rfl (c_X7_isFrom ?_)
    refine V_zret rfl dX1_mayBe_50 (b2i_nar _) ⟨_, rfl, ?_⟩
    exact qcast hq (by simp [b2i, h1, h2, h3])
  by_cases h4 : w = 3
  · refine V_tsI 51 (off := 50) dX1_mayBe_1 (by rw [h4]; decide +kernel) (by rw [h4]; decide +kernel) (by rw [h4]; decide +kernel) (by decide) ?_
    refine V_iload_n dX1_mayBe_51 rfl 3 rfl ?_
    refine V_iconst (v := 0) dX1_mayBe_52 ki_0 ?_
    refine V_iconst (v := 1) dX1_mayBe_53 ki_1 ?_
    refine V_cNi (P := pM G (d + 1) mX1_mayBe _) (d := d) (r := []) (As := [.int x, .int 0, .int 1]) (K := mX7_isFrom) ok_X7_isFrom nl_267 rfl (rmOk (Nat.le_of_ble_eq_true rfl)) (Nat.le_of_ble_eq_true rfl) dX1_mayBe_54 rfl (c_X7_isFrom ?_)
    refine V_zret rfl dX1_mayBe_57 (b2i_nar _) ⟨_, rfl, ?_⟩
    exact qcast hq (by simp [b2i, h1, h2, h3, h4])
  refine V_tsO 58 dX1_mayBe_1 (by have zh1 := lv_neT (k := 0) (a := 0) h1 rfl; have zh2 := lv_neT (k := 1) (a := 1) h2 rfl; have zh3 := lv_neT (k := 2) (a := 2) h3 rfl; have zh4 := lv_neT (k := 3) (a := 3) h4 rfl; omega) (by decide) ?_
  refine V_iconst (v := 0) dX1_mayBe_58 ki_0 ?_
  refine V_zret rfl dX1_mayBe_59 rfl ⟨_, rfl, ?_⟩
  exact qcast hq (by simp [b2i, h1, h2, h3, h4])
theorem lp_hearing {G : GX} {d n : Nat} {S : ST} {Q : Int32 → ST → Prop} (hn : S.1 0 = nI n) (h12 : n ≤ 12) (hq : Q (bitsOf (fun v => decide (S.2.2.1 14 v = 0)) n) S) : ∀ (k i : Nat), i ≤ n → n - i < k → V (pM G d mX1_hearing (qi Q)) 4 [(2, .int (nI i)), (1, .int (bitsOf (fun v => decide (S.2.2.1 14 v = 0)) i)), (0, .ref (G.2.1 1))] [] S := by
  intro k
  induction k with
  | zero => intro i hi hk; exact absurd hk (Nat.not_lt_zero _)
  | succ k ih =>
    intro i hi hk
    refine V_iload_n dX1_hearing_4 rfl 0 rfl ?_
    refine V_aload_n dX1_hearing_5 rfl 2 rfl ?_
    refine g_1_0 tw_28 dX1_hearing_6 ?_
    refine V_topi (v := nI n) (hn) ?_
    refine V_icmp_gen 33 (a := i) (b := n) dX1_hearing_9 (by decide) (by omega) (by omega) (fun h1 => ?_) (fun h1 => ?_)
    · refine V_iload_n dX1_hearing_33 rfl 1 rfl ?_
      have hin : i = n := by omega
      subst hin
      exact V_iret rfl dX1_hearing_34 ⟨_, rfl, hq⟩
    · refine V_aload_n dX1_hearing_12 rfl 2 rfl ?_
      refine g_1_6 tw_45 dX1_hearing_13 ?_
      refine V_iload_n dX1_hearing_16 rfl 0 rfl ?_
      refine l_14n (by omega) dX1_hearing_17 ?_
      refine V_if_ne 27 dX1_hearing_18 (by decide) (fun h2 => ?_) (fun h2 => ?_)
      · refine V_iinc [(2, .int (nI (i + 1))), (1, .int (bitsOf (fun v => decide (S.2.2.1 14 v = 0)) i)), (0, .ref (G.2.1 1))] dX1_hearing_27 0 rfl (nI_1 _) (Nat.le_of_ble_eq_true rfl) rfl ?_
        refine V_goto 4 dX1_hearing_30 (by decide) ?_
        refine V_lv [(2, .int (nI (i + 1))), (1, .int (bitsOf (fun v => decide (S.2.2.1 14 v = 0)) i)), (0, .ref (G.2.1 1))] [0, 1, 2] rfl ?_
        refine V_lveq [(2, .int (nI (i + 1))), (1, .int (bitsOf (fun v => decide (S.2.2.1 14 v = 0)) (i + 1))), (0, .ref (G.2.1 1))] (by rw [bits_f (by simp [h2])]) ?_
        exact ih (i + 1) (by omega) (by omega)
      · refine V_iload_n dX1_hearing_21 rfl 1 rfl ?_
        refine V_iconst (v := 1) dX1_hearing_22 ki_1 ?_
        refine V_iload_n dX1_hearing_23 rfl 0 rfl ?_
        refine V_ishl dX1_hearing_24 ?_
        refine V_ior dX1_hearing_25 ?_
        refine V_istore_n [(1, .int ((bitsOf (fun v => decide (S.2.2.1 14 v = 0)) i) ||| (1 <<< ((nI i) &&& 31)))), (2, .int (nI i)), (0, .ref (G.2.1 1))] dX1_hearing_26 rfl (Nat.le_of_ble_eq_true rfl) rfl ?_
        refine V_iinc [(2, .int (nI (i + 1))), (1, .int ((bitsOf (fun v => decide (S.2.2.1 14 v = 0)) i) ||| (1 <<< ((nI i) &&& 31)))), (0, .ref (G.2.1 1))] dX1_hearing_27 1 rfl (nI_1 _) (Nat.le_of_ble_eq_true rfl) rfl ?_
        refine V_goto 4 dX1_hearing_30 (by decide) ?_
        refine V_lv [(2, .int (nI (i + 1))), (1, .int ((bitsOf (fun v => decide (S.2.2.1 14 v = 0)) i) ||| (1 <<< ((nI i) &&& 31)))), (0, .ref (G.2.1 1))] [0, 1, 2] rfl ?_
        refine V_lveq [(2, .int (nI (i + 1))), (1, .int (bitsOf (fun v => decide (S.2.2.1 14 v = 0)) (i + 1))), (0, .ref (G.2.1 1))] (by rw [bits_t (by simp [h2])]) ?_
        exact ih (i + 1) (by omega) (by omega)
theorem c_X1_hearing {G : GX} {d : Nat} {S : ST} {n : Nat} {Q : Int32 → ST → Prop} (hn : S.1 0 = nI n) (h12 : n ≤ 12) (hq : Q (bitsOf (fun v => decide (S.2.2.1 14 v = 0)) n) S) : Cn G d mX1_hearing [.ref (G.2.1 1)] S (qi Q) := by
  refine Cn.intro (lv := [(0, .ref (G.2.1 1))]) (by decide) (Nat.le_of_ble_eq_true rfl) rfl ?_
  refine V_iconst (v := 0) dX1_hearing_0 ki_0 ?_
  refine V_istore_n [(1, .int 0), (0, .ref (G.2.1 1))] dX1_hearing_1 rfl (Nat.le_of_ble_eq_true rfl) rfl ?_
  refine V_iconst (v := 0) dX1_hearing_2 ki_0 ?_
  refine V_istore_n [(2, .int 0), (1, .int 0), (0, .ref (G.2.1 1))] dX1_hearing_3 rfl (Nat.le_of_ble_eq_true rfl) rfl ?_
  refine V_lv [(2, .int 0), (1, .int 0), (0, .ref (G.2.1 1))] [0, 1, 2] rfl ?_
  exact lp_hearing hn h12 hq (n + 1) 0 (by omega) (by omega)
theorem lp_twins {G : GX} {d n ch : Nat} {ab : Int32} {S : ST} {Q : Int32 → ST → Prop} (hn : S.1 0 = nI n) (h12 : n ≤ 12) (hc : ch < 12) (hq : Q (bitsOf (fun c => decide (((S.2.2.1 10 c ^^^ S.2.2.1 10 ch) &&& ab) = 0)) n) S) : ∀ (k i : Nat), i ≤ n → n - i < k → V (pM G d mX1_twinsOf (qi Q)) 10 [(4, .int (nI i)), (3, .int (bitsOf (fun c => decide (((S.2.2.1 10 c ^^^ S.2.2.1 10 ch) &&& ab) = 0)) i)), (2, .int ab), (0, .ref (G.2.1 1)), (1, .int (nI ch))] [] S := by
  intro k
  induction k with
  | zero => intro i hi hk; exact absurd hk (Nat.not_lt_zero _)
  | succ k ih =>
    intro i hi hk
    refine V_iload dX1_twinsOf_10 0 rfl ?_
    refine V_aload_n dX1_twinsOf_12 rfl 3 rfl ?_
    refine g_1_0 tw_28 dX1_twinsOf_13 ?_
    refine V_topi (v := nI n) (hn) ?_
    refine V_icmp_gen 51 (a := i) (b := n) dX1_twinsOf_16 (by decide) (by omega) (by omega) (fun h1 => ?_) (fun h1 => ?_)
    · refine V_iload_n dX1_twinsOf_51 rfl 1 rfl ?_
      have hin : i = n := by omega
      subst hin
      exact V_iret rfl dX1_twinsOf_52 ⟨_, rfl, hq⟩
    · refine V_aload_n dX1_twinsOf_19 rfl 3 rfl ?_
      refine g_1_2 tw_36 dX1_twinsOf_20 ?_
      refine V_iload dX1_twinsOf_23 0 rfl ?_
      refine l_10n (by omega) dX1_twinsOf_25 ?_
      refine V_aload_n dX1_twinsOf_26 rfl 3 rfl ?_
      refine g_1_2 tw_36 dX1_twinsOf_27 ?_
      refine V_iload_n dX1_twinsOf_30 rfl 4 rfl ?_
      refine l_10n (by omega) dX1_twinsOf_31 ?_
      refine V_ixor dX1_twinsOf_32 ?_
      refine V_iload_n dX1_twinsOf_33 rfl 2 rfl ?_
      refine V_iand dX1_twinsOf_34 ?_
      refine V_if_ne 45 dX1_twinsOf_35 (by decide) (fun h2 => ?_) (fun h2 => ?_)
      · refine V_iinc [(4, .int (nI (i + 1))), (3, .int (bitsOf (fun c => decide (((S.2.2.1 10 c ^^^ S.2.2.1 10 ch) &&& ab) = 0)) i)), (2, .int ab), (0, .ref (G.2.1 1)), (1, .int (nI ch))] dX1_twinsOf_45 0 rfl (nI_1 _) (Nat.le_of_ble_eq_true rfl) rfl ?_
        refine V_goto 10 dX1_twinsOf_48 (by decide) ?_
        refine V_lv [(4, .int (nI (i + 1))), (3, .int (bitsOf (fun c => decide (((S.2.2.1 10 c ^^^ S.2.2.1 10 ch) &&& ab) = 0)) i)), (2, .int ab), (0, .ref (G.2.1 1)), (1, .int (nI ch))] [0, 1, 2, 3, 4] rfl ?_
        refine V_lveq [(4, .int (nI (i + 1))), (3, .int (bitsOf (fun c => decide (((S.2.2.1 10 c ^^^ S.2.2.1 10 ch) &&& ab) = 0)) (i + 1))), (2, .int ab), (0, .ref (G.2.1 1)), (1, .int (nI ch))] (by rw [bits_f (by simp [h2])]) ?_
        exact ih (i + 1) (by omega) (by omega)
      · refine V_iload_n dX1_twinsOf_38 rfl 1 rfl ?_
        refine V_iconst (v := 1) dX1_twinsOf_39 ki_1 ?_
        refine V_iload dX1_twinsOf_40 0 rfl ?_
        refine V_ishl dX1_twinsOf_42 ?_
        refine V_ior dX1_twinsOf_43 ?_
        refine V_istore_n [(3, .int ((bitsOf (fun c => decide (((S.2.2.1 10 c ^^^ S.2.2.1 10 ch) &&& ab) = 0)) i) ||| (1 <<< ((nI i) &&& 31)))), (4, .int (nI i)), (2, .int ab), (0, .ref (G.2.1 1)), (1, .int (nI ch))] dX1_twinsOf_44 rfl (Nat.le_of_ble_eq_true rfl) rfl ?_
        refine V_iinc [(4, .int (nI (i + 1))), (3, .int ((bitsOf (fun c => decide (((S.2.2.1 10 c ^^^ S.2.2.1 10 ch) &&& ab) = 0)) i) ||| (1 <<< ((nI i) &&& 31)))), (2, .int ab), (0, .ref (G.2.1 1)), (1, .int (nI ch))] dX1_twinsOf_45 1 rfl (nI_1 _) (Nat.le_of_ble_eq_true rfl) rfl ?_
        refine V_goto 10 dX1_twinsOf_48 (by decide) ?_
        refine V_lv [(4, .int (nI (i + 1))), (3, .int ((bitsOf (fun c => decide (((S.2.2.1 10 c ^^^ S.2.2.1 10 ch) &&& ab) = 0)) i) ||| (1 <<< ((nI i) &&& 31)))), (2, .int ab), (0, .ref (G.2.1 1)), (1, .int (nI ch))] [0, 1, 2, 3, 4] rfl ?_
        refine V_lveq [(4, .int (nI (i + 1))), (3, .int (bitsOf (fun c => decide (((S.2.2.1 10 c ^^^ S.2.2.1 10 ch) &&& ab) = 0)) (i + 1))), (2, .int ab), (0, .ref (G.2.1 1)), (1, .int (nI ch))] (by rw [bits_t (by simp [h2])]) ?_
        exact ih (i + 1) (by omega) (by omega)
theorem c_X1_twinsOf {G : GX} {d : Nat} {S : ST} {n ch : Nat} {Q : Int32 → ST → Prop} (hn : S.1 0 = nI n) (h12 : n ≤ 12) (hc : ch < 12) (hq : Q (bitsOf (fun c => decide (((S.2.2.1 10 c ^^^ S.2.2.1 10 ch) &&& bitsOf (fun v => decide (S.2.2.1 14 v = 0)) n) = 0)) n) S) : Cn G (d + 1) mX1_twinsOf [.ref (G.2.1 1), .int (nI ch)] S (qi Q) := by
  refine Cn.intro (lv := [(0, .ref (G.2.1 1)), (1, .int (nI ch))]) (by decide) (Nat.le_of_ble_eq_true rfl) rfl ?_
  refine V_aload_n dX1_twinsOf_0 rfl 0 rfl ?_
  refine V_cVi (P := pM G (d + 1) mX1_twinsOf _) (d := d) 1 (r := []) (As := []) (K := mX1_hearing) ok_X1_hearing tw_482 (ob_1 _) rfl (rmOk (Nat.le_of_ble_eq_true rfl)) (Nat.le_of_ble_eq_true rfl) dX1_twinsOf_1 rfl (c_X1_hearing hn h12 ?_)
  refine V_istore_n [(2, .int (bitsOf (fun v => decide (S.2.2.1 14 v = 0)) n)), (0, .ref (G.2.1 1)), (1, .int (nI ch))] dX1_twinsOf_4 rfl (Nat.le_of_ble_eq_true rfl) rfl ?_
  refine V_iconst (v := 0) dX1_twinsOf_5 ki_0 ?_
  refine V_istore_n [(3, .int 0), (2, .int (bitsOf (fun v => decide (S.2.2.1 14 v = 0)) n)), (0, .ref (G.2.1 1)), (1, .int (nI ch))] dX1_twinsOf_6 rfl (Nat.le_of_ble_eq_true rfl) rfl ?_
  refine V_iconst (v := 0) dX1_twinsOf_7 ki_0 ?_
  refine V_istore [(4, .int 0), (3, .int 0), (2, .int (bitsOf (fun v => decide (S.2.2.1 14 v = 0)) n)), (0, .ref (G.2.1 1)), (1, .int (nI ch))] dX1_twinsOf_8 (Nat.le_of_ble_eq_true rfl) rfl ?_
  refine V_lv [(4, .int 0), (3, .int 0), (2, .int (bitsOf (fun v => decide (S.2.2.1 14 v = 0)) n)), (0, .ref (G.2.1 1)), (1, .int (nI ch))] [0, 1, 2, 3, 4] rfl ?_
  exact lp_twins hn h12 hc hq (n + 1) 0 (by omega) (by omega)
theorem lp_sizes {G : GX} {d n : Nat} {s : Int32} {S : ST} {Q : Int32 → ST → Prop} (hn : S.1 0 = nI n) (h12 : n ≤ 12) (hq : Q (szs (S.2.2.1 11) s n) S) : ∀ (k i : Nat), i ≤ n → n - i < k → V (pM G (d + 1) mX1_sizes (qi Q)) 4 [(3, .int (nI i)), (2, .int (szs (S.2.2.1 11) s i)), (0, .ref (G.2.1 1)), (1, .int s)] [] S := by
  intro k
  induction k with
  | zero => intro i hi hk; exact absurd hk (Nat.not_lt_zero _)
  | succ k ih =>
    intro i hi hk
    refine V_iload_n dX1_sizes_4 rfl 0 rfl ?_
    refine V_aload_n dX1_sizes_5 rfl 2 rfl ?_
    refine g_1_0 tw_28 dX1_sizes_6 ?_
    refine V_topi (v := nI n) (hn) ?_
    refine V_icmp_gen 35 (a := i) (b := n) dX1_sizes_9 (by decide) (by omega) (by omega) (fun h1 => ?_) (fun h1 => ?_)
    · refine V_iload_n dX1_sizes_35 rfl 1 rfl ?_
      have hin : i = n := by omega
      subst hin
      exact V_iret rfl dX1_sizes_36 ⟨_, rfl, hq⟩
    · refine V_iload_n dX1_sizes_12 rfl 3 rfl ?_
      refine V_iload_n dX1_sizes_13 rfl 0 rfl ?_
      refine V_cNi (P := pM G (d + 1) mX1_sizes _) (d := d) (r := []) (As := [.int s, .int (nI i)]) (K := mX7_isBit) ok_X7_isBit nl_251 rfl (rmOk (Nat.le_of_ble_eq_true rfl)) (Nat.le_of_ble_eq_true rfl) dX1_sizes_14 rfl (c_X7_isBit (by omega) ?_)
      refine V_ifb_eq 29 dX1_sizes_17 (by decide) (fun h2 => ?_) (fun h2 => ?_)
      · refine V_iinc [(3, .int (nI (i + 1))), (2, .int (szs (S.2.2.1 11) s i)), (0, .ref (G.2.1 1)), (1, .int s)] dX1_sizes_29 0 rfl (nI_1 _) (Nat.le_of_ble_eq_true rfl) rfl ?_
        refine V_goto 4 dX1_sizes_32 (by decide) ?_
        refine V_lv [(3, .int (nI (i + 1))), (2, .int (szs (S.2.2.1 11) s i)), (0, .ref (G.2.1 1)), (1, .int s)] [0, 1, 2, 3] rfl ?_
        refine V_lveq [(3, .int (nI (i + 1))), (2, .int (szs (S.2.2.1 11) s (i + 1))), (0, .ref (G.2.1 1)), (1, .int s)] (by rw [szs_f h2]) ?_
        exact ih (i + 1) (by omega) (by omega)
      · refine V_iload_n dX1_sizes_20 rfl 1 rfl ?_
        refine V_aload_n dX1_sizes_21 rfl 2 rfl ?_
        refine g_1_3 tw_38 dX1_sizes_22 ?_
        refine V_iload_n dX1_sizes_25 rfl 0 rfl ?_
        refine l_11n (by omega) dX1_sizes_26 ?_
        refine V_iadd dX1_sizes_27 ?_
        refine V_istore_n [(2, .int ((szs (S.2.2.1 11) s i) + (S.2.2.1 11 i))), (3, .int (nI i)), (0, .ref (G.2.1 1)), (1, .int s)] dX1_sizes_28 rfl (Nat.le_of_ble_eq_true rfl) rfl ?_
        refine V_iinc [(3, .int (nI (i + 1))), (2, .int ((szs (S.2.2.1 11) s i) + (S.2.2.1 11 i))), (0, .ref (G.2.1 1)), (1, .int s)] dX1_sizes_29 1 rfl (nI_1 _) (Nat.le_of_ble_eq_true rfl) rfl ?_
        refine V_goto 4 dX1_sizes_32 (by decide) ?_
        refine V_lv [(3, .int (nI (i + 1))), (2, .int ((szs (S.2.2.1 11) s i) + (S.2.2.1 11 i))), (0, .ref (G.2.1 1)), (1, .int s)] [0, 1, 2, 3] rfl ?_
        refine V_lveq [(3, .int (nI (i + 1))), (2, .int (szs (S.2.2.1 11) s (i + 1))), (0, .ref (G.2.1 1)), (1, .int s)] (by rw [szs_t h2]) ?_
        exact ih (i + 1) (by omega) (by omega)
theorem c_X1_sizes {G : GX} {d : Nat} {S : ST} {n : Nat} {s : Int32} {Q : Int32 → ST → Prop} (hn : S.1 0 = nI n) (h12 : n ≤ 12) (hq : Q (szs (S.2.2.1 11) s n) S) : Cn G (d + 1) mX1_sizes [.ref (G.2.1 1), .int s] S (qi Q) := by
  refine Cn.intro (lv := [(0, .ref (G.2.1 1)), (1, .int s)]) (by decide) (Nat.le_of_ble_eq_true rfl) rfl ?_
  refine V_iconst (v := 0) dX1_sizes_0 ki_0 ?_
  refine V_istore_n [(2, .int 0), (0, .ref (G.2.1 1)), (1, .int s)] dX1_sizes_1 rfl (Nat.le_of_ble_eq_true rfl) rfl ?_
  refine V_iconst (v := 0) dX1_sizes_2 ki_0 ?_
  refine V_istore_n [(3, .int 0), (2, .int 0), (0, .ref (G.2.1 1)), (1, .int s)] dX1_sizes_3 rfl (Nat.le_of_ble_eq_true rfl) rfl ?_
  refine V_lv [(3, .int 0), (2, .int 0), (0, .ref (G.2.1 1)), (1, .int s)] [0, 1, 2, 3] rfl ?_
  exact lp_sizes hn h12 hq (n + 1) 0 (by omega) (by omega)
end
