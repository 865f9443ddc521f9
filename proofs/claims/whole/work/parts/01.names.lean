/-- a private method of a class that the tables say can be made, by its rows of tables_1 -/
def lw_okq (q : MethodName × Nat) : Prop := (q.1.cls ≠ "java/lang/invoke/MethodHandle" ∧ q.1.cls ≠ "java/lang/invoke/VarHandle") ∧ Cond.instantiable q.1.cls q.2 ∈ tables_1 ∧ Cond.privateMethod q.1 ∈ tables_1 ∧ Cond.instanceMethod q.1 ∈ tables_1
theorem lw_p0 : lw_okq (⟨"BrokeWhere", "forgetPartings", "()V"⟩, 8) := ⟨⟨by decide +kernel, by decide +kernel⟩, List.mem_of_getElem? (i := 15) (by decide +kernel), List.mem_of_getElem? (i := 244) (by decide +kernel), List.mem_of_getElem? (i := 245) (by decide +kernel)⟩
theorem lw_p1 : lw_okq (⟨"BrokeWhere", "storyRefusal", "(III)I"⟩, 8) := ⟨⟨by decide +kernel, by decide +kernel⟩, List.mem_of_getElem? (i := 15) (by decide +kernel), List.mem_of_getElem? (i := 311) (by decide +kernel), List.mem_of_getElem? (i := 312) (by decide +kernel)⟩
theorem lw_p2 : lw_okq (⟨"BrokeWhere$Stories", "weighFrom", "(II)V"⟩, 10) := ⟨⟨by decide +kernel, by decide +kernel⟩, List.mem_of_getElem? (i := 86) (by decide +kernel), List.mem_of_getElem? (i := 338) (by decide +kernel), List.mem_of_getElem? (i := 339) (by decide +kernel)⟩
theorem lw_p3 : lw_okq (⟨"BrokeWhere$Stories", "take", "(III)V"⟩, 10) := ⟨⟨by decide +kernel, by decide +kernel⟩, List.mem_of_getElem? (i := 86) (by decide +kernel), List.mem_of_getElem? (i := 342) (by decide +kernel), List.mem_of_getElem? (i := 343) (by decide +kernel)⟩
theorem lw_p4 : lw_okq (⟨"BrokeWhere", "parting", "(LBrokeWhere$Partings;II)I"⟩, 8) := ⟨⟨by decide +kernel, by decide +kernel⟩, List.mem_of_getElem? (i := 15) (by decide +kernel), List.mem_of_getElem? (i := 424) (by decide +kernel), List.mem_of_getElem? (i := 425) (by decide +kernel)⟩
theorem lw_p5 : lw_okq (⟨"BrokeWhere$Partings", "refresh", "()V"⟩, 4) := ⟨⟨by decide +kernel, by decide +kernel⟩, List.mem_of_getElem? (i := 127) (by decide +kernel), List.mem_of_getElem? (i := 436) (by decide +kernel), List.mem_of_getElem? (i := 437) (by decide +kernel)⟩
theorem lw_p6 : lw_okq (⟨"BrokeWhere$Partings", "priceAt", "(II)I"⟩, 4) := ⟨⟨by decide +kernel, by decide +kernel⟩, List.mem_of_getElem? (i := 127) (by decide +kernel), List.mem_of_getElem? (i := 443) (by decide +kernel), List.mem_of_getElem? (i := 444) (by decide +kernel)⟩
theorem lw_p7 : lw_okq (⟨"BrokeWhere$Partings", "parts", "(II)Z"⟩, 4) := ⟨⟨by decide +kernel, by decide +kernel⟩, List.mem_of_getElem? (i := 127) (by decide +kernel), List.mem_of_getElem? (i := 448) (by decide +kernel), List.mem_of_getElem? (i := 449) (by decide +kernel)⟩
theorem lw_p8 : lw_okq (⟨"BrokeWhere$Partings", "priceBy", "(III)I"⟩, 4) := ⟨⟨by decide +kernel, by decide +kernel⟩, List.mem_of_getElem? (i := 127) (by decide +kernel), List.mem_of_getElem? (i := 453) (by decide +kernel), List.mem_of_getElem? (i := 454) (by decide +kernel)⟩
theorem lw_p9 : lw_okq (⟨"BrokeWhere$Truth", "valueOf", "(LBrokeWhere$Text;I)J"⟩, 3) := ⟨⟨by decide +kernel, by decide +kernel⟩, List.mem_of_getElem? (i := 166) (by decide +kernel), List.mem_of_getElem? (i := 518) (by decide +kernel), List.mem_of_getElem? (i := 519) (by decide +kernel)⟩
theorem lw_p10 : lw_okq (⟨"BrokeWhere$Families", "soundSets", "(I)J"⟩, 4) := ⟨⟨by decide +kernel, by decide +kernel⟩, List.mem_of_getElem? (i := 185) (by decide +kernel), List.mem_of_getElem? (i := 539) (by decide +kernel), List.mem_of_getElem? (i := 540) (by decide +kernel)⟩
theorem lw_p11 : lw_okq (⟨"BrokeWhere$Families", "isLess", "(II)Z"⟩, 4) := ⟨⟨by decide +kernel, by decide +kernel⟩, List.mem_of_getElem? (i := 185) (by decide +kernel), List.mem_of_getElem? (i := 575) (by decide +kernel), List.mem_of_getElem? (i := 576) (by decide +kernel)⟩
theorem lw_p12 : lw_okq (⟨"BrokeWhere$Families", "foundFrom", "(II)I"⟩, 4) := ⟨⟨by decide +kernel, by decide +kernel⟩, List.mem_of_getElem? (i := 185) (by decide +kernel), List.mem_of_getElem? (i := 615) (by decide +kernel), List.mem_of_getElem? (i := 616) (by decide +kernel)⟩
theorem lw_p13 : lw_okq (⟨"BrokeWhereModel", "isVersion", "(I)Z"⟩, 28) := ⟨⟨by decide +kernel, by decide +kernel⟩, List.mem_of_getElem? (i := 623) (by decide +kernel), List.mem_of_getElem? (i := 718) (by decide +kernel), List.mem_of_getElem? (i := 719) (by decide +kernel)⟩
theorem lw_p14 : lw_okq (⟨"BrokeWhereModel", "isTested", "(I)Z"⟩, 28) := ⟨⟨by decide +kernel, by decide +kernel⟩, List.mem_of_getElem? (i := 623) (by decide +kernel), List.mem_of_getElem? (i := 736) (by decide +kernel), List.mem_of_getElem? (i := 737) (by decide +kernel)⟩
theorem lw_p15 : lw_okq (⟨"BrokeWhereModel", "isStory", "(III)Z"⟩, 28) := ⟨⟨by decide +kernel, by decide +kernel⟩, List.mem_of_getElem? (i := 623) (by decide +kernel), List.mem_of_getElem? (i := 761) (by decide +kernel), List.mem_of_getElem? (i := 762) (by decide +kernel)⟩
def lw_privs_1 : List (MethodName × Nat) := [(⟨"BrokeWhere", "forgetPartings", "()V"⟩, 8), (⟨"BrokeWhere", "storyRefusal", "(III)I"⟩, 8), (⟨"BrokeWhere$Stories", "weighFrom", "(II)V"⟩, 10), (⟨"BrokeWhere$Stories", "take", "(III)V"⟩, 10), (⟨"BrokeWhere", "parting", "(LBrokeWhere$Partings;II)I"⟩, 8), (⟨"BrokeWhere$Partings", "refresh", "()V"⟩, 4), (⟨"BrokeWhere$Partings", "priceAt", "(II)I"⟩, 4), (⟨"BrokeWhere$Partings", "parts", "(II)Z"⟩, 4), (⟨"BrokeWhere$Partings", "priceBy", "(III)I"⟩, 4), (⟨"BrokeWhere$Truth", "valueOf", "(LBrokeWhere$Text;I)J"⟩, 3), (⟨"BrokeWhere$Families", "soundSets", "(I)J"⟩, 4), (⟨"BrokeWhere$Families", "isLess", "(II)Z"⟩, 4), (⟨"BrokeWhere$Families", "foundFrom", "(II)I"⟩, 4), (⟨"BrokeWhereModel", "isVersion", "(I)Z"⟩, 28), (⟨"BrokeWhereModel", "isTested", "(I)Z"⟩, 28), (⟨"BrokeWhereModel", "isStory", "(III)Z"⟩, 28)]
theorem lw_r1 : ∀ q ∈ lw_privs_1, lw_okq q := List.forall_mem_cons.mpr ⟨lw_p0, List.forall_mem_cons.mpr ⟨lw_p1, List.forall_mem_cons.mpr ⟨lw_p2, List.forall_mem_cons.mpr ⟨lw_p3, List.forall_mem_cons.mpr ⟨lw_p4, List.forall_mem_cons.mpr ⟨lw_p5, List.forall_mem_cons.mpr ⟨lw_p6, List.forall_mem_cons.mpr ⟨lw_p7, List.forall_mem_cons.mpr ⟨lw_p8, List.forall_mem_cons.mpr ⟨lw_p9, List.forall_mem_cons.mpr ⟨lw_p10, List.forall_mem_cons.mpr ⟨lw_p11, List.forall_mem_cons.mpr ⟨lw_p12, List.forall_mem_cons.mpr ⟨lw_p13, List.forall_mem_cons.mpr ⟨lw_p14, List.forall_mem_cons.mpr ⟨lw_p15, fun _ h => absurd h List.not_mem_nil⟩⟩⟩⟩⟩⟩⟩⟩⟩⟩⟩⟩⟩⟩⟩⟩
theorem lw_p16 : lw_okq (⟨"BrokeWhereModel", "weightOf", "(III)J"⟩, 28) := ⟨⟨by decide +kernel, by decide +kernel⟩, List.mem_of_getElem? (i := 623) (by decide +kernel), List.mem_of_getElem? (i := 765) (by decide +kernel), List.mem_of_getElem? (i := 766) (by decide +kernel)⟩
theorem lw_p17 : lw_okq (⟨"BrokeWhereModel", "shouldFail", "(IIII)Z"⟩, 28) := ⟨⟨by decide +kernel, by decide +kernel⟩, List.mem_of_getElem? (i := 623) (by decide +kernel), List.mem_of_getElem? (i := 769) (by decide +kernel), List.mem_of_getElem? (i := 770) (by decide +kernel)⟩
theorem lw_p18 : lw_okq (⟨"BrokeWhereModel", "tenths", "(ZZ)I"⟩, 28) := ⟨⟨by decide +kernel, by decide +kernel⟩, List.mem_of_getElem? (i := 623) (by decide +kernel), List.mem_of_getElem? (i := 776) (by decide +kernel), List.mem_of_getElem? (i := 777) (by decide +kernel)⟩
theorem lw_p19 : lw_okq (⟨"BrokeWhereModel", "layStories", "()V"⟩, 28) := ⟨⟨by decide +kernel, by decide +kernel⟩, List.mem_of_getElem? (i := 623) (by decide +kernel), List.mem_of_getElem? (i := 785) (by decide +kernel), List.mem_of_getElem? (i := 786) (by decide +kernel)⟩
theorem lw_p20 : lw_okq (⟨"BrokeWhereModel", "add", "(III)V"⟩, 28) := ⟨⟨by decide +kernel, by decide +kernel⟩, List.mem_of_getElem? (i := 623) (by decide +kernel), List.mem_of_getElem? (i := 789) (by decide +kernel), List.mem_of_getElem? (i := 790) (by decide +kernel)⟩
theorem lw_p21 : lw_okq (⟨"BrokeWhereModel", "guessOf", "()I"⟩, 28) := ⟨⟨by decide +kernel, by decide +kernel⟩, List.mem_of_getElem? (i := 623) (by decide +kernel), List.mem_of_getElem? (i := 808) (by decide +kernel), List.mem_of_getElem? (i := 809) (by decide +kernel)⟩
theorem lw_p22 : lw_okq (⟨"BrokeWhereModel", "canTest", "(I)Z"⟩, 28) := ⟨⟨by decide +kernel, by decide +kernel⟩, List.mem_of_getElem? (i := 623) (by decide +kernel), List.mem_of_getElem? (i := 816) (by decide +kernel), List.mem_of_getElem? (i := 817) (by decide +kernel)⟩
theorem lw_p23 : lw_okq (⟨"BrokeWhereModel", "hopeOf", "(I)J"⟩, 28) := ⟨⟨by decide +kernel, by decide +kernel⟩, List.mem_of_getElem? (i := 623) (by decide +kernel), List.mem_of_getElem? (i := 820) (by decide +kernel), List.mem_of_getElem? (i := 821) (by decide +kernel)⟩
theorem lw_p24 : lw_okq (⟨"BrokeWhereModel", "nextOf", "(I)I"⟩, 28) := ⟨⟨by decide +kernel, by decide +kernel⟩, List.mem_of_getElem? (i := 623) (by decide +kernel), List.mem_of_getElem? (i := 829) (by decide +kernel), List.mem_of_getElem? (i := 830) (by decide +kernel)⟩
theorem lw_p25 : lw_okq (⟨"BrokeWhereModel", "badness", "(II)J"⟩, 28) := ⟨⟨by decide +kernel, by decide +kernel⟩, List.mem_of_getElem? (i := 623) (by decide +kernel), List.mem_of_getElem? (i := 833) (by decide +kernel), List.mem_of_getElem? (i := 834) (by decide +kernel)⟩
theorem lw_p26 : lw_okq (⟨"BrokeWhereModel", "isSet", "(I)Z"⟩, 28) := ⟨⟨by decide +kernel, by decide +kernel⟩, List.mem_of_getElem? (i := 623) (by decide +kernel), List.mem_of_getElem? (i := 841) (by decide +kernel), List.mem_of_getElem? (i := 842) (by decide +kernel)⟩
theorem lw_p27 : lw_okq (⟨"BrokeWhereModel", "lay", "()V"⟩, 28) := ⟨⟨by decide +kernel, by decide +kernel⟩, List.mem_of_getElem? (i := 623) (by decide +kernel), List.mem_of_getElem? (i := 845) (by decide +kernel), List.mem_of_getElem? (i := 846) (by decide +kernel)⟩
theorem lw_p28 : lw_okq (⟨"BrokeWhereModel", "laySet", "(I)V"⟩, 28) := ⟨⟨by decide +kernel, by decide +kernel⟩, List.mem_of_getElem? (i := 623) (by decide +kernel), List.mem_of_getElem? (i := 849) (by decide +kernel), List.mem_of_getElem? (i := 850) (by decide +kernel)⟩
theorem lw_p29 : lw_okq (⟨"BrokeWhereModel", "faultOf", "()I"⟩, 28) := ⟨⟨by decide +kernel, by decide +kernel⟩, List.mem_of_getElem? (i := 623) (by decide +kernel), List.mem_of_getElem? (i := 873) (by decide +kernel), List.mem_of_getElem? (i := 874) (by decide +kernel)⟩
theorem lw_p30 : lw_okq (⟨"BrokeWhereModel", "isSound", "(I)Z"⟩, 28) := ⟨⟨by decide +kernel, by decide +kernel⟩, List.mem_of_getElem? (i := 623) (by decide +kernel), List.mem_of_getElem? (i := 885) (by decide +kernel), List.mem_of_getElem? (i := 886) (by decide +kernel)⟩
theorem lw_p31 : lw_okq (⟨"BrokeWhereModel", "failsOf", "(I)Z"⟩, 28) := ⟨⟨by decide +kernel, by decide +kernel⟩, List.mem_of_getElem? (i := 623) (by decide +kernel), List.mem_of_getElem? (i := 889) (by decide +kernel), List.mem_of_getElem? (i := 890) (by decide +kernel)⟩
def lw_privs_2 : List (MethodName × Nat) := [(⟨"BrokeWhereModel", "weightOf", "(III)J"⟩, 28), (⟨"BrokeWhereModel", "shouldFail", "(IIII)Z"⟩, 28), (⟨"BrokeWhereModel", "tenths", "(ZZ)I"⟩, 28), (⟨"BrokeWhereModel", "layStories", "()V"⟩, 28), (⟨"BrokeWhereModel", "add", "(III)V"⟩, 28), (⟨"BrokeWhereModel", "guessOf", "()I"⟩, 28), (⟨"BrokeWhereModel", "canTest", "(I)Z"⟩, 28), (⟨"BrokeWhereModel", "hopeOf", "(I)J"⟩, 28), (⟨"BrokeWhereModel", "nextOf", "(I)I"⟩, 28), (⟨"BrokeWhereModel", "badness", "(II)J"⟩, 28), (⟨"BrokeWhereModel", "isSet", "(I)Z"⟩, 28), (⟨"BrokeWhereModel", "lay", "()V"⟩, 28), (⟨"BrokeWhereModel", "laySet", "(I)V"⟩, 28), (⟨"BrokeWhereModel", "faultOf", "()I"⟩, 28), (⟨"BrokeWhereModel", "isSound", "(I)Z"⟩, 28), (⟨"BrokeWhereModel", "failsOf", "(I)Z"⟩, 28)]
theorem lw_r2 : ∀ q ∈ lw_privs_2, lw_okq q := List.forall_mem_cons.mpr ⟨lw_p16, List.forall_mem_cons.mpr ⟨lw_p17, List.forall_mem_cons.mpr ⟨lw_p18, List.forall_mem_cons.mpr ⟨lw_p19, List.forall_mem_cons.mpr ⟨lw_p20, List.forall_mem_cons.mpr ⟨lw_p21, List.forall_mem_cons.mpr ⟨lw_p22, List.forall_mem_cons.mpr ⟨lw_p23, List.forall_mem_cons.mpr ⟨lw_p24, List.forall_mem_cons.mpr ⟨lw_p25, List.forall_mem_cons.mpr ⟨lw_p26, List.forall_mem_cons.mpr ⟨lw_p27, List.forall_mem_cons.mpr ⟨lw_p28, List.forall_mem_cons.mpr ⟨lw_p29, List.forall_mem_cons.mpr ⟨lw_p30, List.forall_mem_cons.mpr ⟨lw_p31, fun _ h => absurd h List.not_mem_nil⟩⟩⟩⟩⟩⟩⟩⟩⟩⟩⟩⟩⟩⟩⟩⟩
theorem lw_p32 : lw_okq (⟨"BrokeWhereModel", "isSure", "(I)Z"⟩, 28) := ⟨⟨by decide +kernel, by decide +kernel⟩, List.mem_of_getElem? (i := 623) (by decide +kernel), List.mem_of_getElem? (i := 897) (by decide +kernel), List.mem_of_getElem? (i := 898) (by decide +kernel)⟩
theorem lw_p33 : lw_okq (⟨"BrokeWhereModel", "sizes", "(I)I"⟩, 28) := ⟨⟨by decide +kernel, by decide +kernel⟩, List.mem_of_getElem? (i := 623) (by decide +kernel), List.mem_of_getElem? (i := 908) (by decide +kernel), List.mem_of_getElem? (i := 909) (by decide +kernel)⟩
def lw_privs_3 : List (MethodName × Nat) := [(⟨"BrokeWhereModel", "isSure", "(I)Z"⟩, 28), (⟨"BrokeWhereModel", "sizes", "(I)I"⟩, 28)]
theorem lw_r3 : ∀ q ∈ lw_privs_3, lw_okq q := List.forall_mem_cons.mpr ⟨lw_p32, List.forall_mem_cons.mpr ⟨lw_p33, fun _ h => absurd h List.not_mem_nil⟩⟩
def lw_privs : List (MethodName × Nat) := lw_privs_1 ++ (lw_privs_2 ++ (lw_privs_3))
def lw_tbl : List Cond := k2_sels lw_privs ++ tables_1
theorem lw_privs_ok : ∀ q ∈ lw_privs, lw_okq q := by
  show ∀ q ∈ lw_privs_1 ++ (lw_privs_2 ++ (lw_privs_3)), lw_okq q
  exact List.forall_mem_append.mpr ⟨lw_r1, List.forall_mem_append.mpr ⟨lw_r2, lw_r3⟩⟩
theorem pA_end : True := trivial
def RX0 : String := "BrokeWhere$Families"
def TX0 : u_T := fun k => match k with
  | 0 => ("BrokeWhere$Families", "history", "LBrokeWhere$History;", true)
  | 1 => ("BrokeWhere$Families", "truth", "LBrokeWhere$Truth;", true)
  | 2 => ("BrokeWhere$Families", "found", "[J", true)
  | _ => ("BrokeWhere$Families", "holding", "[J", true)
def tyX0 : Nat → FieldType := fun k => match k with
  | 0 => .object "BrokeWhere$History"
  | 1 => .object "BrokeWhere$Truth"
  | 2 => .array .long
  | _ => .array .long
theorem nmX0 : ∀ a, a < 4 → ∀ b, b < 4 → a ≠ b → (TX0 a).2.1 ≠ (TX0 b).2.1 := by decide +kernel
theorem tyX0_ok : ∀ k, k < 4 → parseFieldDescriptor (TX0 k).2.2.1 = some (tyX0 k) := by decide +kernel
abbrev cX0_init : ByteArray := prog_2_method_1_code
def yX0_init : MethodName := ⟨RX0, "<init>", "(LBrokeWhere$History;LBrokeWhere$Truth;)V"⟩
abbrev cX0_soundSets : ByteArray := prog_2_method_2_code
def yX0_soundSets : MethodName := ⟨RX0, "soundSets", "(I)J"⟩
abbrev cX0_isSound : ByteArray := prog_2_method_3_code
def yX0_isSound : MethodName := ⟨RX0, "isSound", "(I)Z"⟩
abbrev cX0_leastOut : ByteArray := prog_2_method_4_code
def yX0_leastOut : MethodName := ⟨RX0, "leastOut", "(I)I"⟩
abbrev cX0_isLess : ByteArray := prog_2_method_5_code
def yX0_isLess : MethodName := ⟨RX0, "isLess", "(II)Z"⟩
abbrev cX0_findCores : ByteArray := prog_2_method_6_code
def yX0_findCores : MethodName := ⟨RX0, "findCores", "(I)V"⟩
abbrev cX0_countFound : ByteArray := prog_2_method_7_code
def yX0_countFound : MethodName := ⟨RX0, "countFound", "()I"⟩
abbrev cX0_foundAt : ByteArray := prog_2_method_8_code
def yX0_foundAt : MethodName := ⟨RX0, "foundAt", "(I)I"⟩
abbrev cX0_foundFrom : ByteArray := prog_2_method_9_code
def yX0_foundFrom : MethodName := ⟨RX0, "foundFrom", "(II)I"⟩
def RX1 : String := "BrokeWhere$History"
def TX1 : u_T := fun k => match k with
  | 0 => ("BrokeWhere$History", "count", "I", false)
  | 1 => ("BrokeWhere$History", "holds", "[I", true)
  | 2 => ("BrokeWhere$History", "carriers", "[I", true)
  | 3 => ("BrokeWhere$History", "size", "[I", true)
  | 4 => ("BrokeWhere$History", "cost", "[I", true)
  | 5 => ("BrokeWhere$History", "needs", "[I", true)
  | _ => ("BrokeWhere$History", "deaf", "[I", true)
def tyX1 : Nat → FieldType := fun k => match k with
  | 0 => .int
  | 1 => .array .int
  | 2 => .array .int
  | 3 => .array .int
  | 4 => .array .int
  | 5 => .array .int
  | _ => .array .int
theorem nmX1 : ∀ a, a < 7 → ∀ b, b < 7 → a ≠ b → (TX1 a).2.1 ≠ (TX1 b).2.1 := by decide +kernel
theorem tyX1_ok : ∀ k, k < 7 → parseFieldDescriptor (TX1 k).2.2.1 = some (tyX1 k) := by decide +kernel
abbrev cX1_init : ByteArray := prog_3_method_1_code
def yX1_init : MethodName := ⟨RX1, "<init>", "()V"⟩
abbrev cX1_knows : ByteArray := prog_3_method_2_code
def yX1_knows : MethodName := ⟨RX1, "knows", "(I)Z"⟩
abbrev cX1_hears : ByteArray := prog_3_method_3_code
def yX1_hears : MethodName := ⟨RX1, "hears", "(I)Z"⟩
abbrev cX1_mayStandOn : ByteArray := prog_3_method_4_code
def yX1_mayStandOn : MethodName := ⟨RX1, "mayStandOn", "(II)Z"⟩
abbrev cX1_add : ByteArray := prog_3_method_5_code
def yX1_add : MethodName := ⟨RX1, "add", "(III)I"⟩
abbrev cX1_mayBe : ByteArray := prog_3_method_6_code
def yX1_mayBe : MethodName := ⟨RX1, "mayBe", "(III)Z"⟩
abbrev cX1_row : ByteArray := prog_3_method_7_code
def yX1_row : MethodName := ⟨RX1, "row", "(I)[I"⟩
abbrev cX1_everyVersion : ByteArray := prog_3_method_8_code
def yX1_everyVersion : MethodName := ⟨RX1, "everyVersion", "()I"⟩
abbrev cX1_hearing : ByteArray := prog_3_method_9_code
def yX1_hearing : MethodName := ⟨RX1, "hearing", "()I"⟩
abbrev cX1_twinsOf : ByteArray := prog_3_method_10_code
def yX1_twinsOf : MethodName := ⟨RX1, "twinsOf", "(I)I"⟩
abbrev cX1_sizes : ByteArray := prog_3_method_11_code
def yX1_sizes : MethodName := ⟨RX1, "sizes", "(I)I"⟩
def RX2 : String := "BrokeWhere$Log"
def TX2 : u_T := fun k => match k with
  | 0 => ("BrokeWhere$Log", "count", "I", false)
  | 1 => ("BrokeWhere$Log", "version", "[I", true)
  | _ => ("BrokeWhere$Log", "passed", "[Z", true)
def tyX2 : Nat → FieldType := fun k => match k with
  | 0 => .int
  | 1 => .array .int
  | _ => .array .boolean
theorem nmX2 : ∀ a, a < 3 → ∀ b, b < 3 → a ≠ b → (TX2 a).2.1 ≠ (TX2 b).2.1 := by decide +kernel
theorem tyX2_ok : ∀ k, k < 3 → parseFieldDescriptor (TX2 k).2.2.1 = some (tyX2 k) := by decide +kernel
abbrev cX2_init : ByteArray := prog_4_method_1_code
def yX2_init : MethodName := ⟨RX2, "<init>", "()V"⟩
abbrev cX2_add : ByteArray := prog_4_method_2_code
def yX2_add : MethodName := ⟨RX2, "add", "(IZ)I"⟩
abbrev cX2_holdsTestOf : ByteArray := prog_4_method_3_code
def yX2_holdsTestOf : MethodName := ⟨RX2, "holdsTestOf", "(I)Z"⟩
def RX3 : String := "BrokeWhere$Partings"
def TX3 : u_T := fun k => match k with
  | 0 => ("BrokeWhere$Partings", "history", "LBrokeWhere$History;", true)
  | 1 => ("BrokeWhere$Partings", "byCost", "Z", true)
  | 2 => ("BrokeWhere$Partings", "known", "[I", true)
  | _ => ("BrokeWhere$Partings", "stale", "Z", false)
def tyX3 : Nat → FieldType := fun k => match k with
  | 0 => .object "BrokeWhere$History"
  | 1 => .boolean
  | 2 => .array .int
  | _ => .boolean
theorem nmX3 : ∀ a, a < 4 → ∀ b, b < 4 → a ≠ b → (TX3 a).2.1 ≠ (TX3 b).2.1 := by decide +kernel
theorem tyX3_ok : ∀ k, k < 4 → parseFieldDescriptor (TX3 k).2.2.1 = some (tyX3 k) := by decide +kernel
abbrev cX3_init : ByteArray := prog_5_method_1_code
def yX3_init : MethodName := ⟨RX3, "<init>", "(LBrokeWhere$History;Z)V"⟩
abbrev cX3_price : ByteArray := prog_5_method_2_code
def yX3_price : MethodName := ⟨RX3, "price", "(I)I"⟩
abbrev cX3_start : ByteArray := prog_5_method_3_code
def yX3_start : MethodName := ⟨RX3, "start", "(I)I"⟩
abbrev cX3_refresh : ByteArray := prog_5_method_4_code
def yX3_refresh : MethodName := ⟨RX3, "refresh", "()V"⟩
abbrev cX3_parts : ByteArray := prog_5_method_5_code
def yX3_parts : MethodName := ⟨RX3, "parts", "(II)Z"⟩
abbrev cX3_priceAt : ByteArray := prog_5_method_6_code
def yX3_priceAt : MethodName := ⟨RX3, "priceAt", "(II)I"⟩
abbrev cX3_priceBy : ByteArray := prog_5_method_7_code
def yX3_priceBy : MethodName := ⟨RX3, "priceBy", "(III)I"⟩
def RX4 : String := "BrokeWhere$Stories"
def TX4 : u_T := fun k => match k with
  | 0 => ("BrokeWhere$Stories", "history", "LBrokeWhere$History;", true)
  | 1 => ("BrokeWhere$Stories", "log", "LBrokeWhere$Log;", true)
  | 2 => ("BrokeWhere$Stories", "trusts", "[I", true)
  | 3 => ("BrokeWhere$Stories", "count", "I", false)
  | 4 => ("BrokeWhere$Stories", "places", "[I", true)
  | 5 => ("BrokeWhere$Stories", "weights", "[J", true)
  | 6 => ("BrokeWhere$Stories", "failing", "[I", true)
  | 7 => ("BrokeWhere$Stories", "all", "J", false)
  | 8 => ("BrokeWhere$Stories", "heaviest", "I", false)
  | _ => ("BrokeWhere$Stories", "most", "J", false)
def tyX4 : Nat → FieldType := fun k => match k with
  | 0 => .object "BrokeWhere$History"
  | 1 => .object "BrokeWhere$Log"
  | 2 => .array .int
  | 3 => .int
  | 4 => .array .int
  | 5 => .array .long
  | 6 => .array .int
  | 7 => .long
  | 8 => .int
  | _ => .long
theorem nmX4 : ∀ a, a < 10 → ∀ b, b < 10 → a ≠ b → (TX4 a).2.1 ≠ (TX4 b).2.1 := by decide +kernel
theorem tyX4_ok : ∀ k, k < 10 → parseFieldDescriptor (TX4 k).2.2.1 = some (tyX4 k) := by decide +kernel
abbrev cX4_init : ByteArray := prog_6_method_1_code
def yX4_init : MethodName := ⟨RX4, "<init>", "(LBrokeWhere$History;LBrokeWhere$Log;)V"⟩
abbrev cX4_failingOf : ByteArray := prog_6_method_2_code
def yX4_failingOf : MethodName := ⟨RX4, "failingOf", "(III)I"⟩
abbrev cX4_tenths : ByteArray := prog_6_method_3_code
def yX4_tenths : MethodName := ⟨RX4, "tenths", "(ZZ)I"⟩
abbrev cX4_weightOf : ByteArray := prog_6_method_4_code
def yX4_weightOf : MethodName := ⟨RX4, "weightOf", "(III)J"⟩
abbrev cX4_weigh : ByteArray := prog_6_method_5_code
def yX4_weigh : MethodName := ⟨RX4, "weigh", "()V"⟩
abbrev cX4_weighFrom : ByteArray := prog_6_method_6_code
def yX4_weighFrom : MethodName := ⟨RX4, "weighFrom", "(II)V"⟩
abbrev cX4_take : ByteArray := prog_6_method_7_code
def yX4_take : MethodName := ⟨RX4, "take", "(III)V"⟩
abbrev cX4_weightOfSort : ByteArray := prog_6_method_8_code
def yX4_weightOfSort : MethodName := ⟨RX4, "weightOfSort", "(I)J"⟩
abbrev cX4_weightBlaming : ByteArray := prog_6_method_9_code
def yX4_weightBlaming : MethodName := ⟨RX4, "weightBlaming", "(I)J"⟩
abbrev cX4_hopeWeight : ByteArray := prog_6_method_10_code
def yX4_hopeWeight : MethodName := ⟨RX4, "hopeWeight", "(I)J"⟩
abbrev cX4_gap : ByteArray := prog_6_method_11_code
def yX4_gap : MethodName := ⟨RX4, "gap", "(I)J"⟩
abbrev cX4_nextVersion : ByteArray := prog_6_method_12_code
def yX4_nextVersion : MethodName := ⟨RX4, "nextVersion", "(I)I"⟩
abbrev cX4_guessIsBelow : ByteArray := prog_6_method_13_code
def yX4_guessIsBelow : MethodName := ⟨RX4, "guessIsBelow", "(I)Z"⟩
def RX5 : String := "BrokeWhere$Text"
def TX5 : u_T := fun k => match k with
  | 0 => ("BrokeWhere$Text", "length", "I", false)
  | 1 => ("BrokeWhere$Text", "signs", "[I", true)
  | _ => ("BrokeWhere$Text", "due", "[I", true)
def tyX5 : Nat → FieldType := fun k => match k with
  | 0 => .int
  | 1 => .array .int
  | _ => .array .int
theorem nmX5 : ∀ a, a < 3 → ∀ b, b < 3 → a ≠ b → (TX5 a).2.1 ≠ (TX5 b).2.1 := by decide +kernel
theorem tyX5_ok : ∀ k, k < 3 → parseFieldDescriptor (TX5 k).2.2.1 = some (tyX5 k) := by decide +kernel
abbrev cX5_init : ByteArray := prog_7_method_1_code
def yX5_init : MethodName := ⟨RX5, "<init>", "()V"⟩
abbrev cX5_add : ByteArray := prog_7_method_2_code
def yX5_add : MethodName := ⟨RX5, "add", "(I)I"⟩
abbrev cX5_textsOf : ByteArray := prog_7_method_3_code
def yX5_textsOf : MethodName := ⟨RX5, "textsOf", "(I)I"⟩
abbrev cX5_firstFault : ByteArray := prog_7_method_4_code
def yX5_firstFault : MethodName := ⟨RX5, "firstFault", "()I"⟩
def RX6 : String := "BrokeWhere$Truth"
def TX6 : u_T := fun k => match k with
  | 0 => ("BrokeWhere$Truth", "length", "I", false)
  | 1 => ("BrokeWhere$Truth", "failing", "[J", true)
  | _ => ("BrokeWhere$Truth", "values", "[J", true)
def tyX6 : Nat → FieldType := fun k => match k with
  | 0 => .int
  | 1 => .array .long
  | _ => .array .long
theorem nmX6 : ∀ a, a < 3 → ∀ b, b < 3 → a ≠ b → (TX6 a).2.1 ≠ (TX6 b).2.1 := by decide +kernel
theorem tyX6_ok : ∀ k, k < 3 → parseFieldDescriptor (TX6 k).2.2.1 = some (tyX6 k) := by decide +kernel
abbrev cX6_init : ByteArray := prog_8_method_1_code
def yX6_init : MethodName := ⟨RX6, "<init>", "()V"⟩
abbrev cX6_take : ByteArray := prog_8_method_2_code
def yX6_take : MethodName := ⟨RX6, "take", "(LBrokeWhere$Text;)V"⟩
abbrev cX6_valueOf : ByteArray := prog_8_method_3_code
def yX6_valueOf : MethodName := ⟨RX6, "valueOf", "(LBrokeWhere$Text;I)J"⟩
def RX7 : String := "BrokeWhere"
def TX7 : u_T := fun k => match k with
  | 0 => ("BrokeWhere", "history", "LBrokeWhere$History;", true)
  | 1 => ("BrokeWhere", "log", "LBrokeWhere$Log;", true)
  | 2 => ("BrokeWhere", "stories", "LBrokeWhere$Stories;", true)
  | 3 => ("BrokeWhere", "fewest", "LBrokeWhere$Partings;", true)
  | 4 => ("BrokeWhere", "cheapest", "LBrokeWhere$Partings;", true)
  | 5 => ("BrokeWhere", "signs", "LBrokeWhere$Text;", true)
  | 6 => ("BrokeWhere", "verdict", "LBrokeWhere$Truth;", true)
  | _ => ("BrokeWhere", "families", "LBrokeWhere$Families;", true)
def tyX7 : Nat → FieldType := fun k => match k with
  | 0 => .object "BrokeWhere$History"
  | 1 => .object "BrokeWhere$Log"
  | 2 => .object "BrokeWhere$Stories"
  | 3 => .object "BrokeWhere$Partings"
  | 4 => .object "BrokeWhere$Partings"
  | 5 => .object "BrokeWhere$Text"
  | 6 => .object "BrokeWhere$Truth"
  | _ => .object "BrokeWhere$Families"
theorem nmX7 : ∀ a, a < 8 → ∀ b, b < 8 → a ≠ b → (TX7 a).2.1 ≠ (TX7 b).2.1 := by decide +kernel
theorem tyX7_ok : ∀ k, k < 8 → parseFieldDescriptor (TX7 k).2.2.1 = some (tyX7 k) := by decide +kernel
abbrev cX7_init : ByteArray := prog_1_method_1_code
def yX7_init : MethodName := ⟨RX7, "<init>", "()V"⟩
abbrev cX7_version : ByteArray := prog_1_method_2_code
def yX7_version : MethodName := ⟨RX7, "version", "(III)I"⟩
abbrev cX7_has : ByteArray := prog_1_method_3_code
def yX7_has : MethodName := ⟨RX7, "has", "(I)I"⟩
abbrev cX7_set : ByteArray := prog_1_method_4_code
def yX7_set : MethodName := ⟨RX7, "set", "(III)I"⟩
abbrev cX7_trust : ByteArray := prog_1_method_5_code
def yX7_trust : MethodName := ⟨RX7, "trust", "(II)I"⟩
abbrev cX7_test : ByteArray := prog_1_method_6_code
def yX7_test : MethodName := ⟨RX7, "test", "(IZ)I"⟩
abbrev cX7_tested : ByteArray := prog_1_method_7_code
def yX7_tested : MethodName := ⟨RX7, "tested", "(II)I"⟩
abbrev cX7_untest : ByteArray := prog_1_method_8_code
def yX7_untest : MethodName := ⟨RX7, "untest", "()I"⟩
abbrev cX7_weight : ByteArray := prog_1_method_9_code
def yX7_weight : MethodName := ⟨RX7, "weight", "(III)J"⟩
abbrev cX7_odds : ByteArray := prog_1_method_10_code
def yX7_odds : MethodName := ⟨RX7, "odds", "(IIII)J"⟩
abbrev cX7_sorts : ByteArray := prog_1_method_11_code
def yX7_sorts : MethodName := ⟨RX7, "sorts", "(II)J"⟩
abbrev cX7_blame : ByteArray := prog_1_method_12_code
def yX7_blame : MethodName := ⟨RX7, "blame", "(II)J"⟩
abbrev cX7_guess : ByteArray := prog_1_method_13_code
def yX7_guess : MethodName := ⟨RX7, "guess", "(I)I"⟩
abbrev cX7_hope : ByteArray := prog_1_method_14_code
def yX7_hope : MethodName := ⟨RX7, "hope", "(II)J"⟩
abbrev cX7_next : ByteArray := prog_1_method_15_code
def yX7_next : MethodName := ⟨RX7, "next", "(I)I"⟩
abbrev cX7_worst : ByteArray := prog_1_method_16_code
def yX7_worst : MethodName := ⟨RX7, "worst", "(II)I"⟩
abbrev cX7_mean : ByteArray := prog_1_method_17_code
def yX7_mean : MethodName := ⟨RX7, "mean", "(II)I"⟩
abbrev cX7_twins : ByteArray := prog_1_method_18_code
def yX7_twins : MethodName := ⟨RX7, "twins", "(I)I"⟩
abbrev cX7_say : ByteArray := prog_1_method_19_code
def yX7_say : MethodName := ⟨RX7, "say", "(I)I"⟩
abbrev cX7_wipe : ByteArray := prog_1_method_20_code
def yX7_wipe : MethodName := ⟨RX7, "wipe", "()I"⟩
abbrev cX7_fault : ByteArray := prog_1_method_21_code
def yX7_fault : MethodName := ⟨RX7, "fault", "()I"⟩
abbrev cX7_truth : ByteArray := prog_1_method_22_code
def yX7_truth : MethodName := ⟨RX7, "truth", "()I"⟩
abbrev cX7_fails : ByteArray := prog_1_method_23_code
def yX7_fails : MethodName := ⟨RX7, "fails", "(II)I"⟩
abbrev cX7_play : ByteArray := prog_1_method_24_code
def yX7_play : MethodName := ⟨RX7, "play", "(I)I"⟩
abbrev cX7_out : ByteArray := prog_1_method_25_code
def yX7_out : MethodName := ⟨RX7, "out", "(II)I"⟩
abbrev cX7_core : ByteArray := prog_1_method_26_code
def yX7_core : MethodName := ⟨RX7, "core", "(II)I"⟩
abbrev cX7_told : ByteArray := prog_1_method_27_code
def yX7_told : MethodName := ⟨RX7, "told", "(I)I"⟩
abbrev cX7_forgetPartings : ByteArray := prog_1_method_28_code
def yX7_forgetPartings : MethodName := ⟨RX7, "forgetPartings", "()V"⟩
abbrev cX7_storyRefusal : ByteArray := prog_1_method_29_code
def yX7_storyRefusal : MethodName := ⟨RX7, "storyRefusal", "(III)I"⟩
abbrev cX7_parting : ByteArray := prog_1_method_30_code
def yX7_parting : MethodName := ⟨RX7, "parting", "(LBrokeWhere$Partings;II)I"⟩
abbrev cX7_isFrom : ByteArray := prog_1_method_31_code
def yX7_isFrom : MethodName := ⟨RX7, "isFrom", "(III)Z"⟩
abbrev cX7_asNumber : ByteArray := prog_1_method_32_code
def yX7_asNumber : MethodName := ⟨RX7, "asNumber", "(Z)I"⟩
abbrev cX7_isBit : ByteArray := prog_1_method_33_code
def yX7_isBit : MethodName := ⟨RX7, "isBit", "(II)Z"⟩
abbrev cX7_swap : ByteArray := prog_1_method_34_code
def yX7_swap : MethodName := ⟨RX7, "swap", "([III)I"⟩
abbrev cX7_fraction : ByteArray := prog_1_method_35_code
def yX7_fraction : MethodName := ⟨RX7, "fraction", "(JJI)J"⟩
abbrev cX7_commonDivisor : ByteArray := prog_1_method_36_code
def yX7_commonDivisor : MethodName := ⟨RX7, "commonDivisor", "(JJ)J"⟩
abbrev cX7_storyAt : ByteArray := prog_1_method_37_code
def yX7_storyAt : MethodName := ⟨RX7, "storyAt", "(III)I"⟩
abbrev cX7_sortAt : ByteArray := prog_1_method_38_code
def yX7_sortAt : MethodName := ⟨RX7, "sortAt", "(I)I"⟩
abbrev cX7_firstAt : ByteArray := prog_1_method_39_code
def yX7_firstAt : MethodName := ⟨RX7, "firstAt", "(I)I"⟩
abbrev cX7_secondAt : ByteArray := prog_1_method_40_code
def yX7_secondAt : MethodName := ⟨RX7, "secondAt", "(I)I"⟩
abbrev cX7_setsWith : ByteArray := prog_1_method_41_code
def yX7_setsWith : MethodName := ⟨RX7, "setsWith", "(II)J"⟩
abbrev cX7_setsWithAll : ByteArray := prog_1_method_42_code
def yX7_setsWithAll : MethodName := ⟨RX7, "setsWithAll", "(II)J"⟩
abbrev cX7_setsWithin : ByteArray := prog_1_method_43_code
def yX7_setsWithin : MethodName := ⟨RX7, "setsWithin", "(II)J"⟩
abbrev cX7_setsGiven : ByteArray := prog_1_method_44_code
def yX7_setsGiven : MethodName := ⟨RX7, "setsGiven", "(I[JI)J"⟩
abbrev cX7_isAmong : ByteArray := prog_1_method_45_code
def yX7_isAmong : MethodName := ⟨RX7, "isAmong", "([JI)Z"⟩
abbrev cX7_isOfWord : ByteArray := prog_1_method_46_code
def yX7_isOfWord : MethodName := ⟨RX7, "isOfWord", "(JI)Z"⟩
def RX8 : String := "BrokeWhereModel"
def TX8 : u_T := fun k => match k with
  | 0 => ("BrokeWhereModel", "versions", "I", false)
  | 1 => ("BrokeWhereModel", "hasOf", "[I", true)
  | 2 => ("BrokeWhereModel", "size", "[I", true)
  | 3 => ("BrokeWhereModel", "cost", "[I", true)
  | 4 => ("BrokeWhereModel", "needs", "[I", true)
  | 5 => ("BrokeWhereModel", "deaf", "[Z", true)
  | 6 => ("BrokeWhereModel", "tests", "I", false)
  | 7 => ("BrokeWhereModel", "testOf", "[I", true)
  | 8 => ("BrokeWhereModel", "passed", "[Z", true)
  | 9 => ("BrokeWhereModel", "trust", "[I", true)
  | 10 => ("BrokeWhereModel", "signs", "I", false)
  | 11 => ("BrokeWhereModel", "sign", "[I", true)
  | 12 => ("BrokeWhereModel", "told", "I", false)
  | 13 => ("BrokeWhereModel", "truth", "[I", true)
  | 14 => ("BrokeWhereModel", "stories", "I", false)
  | 15 => ("BrokeWhereModel", "sort", "[I", true)
  | 16 => ("BrokeWhereModel", "one", "[I", true)
  | 17 => ("BrokeWhereModel", "two", "[I", true)
  | 18 => ("BrokeWhereModel", "weight", "[J", true)
  | 19 => ("BrokeWhereModel", "all", "J", false)
  | 20 => ("BrokeWhereModel", "isLaid", "Z", false)
  | 21 => ("BrokeWhereModel", "most", "[I", true)
  | 22 => ("BrokeWhereModel", "mostFirst", "[I", true)
  | 23 => ("BrokeWhereModel", "sum", "[I", true)
  | 24 => ("BrokeWhereModel", "sumFirst", "[I", true)
  | 25 => ("BrokeWhereModel", "due", "[I", true)
  | 26 => ("BrokeWhereModel", "pile", "[Z", true)
  | _ => ("BrokeWhereModel", "bad", "[Z", true)
def tyX8 : Nat → FieldType := fun k => match k with
  | 0 => .int
  | 1 => .array .int
  | 2 => .array .int
  | 3 => .array .int
  | 4 => .array .int
  | 5 => .array .boolean
  | 6 => .int
  | 7 => .array .int
  | 8 => .array .boolean
  | 9 => .array .int
  | 10 => .int
  | 11 => .array .int
  | 12 => .int
  | 13 => .array .int
  | 14 => .int
  | 15 => .array .int
  | 16 => .array .int
  | 17 => .array .int
  | 18 => .array .long
  | 19 => .long
  | 20 => .boolean
  | 21 => .array .int
  | 22 => .array .int
  | 23 => .array .int
  | 24 => .array .int
  | 25 => .array .int
  | 26 => .array .boolean
  | _ => .array .boolean
theorem nmX8 : ∀ a, a < 28 → ∀ b, b < 28 → a ≠ b → (TX8 a).2.1 ≠ (TX8 b).2.1 := by decide +kernel
theorem tyX8_ok : ∀ k, k < 28 → parseFieldDescriptor (TX8 k).2.2.1 = some (tyX8 k) := by decide +kernel
abbrev cX8_init : ByteArray := prog_10_method_1_code
def yX8_init : MethodName := ⟨RX8, "<init>", "()V"⟩
abbrev cX8_in : ByteArray := prog_10_method_2_code
def yX8_in : MethodName := ⟨RX8, "in", "(III)Z"⟩
abbrev cX8_isVersion : ByteArray := prog_10_method_3_code
def yX8_isVersion : MethodName := ⟨RX8, "isVersion", "(I)Z"⟩
abbrev cX8_isPart : ByteArray := prog_10_method_4_code
def yX8_isPart : MethodName := ⟨RX8, "isPart", "(I)Z"⟩
abbrev cX8_hasBit : ByteArray := prog_10_method_5_code
def yX8_hasBit : MethodName := ⟨RX8, "hasBit", "(II)Z"⟩
abbrev cX8_version : ByteArray := prog_10_method_6_code
def yX8_version : MethodName := ⟨RX8, "version", "(III)I"⟩
abbrev cX8_has : ByteArray := prog_10_method_7_code
def yX8_has : MethodName := ⟨RX8, "has", "(I)I"⟩
abbrev cX8_isTested : ByteArray := prog_10_method_8_code
def yX8_isTested : MethodName := ⟨RX8, "isTested", "(I)Z"⟩
abbrev cX8_set : ByteArray := prog_10_method_9_code
def yX8_set : MethodName := ⟨RX8, "set", "(III)I"⟩
abbrev cX8_trust : ByteArray := prog_10_method_10_code
def yX8_trust : MethodName := ⟨RX8, "trust", "(II)I"⟩
abbrev cX8_test : ByteArray := prog_10_method_11_code
def yX8_test : MethodName := ⟨RX8, "test", "(IZ)I"⟩
abbrev cX8_tested : ByteArray := prog_10_method_12_code
def yX8_tested : MethodName := ⟨RX8, "tested", "(II)I"⟩
abbrev cX8_untest : ByteArray := prog_10_method_13_code
def yX8_untest : MethodName := ⟨RX8, "untest", "()I"⟩
abbrev cX8_shouldFail : ByteArray := prog_10_method_14_code
def yX8_shouldFail : MethodName := ⟨RX8, "shouldFail", "(IIII)Z"⟩
abbrev cX8_tenths : ByteArray := prog_10_method_15_code
def yX8_tenths : MethodName := ⟨RX8, "tenths", "(ZZ)I"⟩
abbrev cX8_weightOf : ByteArray := prog_10_method_16_code
def yX8_weightOf : MethodName := ⟨RX8, "weightOf", "(III)J"⟩
abbrev cX8_add : ByteArray := prog_10_method_17_code
def yX8_add : MethodName := ⟨RX8, "add", "(III)V"⟩
abbrev cX8_layStories : ByteArray := prog_10_method_18_code
def yX8_layStories : MethodName := ⟨RX8, "layStories", "()V"⟩
abbrev cX8_isStory : ByteArray := prog_10_method_19_code
def yX8_isStory : MethodName := ⟨RX8, "isStory", "(III)Z"⟩
abbrev cX8_weight : ByteArray := prog_10_method_20_code
def yX8_weight : MethodName := ⟨RX8, "weight", "(III)J"⟩
abbrev cX8_term : ByteArray := prog_10_method_21_code
def yX8_term : MethodName := ⟨RX8, "term", "(JJI)J"⟩
abbrev cX8_odds : ByteArray := prog_10_method_22_code
def yX8_odds : MethodName := ⟨RX8, "odds", "(IIII)J"⟩
abbrev cX8_sorts : ByteArray := prog_10_method_23_code
def yX8_sorts : MethodName := ⟨RX8, "sorts", "(II)J"⟩
abbrev cX8_blame : ByteArray := prog_10_method_24_code
def yX8_blame : MethodName := ⟨RX8, "blame", "(II)J"⟩
abbrev cX8_guessOf : ByteArray := prog_10_method_25_code
def yX8_guessOf : MethodName := ⟨RX8, "guessOf", "()I"⟩
abbrev cX8_guess : ByteArray := prog_10_method_26_code
def yX8_guess : MethodName := ⟨RX8, "guess", "(I)I"⟩
abbrev cX8_canTest : ByteArray := prog_10_method_27_code
def yX8_canTest : MethodName := ⟨RX8, "canTest", "(I)Z"⟩
abbrev cX8_hopeOf : ByteArray := prog_10_method_28_code
def yX8_hopeOf : MethodName := ⟨RX8, "hopeOf", "(I)J"⟩
abbrev cX8_hope : ByteArray := prog_10_method_29_code
def yX8_hope : MethodName := ⟨RX8, "hope", "(II)J"⟩
abbrev cX8_badness : ByteArray := prog_10_method_30_code
def yX8_badness : MethodName := ⟨RX8, "badness", "(II)J"⟩
abbrev cX8_nextOf : ByteArray := prog_10_method_31_code
def yX8_nextOf : MethodName := ⟨RX8, "nextOf", "(I)I"⟩
abbrev cX8_next : ByteArray := prog_10_method_32_code
def yX8_next : MethodName := ⟨RX8, "next", "(I)I"⟩
abbrev cX8_laySet : ByteArray := prog_10_method_33_code
def yX8_laySet : MethodName := ⟨RX8, "laySet", "(I)V"⟩
abbrev cX8_lay : ByteArray := prog_10_method_34_code
def yX8_lay : MethodName := ⟨RX8, "lay", "()V"⟩
abbrev cX8_isSet : ByteArray := prog_10_method_35_code
def yX8_isSet : MethodName := ⟨RX8, "isSet", "(I)Z"⟩
abbrev cX8_worst : ByteArray := prog_10_method_36_code
def yX8_worst : MethodName := ⟨RX8, "worst", "(II)I"⟩
abbrev cX8_mean : ByteArray := prog_10_method_37_code
def yX8_mean : MethodName := ⟨RX8, "mean", "(II)I"⟩
abbrev cX8_twins : ByteArray := prog_10_method_38_code
def yX8_twins : MethodName := ⟨RX8, "twins", "(I)I"⟩
abbrev cX8_say : ByteArray := prog_10_method_39_code
def yX8_say : MethodName := ⟨RX8, "say", "(I)I"⟩
abbrev cX8_wipe : ByteArray := prog_10_method_40_code
def yX8_wipe : MethodName := ⟨RX8, "wipe", "()I"⟩
abbrev cX8_faultOf : ByteArray := prog_10_method_41_code
def yX8_faultOf : MethodName := ⟨RX8, "faultOf", "()I"⟩
abbrev cX8_fault : ByteArray := prog_10_method_42_code
def yX8_fault : MethodName := ⟨RX8, "fault", "()I"⟩
abbrev cX8_truth : ByteArray := prog_10_method_43_code
def yX8_truth : MethodName := ⟨RX8, "truth", "()I"⟩
abbrev cX8_failsOf : ByteArray := prog_10_method_44_code
def yX8_failsOf : MethodName := ⟨RX8, "failsOf", "(I)Z"⟩
abbrev cX8_isSound : ByteArray := prog_10_method_45_code
def yX8_isSound : MethodName := ⟨RX8, "isSound", "(I)Z"⟩
abbrev cX8_fails : ByteArray := prog_10_method_46_code
def yX8_fails : MethodName := ⟨RX8, "fails", "(II)I"⟩
abbrev cX8_play : ByteArray := prog_10_method_47_code
def yX8_play : MethodName := ⟨RX8, "play", "(I)I"⟩
abbrev cX8_isSure : ByteArray := prog_10_method_48_code
def yX8_isSure : MethodName := ⟨RX8, "isSure", "(I)Z"⟩
abbrev cX8_bits : ByteArray := prog_10_method_49_code
def yX8_bits : MethodName := ⟨RX8, "bits", "(I)I"⟩
abbrev cX8_sizes : ByteArray := prog_10_method_50_code
def yX8_sizes : MethodName := ⟨RX8, "sizes", "(I)I"⟩
abbrev cX8_out : ByteArray := prog_10_method_51_code
def yX8_out : MethodName := ⟨RX8, "out", "(II)I"⟩
abbrev cX8_core : ByteArray := prog_10_method_52_code
def yX8_core : MethodName := ⟨RX8, "core", "(II)I"⟩
abbrev cX8_told : ByteArray := prog_10_method_53_code
def yX8_told : MethodName := ⟨RX8, "told", "(I)I"⟩
def RJ6 : String := "java/lang/Integer"
def TJ6 : u_T := fun k => match k with
  | _ => ("", "", "", false)
def tyJ6 : Nat → FieldType := fun k => match k with
  | _ => .int
theorem nmJ6 : ∀ a, a < 0 → ∀ b, b < 0 → a ≠ b → (TJ6 a).2.1 ≠ (TJ6 b).2.1 := by decide +kernel
theorem tyJ6_ok : ∀ k, k < 0 → parseFieldDescriptor (TJ6 k).2.2.1 = some (tyJ6 k) := by decide +kernel
abbrev cJ6_bitCount_0f7a4 : ByteArray := prog_11_method_49_code
def yJ6_bitCount_0f7a4 : MethodName := ⟨RJ6, "bitCount", "(I)I"⟩
def RJ13 : String := "java/lang/Long"
def TJ13 : u_T := fun k => match k with
  | _ => ("", "", "", false)
def tyJ13 : Nat → FieldType := fun k => match k with
  | _ => .int
theorem nmJ13 : ∀ a, a < 0 → ∀ b, b < 0 → a ≠ b → (TJ13 a).2.1 ≠ (TJ13 b).2.1 := by decide +kernel
theorem tyJ13_ok : ∀ k, k < 0 → parseFieldDescriptor (TJ13 k).2.2.1 = some (tyJ13 k) := by decide +kernel
abbrev cJ13_bitCount_95d88 : ByteArray := prog_12_method_50_code
def yJ13_bitCount_95d88 : MethodName := ⟨RJ13, "bitCount", "(J)I"⟩
def RJ9 : String := "java/lang/Math"
def TJ9 : u_T := fun k => match k with
  | _ => ("", "", "", false)
def tyJ9 : Nat → FieldType := fun k => match k with
  | _ => .int
theorem nmJ9 : ∀ a, a < 0 → ∀ b, b < 0 → a ≠ b → (TJ9 a).2.1 ≠ (TJ9 b).2.1 := by decide +kernel
theorem tyJ9_ok : ∀ k, k < 0 → parseFieldDescriptor (TJ9 k).2.2.1 = some (tyJ9 k) := by decide +kernel
abbrev cJ9_abs_067f4 : ByteArray := prog_13_method_61_code
def yJ9_abs_067f4 : MethodName := ⟨RJ9, "abs", "(J)J"⟩
abbrev cJ9_max_7cf53 : ByteArray := prog_13_method_65_code
def yJ9_max_7cf53 : MethodName := ⟨RJ9, "max", "(II)I"⟩
abbrev cJ9_max_f86c9 : ByteArray := prog_13_method_66_code
def yJ9_max_f86c9 : MethodName := ⟨RJ9, "max", "(JJ)J"⟩
abbrev cJ9_min_7cf53 : ByteArray := prog_13_method_69_code
def yJ9_min_7cf53 : MethodName := ⟨RJ9, "min", "(II)I"⟩
def RJ7 : String := "java/util/Arrays"
def TJ7 : u_T := fun k => match k with
  | _ => ("", "", "", false)
def tyJ7 : Nat → FieldType := fun k => match k with
  | _ => .int
theorem nmJ7 : ∀ a, a < 0 → ∀ b, b < 0 → a ≠ b → (TJ7 a).2.1 ≠ (TJ7 b).2.1 := by decide +kernel
theorem tyJ7_ok : ∀ k, k < 0 → parseFieldDescriptor (TJ7 k).2.2.1 = some (tyJ7 k) := by decide +kernel
abbrev cJ7_fill_53178 : ByteArray := prog_14_method_103_code
def yJ7_fill_53178 : MethodName := ⟨RJ7, "fill", "([II)V"⟩
def RL : String := "BrokeWhereLaw"
abbrev cL_law : ByteArray := code
def yL_law : MethodName := ⟨RL, "law", "([I)Z"⟩
abbrev vwCl : List vw_C := [(RX0, TX0, 4), (RX1, TX1, 7), (RX2, TX2, 3), (RX3, TX3, 4), (RX4, TX4, 10), (RX5, TX5, 3), (RX6, TX6, 3), (RX7, TX7, 8), (RX8, TX8, 28)]
