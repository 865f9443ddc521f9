def TB : List Cond := lw_tbl.filter goodWord
theorem TB_of {w : Cond} (i : Nat) (h : tables_1[i]? = some w) (hg : goodWord w = true) : w ∈ TB := List.mem_filter.mpr ⟨List.mem_append_right _ (List.mem_of_getElem? h), hg⟩
theorem TB_sel {w : Cond} (i : Nat) (h : (k2_sels lw_privs)[i]? = some w) (hg : goodWord w = true) : w ∈ TB := List.mem_filter.mpr ⟨List.mem_append_left _ (List.mem_of_getElem? h), hg⟩
theorem TB_good {w : Cond} (h : w ∈ TB) : (w.onTables && w.keeps) = true ∨ ∃ ty, w = .arrayClass ty := good_of_word (List.mem_filter.mp h).2
theorem TB_in {ws : List Cond} (h : ∀ w ∈ ws, w ∈ TB) : GoodIn TB ws := fun w hw => ⟨h w hw, TB_good (h w hw)⟩
theorem tw_0 : (Cond.initialized "BrokeWhereLaw") ∈ TB := TB_of 0 (by decide +kernel) rfl
theorem tw_1 : (Cond.initialized "BrokeWhere") ∈ TB := TB_of 1 (by decide +kernel) rfl
theorem tw_2 : (Cond.initialized "BrokeWhere$History") ∈ TB := TB_of 2 (by decide +kernel) rfl
theorem tw_3 : (Cond.initialized "BrokeWhere$Log") ∈ TB := TB_of 3 (by decide +kernel) rfl
theorem tw_4 : (Cond.initialized "BrokeWhere$Stories") ∈ TB := TB_of 4 (by decide +kernel) rfl
theorem tw_5 : (Cond.initialized "BrokeWhere$Partings") ∈ TB := TB_of 5 (by decide +kernel) rfl
theorem tw_6 : (Cond.initialized "BrokeWhere$Text") ∈ TB := TB_of 6 (by decide +kernel) rfl
theorem tw_7 : (Cond.initialized "BrokeWhere$Truth") ∈ TB := TB_of 7 (by decide +kernel) rfl
theorem tw_8 : (Cond.initialized "BrokeWhere$Families") ∈ TB := TB_of 8 (by decide +kernel) rfl
theorem tw_9 : (Cond.initialized "BrokeWhereModel") ∈ TB := TB_of 9 (by decide +kernel) rfl
theorem tw_10 : (Cond.initialized "java/lang/Math") ∈ TB := TB_of 10 (by decide +kernel) rfl
theorem tw_11 : (Cond.initialized "java/util/Arrays") ∈ TB := TB_of 11 (by decide +kernel) rfl
theorem tw_12 : (Cond.initialized "java/lang/Integer") ∈ TB := TB_of 12 (by decide +kernel) rfl
theorem tw_13 : (Cond.initialized "java/lang/Long") ∈ TB := TB_of 13 (by decide +kernel) rfl
theorem tw_14 : (Cond.classLink "BrokeWhereLaw" (7 : Nat) "BrokeWhere") ∈ TB := TB_of 14 (by decide +kernel) rfl
theorem tw_15 : (Cond.instantiable "BrokeWhere" (8 : Nat)) ∈ TB := TB_of 15 (by decide +kernel) rfl
theorem tw_16 : (Cond.methodLink "BrokeWhereLaw" (9 : Nat) ({ cls := "BrokeWhere", name := "<init>", desc := "()V" } : MethodName)) ∈ TB := TB_of 16 (by decide +kernel) rfl
theorem tw_17 : (Cond.instanceMethod ({ cls := "BrokeWhere", name := "<init>", desc := "()V" } : MethodName)) ∈ TB := TB_of 17 (by decide +kernel) rfl
theorem tw_18 : (Cond.code ({ cls := "BrokeWhere", name := "<init>", desc := "()V" } : MethodName) prog_1_method_1_code (1 : Nat) (Option.none : Option FieldType)) ∈ TB := TB_of 18 (by decide +kernel) rfl
theorem tw_19 : (Cond.methodLink "BrokeWhere" (3 : Nat) ({ cls := "java/lang/Object", name := "<init>", desc := "()V" } : MethodName)) ∈ TB := TB_of 19 (by decide +kernel) rfl
theorem tw_20 : (Cond.instanceMethod ({ cls := "java/lang/Object", name := "<init>", desc := "()V" } : MethodName)) ∈ TB := TB_of 20 (by decide +kernel) rfl
theorem tw_21 : (Cond.code ({ cls := "java/lang/Object", name := "<init>", desc := "()V" } : MethodName) object_method_1_code (1 : Nat) (Option.none : Option FieldType)) ∈ TB := TB_of 21 (by decide +kernel) rfl
theorem tw_22 : (Cond.classLink "BrokeWhere" (9 : Nat) "BrokeWhere$History") ∈ TB := TB_of 22 (by decide +kernel) rfl
theorem tw_23 : (Cond.instantiable "BrokeWhere$History" (7 : Nat)) ∈ TB := TB_of 23 (by decide +kernel) rfl
theorem tw_25 : (Cond.instanceMethod ({ cls := "BrokeWhere$History", name := "<init>", desc := "()V" } : MethodName)) ∈ TB := TB_of 25 (by decide +kernel) rfl
theorem tw_26 : (Cond.code ({ cls := "BrokeWhere$History", name := "<init>", desc := "()V" } : MethodName) prog_3_method_1_code (1 : Nat) (Option.none : Option FieldType)) ∈ TB := TB_of 26 (by decide +kernel) rfl
theorem tw_27 : (Cond.methodLink "BrokeWhere$History" (3 : Nat) ({ cls := "java/lang/Object", name := "<init>", desc := "()V" } : MethodName)) ∈ TB := TB_of 27 (by decide +kernel) rfl
theorem tw_28 : (Cond.fieldLink "BrokeWhere$History" (30 : Nat) "BrokeWhere$History" "count" "I") ∈ TB := TB_of 28 (by decide +kernel) rfl
theorem tw_29 : (Cond.fieldLink "BrokeWhere$Families" (28 : Nat) "BrokeWhere$History" "count" "I") ∈ TB := TB_of 29 (by decide +kernel) rfl
theorem tw_30 : (Cond.fieldLink "BrokeWhere" (75 : Nat) "BrokeWhere$History" "count" "I") ∈ TB := TB_of 30 (by decide +kernel) rfl
theorem tw_31 : (Cond.fieldLink "BrokeWhere$Partings" (30 : Nat) "BrokeWhere$History" "count" "I") ∈ TB := TB_of 31 (by decide +kernel) rfl
theorem tw_32 : (Cond.fieldLink "BrokeWhere$Stories" (77 : Nat) "BrokeWhere$History" "count" "I") ∈ TB := TB_of 32 (by decide +kernel) rfl
theorem tw_33 : (Cond.fieldLink "BrokeWhere$History" (9 : Nat) "BrokeWhere$History" "holds" "[I") ∈ TB := TB_of 33 (by decide +kernel) rfl
theorem tw_34 : (Cond.fieldLink "BrokeWhere" (90 : Nat) "BrokeWhere$History" "holds" "[I") ∈ TB := TB_of 34 (by decide +kernel) rfl
theorem tw_35 : (Cond.fieldLink "BrokeWhere$Partings" (53 : Nat) "BrokeWhere$History" "holds" "[I") ∈ TB := TB_of 35 (by decide +kernel) rfl
theorem tw_36 : (Cond.fieldLink "BrokeWhere$History" (15 : Nat) "BrokeWhere$History" "carriers" "[I") ∈ TB := TB_of 36 (by decide +kernel) rfl
theorem tw_37 : (Cond.fieldLink "BrokeWhere$Stories" (33 : Nat) "BrokeWhere$History" "carriers" "[I") ∈ TB := TB_of 37 (by decide +kernel) rfl
theorem tw_38 : (Cond.fieldLink "BrokeWhere$History" (18 : Nat) "BrokeWhere$History" "size" "[I") ∈ TB := TB_of 38 (by decide +kernel) rfl
theorem tw_39 : (Cond.fieldLink "BrokeWhere$Stories" (38 : Nat) "BrokeWhere$History" "size" "[I") ∈ TB := TB_of 39 (by decide +kernel) rfl
theorem tw_40 : (Cond.fieldLink "BrokeWhere$History" (21 : Nat) "BrokeWhere$History" "cost" "[I") ∈ TB := TB_of 40 (by decide +kernel) rfl
theorem tw_41 : (Cond.fieldLink "BrokeWhere$Partings" (72 : Nat) "BrokeWhere$History" "cost" "[I") ∈ TB := TB_of 41 (by decide +kernel) rfl
theorem tw_42 : (Cond.fieldLink "BrokeWhere$Stories" (126 : Nat) "BrokeWhere$History" "cost" "[I") ∈ TB := TB_of 42 (by decide +kernel) rfl
theorem tw_43 : (Cond.fieldLink "BrokeWhere$History" (24 : Nat) "BrokeWhere$History" "needs" "[I") ∈ TB := TB_of 43 (by decide +kernel) rfl
theorem tw_44 : (Cond.fieldLink "BrokeWhere$Families" (34 : Nat) "BrokeWhere$History" "needs" "[I") ∈ TB := TB_of 44 (by decide +kernel) rfl
theorem tw_45 : (Cond.fieldLink "BrokeWhere$History" (27 : Nat) "BrokeWhere$History" "deaf" "[I") ∈ TB := TB_of 45 (by decide +kernel) rfl
theorem tw_46 : (Cond.lays "BrokeWhere$History" "BrokeWhere$History" "count" "I") ∈ TB := TB_of 46 (by decide +kernel) rfl
theorem tw_48 : (Cond.laysFinal "BrokeWhere$History" "BrokeWhere$History" "holds" "[I") ∈ TB := TB_of 48 (by decide +kernel) rfl
theorem tw_50 : (Cond.laysFinal "BrokeWhere$History" "BrokeWhere$History" "carriers" "[I") ∈ TB := TB_of 50 (by decide +kernel) rfl
theorem tw_52 : (Cond.laysFinal "BrokeWhere$History" "BrokeWhere$History" "size" "[I") ∈ TB := TB_of 52 (by decide +kernel) rfl
theorem tw_54 : (Cond.laysFinal "BrokeWhere$History" "BrokeWhere$History" "cost" "[I") ∈ TB := TB_of 54 (by decide +kernel) rfl
theorem tw_56 : (Cond.laysFinal "BrokeWhere$History" "BrokeWhere$History" "needs" "[I") ∈ TB := TB_of 56 (by decide +kernel) rfl
theorem tw_58 : (Cond.laysFinal "BrokeWhere$History" "BrokeWhere$History" "deaf" "[I") ∈ TB := TB_of 58 (by decide +kernel) rfl
theorem tw_61 : (Cond.arrayClass FieldType.int) ∈ TB := TB_of 61 (by decide +kernel) rfl
theorem tw_62 : (Cond.classLink "BrokeWhere" (16 : Nat) "BrokeWhere$Log") ∈ TB := TB_of 62 (by decide +kernel) rfl
theorem tw_63 : (Cond.instantiable "BrokeWhere$Log" (3 : Nat)) ∈ TB := TB_of 63 (by decide +kernel) rfl
theorem tw_65 : (Cond.instanceMethod ({ cls := "BrokeWhere$Log", name := "<init>", desc := "()V" } : MethodName)) ∈ TB := TB_of 65 (by decide +kernel) rfl
theorem tw_66 : (Cond.code ({ cls := "BrokeWhere$Log", name := "<init>", desc := "()V" } : MethodName) prog_4_method_1_code (1 : Nat) (Option.none : Option FieldType)) ∈ TB := TB_of 66 (by decide +kernel) rfl
theorem tw_67 : (Cond.methodLink "BrokeWhere$Log" (3 : Nat) ({ cls := "java/lang/Object", name := "<init>", desc := "()V" } : MethodName)) ∈ TB := TB_of 67 (by decide +kernel) rfl
theorem tw_68 : (Cond.fieldLink "BrokeWhere$Log" (19 : Nat) "BrokeWhere$Log" "count" "I") ∈ TB := TB_of 68 (by decide +kernel) rfl
theorem tw_69 : (Cond.fieldLink "BrokeWhere$Stories" (45 : Nat) "BrokeWhere$Log" "count" "I") ∈ TB := TB_of 69 (by decide +kernel) rfl
theorem tw_70 : (Cond.fieldLink "BrokeWhere" (117 : Nat) "BrokeWhere$Log" "count" "I") ∈ TB := TB_of 70 (by decide +kernel) rfl
theorem tw_71 : (Cond.fieldLink "BrokeWhere$Log" (9 : Nat) "BrokeWhere$Log" "version" "[I") ∈ TB := TB_of 71 (by decide +kernel) rfl
theorem tw_72 : (Cond.fieldLink "BrokeWhere$Stories" (51 : Nat) "BrokeWhere$Log" "version" "[I") ∈ TB := TB_of 72 (by decide +kernel) rfl
theorem tw_73 : (Cond.fieldLink "BrokeWhere" (118 : Nat) "BrokeWhere$Log" "version" "[I") ∈ TB := TB_of 73 (by decide +kernel) rfl
theorem tw_74 : (Cond.fieldLink "BrokeWhere$Log" (15 : Nat) "BrokeWhere$Log" "passed" "[Z") ∈ TB := TB_of 74 (by decide +kernel) rfl
theorem tw_75 : (Cond.fieldLink "BrokeWhere$Stories" (58 : Nat) "BrokeWhere$Log" "passed" "[Z") ∈ TB := TB_of 75 (by decide +kernel) rfl
theorem tw_76 : (Cond.fieldLink "BrokeWhere" (121 : Nat) "BrokeWhere$Log" "passed" "[Z") ∈ TB := TB_of 76 (by decide +kernel) rfl
theorem tw_77 : (Cond.lays "BrokeWhere$Log" "BrokeWhere$Log" "count" "I") ∈ TB := TB_of 77 (by decide +kernel) rfl
theorem tw_79 : (Cond.laysFinal "BrokeWhere$Log" "BrokeWhere$Log" "version" "[I") ∈ TB := TB_of 79 (by decide +kernel) rfl
theorem tw_81 : (Cond.laysFinal "BrokeWhere$Log" "BrokeWhere$Log" "passed" "[Z") ∈ TB := TB_of 81 (by decide +kernel) rfl
theorem tw_84 : (Cond.arrayClass FieldType.boolean) ∈ TB := TB_of 84 (by decide +kernel) rfl
theorem tw_85 : (Cond.classLink "BrokeWhere" (23 : Nat) "BrokeWhere$Stories") ∈ TB := TB_of 85 (by decide +kernel) rfl
theorem tw_86 : (Cond.instantiable "BrokeWhere$Stories" (10 : Nat)) ∈ TB := TB_of 86 (by decide +kernel) rfl
theorem tw_87 : (Cond.methodLink "BrokeWhere" (25 : Nat) ({ cls := "BrokeWhere$Stories", name := "<init>", desc := "(LBrokeWhere$History;LBrokeWhere$Log;)V" } : MethodName)) ∈ TB := TB_of 87 (by decide +kernel) rfl
theorem tw_88 : (Cond.instanceMethod ({ cls := "BrokeWhere$Stories", name := "<init>", desc := "(LBrokeWhere$History;LBrokeWhere$Log;)V" } : MethodName)) ∈ TB := TB_of 88 (by decide +kernel) rfl
theorem tw_89 : (Cond.code ({ cls := "BrokeWhere$Stories", name := "<init>", desc := "(LBrokeWhere$History;LBrokeWhere$Log;)V" } : MethodName) prog_6_method_1_code (3 : Nat) (Option.none : Option FieldType)) ∈ TB := TB_of 89 (by decide +kernel) rfl
theorem tw_90 : (Cond.methodLink "BrokeWhere$Stories" (3 : Nat) ({ cls := "java/lang/Object", name := "<init>", desc := "()V" } : MethodName)) ∈ TB := TB_of 90 (by decide +kernel) rfl
theorem tw_91 : (Cond.fieldLink "BrokeWhere$Stories" (25 : Nat) "BrokeWhere$Stories" "history" "LBrokeWhere$History;") ∈ TB := TB_of 91 (by decide +kernel) rfl
theorem tw_92 : (Cond.fieldLink "BrokeWhere$Stories" (29 : Nat) "BrokeWhere$Stories" "log" "LBrokeWhere$Log;") ∈ TB := TB_of 92 (by decide +kernel) rfl
theorem tw_93 : (Cond.fieldLink "BrokeWhere$Stories" (9 : Nat) "BrokeWhere$Stories" "trusts" "[I") ∈ TB := TB_of 93 (by decide +kernel) rfl
theorem tw_94 : (Cond.fieldLink "BrokeWhere" (108 : Nat) "BrokeWhere$Stories" "trusts" "[I") ∈ TB := TB_of 94 (by decide +kernel) rfl
theorem tw_95 : (Cond.fieldLink "BrokeWhere$Stories" (66 : Nat) "BrokeWhere$Stories" "count" "I") ∈ TB := TB_of 95 (by decide +kernel) rfl
theorem tw_96 : (Cond.fieldLink "BrokeWhere$Stories" (15 : Nat) "BrokeWhere$Stories" "places" "[I") ∈ TB := TB_of 96 (by decide +kernel) rfl
theorem tw_97 : (Cond.fieldLink "BrokeWhere$Stories" (18 : Nat) "BrokeWhere$Stories" "weights" "[J") ∈ TB := TB_of 97 (by decide +kernel) rfl
theorem tw_98 : (Cond.fieldLink "BrokeWhere$Stories" (22 : Nat) "BrokeWhere$Stories" "failing" "[I") ∈ TB := TB_of 98 (by decide +kernel) rfl
theorem tw_99 : (Cond.fieldLink "BrokeWhere$Stories" (67 : Nat) "BrokeWhere$Stories" "all" "J") ∈ TB := TB_of 99 (by decide +kernel) rfl
theorem tw_100 : (Cond.fieldLink "BrokeWhere" (143 : Nat) "BrokeWhere$Stories" "all" "J") ∈ TB := TB_of 100 (by decide +kernel) rfl
theorem tw_101 : (Cond.fieldLink "BrokeWhere$Stories" (71 : Nat) "BrokeWhere$Stories" "heaviest" "I") ∈ TB := TB_of 101 (by decide +kernel) rfl
theorem tw_102 : (Cond.fieldLink "BrokeWhere" (160 : Nat) "BrokeWhere$Stories" "heaviest" "I") ∈ TB := TB_of 102 (by decide +kernel) rfl
theorem tw_103 : (Cond.fieldLink "BrokeWhere$Stories" (74 : Nat) "BrokeWhere$Stories" "most" "J") ∈ TB := TB_of 103 (by decide +kernel) rfl
theorem tw_104 : (Cond.laysFinal "BrokeWhere$Stories" "BrokeWhere$Stories" "history" "LBrokeWhere$History;") ∈ TB := TB_of 104 (by decide +kernel) rfl
theorem tw_106 : (Cond.laysFinal "BrokeWhere$Stories" "BrokeWhere$Stories" "log" "LBrokeWhere$Log;") ∈ TB := TB_of 106 (by decide +kernel) rfl
theorem tw_108 : (Cond.laysFinal "BrokeWhere$Stories" "BrokeWhere$Stories" "trusts" "[I") ∈ TB := TB_of 108 (by decide +kernel) rfl
theorem tw_110 : (Cond.lays "BrokeWhere$Stories" "BrokeWhere$Stories" "count" "I") ∈ TB := TB_of 110 (by decide +kernel) rfl
theorem tw_112 : (Cond.laysFinal "BrokeWhere$Stories" "BrokeWhere$Stories" "places" "[I") ∈ TB := TB_of 112 (by decide +kernel) rfl
theorem tw_114 : (Cond.laysFinal "BrokeWhere$Stories" "BrokeWhere$Stories" "weights" "[J") ∈ TB := TB_of 114 (by decide +kernel) rfl
theorem tw_116 : (Cond.laysFinal "BrokeWhere$Stories" "BrokeWhere$Stories" "failing" "[I") ∈ TB := TB_of 116 (by decide +kernel) rfl
theorem tw_118 : (Cond.lays "BrokeWhere$Stories" "BrokeWhere$Stories" "all" "J") ∈ TB := TB_of 118 (by decide +kernel) rfl
theorem tw_120 : (Cond.lays "BrokeWhere$Stories" "BrokeWhere$Stories" "heaviest" "I") ∈ TB := TB_of 120 (by decide +kernel) rfl
theorem tw_122 : (Cond.lays "BrokeWhere$Stories" "BrokeWhere$Stories" "most" "J") ∈ TB := TB_of 122 (by decide +kernel) rfl
theorem tw_125 : (Cond.arrayClass FieldType.long) ∈ TB := TB_of 125 (by decide +kernel) rfl
theorem tw_126 : (Cond.classLink "BrokeWhere" (32 : Nat) "BrokeWhere$Partings") ∈ TB := TB_of 126 (by decide +kernel) rfl
theorem tw_127 : (Cond.instantiable "BrokeWhere$Partings" (4 : Nat)) ∈ TB := TB_of 127 (by decide +kernel) rfl
theorem tw_128 : (Cond.methodLink "BrokeWhere" (34 : Nat) ({ cls := "BrokeWhere$Partings", name := "<init>", desc := "(LBrokeWhere$History;Z)V" } : MethodName)) ∈ TB := TB_of 128 (by decide +kernel) rfl
theorem tw_129 : (Cond.instanceMethod ({ cls := "BrokeWhere$Partings", name := "<init>", desc := "(LBrokeWhere$History;Z)V" } : MethodName)) ∈ TB := TB_of 129 (by decide +kernel) rfl
theorem tw_130 : (Cond.code ({ cls := "BrokeWhere$Partings", name := "<init>", desc := "(LBrokeWhere$History;Z)V" } : MethodName) prog_5_method_1_code (3 : Nat) (Option.none : Option FieldType)) ∈ TB := TB_of 130 (by decide +kernel) rfl
theorem tw_131 : (Cond.methodLink "BrokeWhere$Partings" (3 : Nat) ({ cls := "java/lang/Object", name := "<init>", desc := "()V" } : MethodName)) ∈ TB := TB_of 131 (by decide +kernel) rfl
theorem tw_132 : (Cond.fieldLink "BrokeWhere$Partings" (15 : Nat) "BrokeWhere$Partings" "history" "LBrokeWhere$History;") ∈ TB := TB_of 132 (by decide +kernel) rfl
theorem tw_133 : (Cond.fieldLink "BrokeWhere$Partings" (19 : Nat) "BrokeWhere$Partings" "byCost" "Z") ∈ TB := TB_of 133 (by decide +kernel) rfl
theorem tw_134 : (Cond.fieldLink "BrokeWhere$Partings" (9 : Nat) "BrokeWhere$Partings" "known" "[I") ∈ TB := TB_of 134 (by decide +kernel) rfl
theorem tw_135 : (Cond.fieldLink "BrokeWhere$Partings" (44 : Nat) "BrokeWhere$Partings" "stale" "Z") ∈ TB := TB_of 135 (by decide +kernel) rfl
theorem tw_136 : (Cond.fieldLink "BrokeWhere" (238 : Nat) "BrokeWhere$Partings" "stale" "Z") ∈ TB := TB_of 136 (by decide +kernel) rfl
theorem tw_137 : (Cond.laysFinal "BrokeWhere$Partings" "BrokeWhere$Partings" "history" "LBrokeWhere$History;") ∈ TB := TB_of 137 (by decide +kernel) rfl
theorem tw_139 : (Cond.laysFinal "BrokeWhere$Partings" "BrokeWhere$Partings" "byCost" "Z") ∈ TB := TB_of 139 (by decide +kernel) rfl
theorem tw_141 : (Cond.laysFinal "BrokeWhere$Partings" "BrokeWhere$Partings" "known" "[I") ∈ TB := TB_of 141 (by decide +kernel) rfl
theorem tw_143 : (Cond.lays "BrokeWhere$Partings" "BrokeWhere$Partings" "stale" "Z") ∈ TB := TB_of 143 (by decide +kernel) rfl
theorem tw_146 : (Cond.classLink "BrokeWhere" (44 : Nat) "BrokeWhere$Text") ∈ TB := TB_of 146 (by decide +kernel) rfl
theorem tw_147 : (Cond.instantiable "BrokeWhere$Text" (3 : Nat)) ∈ TB := TB_of 147 (by decide +kernel) rfl
theorem tw_149 : (Cond.instanceMethod ({ cls := "BrokeWhere$Text", name := "<init>", desc := "()V" } : MethodName)) ∈ TB := TB_of 149 (by decide +kernel) rfl
theorem tw_150 : (Cond.code ({ cls := "BrokeWhere$Text", name := "<init>", desc := "()V" } : MethodName) prog_7_method_1_code (1 : Nat) (Option.none : Option FieldType)) ∈ TB := TB_of 150 (by decide +kernel) rfl
theorem tw_151 : (Cond.methodLink "BrokeWhere$Text" (3 : Nat) ({ cls := "java/lang/Object", name := "<init>", desc := "()V" } : MethodName)) ∈ TB := TB_of 151 (by decide +kernel) rfl
theorem tw_152 : (Cond.fieldLink "BrokeWhere$Text" (18 : Nat) "BrokeWhere$Text" "length" "I") ∈ TB := TB_of 152 (by decide +kernel) rfl
theorem tw_153 : (Cond.fieldLink "BrokeWhere$Truth" (18 : Nat) "BrokeWhere$Text" "length" "I") ∈ TB := TB_of 153 (by decide +kernel) rfl
theorem tw_154 : (Cond.fieldLink "BrokeWhere" (190 : Nat) "BrokeWhere$Text" "length" "I") ∈ TB := TB_of 154 (by decide +kernel) rfl
theorem tw_155 : (Cond.fieldLink "BrokeWhere$Text" (9 : Nat) "BrokeWhere$Text" "signs" "[I") ∈ TB := TB_of 155 (by decide +kernel) rfl
theorem tw_156 : (Cond.fieldLink "BrokeWhere$Truth" (29 : Nat) "BrokeWhere$Text" "signs" "[I") ∈ TB := TB_of 156 (by decide +kernel) rfl
theorem tw_157 : (Cond.fieldLink "BrokeWhere$Text" (15 : Nat) "BrokeWhere$Text" "due" "[I") ∈ TB := TB_of 157 (by decide +kernel) rfl
theorem tw_158 : (Cond.lays "BrokeWhere$Text" "BrokeWhere$Text" "length" "I") ∈ TB := TB_of 158 (by decide +kernel) rfl
theorem tw_160 : (Cond.laysFinal "BrokeWhere$Text" "BrokeWhere$Text" "signs" "[I") ∈ TB := TB_of 160 (by decide +kernel) rfl
theorem tw_162 : (Cond.laysFinal "BrokeWhere$Text" "BrokeWhere$Text" "due" "[I") ∈ TB := TB_of 162 (by decide +kernel) rfl
theorem tw_165 : (Cond.classLink "BrokeWhere" (51 : Nat) "BrokeWhere$Truth") ∈ TB := TB_of 165 (by decide +kernel) rfl
theorem tw_166 : (Cond.instantiable "BrokeWhere$Truth" (3 : Nat)) ∈ TB := TB_of 166 (by decide +kernel) rfl
theorem tw_168 : (Cond.instanceMethod ({ cls := "BrokeWhere$Truth", name := "<init>", desc := "()V" } : MethodName)) ∈ TB := TB_of 168 (by decide +kernel) rfl
theorem tw_169 : (Cond.code ({ cls := "BrokeWhere$Truth", name := "<init>", desc := "()V" } : MethodName) prog_8_method_1_code (1 : Nat) (Option.none : Option FieldType)) ∈ TB := TB_of 169 (by decide +kernel) rfl
theorem tw_170 : (Cond.methodLink "BrokeWhere$Truth" (3 : Nat) ({ cls := "java/lang/Object", name := "<init>", desc := "()V" } : MethodName)) ∈ TB := TB_of 170 (by decide +kernel) rfl
theorem tw_171 : (Cond.fieldLink "BrokeWhere$Truth" (24 : Nat) "BrokeWhere$Truth" "length" "I") ∈ TB := TB_of 171 (by decide +kernel) rfl
theorem tw_172 : (Cond.fieldLink "BrokeWhere" (201 : Nat) "BrokeWhere$Truth" "length" "I") ∈ TB := TB_of 172 (by decide +kernel) rfl
theorem tw_173 : (Cond.fieldLink "BrokeWhere$Truth" (9 : Nat) "BrokeWhere$Truth" "failing" "[J") ∈ TB := TB_of 173 (by decide +kernel) rfl
theorem tw_174 : (Cond.fieldLink "BrokeWhere$Families" (53 : Nat) "BrokeWhere$Truth" "failing" "[J") ∈ TB := TB_of 174 (by decide +kernel) rfl
theorem tw_175 : (Cond.fieldLink "BrokeWhere" (205 : Nat) "BrokeWhere$Truth" "failing" "[J") ∈ TB := TB_of 175 (by decide +kernel) rfl
theorem tw_176 : (Cond.fieldLink "BrokeWhere$Truth" (15 : Nat) "BrokeWhere$Truth" "values" "[J") ∈ TB := TB_of 176 (by decide +kernel) rfl
theorem tw_177 : (Cond.lays "BrokeWhere$Truth" "BrokeWhere$Truth" "length" "I") ∈ TB := TB_of 177 (by decide +kernel) rfl
theorem tw_179 : (Cond.laysFinal "BrokeWhere$Truth" "BrokeWhere$Truth" "failing" "[J") ∈ TB := TB_of 179 (by decide +kernel) rfl
theorem tw_181 : (Cond.laysFinal "BrokeWhere$Truth" "BrokeWhere$Truth" "values" "[J") ∈ TB := TB_of 181 (by decide +kernel) rfl
theorem tw_184 : (Cond.classLink "BrokeWhere" (58 : Nat) "BrokeWhere$Families") ∈ TB := TB_of 184 (by decide +kernel) rfl
theorem tw_185 : (Cond.instantiable "BrokeWhere$Families" (4 : Nat)) ∈ TB := TB_of 185 (by decide +kernel) rfl
theorem tw_186 : (Cond.methodLink "BrokeWhere" (60 : Nat) ({ cls := "BrokeWhere$Families", name := "<init>", desc := "(LBrokeWhere$History;LBrokeWhere$Truth;)V" } : MethodName)) ∈ TB := TB_of 186 (by decide +kernel) rfl
theorem tw_187 : (Cond.instanceMethod ({ cls := "BrokeWhere$Families", name := "<init>", desc := "(LBrokeWhere$History;LBrokeWhere$Truth;)V" } : MethodName)) ∈ TB := TB_of 187 (by decide +kernel) rfl
theorem tw_188 : (Cond.code ({ cls := "BrokeWhere$Families", name := "<init>", desc := "(LBrokeWhere$History;LBrokeWhere$Truth;)V" } : MethodName) prog_2_method_1_code (3 : Nat) (Option.none : Option FieldType)) ∈ TB := TB_of 188 (by decide +kernel) rfl
theorem tw_189 : (Cond.methodLink "BrokeWhere$Families" (3 : Nat) ({ cls := "java/lang/Object", name := "<init>", desc := "()V" } : MethodName)) ∈ TB := TB_of 189 (by decide +kernel) rfl
theorem tw_190 : (Cond.fieldLink "BrokeWhere$Families" (18 : Nat) "BrokeWhere$Families" "history" "LBrokeWhere$History;") ∈ TB := TB_of 190 (by decide +kernel) rfl
theorem tw_191 : (Cond.fieldLink "BrokeWhere$Families" (22 : Nat) "BrokeWhere$Families" "truth" "LBrokeWhere$Truth;") ∈ TB := TB_of 191 (by decide +kernel) rfl
theorem tw_192 : (Cond.fieldLink "BrokeWhere$Families" (9 : Nat) "BrokeWhere$Families" "found" "[J") ∈ TB := TB_of 192 (by decide +kernel) rfl
theorem tw_193 : (Cond.fieldLink "BrokeWhere$Families" (15 : Nat) "BrokeWhere$Families" "holding" "[J") ∈ TB := TB_of 193 (by decide +kernel) rfl
theorem tw_194 : (Cond.laysFinal "BrokeWhere$Families" "BrokeWhere$Families" "history" "LBrokeWhere$History;") ∈ TB := TB_of 194 (by decide +kernel) rfl
theorem tw_196 : (Cond.laysFinal "BrokeWhere$Families" "BrokeWhere$Families" "truth" "LBrokeWhere$Truth;") ∈ TB := TB_of 196 (by decide +kernel) rfl
theorem tw_198 : (Cond.laysFinal "BrokeWhere$Families" "BrokeWhere$Families" "found" "[J") ∈ TB := TB_of 198 (by decide +kernel) rfl
theorem tw_200 : (Cond.laysFinal "BrokeWhere$Families" "BrokeWhere$Families" "holding" "[J") ∈ TB := TB_of 200 (by decide +kernel) rfl
theorem tw_203 : (Cond.fieldLink "BrokeWhere" (12 : Nat) "BrokeWhere" "history" "LBrokeWhere$History;") ∈ TB := TB_of 203 (by decide +kernel) rfl
theorem tw_204 : (Cond.fieldLink "BrokeWhere" (19 : Nat) "BrokeWhere" "log" "LBrokeWhere$Log;") ∈ TB := TB_of 204 (by decide +kernel) rfl
theorem tw_205 : (Cond.fieldLink "BrokeWhere" (28 : Nat) "BrokeWhere" "stories" "LBrokeWhere$Stories;") ∈ TB := TB_of 205 (by decide +kernel) rfl
theorem tw_206 : (Cond.fieldLink "BrokeWhere" (37 : Nat) "BrokeWhere" "fewest" "LBrokeWhere$Partings;") ∈ TB := TB_of 206 (by decide +kernel) rfl
theorem tw_207 : (Cond.fieldLink "BrokeWhere" (41 : Nat) "BrokeWhere" "cheapest" "LBrokeWhere$Partings;") ∈ TB := TB_of 207 (by decide +kernel) rfl
theorem tw_208 : (Cond.fieldLink "BrokeWhere" (47 : Nat) "BrokeWhere" "signs" "LBrokeWhere$Text;") ∈ TB := TB_of 208 (by decide +kernel) rfl
theorem tw_209 : (Cond.fieldLink "BrokeWhere" (54 : Nat) "BrokeWhere" "verdict" "LBrokeWhere$Truth;") ∈ TB := TB_of 209 (by decide +kernel) rfl
theorem tw_210 : (Cond.fieldLink "BrokeWhere" (63 : Nat) "BrokeWhere" "families" "LBrokeWhere$Families;") ∈ TB := TB_of 210 (by decide +kernel) rfl
theorem tw_211 : (Cond.laysFinal "BrokeWhere" "BrokeWhere" "history" "LBrokeWhere$History;") ∈ TB := TB_of 211 (by decide +kernel) rfl
theorem tw_213 : (Cond.laysFinal "BrokeWhere" "BrokeWhere" "log" "LBrokeWhere$Log;") ∈ TB := TB_of 213 (by decide +kernel) rfl
theorem tw_215 : (Cond.laysFinal "BrokeWhere" "BrokeWhere" "stories" "LBrokeWhere$Stories;") ∈ TB := TB_of 215 (by decide +kernel) rfl
theorem tw_217 : (Cond.laysFinal "BrokeWhere" "BrokeWhere" "fewest" "LBrokeWhere$Partings;") ∈ TB := TB_of 217 (by decide +kernel) rfl
theorem tw_219 : (Cond.laysFinal "BrokeWhere" "BrokeWhere" "cheapest" "LBrokeWhere$Partings;") ∈ TB := TB_of 219 (by decide +kernel) rfl
theorem tw_221 : (Cond.laysFinal "BrokeWhere" "BrokeWhere" "signs" "LBrokeWhere$Text;") ∈ TB := TB_of 221 (by decide +kernel) rfl
theorem tw_223 : (Cond.laysFinal "BrokeWhere" "BrokeWhere" "verdict" "LBrokeWhere$Truth;") ∈ TB := TB_of 223 (by decide +kernel) rfl
theorem tw_225 : (Cond.laysFinal "BrokeWhere" "BrokeWhere" "families" "LBrokeWhere$Families;") ∈ TB := TB_of 225 (by decide +kernel) rfl
theorem tw_228 : (Cond.methodLink "BrokeWhereLaw" (13 : Nat) ({ cls := "BrokeWhere", name := "version", desc := "(III)I" } : MethodName)) ∈ TB := TB_of 228 (by decide +kernel) rfl
theorem tw_229 : (Cond.instanceMethod ({ cls := "BrokeWhere", name := "version", desc := "(III)I" } : MethodName)) ∈ TB := TB_of 229 (by decide +kernel) rfl
theorem tw_230 : (Cond.selects "BrokeWhere" ({ cls := "BrokeWhere", name := "version", desc := "(III)I" } : MethodName) ({ cls := "BrokeWhere", name := "version", desc := "(III)I" } : MethodName)) ∈ TB := TB_of 230 (by decide +kernel) rfl
theorem tw_231 : (Cond.code ({ cls := "BrokeWhere", name := "version", desc := "(III)I" } : MethodName) prog_1_method_2_code (4 : Nat) (Option.some FieldType.int)) ∈ TB := TB_of 231 (by decide +kernel) rfl
theorem tw_232 : (Cond.methodLink "BrokeWhere" (67 : Nat) ({ cls := "BrokeWhere$History", name := "mayStandOn", desc := "(II)Z" } : MethodName)) ∈ TB := TB_of 232 (by decide +kernel) rfl
theorem tw_233 : (Cond.instanceMethod ({ cls := "BrokeWhere$History", name := "mayStandOn", desc := "(II)Z" } : MethodName)) ∈ TB := TB_of 233 (by decide +kernel) rfl
theorem tw_234 : (Cond.selects "BrokeWhere$History" ({ cls := "BrokeWhere$History", name := "mayStandOn", desc := "(II)Z" } : MethodName) ({ cls := "BrokeWhere$History", name := "mayStandOn", desc := "(II)Z" } : MethodName)) ∈ TB := TB_of 234 (by decide +kernel) rfl
theorem tw_235 : (Cond.code ({ cls := "BrokeWhere$History", name := "mayStandOn", desc := "(II)Z" } : MethodName) prog_3_method_4_code (3 : Nat) (Option.some FieldType.boolean)) ∈ TB := TB_of 235 (by decide +kernel) rfl
theorem tw_236 : (Cond.methodLink "BrokeWhere$History" (34 : Nat) ({ cls := "BrokeWhere$History", name := "knows", desc := "(I)Z" } : MethodName)) ∈ TB := TB_of 236 (by decide +kernel) rfl
theorem tw_237 : (Cond.instanceMethod ({ cls := "BrokeWhere$History", name := "knows", desc := "(I)Z" } : MethodName)) ∈ TB := TB_of 237 (by decide +kernel) rfl
theorem tw_238 : (Cond.selects "BrokeWhere$History" ({ cls := "BrokeWhere$History", name := "knows", desc := "(I)Z" } : MethodName) ({ cls := "BrokeWhere$History", name := "knows", desc := "(I)Z" } : MethodName)) ∈ TB := TB_of 238 (by decide +kernel) rfl
theorem tw_239 : (Cond.code ({ cls := "BrokeWhere$History", name := "knows", desc := "(I)Z" } : MethodName) prog_3_method_2_code (2 : Nat) (Option.some FieldType.boolean)) ∈ TB := TB_of 239 (by decide +kernel) rfl
theorem tw_240 : (Cond.methodLink "BrokeWhere" (71 : Nat) ({ cls := "BrokeWhere", name := "isFrom", desc := "(III)Z" } : MethodName)) ∈ TB := TB_of 240 (by decide +kernel) rfl
theorem tw_241 : (Cond.static ({ cls := "BrokeWhere", name := "isFrom", desc := "(III)Z" } : MethodName)) ∈ TB := TB_of 241 (by decide +kernel) rfl
theorem tw_242 : (Cond.code ({ cls := "BrokeWhere", name := "isFrom", desc := "(III)Z" } : MethodName) prog_1_method_31_code (3 : Nat) (Option.some FieldType.boolean)) ∈ TB := TB_of 242 (by decide +kernel) rfl
theorem tw_243 : (Cond.methodLink "BrokeWhere" (79 : Nat) ({ cls := "BrokeWhere", name := "forgetPartings", desc := "()V" } : MethodName)) ∈ TB := TB_of 243 (by decide +kernel) rfl
theorem tw_245 : (Cond.instanceMethod ({ cls := "BrokeWhere", name := "forgetPartings", desc := "()V" } : MethodName)) ∈ TB := TB_of 245 (by decide +kernel) rfl
theorem tw_246 : (Cond.code ({ cls := "BrokeWhere", name := "forgetPartings", desc := "()V" } : MethodName) prog_1_method_28_code (1 : Nat) (Option.none : Option FieldType)) ∈ TB := TB_of 246 (by decide +kernel) rfl
theorem tw_247 : (Cond.methodLink "BrokeWhere" (82 : Nat) ({ cls := "BrokeWhere$History", name := "add", desc := "(III)I" } : MethodName)) ∈ TB := TB_of 247 (by decide +kernel) rfl
theorem tw_248 : (Cond.instanceMethod ({ cls := "BrokeWhere$History", name := "add", desc := "(III)I" } : MethodName)) ∈ TB := TB_of 248 (by decide +kernel) rfl
theorem tw_249 : (Cond.selects "BrokeWhere$History" ({ cls := "BrokeWhere$History", name := "add", desc := "(III)I" } : MethodName) ({ cls := "BrokeWhere$History", name := "add", desc := "(III)I" } : MethodName)) ∈ TB := TB_of 249 (by decide +kernel) rfl
theorem tw_250 : (Cond.code ({ cls := "BrokeWhere$History", name := "add", desc := "(III)I" } : MethodName) prog_3_method_5_code (7 : Nat) (Option.some FieldType.int)) ∈ TB := TB_of 250 (by decide +kernel) rfl
theorem tw_252 : (Cond.static ({ cls := "BrokeWhere", name := "isBit", desc := "(II)Z" } : MethodName)) ∈ TB := TB_of 252 (by decide +kernel) rfl
theorem tw_253 : (Cond.code ({ cls := "BrokeWhere", name := "isBit", desc := "(II)Z" } : MethodName) prog_1_method_33_code (2 : Nat) (Option.some FieldType.boolean)) ∈ TB := TB_of 253 (by decide +kernel) rfl
theorem tw_254 : (Cond.methodLink "BrokeWhereLaw" (18 : Nat) ({ cls := "BrokeWhere", name := "has", desc := "(I)I" } : MethodName)) ∈ TB := TB_of 254 (by decide +kernel) rfl
theorem tw_255 : (Cond.instanceMethod ({ cls := "BrokeWhere", name := "has", desc := "(I)I" } : MethodName)) ∈ TB := TB_of 255 (by decide +kernel) rfl
theorem tw_256 : (Cond.selects "BrokeWhere" ({ cls := "BrokeWhere", name := "has", desc := "(I)I" } : MethodName) ({ cls := "BrokeWhere", name := "has", desc := "(I)I" } : MethodName)) ∈ TB := TB_of 256 (by decide +kernel) rfl
theorem tw_257 : (Cond.code ({ cls := "BrokeWhere", name := "has", desc := "(I)I" } : MethodName) prog_1_method_3_code (2 : Nat) (Option.some FieldType.int)) ∈ TB := TB_of 257 (by decide +kernel) rfl
theorem tw_258 : (Cond.methodLink "BrokeWhere" (86 : Nat) ({ cls := "BrokeWhere$History", name := "knows", desc := "(I)Z" } : MethodName)) ∈ TB := TB_of 258 (by decide +kernel) rfl
theorem tw_259 : (Cond.methodLink "BrokeWhereLaw" (23 : Nat) ({ cls := "BrokeWhere", name := "set", desc := "(III)I" } : MethodName)) ∈ TB := TB_of 259 (by decide +kernel) rfl
theorem tw_260 : (Cond.instanceMethod ({ cls := "BrokeWhere", name := "set", desc := "(III)I" } : MethodName)) ∈ TB := TB_of 260 (by decide +kernel) rfl
theorem tw_261 : (Cond.selects "BrokeWhere" ({ cls := "BrokeWhere", name := "set", desc := "(III)I" } : MethodName) ({ cls := "BrokeWhere", name := "set", desc := "(III)I" } : MethodName)) ∈ TB := TB_of 261 (by decide +kernel) rfl
theorem tw_262 : (Cond.code ({ cls := "BrokeWhere", name := "set", desc := "(III)I" } : MethodName) prog_1_method_4_code (4 : Nat) (Option.some FieldType.int)) ∈ TB := TB_of 262 (by decide +kernel) rfl
theorem tw_263 : (Cond.methodLink "BrokeWhere" (94 : Nat) ({ cls := "BrokeWhere$History", name := "mayBe", desc := "(III)Z" } : MethodName)) ∈ TB := TB_of 263 (by decide +kernel) rfl
theorem tw_264 : (Cond.instanceMethod ({ cls := "BrokeWhere$History", name := "mayBe", desc := "(III)Z" } : MethodName)) ∈ TB := TB_of 264 (by decide +kernel) rfl
theorem tw_265 : (Cond.selects "BrokeWhere$History" ({ cls := "BrokeWhere$History", name := "mayBe", desc := "(III)Z" } : MethodName) ({ cls := "BrokeWhere$History", name := "mayBe", desc := "(III)Z" } : MethodName)) ∈ TB := TB_of 265 (by decide +kernel) rfl
theorem tw_266 : (Cond.code ({ cls := "BrokeWhere$History", name := "mayBe", desc := "(III)Z" } : MethodName) prog_3_method_6_code (4 : Nat) (Option.some FieldType.boolean)) ∈ TB := TB_of 266 (by decide +kernel) rfl
theorem tw_268 : (Cond.methodLink "BrokeWhere" (97 : Nat) ({ cls := "BrokeWhere$Log", name := "holdsTestOf", desc := "(I)Z" } : MethodName)) ∈ TB := TB_of 268 (by decide +kernel) rfl
theorem tw_269 : (Cond.instanceMethod ({ cls := "BrokeWhere$Log", name := "holdsTestOf", desc := "(I)Z" } : MethodName)) ∈ TB := TB_of 269 (by decide +kernel) rfl
theorem tw_270 : (Cond.selects "BrokeWhere$Log" ({ cls := "BrokeWhere$Log", name := "holdsTestOf", desc := "(I)Z" } : MethodName) ({ cls := "BrokeWhere$Log", name := "holdsTestOf", desc := "(I)Z" } : MethodName)) ∈ TB := TB_of 270 (by decide +kernel) rfl
theorem tw_271 : (Cond.code ({ cls := "BrokeWhere$Log", name := "holdsTestOf", desc := "(I)Z" } : MethodName) prog_4_method_3_code (3 : Nat) (Option.some FieldType.boolean)) ∈ TB := TB_of 271 (by decide +kernel) rfl
theorem tw_272 : (Cond.methodLink "BrokeWhere" (100 : Nat) ({ cls := "BrokeWhere$History", name := "row", desc := "(I)[I" } : MethodName)) ∈ TB := TB_of 272 (by decide +kernel) rfl
theorem tw_273 : (Cond.instanceMethod ({ cls := "BrokeWhere$History", name := "row", desc := "(I)[I" } : MethodName)) ∈ TB := TB_of 273 (by decide +kernel) rfl
theorem tw_274 : (Cond.selects "BrokeWhere$History" ({ cls := "BrokeWhere$History", name := "row", desc := "(I)[I" } : MethodName) ({ cls := "BrokeWhere$History", name := "row", desc := "(I)[I" } : MethodName)) ∈ TB := TB_of 274 (by decide +kernel) rfl
theorem tw_275 : (Cond.code ({ cls := "BrokeWhere$History", name := "row", desc := "(I)[I" } : MethodName) prog_3_method_7_code (2 : Nat) (Option.some (FieldType.array FieldType.int))) ∈ TB := TB_of 275 (by decide +kernel) rfl
theorem tw_276 : (Cond.methodLink "BrokeWhere" (104 : Nat) ({ cls := "BrokeWhere", name := "swap", desc := "([III)I" } : MethodName)) ∈ TB := TB_of 276 (by decide +kernel) rfl
theorem tw_277 : (Cond.static ({ cls := "BrokeWhere", name := "swap", desc := "([III)I" } : MethodName)) ∈ TB := TB_of 277 (by decide +kernel) rfl
theorem tw_278 : (Cond.code ({ cls := "BrokeWhere", name := "swap", desc := "([III)I" } : MethodName) prog_1_method_34_code (4 : Nat) (Option.some FieldType.int)) ∈ TB := TB_of 278 (by decide +kernel) rfl
theorem tw_279 : (Cond.methodLink "BrokeWhereLaw" (27 : Nat) ({ cls := "BrokeWhere", name := "trust", desc := "(II)I" } : MethodName)) ∈ TB := TB_of 279 (by decide +kernel) rfl
theorem tw_280 : (Cond.instanceMethod ({ cls := "BrokeWhere", name := "trust", desc := "(II)I" } : MethodName)) ∈ TB := TB_of 280 (by decide +kernel) rfl
theorem tw_281 : (Cond.selects "BrokeWhere" ({ cls := "BrokeWhere", name := "trust", desc := "(II)I" } : MethodName) ({ cls := "BrokeWhere", name := "trust", desc := "(II)I" } : MethodName)) ∈ TB := TB_of 281 (by decide +kernel) rfl
theorem tw_282 : (Cond.code ({ cls := "BrokeWhere", name := "trust", desc := "(II)I" } : MethodName) prog_1_method_5_code (3 : Nat) (Option.some FieldType.int)) ∈ TB := TB_of 282 (by decide +kernel) rfl
theorem tw_283 : (Cond.methodLink "BrokeWhereLaw" (32 : Nat) ({ cls := "BrokeWhere", name := "test", desc := "(IZ)I" } : MethodName)) ∈ TB := TB_of 283 (by decide +kernel) rfl
theorem tw_284 : (Cond.instanceMethod ({ cls := "BrokeWhere", name := "test", desc := "(IZ)I" } : MethodName)) ∈ TB := TB_of 284 (by decide +kernel) rfl
theorem tw_285 : (Cond.selects "BrokeWhere" ({ cls := "BrokeWhere", name := "test", desc := "(IZ)I" } : MethodName) ({ cls := "BrokeWhere", name := "test", desc := "(IZ)I" } : MethodName)) ∈ TB := TB_of 285 (by decide +kernel) rfl
theorem tw_286 : (Cond.code ({ cls := "BrokeWhere", name := "test", desc := "(IZ)I" } : MethodName) prog_1_method_6_code (3 : Nat) (Option.some FieldType.int)) ∈ TB := TB_of 286 (by decide +kernel) rfl
theorem tw_287 : (Cond.methodLink "BrokeWhere" (111 : Nat) ({ cls := "BrokeWhere$History", name := "hears", desc := "(I)Z" } : MethodName)) ∈ TB := TB_of 287 (by decide +kernel) rfl
theorem tw_288 : (Cond.instanceMethod ({ cls := "BrokeWhere$History", name := "hears", desc := "(I)Z" } : MethodName)) ∈ TB := TB_of 288 (by decide +kernel) rfl
theorem tw_289 : (Cond.selects "BrokeWhere$History" ({ cls := "BrokeWhere$History", name := "hears", desc := "(I)Z" } : MethodName) ({ cls := "BrokeWhere$History", name := "hears", desc := "(I)Z" } : MethodName)) ∈ TB := TB_of 289 (by decide +kernel) rfl
theorem tw_290 : (Cond.code ({ cls := "BrokeWhere$History", name := "hears", desc := "(I)Z" } : MethodName) prog_3_method_3_code (2 : Nat) (Option.some FieldType.boolean)) ∈ TB := TB_of 290 (by decide +kernel) rfl
theorem tw_291 : (Cond.methodLink "BrokeWhere" (114 : Nat) ({ cls := "BrokeWhere$Log", name := "add", desc := "(IZ)I" } : MethodName)) ∈ TB := TB_of 291 (by decide +kernel) rfl
theorem tw_292 : (Cond.instanceMethod ({ cls := "BrokeWhere$Log", name := "add", desc := "(IZ)I" } : MethodName)) ∈ TB := TB_of 292 (by decide +kernel) rfl
theorem tw_293 : (Cond.selects "BrokeWhere$Log" ({ cls := "BrokeWhere$Log", name := "add", desc := "(IZ)I" } : MethodName) ({ cls := "BrokeWhere$Log", name := "add", desc := "(IZ)I" } : MethodName)) ∈ TB := TB_of 293 (by decide +kernel) rfl
theorem tw_294 : (Cond.code ({ cls := "BrokeWhere$Log", name := "add", desc := "(IZ)I" } : MethodName) prog_4_method_2_code (4 : Nat) (Option.some FieldType.int)) ∈ TB := TB_of 294 (by decide +kernel) rfl
theorem tw_295 : (Cond.methodLink "BrokeWhereLaw" (37 : Nat) ({ cls := "BrokeWhere", name := "tested", desc := "(II)I" } : MethodName)) ∈ TB := TB_of 295 (by decide +kernel) rfl
theorem tw_296 : (Cond.instanceMethod ({ cls := "BrokeWhere", name := "tested", desc := "(II)I" } : MethodName)) ∈ TB := TB_of 296 (by decide +kernel) rfl
theorem tw_297 : (Cond.selects "BrokeWhere" ({ cls := "BrokeWhere", name := "tested", desc := "(II)I" } : MethodName) ({ cls := "BrokeWhere", name := "tested", desc := "(II)I" } : MethodName)) ∈ TB := TB_of 297 (by decide +kernel) rfl
theorem tw_298 : (Cond.code ({ cls := "BrokeWhere", name := "tested", desc := "(II)I" } : MethodName) prog_1_method_7_code (3 : Nat) (Option.some FieldType.int)) ∈ TB := TB_of 298 (by decide +kernel) rfl
theorem tw_299 : (Cond.methodLink "BrokeWhere" (125 : Nat) ({ cls := "BrokeWhere", name := "asNumber", desc := "(Z)I" } : MethodName)) ∈ TB := TB_of 299 (by decide +kernel) rfl
theorem tw_300 : (Cond.static ({ cls := "BrokeWhere", name := "asNumber", desc := "(Z)I" } : MethodName)) ∈ TB := TB_of 300 (by decide +kernel) rfl
theorem tw_301 : (Cond.code ({ cls := "BrokeWhere", name := "asNumber", desc := "(Z)I" } : MethodName) prog_1_method_32_code (1 : Nat) (Option.some FieldType.int)) ∈ TB := TB_of 301 (by decide +kernel) rfl
theorem tw_302 : (Cond.methodLink "BrokeWhereLaw" (41 : Nat) ({ cls := "BrokeWhere", name := "untest", desc := "()I" } : MethodName)) ∈ TB := TB_of 302 (by decide +kernel) rfl
theorem tw_303 : (Cond.instanceMethod ({ cls := "BrokeWhere", name := "untest", desc := "()I" } : MethodName)) ∈ TB := TB_of 303 (by decide +kernel) rfl
theorem tw_304 : (Cond.selects "BrokeWhere" ({ cls := "BrokeWhere", name := "untest", desc := "()I" } : MethodName) ({ cls := "BrokeWhere", name := "untest", desc := "()I" } : MethodName)) ∈ TB := TB_of 304 (by decide +kernel) rfl
theorem tw_305 : (Cond.code ({ cls := "BrokeWhere", name := "untest", desc := "()I" } : MethodName) prog_1_method_8_code (1 : Nat) (Option.some FieldType.int)) ∈ TB := TB_of 305 (by decide +kernel) rfl
theorem tw_306 : (Cond.methodLink "BrokeWhereLaw" (46 : Nat) ({ cls := "BrokeWhere", name := "weight", desc := "(III)J" } : MethodName)) ∈ TB := TB_of 306 (by decide +kernel) rfl
theorem tw_307 : (Cond.instanceMethod ({ cls := "BrokeWhere", name := "weight", desc := "(III)J" } : MethodName)) ∈ TB := TB_of 307 (by decide +kernel) rfl
theorem tw_308 : (Cond.selects "BrokeWhere" ({ cls := "BrokeWhere", name := "weight", desc := "(III)J" } : MethodName) ({ cls := "BrokeWhere", name := "weight", desc := "(III)J" } : MethodName)) ∈ TB := TB_of 308 (by decide +kernel) rfl
theorem tw_309 : (Cond.code ({ cls := "BrokeWhere", name := "weight", desc := "(III)J" } : MethodName) prog_1_method_9_code (5 : Nat) (Option.some FieldType.long)) ∈ TB := TB_of 309 (by decide +kernel) rfl
theorem tw_310 : (Cond.methodLink "BrokeWhere" (129 : Nat) ({ cls := "BrokeWhere", name := "storyRefusal", desc := "(III)I" } : MethodName)) ∈ TB := TB_of 310 (by decide +kernel) rfl
theorem tw_312 : (Cond.instanceMethod ({ cls := "BrokeWhere", name := "storyRefusal", desc := "(III)I" } : MethodName)) ∈ TB := TB_of 312 (by decide +kernel) rfl
theorem tw_313 : (Cond.code ({ cls := "BrokeWhere", name := "storyRefusal", desc := "(III)I" } : MethodName) prog_1_method_29_code (5 : Nat) (Option.some FieldType.int)) ∈ TB := TB_of 313 (by decide +kernel) rfl
theorem tw_314 : (Cond.methodLink "BrokeWhere" (132 : Nat) ({ cls := "BrokeWhere$Stories", name := "weightOf", desc := "(III)J" } : MethodName)) ∈ TB := TB_of 314 (by decide +kernel) rfl
theorem tw_315 : (Cond.instanceMethod ({ cls := "BrokeWhere$Stories", name := "weightOf", desc := "(III)J" } : MethodName)) ∈ TB := TB_of 315 (by decide +kernel) rfl
theorem tw_316 : (Cond.selects "BrokeWhere$Stories" ({ cls := "BrokeWhere$Stories", name := "weightOf", desc := "(III)J" } : MethodName) ({ cls := "BrokeWhere$Stories", name := "weightOf", desc := "(III)J" } : MethodName)) ∈ TB := TB_of 316 (by decide +kernel) rfl
theorem tw_317 : (Cond.code ({ cls := "BrokeWhere$Stories", name := "weightOf", desc := "(III)J" } : MethodName) prog_6_method_4_code (8 : Nat) (Option.some FieldType.long)) ∈ TB := TB_of 317 (by decide +kernel) rfl
theorem tw_318 : (Cond.methodLink "BrokeWhere$Stories" (41 : Nat) ({ cls := "BrokeWhere$Stories", name := "failingOf", desc := "(III)I" } : MethodName)) ∈ TB := TB_of 318 (by decide +kernel) rfl
theorem tw_319 : (Cond.instanceMethod ({ cls := "BrokeWhere$Stories", name := "failingOf", desc := "(III)I" } : MethodName)) ∈ TB := TB_of 319 (by decide +kernel) rfl
theorem tw_320 : (Cond.selects "BrokeWhere$Stories" ({ cls := "BrokeWhere$Stories", name := "failingOf", desc := "(III)I" } : MethodName) ({ cls := "BrokeWhere$Stories", name := "failingOf", desc := "(III)I" } : MethodName)) ∈ TB := TB_of 320 (by decide +kernel) rfl
theorem tw_321 : (Cond.code ({ cls := "BrokeWhere$Stories", name := "failingOf", desc := "(III)I" } : MethodName) prog_6_method_2_code (5 : Nat) (Option.some FieldType.int)) ∈ TB := TB_of 321 (by decide +kernel) rfl
theorem tw_323 : (Cond.methodLink "BrokeWhere$Stories" (62 : Nat) ({ cls := "BrokeWhere$Stories", name := "tenths", desc := "(ZZ)I" } : MethodName)) ∈ TB := TB_of 323 (by decide +kernel) rfl
theorem tw_324 : (Cond.instanceMethod ({ cls := "BrokeWhere$Stories", name := "tenths", desc := "(ZZ)I" } : MethodName)) ∈ TB := TB_of 324 (by decide +kernel) rfl
theorem tw_325 : (Cond.selects "BrokeWhere$Stories" ({ cls := "BrokeWhere$Stories", name := "tenths", desc := "(ZZ)I" } : MethodName) ({ cls := "BrokeWhere$Stories", name := "tenths", desc := "(ZZ)I" } : MethodName)) ∈ TB := TB_of 325 (by decide +kernel) rfl
theorem tw_326 : (Cond.code ({ cls := "BrokeWhere$Stories", name := "tenths", desc := "(ZZ)I" } : MethodName) prog_6_method_3_code (3 : Nat) (Option.some FieldType.int)) ∈ TB := TB_of 326 (by decide +kernel) rfl
theorem tw_327 : (Cond.constantLong "BrokeWhere" (136 : Nat) (-1000000000000000000 : Int64)) ∈ TB := TB_of 327 (by decide +kernel) rfl
theorem tw_328 : (Cond.methodLink "BrokeWhereLaw" (51 : Nat) ({ cls := "BrokeWhere", name := "odds", desc := "(IIII)J" } : MethodName)) ∈ TB := TB_of 328 (by decide +kernel) rfl
theorem tw_329 : (Cond.instanceMethod ({ cls := "BrokeWhere", name := "odds", desc := "(IIII)J" } : MethodName)) ∈ TB := TB_of 329 (by decide +kernel) rfl
theorem tw_330 : (Cond.selects "BrokeWhere" ({ cls := "BrokeWhere", name := "odds", desc := "(IIII)J" } : MethodName) ({ cls := "BrokeWhere", name := "odds", desc := "(IIII)J" } : MethodName)) ∈ TB := TB_of 330 (by decide +kernel) rfl
theorem tw_331 : (Cond.code ({ cls := "BrokeWhere", name := "odds", desc := "(IIII)J" } : MethodName) prog_1_method_10_code (6 : Nat) (Option.some FieldType.long)) ∈ TB := TB_of 331 (by decide +kernel) rfl
theorem tw_332 : (Cond.constantLong "BrokeWhere" (138 : Nat) (-1000000000000000002 : Int64)) ∈ TB := TB_of 332 (by decide +kernel) rfl
theorem tw_333 : (Cond.methodLink "BrokeWhere" (140 : Nat) ({ cls := "BrokeWhere$Stories", name := "weigh", desc := "()V" } : MethodName)) ∈ TB := TB_of 333 (by decide +kernel) rfl
theorem tw_334 : (Cond.instanceMethod ({ cls := "BrokeWhere$Stories", name := "weigh", desc := "()V" } : MethodName)) ∈ TB := TB_of 334 (by decide +kernel) rfl
theorem tw_335 : (Cond.selects "BrokeWhere$Stories" ({ cls := "BrokeWhere$Stories", name := "weigh", desc := "()V" } : MethodName) ({ cls := "BrokeWhere$Stories", name := "weigh", desc := "()V" } : MethodName)) ∈ TB := TB_of 335 (by decide +kernel) rfl
theorem tw_336 : (Cond.code ({ cls := "BrokeWhere$Stories", name := "weigh", desc := "()V" } : MethodName) prog_6_method_5_code (3 : Nat) (Option.none : Option FieldType)) ∈ TB := TB_of 336 (by decide +kernel) rfl
theorem tw_337 : (Cond.methodLink "BrokeWhere$Stories" (78 : Nat) ({ cls := "BrokeWhere$Stories", name := "weighFrom", desc := "(II)V" } : MethodName)) ∈ TB := TB_of 337 (by decide +kernel) rfl
theorem tw_339 : (Cond.instanceMethod ({ cls := "BrokeWhere$Stories", name := "weighFrom", desc := "(II)V" } : MethodName)) ∈ TB := TB_of 339 (by decide +kernel) rfl
theorem tw_340 : (Cond.code ({ cls := "BrokeWhere$Stories", name := "weighFrom", desc := "(II)V" } : MethodName) prog_6_method_6_code (6 : Nat) (Option.none : Option FieldType)) ∈ TB := TB_of 340 (by decide +kernel) rfl
theorem tw_341 : (Cond.methodLink "BrokeWhere$Stories" (82 : Nat) ({ cls := "BrokeWhere$Stories", name := "take", desc := "(III)V" } : MethodName)) ∈ TB := TB_of 341 (by decide +kernel) rfl
theorem tw_343 : (Cond.instanceMethod ({ cls := "BrokeWhere$Stories", name := "take", desc := "(III)V" } : MethodName)) ∈ TB := TB_of 343 (by decide +kernel) rfl
theorem tw_344 : (Cond.code ({ cls := "BrokeWhere$Stories", name := "take", desc := "(III)V" } : MethodName) prog_6_method_7_code (6 : Nat) (Option.none : Option FieldType)) ∈ TB := TB_of 344 (by decide +kernel) rfl
theorem tw_345 : (Cond.methodLink "BrokeWhere$Stories" (86 : Nat) ({ cls := "BrokeWhere$Stories", name := "weightOf", desc := "(III)J" } : MethodName)) ∈ TB := TB_of 345 (by decide +kernel) rfl
theorem tw_347 : (Cond.static ({ cls := "BrokeWhere", name := "storyAt", desc := "(III)I" } : MethodName)) ∈ TB := TB_of 347 (by decide +kernel) rfl
theorem tw_348 : (Cond.code ({ cls := "BrokeWhere", name := "storyAt", desc := "(III)I" } : MethodName) prog_1_method_37_code (3 : Nat) (Option.some FieldType.int)) ∈ TB := TB_of 348 (by decide +kernel) rfl
theorem tw_349 : (Cond.methodLink "BrokeWhere" (147 : Nat) ({ cls := "BrokeWhere", name := "fraction", desc := "(JJI)J" } : MethodName)) ∈ TB := TB_of 349 (by decide +kernel) rfl
theorem tw_350 : (Cond.static ({ cls := "BrokeWhere", name := "fraction", desc := "(JJI)J" } : MethodName)) ∈ TB := TB_of 350 (by decide +kernel) rfl
theorem tw_351 : (Cond.code ({ cls := "BrokeWhere", name := "fraction", desc := "(JJI)J" } : MethodName) prog_1_method_35_code (5 : Nat) (Option.some FieldType.long)) ∈ TB := TB_of 351 (by decide +kernel) rfl
theorem tw_352 : (Cond.methodLink "BrokeWhere" (248 : Nat) ({ cls := "BrokeWhere", name := "commonDivisor", desc := "(JJ)J" } : MethodName)) ∈ TB := TB_of 352 (by decide +kernel) rfl
theorem tw_353 : (Cond.static ({ cls := "BrokeWhere", name := "commonDivisor", desc := "(JJ)J" } : MethodName)) ∈ TB := TB_of 353 (by decide +kernel) rfl
theorem tw_354 : (Cond.code ({ cls := "BrokeWhere", name := "commonDivisor", desc := "(JJ)J" } : MethodName) prog_1_method_36_code (7 : Nat) (Option.some FieldType.long)) ∈ TB := TB_of 354 (by decide +kernel) rfl
theorem tw_355 : (Cond.methodLink "BrokeWhere" (252 : Nat) ({ cls := "java/lang/Math", name := "max", desc := "(JJ)J" } : MethodName)) ∈ TB := TB_of 355 (by decide +kernel) rfl
theorem tw_356 : (Cond.static ({ cls := "java/lang/Math", name := "max", desc := "(JJ)J" } : MethodName)) ∈ TB := TB_of 356 (by decide +kernel) rfl
theorem tw_357 : (Cond.code ({ cls := "java/lang/Math", name := "max", desc := "(JJ)J" } : MethodName) prog_13_method_66_code (4 : Nat) (Option.some FieldType.long)) ∈ TB := TB_of 357 (by decide +kernel) rfl
theorem tw_358 : (Cond.methodLink "BrokeWhereLaw" (56 : Nat) ({ cls := "BrokeWhere", name := "sorts", desc := "(II)J" } : MethodName)) ∈ TB := TB_of 358 (by decide +kernel) rfl
theorem tw_359 : (Cond.instanceMethod ({ cls := "BrokeWhere", name := "sorts", desc := "(II)J" } : MethodName)) ∈ TB := TB_of 359 (by decide +kernel) rfl
theorem tw_360 : (Cond.selects "BrokeWhere" ({ cls := "BrokeWhere", name := "sorts", desc := "(II)J" } : MethodName) ({ cls := "BrokeWhere", name := "sorts", desc := "(II)J" } : MethodName)) ∈ TB := TB_of 360 (by decide +kernel) rfl
theorem tw_361 : (Cond.code ({ cls := "BrokeWhere", name := "sorts", desc := "(II)J" } : MethodName) prog_1_method_11_code (3 : Nat) (Option.some FieldType.long)) ∈ TB := TB_of 361 (by decide +kernel) rfl
theorem tw_362 : (Cond.methodLink "BrokeWhere" (151 : Nat) ({ cls := "BrokeWhere$Stories", name := "weightOfSort", desc := "(I)J" } : MethodName)) ∈ TB := TB_of 362 (by decide +kernel) rfl
theorem tw_363 : (Cond.instanceMethod ({ cls := "BrokeWhere$Stories", name := "weightOfSort", desc := "(I)J" } : MethodName)) ∈ TB := TB_of 363 (by decide +kernel) rfl
theorem tw_364 : (Cond.selects "BrokeWhere$Stories" ({ cls := "BrokeWhere$Stories", name := "weightOfSort", desc := "(I)J" } : MethodName) ({ cls := "BrokeWhere$Stories", name := "weightOfSort", desc := "(I)J" } : MethodName)) ∈ TB := TB_of 364 (by decide +kernel) rfl
theorem tw_365 : (Cond.code ({ cls := "BrokeWhere$Stories", name := "weightOfSort", desc := "(I)J" } : MethodName) prog_6_method_8_code (5 : Nat) (Option.some FieldType.long)) ∈ TB := TB_of 365 (by decide +kernel) rfl
theorem tw_367 : (Cond.static ({ cls := "BrokeWhere", name := "sortAt", desc := "(I)I" } : MethodName)) ∈ TB := TB_of 367 (by decide +kernel) rfl
theorem tw_368 : (Cond.code ({ cls := "BrokeWhere", name := "sortAt", desc := "(I)I" } : MethodName) prog_1_method_38_code (1 : Nat) (Option.some FieldType.int)) ∈ TB := TB_of 368 (by decide +kernel) rfl
theorem tw_369 : (Cond.methodLink "BrokeWhereLaw" (61 : Nat) ({ cls := "BrokeWhere", name := "blame", desc := "(II)J" } : MethodName)) ∈ TB := TB_of 369 (by decide +kernel) rfl
theorem tw_370 : (Cond.instanceMethod ({ cls := "BrokeWhere", name := "blame", desc := "(II)J" } : MethodName)) ∈ TB := TB_of 370 (by decide +kernel) rfl
theorem tw_371 : (Cond.selects "BrokeWhere" ({ cls := "BrokeWhere", name := "blame", desc := "(II)J" } : MethodName) ({ cls := "BrokeWhere", name := "blame", desc := "(II)J" } : MethodName)) ∈ TB := TB_of 371 (by decide +kernel) rfl
theorem tw_372 : (Cond.code ({ cls := "BrokeWhere", name := "blame", desc := "(II)J" } : MethodName) prog_1_method_12_code (3 : Nat) (Option.some FieldType.long)) ∈ TB := TB_of 372 (by decide +kernel) rfl
theorem tw_373 : (Cond.constantLong "BrokeWhere" (155 : Nat) (-1000000000000000001 : Int64)) ∈ TB := TB_of 373 (by decide +kernel) rfl
theorem tw_374 : (Cond.methodLink "BrokeWhere" (157 : Nat) ({ cls := "BrokeWhere$Stories", name := "weightBlaming", desc := "(I)J" } : MethodName)) ∈ TB := TB_of 374 (by decide +kernel) rfl
theorem tw_375 : (Cond.instanceMethod ({ cls := "BrokeWhere$Stories", name := "weightBlaming", desc := "(I)J" } : MethodName)) ∈ TB := TB_of 375 (by decide +kernel) rfl
theorem tw_376 : (Cond.selects "BrokeWhere$Stories" ({ cls := "BrokeWhere$Stories", name := "weightBlaming", desc := "(I)J" } : MethodName) ({ cls := "BrokeWhere$Stories", name := "weightBlaming", desc := "(I)J" } : MethodName)) ∈ TB := TB_of 376 (by decide +kernel) rfl
theorem tw_377 : (Cond.code ({ cls := "BrokeWhere$Stories", name := "weightBlaming", desc := "(I)J" } : MethodName) prog_6_method_9_code (6 : Nat) (Option.some FieldType.long)) ∈ TB := TB_of 377 (by decide +kernel) rfl
theorem tw_379 : (Cond.static ({ cls := "BrokeWhere", name := "secondAt", desc := "(I)I" } : MethodName)) ∈ TB := TB_of 379 (by decide +kernel) rfl
theorem tw_380 : (Cond.code ({ cls := "BrokeWhere", name := "secondAt", desc := "(I)I" } : MethodName) prog_1_method_40_code (1 : Nat) (Option.some FieldType.int)) ∈ TB := TB_of 380 (by decide +kernel) rfl
theorem tw_382 : (Cond.static ({ cls := "BrokeWhere", name := "firstAt", desc := "(I)I" } : MethodName)) ∈ TB := TB_of 382 (by decide +kernel) rfl
theorem tw_383 : (Cond.code ({ cls := "BrokeWhere", name := "firstAt", desc := "(I)I" } : MethodName) prog_1_method_39_code (1 : Nat) (Option.some FieldType.int)) ∈ TB := TB_of 383 (by decide +kernel) rfl
theorem tw_384 : (Cond.methodLink "BrokeWhereLaw" (65 : Nat) ({ cls := "BrokeWhere", name := "guess", desc := "(I)I" } : MethodName)) ∈ TB := TB_of 384 (by decide +kernel) rfl
theorem tw_385 : (Cond.instanceMethod ({ cls := "BrokeWhere", name := "guess", desc := "(I)I" } : MethodName)) ∈ TB := TB_of 385 (by decide +kernel) rfl
theorem tw_386 : (Cond.selects "BrokeWhere" ({ cls := "BrokeWhere", name := "guess", desc := "(I)I" } : MethodName) ({ cls := "BrokeWhere", name := "guess", desc := "(I)I" } : MethodName)) ∈ TB := TB_of 386 (by decide +kernel) rfl
theorem tw_387 : (Cond.code ({ cls := "BrokeWhere", name := "guess", desc := "(I)I" } : MethodName) prog_1_method_13_code (4 : Nat) (Option.some FieldType.int)) ∈ TB := TB_of 387 (by decide +kernel) rfl
theorem tw_388 : (Cond.methodLink "BrokeWhere" (163 : Nat) ({ cls := "BrokeWhere", name := "sortAt", desc := "(I)I" } : MethodName)) ∈ TB := TB_of 388 (by decide +kernel) rfl
theorem tw_389 : (Cond.methodLink "BrokeWhere" (167 : Nat) ({ cls := "BrokeWhere", name := "firstAt", desc := "(I)I" } : MethodName)) ∈ TB := TB_of 389 (by decide +kernel) rfl
theorem tw_390 : (Cond.methodLink "BrokeWhere" (170 : Nat) ({ cls := "BrokeWhere", name := "secondAt", desc := "(I)I" } : MethodName)) ∈ TB := TB_of 390 (by decide +kernel) rfl
theorem tw_391 : (Cond.methodLink "BrokeWhereLaw" (69 : Nat) ({ cls := "BrokeWhere", name := "hope", desc := "(II)J" } : MethodName)) ∈ TB := TB_of 391 (by decide +kernel) rfl
theorem tw_392 : (Cond.instanceMethod ({ cls := "BrokeWhere", name := "hope", desc := "(II)J" } : MethodName)) ∈ TB := TB_of 392 (by decide +kernel) rfl
theorem tw_393 : (Cond.selects "BrokeWhere" ({ cls := "BrokeWhere", name := "hope", desc := "(II)J" } : MethodName) ({ cls := "BrokeWhere", name := "hope", desc := "(II)J" } : MethodName)) ∈ TB := TB_of 393 (by decide +kernel) rfl
theorem tw_394 : (Cond.code ({ cls := "BrokeWhere", name := "hope", desc := "(II)J" } : MethodName) prog_1_method_14_code (3 : Nat) (Option.some FieldType.long)) ∈ TB := TB_of 394 (by decide +kernel) rfl
theorem tw_395 : (Cond.methodLink "BrokeWhere" (173 : Nat) ({ cls := "BrokeWhere$Stories", name := "hopeWeight", desc := "(I)J" } : MethodName)) ∈ TB := TB_of 395 (by decide +kernel) rfl
theorem tw_396 : (Cond.instanceMethod ({ cls := "BrokeWhere$Stories", name := "hopeWeight", desc := "(I)J" } : MethodName)) ∈ TB := TB_of 396 (by decide +kernel) rfl
theorem tw_397 : (Cond.selects "BrokeWhere$Stories" ({ cls := "BrokeWhere$Stories", name := "hopeWeight", desc := "(I)J" } : MethodName) ({ cls := "BrokeWhere$Stories", name := "hopeWeight", desc := "(I)J" } : MethodName)) ∈ TB := TB_of 397 (by decide +kernel) rfl
theorem tw_398 : (Cond.code ({ cls := "BrokeWhere$Stories", name := "hopeWeight", desc := "(I)J" } : MethodName) prog_6_method_10_code (8 : Nat) (Option.some FieldType.long)) ∈ TB := TB_of 398 (by decide +kernel) rfl
theorem tw_399 : (Cond.methodLink "BrokeWhere$Stories" (103 : Nat) ({ cls := "java/lang/Math", name := "max", desc := "(JJ)J" } : MethodName)) ∈ TB := TB_of 399 (by decide +kernel) rfl
theorem tw_400 : (Cond.constantLong "BrokeWhere" (176 : Nat) (10 : Int64)) ∈ TB := TB_of 400 (by decide +kernel) rfl
theorem tw_401 : (Cond.methodLink "BrokeWhereLaw" (73 : Nat) ({ cls := "BrokeWhere", name := "next", desc := "(I)I" } : MethodName)) ∈ TB := TB_of 401 (by decide +kernel) rfl
theorem tw_402 : (Cond.instanceMethod ({ cls := "BrokeWhere", name := "next", desc := "(I)I" } : MethodName)) ∈ TB := TB_of 402 (by decide +kernel) rfl
theorem tw_403 : (Cond.selects "BrokeWhere" ({ cls := "BrokeWhere", name := "next", desc := "(I)I" } : MethodName) ({ cls := "BrokeWhere", name := "next", desc := "(I)I" } : MethodName)) ∈ TB := TB_of 403 (by decide +kernel) rfl
theorem tw_404 : (Cond.code ({ cls := "BrokeWhere", name := "next", desc := "(I)I" } : MethodName) prog_1_method_15_code (2 : Nat) (Option.some FieldType.int)) ∈ TB := TB_of 404 (by decide +kernel) rfl
theorem tw_405 : (Cond.methodLink "BrokeWhere" (178 : Nat) ({ cls := "BrokeWhere$Stories", name := "nextVersion", desc := "(I)I" } : MethodName)) ∈ TB := TB_of 405 (by decide +kernel) rfl
theorem tw_406 : (Cond.instanceMethod ({ cls := "BrokeWhere$Stories", name := "nextVersion", desc := "(I)I" } : MethodName)) ∈ TB := TB_of 406 (by decide +kernel) rfl
theorem tw_407 : (Cond.selects "BrokeWhere$Stories" ({ cls := "BrokeWhere$Stories", name := "nextVersion", desc := "(I)I" } : MethodName) ({ cls := "BrokeWhere$Stories", name := "nextVersion", desc := "(I)I" } : MethodName)) ∈ TB := TB_of 407 (by decide +kernel) rfl
theorem tw_408 : (Cond.code ({ cls := "BrokeWhere$Stories", name := "nextVersion", desc := "(I)I" } : MethodName) prog_6_method_12_code (9 : Nat) (Option.some FieldType.int)) ∈ TB := TB_of 408 (by decide +kernel) rfl
theorem tw_409 : (Cond.methodLink "BrokeWhere$Stories" (115 : Nat) ({ cls := "BrokeWhere$History", name := "hears", desc := "(I)Z" } : MethodName)) ∈ TB := TB_of 409 (by decide +kernel) rfl
theorem tw_410 : (Cond.methodLink "BrokeWhere$Stories" (119 : Nat) ({ cls := "BrokeWhere$Stories", name := "gap", desc := "(I)J" } : MethodName)) ∈ TB := TB_of 410 (by decide +kernel) rfl
theorem tw_411 : (Cond.instanceMethod ({ cls := "BrokeWhere$Stories", name := "gap", desc := "(I)J" } : MethodName)) ∈ TB := TB_of 411 (by decide +kernel) rfl
theorem tw_412 : (Cond.selects "BrokeWhere$Stories" ({ cls := "BrokeWhere$Stories", name := "gap", desc := "(I)J" } : MethodName) ({ cls := "BrokeWhere$Stories", name := "gap", desc := "(I)J" } : MethodName)) ∈ TB := TB_of 412 (by decide +kernel) rfl
theorem tw_413 : (Cond.code ({ cls := "BrokeWhere$Stories", name := "gap", desc := "(I)J" } : MethodName) prog_6_method_11_code (5 : Nat) (Option.some FieldType.long)) ∈ TB := TB_of 413 (by decide +kernel) rfl
theorem tw_414 : (Cond.constantLong "BrokeWhere$Stories" (109 : Nat) (2 : Int64)) ∈ TB := TB_of 414 (by decide +kernel) rfl
theorem tw_415 : (Cond.methodLink "BrokeWhere$Stories" (111 : Nat) ({ cls := "java/lang/Math", name := "abs", desc := "(J)J" } : MethodName)) ∈ TB := TB_of 415 (by decide +kernel) rfl
theorem tw_416 : (Cond.static ({ cls := "java/lang/Math", name := "abs", desc := "(J)J" } : MethodName)) ∈ TB := TB_of 416 (by decide +kernel) rfl
theorem tw_417 : (Cond.code ({ cls := "java/lang/Math", name := "abs", desc := "(J)J" } : MethodName) prog_13_method_61_code (2 : Nat) (Option.some FieldType.long)) ∈ TB := TB_of 417 (by decide +kernel) rfl
theorem tw_418 : (Cond.methodLink "BrokeWhere$Stories" (123 : Nat) ({ cls := "BrokeWhere$Stories", name := "hopeWeight", desc := "(I)J" } : MethodName)) ∈ TB := TB_of 418 (by decide +kernel) rfl
theorem tw_419 : (Cond.methodLink "BrokeWhereLaw" (77 : Nat) ({ cls := "BrokeWhere", name := "worst", desc := "(II)I" } : MethodName)) ∈ TB := TB_of 419 (by decide +kernel) rfl
theorem tw_420 : (Cond.instanceMethod ({ cls := "BrokeWhere", name := "worst", desc := "(II)I" } : MethodName)) ∈ TB := TB_of 420 (by decide +kernel) rfl
theorem tw_421 : (Cond.selects "BrokeWhere" ({ cls := "BrokeWhere", name := "worst", desc := "(II)I" } : MethodName) ({ cls := "BrokeWhere", name := "worst", desc := "(II)I" } : MethodName)) ∈ TB := TB_of 421 (by decide +kernel) rfl
theorem tw_422 : (Cond.code ({ cls := "BrokeWhere", name := "worst", desc := "(II)I" } : MethodName) prog_1_method_16_code (3 : Nat) (Option.some FieldType.int)) ∈ TB := TB_of 422 (by decide +kernel) rfl
theorem tw_423 : (Cond.methodLink "BrokeWhere" (181 : Nat) ({ cls := "BrokeWhere", name := "parting", desc := "(LBrokeWhere$Partings;II)I" } : MethodName)) ∈ TB := TB_of 423 (by decide +kernel) rfl
theorem tw_425 : (Cond.instanceMethod ({ cls := "BrokeWhere", name := "parting", desc := "(LBrokeWhere$Partings;II)I" } : MethodName)) ∈ TB := TB_of 425 (by decide +kernel) rfl
theorem tw_426 : (Cond.code ({ cls := "BrokeWhere", name := "parting", desc := "(LBrokeWhere$Partings;II)I" } : MethodName) prog_1_method_30_code (4 : Nat) (Option.some FieldType.int)) ∈ TB := TB_of 426 (by decide +kernel) rfl
theorem tw_427 : (Cond.methodLink "BrokeWhere" (235 : Nat) ({ cls := "BrokeWhere$History", name := "everyVersion", desc := "()I" } : MethodName)) ∈ TB := TB_of 427 (by decide +kernel) rfl
theorem tw_428 : (Cond.instanceMethod ({ cls := "BrokeWhere$History", name := "everyVersion", desc := "()I" } : MethodName)) ∈ TB := TB_of 428 (by decide +kernel) rfl
theorem tw_429 : (Cond.selects "BrokeWhere$History" ({ cls := "BrokeWhere$History", name := "everyVersion", desc := "()I" } : MethodName) ({ cls := "BrokeWhere$History", name := "everyVersion", desc := "()I" } : MethodName)) ∈ TB := TB_of 429 (by decide +kernel) rfl
theorem tw_430 : (Cond.code ({ cls := "BrokeWhere$History", name := "everyVersion", desc := "()I" } : MethodName) prog_3_method_8_code (1 : Nat) (Option.some FieldType.int)) ∈ TB := TB_of 430 (by decide +kernel) rfl
theorem tw_431 : (Cond.methodLink "BrokeWhere" (242 : Nat) ({ cls := "BrokeWhere$Partings", name := "price", desc := "(I)I" } : MethodName)) ∈ TB := TB_of 431 (by decide +kernel) rfl
theorem tw_432 : (Cond.instanceMethod ({ cls := "BrokeWhere$Partings", name := "price", desc := "(I)I" } : MethodName)) ∈ TB := TB_of 432 (by decide +kernel) rfl
theorem tw_433 : (Cond.selects "BrokeWhere$Partings" ({ cls := "BrokeWhere$Partings", name := "price", desc := "(I)I" } : MethodName) ({ cls := "BrokeWhere$Partings", name := "price", desc := "(I)I" } : MethodName)) ∈ TB := TB_of 433 (by decide +kernel) rfl
theorem tw_434 : (Cond.code ({ cls := "BrokeWhere$Partings", name := "price", desc := "(I)I" } : MethodName) prog_5_method_2_code (2 : Nat) (Option.some FieldType.int)) ∈ TB := TB_of 434 (by decide +kernel) rfl
theorem tw_435 : (Cond.methodLink "BrokeWhere$Partings" (23 : Nat) ({ cls := "BrokeWhere$Partings", name := "refresh", desc := "()V" } : MethodName)) ∈ TB := TB_of 435 (by decide +kernel) rfl
theorem tw_437 : (Cond.instanceMethod ({ cls := "BrokeWhere$Partings", name := "refresh", desc := "()V" } : MethodName)) ∈ TB := TB_of 437 (by decide +kernel) rfl
theorem tw_438 : (Cond.code ({ cls := "BrokeWhere$Partings", name := "refresh", desc := "()V" } : MethodName) prog_5_method_4_code (1 : Nat) (Option.none : Option FieldType)) ∈ TB := TB_of 438 (by decide +kernel) rfl
theorem tw_439 : (Cond.methodLink "BrokeWhere$Partings" (47 : Nat) ({ cls := "java/util/Arrays", name := "fill", desc := "([II)V" } : MethodName)) ∈ TB := TB_of 439 (by decide +kernel) rfl
theorem tw_440 : (Cond.static ({ cls := "java/util/Arrays", name := "fill", desc := "([II)V" } : MethodName)) ∈ TB := TB_of 440 (by decide +kernel) rfl
theorem tw_441 : (Cond.code ({ cls := "java/util/Arrays", name := "fill", desc := "([II)V" } : MethodName) prog_14_method_103_code (4 : Nat) (Option.none : Option FieldType)) ∈ TB := TB_of 441 (by decide +kernel) rfl
theorem tw_442 : (Cond.methodLink "BrokeWhere$Partings" (26 : Nat) ({ cls := "BrokeWhere$Partings", name := "priceAt", desc := "(II)I" } : MethodName)) ∈ TB := TB_of 442 (by decide +kernel) rfl
theorem tw_444 : (Cond.instanceMethod ({ cls := "BrokeWhere$Partings", name := "priceAt", desc := "(II)I" } : MethodName)) ∈ TB := TB_of 444 (by decide +kernel) rfl
theorem tw_445 : (Cond.code ({ cls := "BrokeWhere$Partings", name := "priceAt", desc := "(II)I" } : MethodName) prog_5_method_6_code (6 : Nat) (Option.some FieldType.int)) ∈ TB := TB_of 445 (by decide +kernel) rfl
theorem tw_447 : (Cond.methodLink "BrokeWhere$Partings" (36 : Nat) ({ cls := "BrokeWhere$Partings", name := "parts", desc := "(II)Z" } : MethodName)) ∈ TB := TB_of 447 (by decide +kernel) rfl
theorem tw_449 : (Cond.instanceMethod ({ cls := "BrokeWhere$Partings", name := "parts", desc := "(II)Z" } : MethodName)) ∈ TB := TB_of 449 (by decide +kernel) rfl
theorem tw_450 : (Cond.code ({ cls := "BrokeWhere$Partings", name := "parts", desc := "(II)Z" } : MethodName) prog_5_method_5_code (4 : Nat) (Option.some FieldType.boolean)) ∈ TB := TB_of 450 (by decide +kernel) rfl
theorem tw_451 : (Cond.methodLink "BrokeWhere$Partings" (56 : Nat) ({ cls := "BrokeWhere$History", name := "hears", desc := "(I)Z" } : MethodName)) ∈ TB := TB_of 451 (by decide +kernel) rfl
theorem tw_452 : (Cond.methodLink "BrokeWhere$Partings" (40 : Nat) ({ cls := "BrokeWhere$Partings", name := "priceBy", desc := "(III)I" } : MethodName)) ∈ TB := TB_of 452 (by decide +kernel) rfl
theorem tw_454 : (Cond.instanceMethod ({ cls := "BrokeWhere$Partings", name := "priceBy", desc := "(III)I" } : MethodName)) ∈ TB := TB_of 454 (by decide +kernel) rfl
theorem tw_455 : (Cond.code ({ cls := "BrokeWhere$Partings", name := "priceBy", desc := "(III)I" } : MethodName) prog_5_method_7_code (6 : Nat) (Option.some FieldType.int)) ∈ TB := TB_of 455 (by decide +kernel) rfl
theorem tw_456 : (Cond.methodLink "BrokeWhere$Partings" (75 : Nat) ({ cls := "BrokeWhere$History", name := "sizes", desc := "(I)I" } : MethodName)) ∈ TB := TB_of 456 (by decide +kernel) rfl
theorem tw_457 : (Cond.instanceMethod ({ cls := "BrokeWhere$History", name := "sizes", desc := "(I)I" } : MethodName)) ∈ TB := TB_of 457 (by decide +kernel) rfl
theorem tw_458 : (Cond.selects "BrokeWhere$History" ({ cls := "BrokeWhere$History", name := "sizes", desc := "(I)I" } : MethodName) ({ cls := "BrokeWhere$History", name := "sizes", desc := "(I)I" } : MethodName)) ∈ TB := TB_of 458 (by decide +kernel) rfl
theorem tw_459 : (Cond.code ({ cls := "BrokeWhere$History", name := "sizes", desc := "(I)I" } : MethodName) prog_3_method_11_code (4 : Nat) (Option.some FieldType.int)) ∈ TB := TB_of 459 (by decide +kernel) rfl
theorem tw_460 : (Cond.methodLink "BrokeWhere$Partings" (69 : Nat) ({ cls := "java/lang/Math", name := "max", desc := "(II)I" } : MethodName)) ∈ TB := TB_of 460 (by decide +kernel) rfl
theorem tw_461 : (Cond.static ({ cls := "java/lang/Math", name := "max", desc := "(II)I" } : MethodName)) ∈ TB := TB_of 461 (by decide +kernel) rfl
theorem tw_462 : (Cond.code ({ cls := "java/lang/Math", name := "max", desc := "(II)I" } : MethodName) prog_13_method_65_code (2 : Nat) (Option.some FieldType.int)) ∈ TB := TB_of 462 (by decide +kernel) rfl
theorem tw_463 : (Cond.methodLink "BrokeWhere$Partings" (64 : Nat) ({ cls := "java/lang/Math", name := "min", desc := "(II)I" } : MethodName)) ∈ TB := TB_of 463 (by decide +kernel) rfl
theorem tw_464 : (Cond.static ({ cls := "java/lang/Math", name := "min", desc := "(II)I" } : MethodName)) ∈ TB := TB_of 464 (by decide +kernel) rfl
theorem tw_465 : (Cond.code ({ cls := "java/lang/Math", name := "min", desc := "(II)I" } : MethodName) prog_13_method_69_code (2 : Nat) (Option.some FieldType.int)) ∈ TB := TB_of 465 (by decide +kernel) rfl
theorem tw_466 : (Cond.methodLink "BrokeWhere" (245 : Nat) ({ cls := "BrokeWhere$Partings", name := "start", desc := "(I)I" } : MethodName)) ∈ TB := TB_of 466 (by decide +kernel) rfl
theorem tw_467 : (Cond.instanceMethod ({ cls := "BrokeWhere$Partings", name := "start", desc := "(I)I" } : MethodName)) ∈ TB := TB_of 467 (by decide +kernel) rfl
theorem tw_468 : (Cond.selects "BrokeWhere$Partings" ({ cls := "BrokeWhere$Partings", name := "start", desc := "(I)I" } : MethodName) ({ cls := "BrokeWhere$Partings", name := "start", desc := "(I)I" } : MethodName)) ∈ TB := TB_of 468 (by decide +kernel) rfl
theorem tw_469 : (Cond.code ({ cls := "BrokeWhere$Partings", name := "start", desc := "(I)I" } : MethodName) prog_5_method_3_code (4 : Nat) (Option.some FieldType.int)) ∈ TB := TB_of 469 (by decide +kernel) rfl
theorem tw_470 : (Cond.methodLink "BrokeWhereLaw" (81 : Nat) ({ cls := "BrokeWhere", name := "mean", desc := "(II)I" } : MethodName)) ∈ TB := TB_of 470 (by decide +kernel) rfl
theorem tw_471 : (Cond.instanceMethod ({ cls := "BrokeWhere", name := "mean", desc := "(II)I" } : MethodName)) ∈ TB := TB_of 471 (by decide +kernel) rfl
theorem tw_472 : (Cond.selects "BrokeWhere" ({ cls := "BrokeWhere", name := "mean", desc := "(II)I" } : MethodName) ({ cls := "BrokeWhere", name := "mean", desc := "(II)I" } : MethodName)) ∈ TB := TB_of 472 (by decide +kernel) rfl
theorem tw_473 : (Cond.code ({ cls := "BrokeWhere", name := "mean", desc := "(II)I" } : MethodName) prog_1_method_17_code (3 : Nat) (Option.some FieldType.int)) ∈ TB := TB_of 473 (by decide +kernel) rfl
theorem tw_474 : (Cond.methodLink "BrokeWhereLaw" (85 : Nat) ({ cls := "BrokeWhere", name := "twins", desc := "(I)I" } : MethodName)) ∈ TB := TB_of 474 (by decide +kernel) rfl
theorem tw_475 : (Cond.instanceMethod ({ cls := "BrokeWhere", name := "twins", desc := "(I)I" } : MethodName)) ∈ TB := TB_of 475 (by decide +kernel) rfl
theorem tw_476 : (Cond.selects "BrokeWhere" ({ cls := "BrokeWhere", name := "twins", desc := "(I)I" } : MethodName) ({ cls := "BrokeWhere", name := "twins", desc := "(I)I" } : MethodName)) ∈ TB := TB_of 476 (by decide +kernel) rfl
theorem tw_477 : (Cond.code ({ cls := "BrokeWhere", name := "twins", desc := "(I)I" } : MethodName) prog_1_method_18_code (2 : Nat) (Option.some FieldType.int)) ∈ TB := TB_of 477 (by decide +kernel) rfl
