abbrev mX0_soundSets : MX := (⟨"BrokeWhere$Families", "soundSets", "(I)J"⟩, prog_2_method_2_code, 5, (some FieldType.long))
theorem ok_X0_soundSets : OkV mX0_soundSets 1 := ⟨⟨tw_541, tw_8, by decide, by decide, by decide +kernel⟩, tw_540, ts_10⟩
abbrev mX0_isSound : MX := (⟨"BrokeWhere$Families", "isSound", "(I)Z"⟩, prog_2_method_3_code, 2, (some FieldType.boolean))
theorem ok_X0_isSound : OkV mX0_isSound 1 := ⟨⟨tw_537, tw_8, by decide, by decide, by decide +kernel⟩, tw_535, tw_536⟩
abbrev mX0_leastOut : MX := (⟨"BrokeWhere$Families", "leastOut", "(I)I"⟩, prog_2_method_4_code, 5, (some FieldType.int))
theorem ok_X0_leastOut : OkV mX0_leastOut 1 := ⟨⟨tw_572, tw_8, by decide, by decide, by decide +kernel⟩, tw_570, tw_571⟩
abbrev mX0_isLess : MX := (⟨"BrokeWhere$Families", "isLess", "(II)Z"⟩, prog_2_method_5_code, 4, (some FieldType.boolean))
theorem ok_X0_isLess : OkV mX0_isLess 2 := ⟨⟨tw_577, tw_8, by decide, by decide, by decide +kernel⟩, tw_576, ts_11⟩
abbrev mX0_findCores : MX := (⟨"BrokeWhere$Families", "findCores", "(I)V"⟩, prog_2_method_6_code, 4, none)
theorem ok_X0_findCores : OkV mX0_findCores 1 := ⟨⟨tw_593, tw_8, by decide, by decide, by decide +kernel⟩, tw_591, tw_592⟩
abbrev mX0_countFound : MX := (⟨"BrokeWhere$Families", "countFound", "()I"⟩, prog_2_method_7_code, 3, (some FieldType.int))
theorem ok_X0_countFound : OkV mX0_countFound 0 := ⟨⟨tw_603, tw_8, by decide, by decide, by decide +kernel⟩, tw_601, tw_602⟩
abbrev mX0_foundAt : MX := (⟨"BrokeWhere$Families", "foundAt", "(I)I"⟩, prog_2_method_8_code, 5, (some FieldType.int))
theorem ok_X0_foundAt : OkV mX0_foundAt 1 := ⟨⟨tw_613, tw_8, by decide, by decide, by decide +kernel⟩, tw_611, tw_612⟩
abbrev mX0_foundFrom : MX := (⟨"BrokeWhere$Families", "foundFrom", "(II)I"⟩, prog_2_method_9_code, 5, (some FieldType.int))
theorem ok_X0_foundFrom : OkV mX0_foundFrom 2 := ⟨⟨tw_617, tw_8, by decide, by decide, by decide +kernel⟩, tw_616, ts_12⟩
abbrev mX1_knows : MX := (⟨"BrokeWhere$History", "knows", "(I)Z"⟩, prog_3_method_2_code, 2, (some FieldType.boolean))
theorem ok_X1_knows : OkV mX1_knows 1 := ⟨⟨tw_239, tw_2, by decide, by decide, by decide +kernel⟩, tw_237, tw_238⟩
abbrev mX1_hears : MX := (⟨"BrokeWhere$History", "hears", "(I)Z"⟩, prog_3_method_3_code, 2, (some FieldType.boolean))
theorem ok_X1_hears : OkV mX1_hears 1 := ⟨⟨tw_290, tw_2, by decide, by decide, by decide +kernel⟩, tw_288, tw_289⟩
abbrev mX1_mayStandOn : MX := (⟨"BrokeWhere$History", "mayStandOn", "(II)Z"⟩, prog_3_method_4_code, 3, (some FieldType.boolean))
theorem ok_X1_mayStandOn : OkV mX1_mayStandOn 2 := ⟨⟨tw_235, tw_2, by decide, by decide, by decide +kernel⟩, tw_233, tw_234⟩
abbrev mX1_add : MX := (⟨"BrokeWhere$History", "add", "(III)I"⟩, prog_3_method_5_code, 7, (some FieldType.int))
theorem ok_X1_add : OkV mX1_add 3 := ⟨⟨tw_250, tw_2, by decide, by decide, by decide +kernel⟩, tw_248, tw_249⟩
abbrev mX1_mayBe : MX := (⟨"BrokeWhere$History", "mayBe", "(III)Z"⟩, prog_3_method_6_code, 4, (some FieldType.boolean))
theorem ok_X1_mayBe : OkV mX1_mayBe 3 := ⟨⟨tw_266, tw_2, by decide, by decide, by decide +kernel⟩, tw_264, tw_265⟩
abbrev mX1_row : MX := (⟨"BrokeWhere$History", "row", "(I)[I"⟩, prog_3_method_7_code, 2, (some (FieldType.array FieldType.int)))
theorem ok_X1_row : OkV mX1_row 1 := ⟨⟨tw_275, tw_2, by decide, by decide, by decide +kernel⟩, tw_273, tw_274⟩
abbrev mX1_everyVersion : MX := (⟨"BrokeWhere$History", "everyVersion", "()I"⟩, prog_3_method_8_code, 1, (some FieldType.int))
theorem ok_X1_everyVersion : OkV mX1_everyVersion 0 := ⟨⟨tw_430, tw_2, by decide, by decide, by decide +kernel⟩, tw_428, tw_429⟩
abbrev mX1_hearing : MX := (⟨"BrokeWhere$History", "hearing", "()I"⟩, prog_3_method_9_code, 3, (some FieldType.int))
theorem ok_X1_hearing : OkV mX1_hearing 0 := ⟨⟨tw_485, tw_2, by decide, by decide, by decide +kernel⟩, tw_483, tw_484⟩
abbrev mX1_twinsOf : MX := (⟨"BrokeWhere$History", "twinsOf", "(I)I"⟩, prog_3_method_10_code, 5, (some FieldType.int))
theorem ok_X1_twinsOf : OkV mX1_twinsOf 1 := ⟨⟨tw_481, tw_2, by decide, by decide, by decide +kernel⟩, tw_479, tw_480⟩
abbrev mX1_sizes : MX := (⟨"BrokeWhere$History", "sizes", "(I)I"⟩, prog_3_method_11_code, 4, (some FieldType.int))
theorem ok_X1_sizes : OkV mX1_sizes 1 := ⟨⟨tw_459, tw_2, by decide, by decide, by decide +kernel⟩, tw_457, tw_458⟩
abbrev mX2_add : MX := (⟨"BrokeWhere$Log", "add", "(IZ)I"⟩, prog_4_method_2_code, 4, (some FieldType.int))
theorem ok_X2_add : OkV mX2_add 2 := ⟨⟨tw_294, tw_3, by decide, by decide, by decide +kernel⟩, tw_292, tw_293⟩
abbrev mX2_holdsTestOf : MX := (⟨"BrokeWhere$Log", "holdsTestOf", "(I)Z"⟩, prog_4_method_3_code, 3, (some FieldType.boolean))
theorem ok_X2_holdsTestOf : OkV mX2_holdsTestOf 1 := ⟨⟨tw_271, tw_3, by decide, by decide, by decide +kernel⟩, tw_269, tw_270⟩
abbrev mX3_price : MX := (⟨"BrokeWhere$Partings", "price", "(I)I"⟩, prog_5_method_2_code, 2, (some FieldType.int))
theorem ok_X3_price : OkV mX3_price 1 := ⟨⟨tw_434, tw_5, by decide, by decide, by decide +kernel⟩, tw_432, tw_433⟩
abbrev mX3_start : MX := (⟨"BrokeWhere$Partings", "start", "(I)I"⟩, prog_5_method_3_code, 4, (some FieldType.int))
theorem ok_X3_start : OkV mX3_start 1 := ⟨⟨tw_469, tw_5, by decide, by decide, by decide +kernel⟩, tw_467, tw_468⟩
abbrev mX3_refresh : MX := (⟨"BrokeWhere$Partings", "refresh", "()V"⟩, prog_5_method_4_code, 1, none)
theorem ok_X3_refresh : OkV mX3_refresh 0 := ⟨⟨tw_438, tw_5, by decide, by decide, by decide +kernel⟩, tw_437, ts_5⟩
abbrev mX3_parts : MX := (⟨"BrokeWhere$Partings", "parts", "(II)Z"⟩, prog_5_method_5_code, 4, (some FieldType.boolean))
theorem ok_X3_parts : OkV mX3_parts 2 := ⟨⟨tw_450, tw_5, by decide, by decide, by decide +kernel⟩, tw_449, ts_7⟩
abbrev mX3_priceAt : MX := (⟨"BrokeWhere$Partings", "priceAt", "(II)I"⟩, prog_5_method_6_code, 6, (some FieldType.int))
theorem ok_X3_priceAt : OkV mX3_priceAt 2 := ⟨⟨tw_445, tw_5, by decide, by decide, by decide +kernel⟩, tw_444, ts_6⟩
abbrev mX3_priceBy : MX := (⟨"BrokeWhere$Partings", "priceBy", "(III)I"⟩, prog_5_method_7_code, 6, (some FieldType.int))
theorem ok_X3_priceBy : OkV mX3_priceBy 3 := ⟨⟨tw_455, tw_5, by decide, by decide, by decide +kernel⟩, tw_454, ts_8⟩
abbrev mX4_failingOf : MX := (⟨"BrokeWhere$Stories", "failingOf", "(III)I"⟩, prog_6_method_2_code, 5, (some FieldType.int))
theorem ok_X4_failingOf : OkV mX4_failingOf 3 := ⟨⟨tw_321, tw_4, by decide, by decide, by decide +kernel⟩, tw_319, tw_320⟩
abbrev mX4_tenths : MX := (⟨"BrokeWhere$Stories", "tenths", "(ZZ)I"⟩, prog_6_method_3_code, 3, (some FieldType.int))
theorem ok_X4_tenths : OkV mX4_tenths 2 := ⟨⟨tw_326, tw_4, by decide, by decide, by decide +kernel⟩, tw_324, tw_325⟩
abbrev mX4_weightOf : MX := (⟨"BrokeWhere$Stories", "weightOf", "(III)J"⟩, prog_6_method_4_code, 8, (some FieldType.long))
theorem ok_X4_weightOf : OkV mX4_weightOf 3 := ⟨⟨tw_317, tw_4, by decide, by decide, by decide +kernel⟩, tw_315, tw_316⟩
abbrev mX4_weigh : MX := (⟨"BrokeWhere$Stories", "weigh", "()V"⟩, prog_6_method_5_code, 3, none)
theorem ok_X4_weigh : OkV mX4_weigh 0 := ⟨⟨tw_336, tw_4, by decide, by decide, by decide +kernel⟩, tw_334, tw_335⟩
abbrev mX4_weighFrom : MX := (⟨"BrokeWhere$Stories", "weighFrom", "(II)V"⟩, prog_6_method_6_code, 6, none)
theorem ok_X4_weighFrom : OkV mX4_weighFrom 2 := ⟨⟨tw_340, tw_4, by decide, by decide, by decide +kernel⟩, tw_339, ts_2⟩
abbrev mX4_take : MX := (⟨"BrokeWhere$Stories", "take", "(III)V"⟩, prog_6_method_7_code, 6, none)
theorem ok_X4_take : OkV mX4_take 3 := ⟨⟨tw_344, tw_4, by decide, by decide, by decide +kernel⟩, tw_343, ts_3⟩
abbrev mX4_weightOfSort : MX := (⟨"BrokeWhere$Stories", "weightOfSort", "(I)J"⟩, prog_6_method_8_code, 5, (some FieldType.long))
theorem ok_X4_weightOfSort : OkV mX4_weightOfSort 1 := ⟨⟨tw_365, tw_4, by decide, by decide, by decide +kernel⟩, tw_363, tw_364⟩
abbrev mX4_weightBlaming : MX := (⟨"BrokeWhere$Stories", "weightBlaming", "(I)J"⟩, prog_6_method_9_code, 6, (some FieldType.long))
theorem ok_X4_weightBlaming : OkV mX4_weightBlaming 1 := ⟨⟨tw_377, tw_4, by decide, by decide, by decide +kernel⟩, tw_375, tw_376⟩
abbrev mX4_hopeWeight : MX := (⟨"BrokeWhere$Stories", "hopeWeight", "(I)J"⟩, prog_6_method_10_code, 8, (some FieldType.long))
theorem ok_X4_hopeWeight : OkV mX4_hopeWeight 1 := ⟨⟨tw_398, tw_4, by decide, by decide, by decide +kernel⟩, tw_396, tw_397⟩
abbrev mX4_gap : MX := (⟨"BrokeWhere$Stories", "gap", "(I)J"⟩, prog_6_method_11_code, 5, (some FieldType.long))
theorem ok_X4_gap : OkV mX4_gap 1 := ⟨⟨tw_413, tw_4, by decide, by decide, by decide +kernel⟩, tw_411, tw_412⟩
abbrev mX4_nextVersion : MX := (⟨"BrokeWhere$Stories", "nextVersion", "(I)I"⟩, prog_6_method_12_code, 9, (some FieldType.int))
theorem ok_X4_nextVersion : OkV mX4_nextVersion 1 := ⟨⟨tw_408, tw_4, by decide, by decide, by decide +kernel⟩, tw_406, tw_407⟩
abbrev mX4_guessIsBelow : MX := (⟨"BrokeWhere$Stories", "guessIsBelow", "(I)Z"⟩, prog_6_method_13_code, 2, (some FieldType.boolean))
theorem ok_X4_guessIsBelow : OkV mX4_guessIsBelow 1 := ⟨⟨tw_563, tw_4, by decide, by decide, by decide +kernel⟩, tw_561, tw_562⟩
abbrev mX5_add : MX := (⟨"BrokeWhere$Text", "add", "(I)I"⟩, prog_7_method_2_code, 2, (some FieldType.int))
theorem ok_X5_add : OkV mX5_add 1 := ⟨⟨tw_493, tw_6, by decide, by decide, by decide +kernel⟩, tw_491, tw_492⟩
abbrev mX5_textsOf : MX := (⟨"BrokeWhere$Text", "textsOf", "(I)I"⟩, prog_7_method_3_code, 1, (some FieldType.int))
theorem ok_X5_textsOf : OkS mX5_textsOf 1 := ⟨⟨tw_508, tw_6, by decide, by decide, by decide +kernel⟩, tw_507⟩
abbrev mX5_firstFault : MX := (⟨"BrokeWhere$Text", "firstFault", "()I"⟩, prog_7_method_4_code, 6, (some FieldType.int))
theorem ok_X5_firstFault : OkV mX5_firstFault 0 := ⟨⟨tw_505, tw_6, by decide, by decide, by decide +kernel⟩, tw_503, tw_504⟩
abbrev mX6_take : MX := (⟨"BrokeWhere$Truth", "take", "(LBrokeWhere$Text;)V"⟩, prog_8_method_2_code, 3, none)
theorem ok_X6_take : OkV mX6_take 1 := ⟨⟨tw_516, tw_7, by decide, by decide, by decide +kernel⟩, tw_514, tw_515⟩
abbrev mX6_valueOf : MX := (⟨"BrokeWhere$Truth", "valueOf", "(LBrokeWhere$Text;I)J"⟩, prog_8_method_3_code, 11, (some FieldType.long))
theorem ok_X6_valueOf : OkV mX6_valueOf 2 := ⟨⟨tw_520, tw_7, by decide, by decide, by decide +kernel⟩, tw_519, ts_9⟩
abbrev mX7_version : MX := (⟨"BrokeWhere", "version", "(III)I"⟩, prog_1_method_2_code, 4, (some FieldType.int))
theorem ok_X7_version : OkV mX7_version 3 := ⟨⟨tw_231, tw_1, by decide, by decide, by decide +kernel⟩, tw_229, tw_230⟩
abbrev mX7_has : MX := (⟨"BrokeWhere", "has", "(I)I"⟩, prog_1_method_3_code, 2, (some FieldType.int))
theorem ok_X7_has : OkV mX7_has 1 := ⟨⟨tw_257, tw_1, by decide, by decide, by decide +kernel⟩, tw_255, tw_256⟩
abbrev mX7_set : MX := (⟨"BrokeWhere", "set", "(III)I"⟩, prog_1_method_4_code, 4, (some FieldType.int))
theorem ok_X7_set : OkV mX7_set 3 := ⟨⟨tw_262, tw_1, by decide, by decide, by decide +kernel⟩, tw_260, tw_261⟩
abbrev mX7_trust : MX := (⟨"BrokeWhere", "trust", "(II)I"⟩, prog_1_method_5_code, 3, (some FieldType.int))
theorem ok_X7_trust : OkV mX7_trust 2 := ⟨⟨tw_282, tw_1, by decide, by decide, by decide +kernel⟩, tw_280, tw_281⟩
abbrev mX7_test : MX := (⟨"BrokeWhere", "test", "(IZ)I"⟩, prog_1_method_6_code, 3, (some FieldType.int))
theorem ok_X7_test : OkV mX7_test 2 := ⟨⟨tw_286, tw_1, by decide, by decide, by decide +kernel⟩, tw_284, tw_285⟩
abbrev mX7_tested : MX := (⟨"BrokeWhere", "tested", "(II)I"⟩, prog_1_method_7_code, 3, (some FieldType.int))
theorem ok_X7_tested : OkV mX7_tested 2 := ⟨⟨tw_298, tw_1, by decide, by decide, by decide +kernel⟩, tw_296, tw_297⟩
abbrev mX7_untest : MX := (⟨"BrokeWhere", "untest", "()I"⟩, prog_1_method_8_code, 1, (some FieldType.int))
theorem ok_X7_untest : OkV mX7_untest 0 := ⟨⟨tw_305, tw_1, by decide, by decide, by decide +kernel⟩, tw_303, tw_304⟩
abbrev mX7_weight : MX := (⟨"BrokeWhere", "weight", "(III)J"⟩, prog_1_method_9_code, 5, (some FieldType.long))
theorem ok_X7_weight : OkV mX7_weight 3 := ⟨⟨tw_309, tw_1, by decide, by decide, by decide +kernel⟩, tw_307, tw_308⟩
abbrev mX7_odds : MX := (⟨"BrokeWhere", "odds", "(IIII)J"⟩, prog_1_method_10_code, 6, (some FieldType.long))
theorem ok_X7_odds : OkV mX7_odds 4 := ⟨⟨tw_331, tw_1, by decide, by decide, by decide +kernel⟩, tw_329, tw_330⟩
abbrev mX7_sorts : MX := (⟨"BrokeWhere", "sorts", "(II)J"⟩, prog_1_method_11_code, 3, (some FieldType.long))
theorem ok_X7_sorts : OkV mX7_sorts 2 := ⟨⟨tw_361, tw_1, by decide, by decide, by decide +kernel⟩, tw_359, tw_360⟩
abbrev mX7_blame : MX := (⟨"BrokeWhere", "blame", "(II)J"⟩, prog_1_method_12_code, 3, (some FieldType.long))
theorem ok_X7_blame : OkV mX7_blame 2 := ⟨⟨tw_372, tw_1, by decide, by decide, by decide +kernel⟩, tw_370, tw_371⟩
abbrev mX7_guess : MX := (⟨"BrokeWhere", "guess", "(I)I"⟩, prog_1_method_13_code, 4, (some FieldType.int))
theorem ok_X7_guess : OkV mX7_guess 1 := ⟨⟨tw_387, tw_1, by decide, by decide, by decide +kernel⟩, tw_385, tw_386⟩
abbrev mX7_hope : MX := (⟨"BrokeWhere", "hope", "(II)J"⟩, prog_1_method_14_code, 3, (some FieldType.long))
theorem ok_X7_hope : OkV mX7_hope 2 := ⟨⟨tw_394, tw_1, by decide, by decide, by decide +kernel⟩, tw_392, tw_393⟩
abbrev mX7_next : MX := (⟨"BrokeWhere", "next", "(I)I"⟩, prog_1_method_15_code, 2, (some FieldType.int))
theorem ok_X7_next : OkV mX7_next 1 := ⟨⟨tw_404, tw_1, by decide, by decide, by decide +kernel⟩, tw_402, tw_403⟩
abbrev mX7_worst : MX := (⟨"BrokeWhere", "worst", "(II)I"⟩, prog_1_method_16_code, 3, (some FieldType.int))
theorem ok_X7_worst : OkV mX7_worst 2 := ⟨⟨tw_422, tw_1, by decide, by decide, by decide +kernel⟩, tw_420, tw_421⟩
abbrev mX7_mean : MX := (⟨"BrokeWhere", "mean", "(II)I"⟩, prog_1_method_17_code, 3, (some FieldType.int))
theorem ok_X7_mean : OkV mX7_mean 2 := ⟨⟨tw_473, tw_1, by decide, by decide, by decide +kernel⟩, tw_471, tw_472⟩
abbrev mX7_twins : MX := (⟨"BrokeWhere", "twins", "(I)I"⟩, prog_1_method_18_code, 2, (some FieldType.int))
theorem ok_X7_twins : OkV mX7_twins 1 := ⟨⟨tw_477, tw_1, by decide, by decide, by decide +kernel⟩, tw_475, tw_476⟩
abbrev mX7_say : MX := (⟨"BrokeWhere", "say", "(I)I"⟩, prog_1_method_19_code, 2, (some FieldType.int))
theorem ok_X7_say : OkV mX7_say 1 := ⟨⟨tw_489, tw_1, by decide, by decide, by decide +kernel⟩, tw_487, tw_488⟩
abbrev mX7_wipe : MX := (⟨"BrokeWhere", "wipe", "()I"⟩, prog_1_method_20_code, 2, (some FieldType.int))
theorem ok_X7_wipe : OkV mX7_wipe 0 := ⟨⟨tw_497, tw_1, by decide, by decide, by decide +kernel⟩, tw_495, tw_496⟩
abbrev mX7_fault : MX := (⟨"BrokeWhere", "fault", "()I"⟩, prog_1_method_21_code, 1, (some FieldType.int))
theorem ok_X7_fault : OkV mX7_fault 0 := ⟨⟨tw_501, tw_1, by decide, by decide, by decide +kernel⟩, tw_499, tw_500⟩
abbrev mX7_truth : MX := (⟨"BrokeWhere", "truth", "()I"⟩, prog_1_method_22_code, 1, (some FieldType.int))
theorem ok_X7_truth : OkV mX7_truth 0 := ⟨⟨tw_512, tw_1, by decide, by decide, by decide +kernel⟩, tw_510, tw_511⟩
abbrev mX7_fails : MX := (⟨"BrokeWhere", "fails", "(II)I"⟩, prog_1_method_23_code, 3, (some FieldType.int))
theorem ok_X7_fails : OkV mX7_fails 2 := ⟨⟨tw_533, tw_1, by decide, by decide, by decide +kernel⟩, tw_531, tw_532⟩
abbrev mX7_play : MX := (⟨"BrokeWhere", "play", "(I)I"⟩, prog_1_method_24_code, 4, (some FieldType.int))
theorem ok_X7_play : OkV mX7_play 1 := ⟨⟨tw_558, tw_1, by decide, by decide, by decide +kernel⟩, tw_556, tw_557⟩
abbrev mX7_out : MX := (⟨"BrokeWhere", "out", "(II)I"⟩, prog_1_method_25_code, 4, (some FieldType.int))
theorem ok_X7_out : OkV mX7_out 2 := ⟨⟨tw_568, tw_1, by decide, by decide, by decide +kernel⟩, tw_566, tw_567⟩
abbrev mX7_core : MX := (⟨"BrokeWhere", "core", "(II)I"⟩, prog_1_method_26_code, 3, (some FieldType.int))
theorem ok_X7_core : OkV mX7_core 2 := ⟨⟨tw_589, tw_1, by decide, by decide, by decide +kernel⟩, tw_587, tw_588⟩
abbrev mX7_told : MX := (⟨"BrokeWhere", "told", "(I)I"⟩, prog_1_method_27_code, 4, (some FieldType.int))
theorem ok_X7_told : OkV mX7_told 1 := ⟨⟨tw_621, tw_1, by decide, by decide, by decide +kernel⟩, tw_619, tw_620⟩
abbrev mX7_forgetPartings : MX := (⟨"BrokeWhere", "forgetPartings", "()V"⟩, prog_1_method_28_code, 1, none)
theorem ok_X7_forgetPartings : OkV mX7_forgetPartings 0 := ⟨⟨tw_246, tw_1, by decide, by decide, by decide +kernel⟩, tw_245, ts_0⟩
abbrev mX7_storyRefusal : MX := (⟨"BrokeWhere", "storyRefusal", "(III)I"⟩, prog_1_method_29_code, 5, (some FieldType.int))
theorem ok_X7_storyRefusal : OkV mX7_storyRefusal 3 := ⟨⟨tw_313, tw_1, by decide, by decide, by decide +kernel⟩, tw_312, ts_1⟩
abbrev mX7_parting : MX := (⟨"BrokeWhere", "parting", "(LBrokeWhere$Partings;II)I"⟩, prog_1_method_30_code, 4, (some FieldType.int))
theorem ok_X7_parting : OkV mX7_parting 3 := ⟨⟨tw_426, tw_1, by decide, by decide, by decide +kernel⟩, tw_425, ts_4⟩
abbrev mX7_isFrom : MX := (⟨"BrokeWhere", "isFrom", "(III)Z"⟩, prog_1_method_31_code, 3, (some FieldType.boolean))
theorem ok_X7_isFrom : OkS mX7_isFrom 3 := ⟨⟨tw_242, tw_1, by decide, by decide, by decide +kernel⟩, tw_241⟩
abbrev mX7_asNumber : MX := (⟨"BrokeWhere", "asNumber", "(Z)I"⟩, prog_1_method_32_code, 1, (some FieldType.int))
theorem ok_X7_asNumber : OkS mX7_asNumber 1 := ⟨⟨tw_301, tw_1, by decide, by decide, by decide +kernel⟩, tw_300⟩
abbrev mX7_isBit : MX := (⟨"BrokeWhere", "isBit", "(II)Z"⟩, prog_1_method_33_code, 2, (some FieldType.boolean))
theorem ok_X7_isBit : OkS mX7_isBit 2 := ⟨⟨tw_253, tw_1, by decide, by decide, by decide +kernel⟩, tw_252⟩
abbrev mX7_swap : MX := (⟨"BrokeWhere", "swap", "([III)I"⟩, prog_1_method_34_code, 4, (some FieldType.int))
theorem ok_X7_swap : OkS mX7_swap 3 := ⟨⟨tw_278, tw_1, by decide, by decide, by decide +kernel⟩, tw_277⟩
abbrev mX7_fraction : MX := (⟨"BrokeWhere", "fraction", "(JJI)J"⟩, prog_1_method_35_code, 5, (some FieldType.long))
theorem ok_X7_fraction : OkS mX7_fraction 3 := ⟨⟨tw_351, tw_1, by decide, by decide, by decide +kernel⟩, tw_350⟩
abbrev mX7_commonDivisor : MX := (⟨"BrokeWhere", "commonDivisor", "(JJ)J"⟩, prog_1_method_36_code, 7, (some FieldType.long))
theorem ok_X7_commonDivisor : OkS mX7_commonDivisor 2 := ⟨⟨tw_354, tw_1, by decide, by decide, by decide +kernel⟩, tw_353⟩
abbrev mX7_storyAt : MX := (⟨"BrokeWhere", "storyAt", "(III)I"⟩, prog_1_method_37_code, 3, (some FieldType.int))
theorem ok_X7_storyAt : OkS mX7_storyAt 3 := ⟨⟨tw_348, tw_1, by decide, by decide, by decide +kernel⟩, tw_347⟩
abbrev mX7_sortAt : MX := (⟨"BrokeWhere", "sortAt", "(I)I"⟩, prog_1_method_38_code, 1, (some FieldType.int))
theorem ok_X7_sortAt : OkS mX7_sortAt 1 := ⟨⟨tw_368, tw_1, by decide, by decide, by decide +kernel⟩, tw_367⟩
abbrev mX7_firstAt : MX := (⟨"BrokeWhere", "firstAt", "(I)I"⟩, prog_1_method_39_code, 1, (some FieldType.int))
theorem ok_X7_firstAt : OkS mX7_firstAt 1 := ⟨⟨tw_383, tw_1, by decide, by decide, by decide +kernel⟩, tw_382⟩
abbrev mX7_secondAt : MX := (⟨"BrokeWhere", "secondAt", "(I)I"⟩, prog_1_method_40_code, 1, (some FieldType.int))
theorem ok_X7_secondAt : OkS mX7_secondAt 1 := ⟨⟨tw_380, tw_1, by decide, by decide, by decide +kernel⟩, tw_379⟩
abbrev mX7_setsWith : MX := (⟨"BrokeWhere", "setsWith", "(II)J"⟩, prog_1_method_41_code, 2, (some FieldType.long))
theorem ok_X7_setsWith : OkS mX7_setsWith 2 := ⟨⟨tw_524, tw_1, by decide, by decide, by decide +kernel⟩, tw_523⟩
abbrev mX7_setsWithAll : MX := (⟨"BrokeWhere", "setsWithAll", "(II)J"⟩, prog_1_method_42_code, 5, (some FieldType.long))
theorem ok_X7_setsWithAll : OkS mX7_setsWithAll 2 := ⟨⟨tw_546, tw_1, by decide, by decide, by decide +kernel⟩, tw_545⟩
abbrev mX7_setsWithin : MX := (⟨"BrokeWhere", "setsWithin", "(II)J"⟩, prog_1_method_43_code, 5, (some FieldType.long))
theorem ok_X7_setsWithin : OkS mX7_setsWithin 2 := ⟨⟨tw_596, tw_1, by decide, by decide, by decide +kernel⟩, tw_595⟩
abbrev mX7_setsGiven : MX := (⟨"BrokeWhere", "setsGiven", "(I[JI)J"⟩, prog_1_method_44_code, 4, (some FieldType.long))
theorem ok_X7_setsGiven : OkS mX7_setsGiven 3 := ⟨⟨tw_599, tw_1, by decide, by decide, by decide +kernel⟩, tw_598⟩
abbrev mX7_isAmong : MX := (⟨"BrokeWhere", "isAmong", "([JI)Z"⟩, prog_1_method_45_code, 2, (some FieldType.boolean))
theorem ok_X7_isAmong : OkS mX7_isAmong 2 := ⟨⟨tw_553, tw_1, by decide, by decide, by decide +kernel⟩, tw_552⟩
abbrev mX7_isOfWord : MX := (⟨"BrokeWhere", "isOfWord", "(JI)Z"⟩, prog_1_method_46_code, 3, (some FieldType.boolean))
theorem ok_X7_isOfWord : OkS mX7_isOfWord 2 := ⟨⟨tw_550, tw_1, by decide, by decide, by decide +kernel⟩, tw_549⟩
abbrev mX8_in : MX := (⟨"BrokeWhereModel", "in", "(III)Z"⟩, prog_10_method_2_code, 3, (some FieldType.boolean))
theorem ok_X8_in : OkS mX8_in 3 := ⟨⟨tw_723, tw_9, by decide, by decide, by decide +kernel⟩, tw_722⟩
abbrev mX8_isVersion : MX := (⟨"BrokeWhereModel", "isVersion", "(I)Z"⟩, prog_10_method_3_code, 2, (some FieldType.boolean))
theorem ok_X8_isVersion : OkV mX8_isVersion 1 := ⟨⟨tw_720, tw_9, by decide, by decide, by decide +kernel⟩, tw_719, ts_13⟩
abbrev mX8_isPart : MX := (⟨"BrokeWhereModel", "isPart", "(I)Z"⟩, prog_10_method_4_code, 1, (some FieldType.boolean))
theorem ok_X8_isPart : OkS mX8_isPart 1 := ⟨⟨tw_734, tw_9, by decide, by decide, by decide +kernel⟩, tw_733⟩
abbrev mX8_hasBit : MX := (⟨"BrokeWhereModel", "hasBit", "(II)Z"⟩, prog_10_method_5_code, 2, (some FieldType.boolean))
theorem ok_X8_hasBit : OkS mX8_hasBit 2 := ⟨⟨tw_774, tw_9, by decide, by decide, by decide +kernel⟩, tw_773⟩
abbrev mX8_version : MX := (⟨"BrokeWhereModel", "version", "(III)I"⟩, prog_10_method_6_code, 5, (some FieldType.int))
theorem ok_X8_version : OkV mX8_version 3 := ⟨⟨tw_716, tw_9, by decide, by decide, by decide +kernel⟩, tw_714, tw_715⟩
abbrev mX8_has : MX := (⟨"BrokeWhereModel", "has", "(I)I"⟩, prog_10_method_7_code, 2, (some FieldType.int))
theorem ok_X8_has : OkV mX8_has 1 := ⟨⟨tw_727, tw_9, by decide, by decide, by decide +kernel⟩, tw_725, tw_726⟩
abbrev mX8_isTested : MX := (⟨"BrokeWhereModel", "isTested", "(I)Z"⟩, prog_10_method_8_code, 4, (some FieldType.boolean))
theorem ok_X8_isTested : OkV mX8_isTested 1 := ⟨⟨tw_738, tw_9, by decide, by decide, by decide +kernel⟩, tw_737, ts_14⟩
abbrev mX8_set : MX := (⟨"BrokeWhereModel", "set", "(III)I"⟩, prog_10_method_9_code, 6, (some FieldType.int))
theorem ok_X8_set : OkV mX8_set 3 := ⟨⟨tw_731, tw_9, by decide, by decide, by decide +kernel⟩, tw_729, tw_730⟩
abbrev mX8_trust : MX := (⟨"BrokeWhereModel", "trust", "(II)I"⟩, prog_10_method_10_code, 4, (some FieldType.int))
theorem ok_X8_trust : OkV mX8_trust 2 := ⟨⟨tw_742, tw_9, by decide, by decide, by decide +kernel⟩, tw_740, tw_741⟩
abbrev mX8_test : MX := (⟨"BrokeWhereModel", "test", "(IZ)I"⟩, prog_10_method_11_code, 3, (some FieldType.int))
theorem ok_X8_test : OkV mX8_test 2 := ⟨⟨tw_746, tw_9, by decide, by decide, by decide +kernel⟩, tw_744, tw_745⟩
abbrev mX8_tested : MX := (⟨"BrokeWhereModel", "tested", "(II)I"⟩, prog_10_method_12_code, 3, (some FieldType.int))
theorem ok_X8_tested : OkV mX8_tested 2 := ⟨⟨tw_750, tw_9, by decide, by decide, by decide +kernel⟩, tw_748, tw_749⟩
abbrev mX8_untest : MX := (⟨"BrokeWhereModel", "untest", "()I"⟩, prog_10_method_13_code, 1, (some FieldType.int))
theorem ok_X8_untest : OkV mX8_untest 0 := ⟨⟨tw_754, tw_9, by decide, by decide, by decide +kernel⟩, tw_752, tw_753⟩
abbrev mX8_shouldFail : MX := (⟨"BrokeWhereModel", "shouldFail", "(IIII)Z"⟩, prog_10_method_14_code, 7, (some FieldType.boolean))
theorem ok_X8_shouldFail : OkV mX8_shouldFail 4 := ⟨⟨tw_771, tw_9, by decide, by decide, by decide +kernel⟩, tw_770, ts_17⟩
abbrev mX8_tenths : MX := (⟨"BrokeWhereModel", "tenths", "(ZZ)I"⟩, prog_10_method_15_code, 4, (some FieldType.int))
theorem ok_X8_tenths : OkV mX8_tenths 2 := ⟨⟨tw_778, tw_9, by decide, by decide, by decide +kernel⟩, tw_777, ts_18⟩
abbrev mX8_weightOf : MX := (⟨"BrokeWhereModel", "weightOf", "(III)J"⟩, prog_10_method_16_code, 7, (some FieldType.long))
theorem ok_X8_weightOf : OkV mX8_weightOf 3 := ⟨⟨tw_767, tw_9, by decide, by decide, by decide +kernel⟩, tw_766, ts_16⟩
abbrev mX8_add : MX := (⟨"BrokeWhereModel", "add", "(III)V"⟩, prog_10_method_17_code, 4, none)
theorem ok_X8_add : OkV mX8_add 3 := ⟨⟨tw_791, tw_9, by decide, by decide, by decide +kernel⟩, tw_790, ts_20⟩
abbrev mX8_layStories : MX := (⟨"BrokeWhereModel", "layStories", "()V"⟩, prog_10_method_18_code, 4, none)
theorem ok_X8_layStories : OkV mX8_layStories 0 := ⟨⟨tw_787, tw_9, by decide, by decide, by decide +kernel⟩, tw_786, ts_19⟩
abbrev mX8_isStory : MX := (⟨"BrokeWhereModel", "isStory", "(III)Z"⟩, prog_10_method_19_code, 4, (some FieldType.boolean))
theorem ok_X8_isStory : OkV mX8_isStory 3 := ⟨⟨tw_763, tw_9, by decide, by decide, by decide +kernel⟩, tw_762, ts_15⟩
abbrev mX8_weight : MX := (⟨"BrokeWhereModel", "weight", "(III)J"⟩, prog_10_method_20_code, 4, (some FieldType.long))
theorem ok_X8_weight : OkV mX8_weight 3 := ⟨⟨tw_758, tw_9, by decide, by decide, by decide +kernel⟩, tw_756, tw_757⟩
abbrev mX8_term : MX := (⟨"BrokeWhereModel", "term", "(JJI)J"⟩, prog_10_method_21_code, 11, (some FieldType.long))
theorem ok_X8_term : OkS mX8_term 3 := ⟨⟨tw_794, tw_9, by decide, by decide, by decide +kernel⟩, tw_793⟩
abbrev mX8_odds : MX := (⟨"BrokeWhereModel", "odds", "(IIII)J"⟩, prog_10_method_22_code, 5, (some FieldType.long))
theorem ok_X8_odds : OkV mX8_odds 4 := ⟨⟨tw_783, tw_9, by decide, by decide, by decide +kernel⟩, tw_781, tw_782⟩
abbrev mX8_sorts : MX := (⟨"BrokeWhereModel", "sorts", "(II)J"⟩, prog_10_method_23_code, 6, (some FieldType.long))
theorem ok_X8_sorts : OkV mX8_sorts 2 := ⟨⟨tw_798, tw_9, by decide, by decide, by decide +kernel⟩, tw_796, tw_797⟩
abbrev mX8_blame : MX := (⟨"BrokeWhereModel", "blame", "(II)J"⟩, prog_10_method_24_code, 6, (some FieldType.long))
theorem ok_X8_blame : OkV mX8_blame 2 := ⟨⟨tw_802, tw_9, by decide, by decide, by decide +kernel⟩, tw_800, tw_801⟩
abbrev mX8_guessOf : MX := (⟨"BrokeWhereModel", "guessOf", "()I"⟩, prog_10_method_25_code, 3, (some FieldType.int))
theorem ok_X8_guessOf : OkV mX8_guessOf 0 := ⟨⟨tw_810, tw_9, by decide, by decide, by decide +kernel⟩, tw_809, ts_21⟩
abbrev mX8_guess : MX := (⟨"BrokeWhereModel", "guess", "(I)I"⟩, prog_10_method_26_code, 3, (some FieldType.int))
theorem ok_X8_guess : OkV mX8_guess 1 := ⟨⟨tw_806, tw_9, by decide, by decide, by decide +kernel⟩, tw_804, tw_805⟩
abbrev mX8_canTest : MX := (⟨"BrokeWhereModel", "canTest", "(I)Z"⟩, prog_10_method_27_code, 2, (some FieldType.boolean))
theorem ok_X8_canTest : OkV mX8_canTest 1 := ⟨⟨tw_818, tw_9, by decide, by decide, by decide +kernel⟩, tw_817, ts_22⟩
abbrev mX8_hopeOf : MX := (⟨"BrokeWhereModel", "hopeOf", "(I)J"⟩, prog_10_method_28_code, 12, (some FieldType.long))
theorem ok_X8_hopeOf : OkV mX8_hopeOf 1 := ⟨⟨tw_822, tw_9, by decide, by decide, by decide +kernel⟩, tw_821, ts_23⟩
abbrev mX8_hope : MX := (⟨"BrokeWhereModel", "hope", "(II)J"⟩, prog_10_method_29_code, 3, (some FieldType.long))
theorem ok_X8_hope : OkV mX8_hope 2 := ⟨⟨tw_814, tw_9, by decide, by decide, by decide +kernel⟩, tw_812, tw_813⟩
abbrev mX8_badness : MX := (⟨"BrokeWhereModel", "badness", "(II)J"⟩, prog_10_method_30_code, 6, (some FieldType.long))
theorem ok_X8_badness : OkV mX8_badness 2 := ⟨⟨tw_835, tw_9, by decide, by decide, by decide +kernel⟩, tw_834, ts_25⟩
abbrev mX8_nextOf : MX := (⟨"BrokeWhereModel", "nextOf", "(I)I"⟩, prog_10_method_31_code, 8, (some FieldType.int))
theorem ok_X8_nextOf : OkV mX8_nextOf 1 := ⟨⟨tw_831, tw_9, by decide, by decide, by decide +kernel⟩, tw_830, ts_24⟩
abbrev mX8_next : MX := (⟨"BrokeWhereModel", "next", "(I)I"⟩, prog_10_method_32_code, 2, (some FieldType.int))
theorem ok_X8_next : OkV mX8_next 1 := ⟨⟨tw_827, tw_9, by decide, by decide, by decide +kernel⟩, tw_825, tw_826⟩
abbrev mX8_laySet : MX := (⟨"BrokeWhereModel", "laySet", "(I)V"⟩, prog_10_method_33_code, 8, none)
theorem ok_X8_laySet : OkV mX8_laySet 1 := ⟨⟨tw_851, tw_9, by decide, by decide, by decide +kernel⟩, tw_850, ts_28⟩
abbrev mX8_lay : MX := (⟨"BrokeWhereModel", "lay", "()V"⟩, prog_10_method_34_code, 2, none)
theorem ok_X8_lay : OkV mX8_lay 0 := ⟨⟨tw_847, tw_9, by decide, by decide, by decide +kernel⟩, tw_846, ts_27⟩
abbrev mX8_isSet : MX := (⟨"BrokeWhereModel", "isSet", "(I)Z"⟩, prog_10_method_35_code, 2, (some FieldType.boolean))
theorem ok_X8_isSet : OkV mX8_isSet 1 := ⟨⟨tw_843, tw_9, by decide, by decide, by decide +kernel⟩, tw_842, ts_26⟩
abbrev mX8_worst : MX := (⟨"BrokeWhereModel", "worst", "(II)I"⟩, prog_10_method_36_code, 3, (some FieldType.int))
theorem ok_X8_worst : OkV mX8_worst 2 := ⟨⟨tw_839, tw_9, by decide, by decide, by decide +kernel⟩, tw_837, tw_838⟩
abbrev mX8_mean : MX := (⟨"BrokeWhereModel", "mean", "(II)I"⟩, prog_10_method_37_code, 3, (some FieldType.int))
theorem ok_X8_mean : OkV mX8_mean 2 := ⟨⟨tw_855, tw_9, by decide, by decide, by decide +kernel⟩, tw_853, tw_854⟩
abbrev mX8_twins : MX := (⟨"BrokeWhereModel", "twins", "(I)I"⟩, prog_10_method_38_code, 4, (some FieldType.int))
theorem ok_X8_twins : OkV mX8_twins 1 := ⟨⟨tw_859, tw_9, by decide, by decide, by decide +kernel⟩, tw_857, tw_858⟩
abbrev mX8_say : MX := (⟨"BrokeWhereModel", "say", "(I)I"⟩, prog_10_method_39_code, 2, (some FieldType.int))
theorem ok_X8_say : OkV mX8_say 1 := ⟨⟨tw_863, tw_9, by decide, by decide, by decide +kernel⟩, tw_861, tw_862⟩
abbrev mX8_wipe : MX := (⟨"BrokeWhereModel", "wipe", "()I"⟩, prog_10_method_40_code, 2, (some FieldType.int))
theorem ok_X8_wipe : OkV mX8_wipe 0 := ⟨⟨tw_867, tw_9, by decide, by decide, by decide +kernel⟩, tw_865, tw_866⟩
abbrev mX8_faultOf : MX := (⟨"BrokeWhereModel", "faultOf", "()I"⟩, prog_10_method_41_code, 6, (some FieldType.int))
theorem ok_X8_faultOf : OkV mX8_faultOf 0 := ⟨⟨tw_875, tw_9, by decide, by decide, by decide +kernel⟩, tw_874, ts_29⟩
abbrev mX8_fault : MX := (⟨"BrokeWhereModel", "fault", "()I"⟩, prog_10_method_42_code, 1, (some FieldType.int))
theorem ok_X8_fault : OkV mX8_fault 0 := ⟨⟨tw_871, tw_9, by decide, by decide, by decide +kernel⟩, tw_869, tw_870⟩
abbrev mX8_truth : MX := (⟨"BrokeWhereModel", "truth", "()I"⟩, prog_10_method_43_code, 2, (some FieldType.int))
theorem ok_X8_truth : OkV mX8_truth 0 := ⟨⟨tw_879, tw_9, by decide, by decide, by decide +kernel⟩, tw_877, tw_878⟩
abbrev mX8_failsOf : MX := (⟨"BrokeWhereModel", "failsOf", "(I)Z"⟩, prog_10_method_44_code, 5, (some FieldType.boolean))
theorem ok_X8_failsOf : OkV mX8_failsOf 1 := ⟨⟨tw_891, tw_9, by decide, by decide, by decide +kernel⟩, tw_890, ts_31⟩
abbrev mX8_isSound : MX := (⟨"BrokeWhereModel", "isSound", "(I)Z"⟩, prog_10_method_45_code, 4, (some FieldType.boolean))
theorem ok_X8_isSound : OkV mX8_isSound 1 := ⟨⟨tw_887, tw_9, by decide, by decide, by decide +kernel⟩, tw_886, ts_30⟩
abbrev mX8_fails : MX := (⟨"BrokeWhereModel", "fails", "(II)I"⟩, prog_10_method_46_code, 3, (some FieldType.int))
theorem ok_X8_fails : OkV mX8_fails 2 := ⟨⟨tw_883, tw_9, by decide, by decide, by decide +kernel⟩, tw_881, tw_882⟩
abbrev mX8_play : MX := (⟨"BrokeWhereModel", "play", "(I)I"⟩, prog_10_method_47_code, 4, (some FieldType.int))
theorem ok_X8_play : OkV mX8_play 1 := ⟨⟨tw_895, tw_9, by decide, by decide, by decide +kernel⟩, tw_893, tw_894⟩
abbrev mX8_isSure : MX := (⟨"BrokeWhereModel", "isSure", "(I)Z"⟩, prog_10_method_48_code, 3, (some FieldType.boolean))
theorem ok_X8_isSure : OkV mX8_isSure 1 := ⟨⟨tw_899, tw_9, by decide, by decide, by decide +kernel⟩, tw_898, ts_32⟩
abbrev mX8_bits : MX := (⟨"BrokeWhereModel", "bits", "(I)I"⟩, prog_10_method_49_code, 3, (some FieldType.int))
theorem ok_X8_bits : OkS mX8_bits 1 := ⟨⟨tw_906, tw_9, by decide, by decide, by decide +kernel⟩, tw_905⟩
abbrev mX8_sizes : MX := (⟨"BrokeWhereModel", "sizes", "(I)I"⟩, prog_10_method_50_code, 4, (some FieldType.int))
theorem ok_X8_sizes : OkV mX8_sizes 1 := ⟨⟨tw_910, tw_9, by decide, by decide, by decide +kernel⟩, tw_909, ts_33⟩
abbrev mX8_out : MX := (⟨"BrokeWhereModel", "out", "(II)I"⟩, prog_10_method_51_code, 7, (some FieldType.int))
theorem ok_X8_out : OkV mX8_out 2 := ⟨⟨tw_903, tw_9, by decide, by decide, by decide +kernel⟩, tw_901, tw_902⟩
abbrev mX8_core : MX := (⟨"BrokeWhereModel", "core", "(II)I"⟩, prog_10_method_52_code, 8, (some FieldType.int))
theorem ok_X8_core : OkV mX8_core 2 := ⟨⟨tw_914, tw_9, by decide, by decide, by decide +kernel⟩, tw_912, tw_913⟩
abbrev mX8_told : MX := (⟨"BrokeWhereModel", "told", "(I)I"⟩, prog_10_method_53_code, 4, (some FieldType.int))
theorem ok_X8_told : OkV mX8_told 1 := ⟨⟨tw_918, tw_9, by decide, by decide, by decide +kernel⟩, tw_916, tw_917⟩
abbrev mJ6_bitCount_0f7a4 : MX := (⟨"java/lang/Integer", "bitCount", "(I)I"⟩, prog_11_method_49_code, 1, (some FieldType.int))
theorem ok_J6_bitCount_0f7a4 : OkS mJ6_bitCount_0f7a4 1 := ⟨⟨tw_580, tw_12, by decide, by decide, by decide +kernel⟩, tw_579⟩
abbrev mJ13_bitCount_95d88 : MX := (⟨"java/lang/Long", "bitCount", "(J)I"⟩, prog_12_method_50_code, 2, (some FieldType.int))
theorem ok_J13_bitCount_95d88 : OkS mJ13_bitCount_95d88 1 := ⟨⟨tw_606, tw_13, by decide, by decide, by decide +kernel⟩, tw_605⟩
abbrev mJ9_abs_067f4 : MX := (⟨"java/lang/Math", "abs", "(J)J"⟩, prog_13_method_61_code, 2, (some FieldType.long))
theorem ok_J9_abs_067f4 : OkS mJ9_abs_067f4 1 := ⟨⟨tw_417, tw_10, by decide, by decide, by decide +kernel⟩, tw_416⟩
abbrev mJ9_max_7cf53 : MX := (⟨"java/lang/Math", "max", "(II)I"⟩, prog_13_method_65_code, 2, (some FieldType.int))
theorem ok_J9_max_7cf53 : OkS mJ9_max_7cf53 2 := ⟨⟨tw_462, tw_10, by decide, by decide, by decide +kernel⟩, tw_461⟩
abbrev mJ9_max_f86c9 : MX := (⟨"java/lang/Math", "max", "(JJ)J"⟩, prog_13_method_66_code, 4, (some FieldType.long))
theorem ok_J9_max_f86c9 : OkS mJ9_max_f86c9 2 := ⟨⟨tw_357, tw_10, by decide, by decide, by decide +kernel⟩, tw_356⟩
abbrev mJ9_min_7cf53 : MX := (⟨"java/lang/Math", "min", "(II)I"⟩, prog_13_method_69_code, 2, (some FieldType.int))
theorem ok_J9_min_7cf53 : OkS mJ9_min_7cf53 2 := ⟨⟨tw_465, tw_10, by decide, by decide, by decide +kernel⟩, tw_464⟩
abbrev mJ7_fill_53178 : MX := (⟨"java/util/Arrays", "fill", "([II)V"⟩, prog_14_method_103_code, 4, none)
theorem ok_J7_fill_53178 : OkS mJ7_fill_53178 2 := ⟨⟨tw_441, tw_11, by decide, by decide, by decide +kernel⟩, tw_440⟩
theorem ob_0 (G : GX) : ObjAt G 0 "BrokeWhere" := fun S => ⟨_, _, _, _, rfl, rfl⟩
theorem ob_1 (G : GX) : ObjAt G 1 "BrokeWhere$History" := fun S => ⟨_, _, _, _, rfl, rfl⟩
theorem ob_2 (G : GX) : ObjAt G 2 "BrokeWhere$Log" := fun S => ⟨_, _, _, _, rfl, rfl⟩
theorem ob_3 (G : GX) : ObjAt G 3 "BrokeWhere$Stories" := fun S => ⟨_, _, _, _, rfl, rfl⟩
theorem ob_4 (G : GX) : ObjAt G 4 "BrokeWhere$Partings" := fun S => ⟨_, _, _, _, rfl, rfl⟩
theorem ob_5 (G : GX) : ObjAt G 5 "BrokeWhere$Partings" := fun S => ⟨_, _, _, _, rfl, rfl⟩
theorem ob_6 (G : GX) : ObjAt G 6 "BrokeWhere$Text" := fun S => ⟨_, _, _, _, rfl, rfl⟩
theorem ob_7 (G : GX) : ObjAt G 7 "BrokeWhere$Truth" := fun S => ⟨_, _, _, _, rfl, rfl⟩
theorem ob_8 (G : GX) : ObjAt G 8 "BrokeWhere$Families" := fun S => ⟨_, _, _, _, rfl, rfl⟩
theorem ob_29 (G : GX) : ObjAt G 29 "BrokeWhereModel" := fun S => ⟨_, _, _, _, rfl, rfl⟩
theorem nl_24 : Cond.methodLinkNest "BrokeWhere" 11 ⟨"BrokeWhere$History", "<init>", "()V"⟩ "BrokeWhere" ∈ NL := NL_of 24 (by decide +kernel) rfl
theorem nl_64 : Cond.methodLinkNest "BrokeWhere" 18 ⟨"BrokeWhere$Log", "<init>", "()V"⟩ "BrokeWhere" ∈ NL := NL_of 64 (by decide +kernel) rfl
theorem nl_148 : Cond.methodLinkNest "BrokeWhere" 46 ⟨"BrokeWhere$Text", "<init>", "()V"⟩ "BrokeWhere" ∈ NL := NL_of 148 (by decide +kernel) rfl
theorem nl_167 : Cond.methodLinkNest "BrokeWhere" 53 ⟨"BrokeWhere$Truth", "<init>", "()V"⟩ "BrokeWhere" ∈ NL := NL_of 167 (by decide +kernel) rfl
theorem nl_251 : Cond.methodLinkNest "BrokeWhere$History" 38 ⟨"BrokeWhere", "isBit", "(II)Z"⟩ "BrokeWhere" ∈ NL := NL_of 251 (by decide +kernel) rfl
theorem nl_267 : Cond.methodLinkNest "BrokeWhere$History" 42 ⟨"BrokeWhere", "isFrom", "(III)Z"⟩ "BrokeWhere" ∈ NL := NL_of 267 (by decide +kernel) rfl
theorem nl_322 : Cond.methodLinkNest "BrokeWhere$Stories" 54 ⟨"BrokeWhere", "isBit", "(II)Z"⟩ "BrokeWhere" ∈ NL := NL_of 322 (by decide +kernel) rfl
theorem nl_346 : Cond.methodLinkNest "BrokeWhere$Stories" 90 ⟨"BrokeWhere", "storyAt", "(III)I"⟩ "BrokeWhere" ∈ NL := NL_of 346 (by decide +kernel) rfl
theorem nl_366 : Cond.methodLinkNest "BrokeWhere$Stories" 93 ⟨"BrokeWhere", "sortAt", "(I)I"⟩ "BrokeWhere" ∈ NL := NL_of 366 (by decide +kernel) rfl
theorem nl_378 : Cond.methodLinkNest "BrokeWhere$Stories" 97 ⟨"BrokeWhere", "secondAt", "(I)I"⟩ "BrokeWhere" ∈ NL := NL_of 378 (by decide +kernel) rfl
theorem nl_381 : Cond.methodLinkNest "BrokeWhere$Stories" 100 ⟨"BrokeWhere", "firstAt", "(I)I"⟩ "BrokeWhere" ∈ NL := NL_of 381 (by decide +kernel) rfl
theorem nl_446 : Cond.methodLinkNest "BrokeWhere$Partings" 60 ⟨"BrokeWhere", "isFrom", "(III)Z"⟩ "BrokeWhere" ∈ NL := NL_of 446 (by decide +kernel) rfl
theorem nl_522 : Cond.methodLinkNest "BrokeWhere$Truth" 37 ⟨"BrokeWhere", "setsWith", "(II)J"⟩ "BrokeWhere" ∈ NL := NL_of 522 (by decide +kernel) rfl
theorem nl_543 : Cond.methodLinkNest "BrokeWhere$Families" 38 ⟨"BrokeWhere", "setsWith", "(II)J"⟩ "BrokeWhere" ∈ NL := NL_of 543 (by decide +kernel) rfl
theorem nl_544 : Cond.methodLinkNest "BrokeWhere$Families" 42 ⟨"BrokeWhere", "setsWithAll", "(II)J"⟩ "BrokeWhere" ∈ NL := NL_of 544 (by decide +kernel) rfl
theorem nl_548 : Cond.methodLinkNest "BrokeWhere$Families" 49 ⟨"BrokeWhere", "isOfWord", "(JI)Z"⟩ "BrokeWhere" ∈ NL := NL_of 548 (by decide +kernel) rfl
theorem nl_573 : Cond.methodLinkNest "BrokeWhere$Families" 58 ⟨"BrokeWhere", "isAmong", "([JI)Z"⟩ "BrokeWhere" ∈ NL := NL_of 573 (by decide +kernel) rfl
theorem nl_594 : Cond.methodLinkNest "BrokeWhere$Families" 75 ⟨"BrokeWhere", "setsWithin", "(II)J"⟩ "BrokeWhere" ∈ NL := NL_of 594 (by decide +kernel) rfl
theorem nl_597 : Cond.methodLinkNest "BrokeWhere$Families" 78 ⟨"BrokeWhere", "setsGiven", "(I[JI)J"⟩ "BrokeWhere" ∈ NL := NL_of 597 (by decide +kernel) rfl
theorem V_S {P : PX} {pc : Nat} {lv : LV} {st0 : List Value} {S S2 : ST} (h : S = S2) (k : V P pc lv st0 S2) : V P pc lv st0 S := h ▸ k
theorem V_topi {P : PX} {pc : Nat} {lv : LV} {r : List Value} {S : ST} {x v : Int32} (h : x = v) (k : V P pc lv (.int v :: r) S) : V P pc lv (.int x :: r) S := h ▸ k
theorem V_topl {P : PX} {pc : Nat} {lv : LV} {r : List Value} {S : ST} {x v : Int64} (h : x = v) (k : V P pc lv (.long v :: r) S) : V P pc lv (.long x :: r) S := h ▸ k
def b2i (b : Bool) : Int32 := if b then 1 else 0
theorem b2i_nar (b : Bool) : b2i b &&& 1 = b2i b := by cases b <;> rfl
theorem b2i_0 {b : Bool} : b2i b = 0 ↔ b = false := by cases b <;> decide
theorem b2i_1 {b : Bool} : b2i b = 1 ↔ b = true := by cases b <;> decide
theorem b2i_t {b : Bool} (h : b = true) : b2i b = 1 := by rw [h]; rfl
theorem b2i_f {b : Bool} (h : b = false) : b2i b = 0 := by rw [h]; rfl
theorem vpz (b : Bool) : vp_nar .boolean (b2i b) = b2i b := by cases b <;> rfl
theorem vpz0 : vp_nar .boolean 0 = 0 := rfl
theorem vpz1 : vp_nar .boolean 1 = 1 := rfl
theorem V_ifb_eq {P : PX} {pc : Nat} {lv : LV} {r : List Value} {S : ST} {b : Bool} {off : Int} (tgt : Nat) (hd : decode P.2.2.2.2.2.2.1 pc = .ok (.ifCond .eq off, 3)) (ht : (pc : Int) + off = (tgt : Int)) (kt : b = false → V P tgt lv r S) (kf : b = true → V P (pc + 3) lv r S) : V P pc lv (.int (b2i b) :: r) S := V_if_eq tgt hd ht (fun h => kt (b2i_0.mp h)) (fun h => kf (by cases b with | false => exact absurd rfl h | true => rfl))
theorem V_ifb_ne {P : PX} {pc : Nat} {lv : LV} {r : List Value} {S : ST} {b : Bool} {off : Int} (tgt : Nat) (hd : decode P.2.2.2.2.2.2.1 pc = .ok (.ifCond .ne off, 3)) (ht : (pc : Int) + off = (tgt : Int)) (kt : b = true → V P tgt lv r S) (kf : b = false → V P (pc + 3) lv r S) : V P pc lv (.int (b2i b) :: r) S := V_if_ne tgt hd ht (fun h => kt (by cases b with | false => exact absurd rfl h | true => rfl)) (fun h => kf (by cases b with | false => rfl | true => exact absurd h (by decide)))
theorem mR {d : Nat} {r : List Value} (h : (r.map fun v => v.category).sum ≤ 25) : 1 ≤ (rm (d + 1)).frames ∧ (r.map fun v => v.category).sum + 15 ≤ (rm (d + 1)).locals ∧ (0 : Nat) ≤ (rm (d + 1)).cells ∧ (0 : Nat) ≤ (rm (d + 1)).slots := ⟨Nat.succ_le_succ (Nat.zero_le _), by show _ ≤ 40 * (d + 1); omega, Nat.le_refl _, Nat.le_refl _⟩
theorem V_icmp_eqn {P : PX} {pc : Nat} {lv : LV} {r : List Value} {S : ST} {a b : Nat} {off : Int} (tgt : Nat) (hd : decode P.2.2.2.2.2.2.1 pc = .ok (.if_icmp .eq off, 3)) (ht : (pc : Int) + off = (tgt : Int)) (ha : a < 2 ^ 31) (hb : b < 2 ^ 31) (kt : a = b → V P tgt lv r S) (kf : a ≠ b → V P (pc + 3) lv r S) : V P pc lv (.int (nI b) :: .int (nI a) :: r) S := V_icmp_eq tgt hd ht (fun h => kt (by have e1 := @nI_eq a b ha hb; have e2 := @nI_leI a b ha hb; have e3 := @nI_leI b a hb ha; have e4 := @nI_ltI a b ha hb; have e5 := @nI_ltI b a hb ha; simp only [e1, e2, e3, e4, e5, ne_eq] at h ⊢; omega)) (fun h => kf (by have e1 := @nI_eq a b ha hb; have e2 := @nI_leI a b ha hb; have e3 := @nI_leI b a hb ha; have e4 := @nI_ltI a b ha hb; have e5 := @nI_ltI b a hb ha; simp only [e1, e2, e3, e4, e5, ne_eq] at h ⊢; omega))
theorem V_icmp_nen {P : PX} {pc : Nat} {lv : LV} {r : List Value} {S : ST} {a b : Nat} {off : Int} (tgt : Nat) (hd : decode P.2.2.2.2.2.2.1 pc = .ok (.if_icmp .ne off, 3)) (ht : (pc : Int) + off = (tgt : Int)) (ha : a < 2 ^ 31) (hb : b < 2 ^ 31) (kt : a ≠ b → V P tgt lv r S) (kf : a = b → V P (pc + 3) lv r S) : V P pc lv (.int (nI b) :: .int (nI a) :: r) S := V_icmp_ne tgt hd ht (fun h => kt (by have e1 := @nI_eq a b ha hb; have e2 := @nI_leI a b ha hb; have e3 := @nI_leI b a hb ha; have e4 := @nI_ltI a b ha hb; have e5 := @nI_ltI b a hb ha; simp only [e1, e2, e3, e4, e5, ne_eq] at h ⊢; omega)) (fun h => kf (by have e1 := @nI_eq a b ha hb; have e2 := @nI_leI a b ha hb; have e3 := @nI_leI b a hb ha; have e4 := @nI_ltI a b ha hb; have e5 := @nI_ltI b a hb ha; simp only [e1, e2, e3, e4, e5, ne_eq] at h ⊢; omega))
theorem V_icmp_ltn {P : PX} {pc : Nat} {lv : LV} {r : List Value} {S : ST} {a b : Nat} {off : Int} (tgt : Nat) (hd : decode P.2.2.2.2.2.2.1 pc = .ok (.if_icmp .lt off, 3)) (ht : (pc : Int) + off = (tgt : Int)) (ha : a < 2 ^ 31) (hb : b < 2 ^ 31) (kt : a < b → V P tgt lv r S) (kf : b ≤ a → V P (pc + 3) lv r S) : V P pc lv (.int (nI b) :: .int (nI a) :: r) S := V_icmp_lt tgt hd ht (fun h => kt (by have e1 := @nI_eq a b ha hb; have e2 := @nI_leI a b ha hb; have e3 := @nI_leI b a hb ha; have e4 := @nI_ltI a b ha hb; have e5 := @nI_ltI b a hb ha; simp only [e1, e2, e3, e4, e5, ne_eq] at h ⊢; omega)) (fun h => kf (by have e1 := @nI_eq a b ha hb; have e2 := @nI_leI a b ha hb; have e3 := @nI_leI b a hb ha; have e4 := @nI_ltI a b ha hb; have e5 := @nI_ltI b a hb ha; simp only [e1, e2, e3, e4, e5, ne_eq] at h ⊢; omega))
theorem V_icmp_gen {P : PX} {pc : Nat} {lv : LV} {r : List Value} {S : ST} {a b : Nat} {off : Int} (tgt : Nat) (hd : decode P.2.2.2.2.2.2.1 pc = .ok (.if_icmp .ge off, 3)) (ht : (pc : Int) + off = (tgt : Int)) (ha : a < 2 ^ 31) (hb : b < 2 ^ 31) (kt : b ≤ a → V P tgt lv r S) (kf : a < b → V P (pc + 3) lv r S) : V P pc lv (.int (nI b) :: .int (nI a) :: r) S := V_icmp_ge tgt hd ht (fun h => kt (by have e1 := @nI_eq a b ha hb; have e2 := @nI_leI a b ha hb; have e3 := @nI_leI b a hb ha; have e4 := @nI_ltI a b ha hb; have e5 := @nI_ltI b a hb ha; simp only [e1, e2, e3, e4, e5, ne_eq] at h ⊢; omega)) (fun h => kf (by have e1 := @nI_eq a b ha hb; have e2 := @nI_leI a b ha hb; have e3 := @nI_leI b a hb ha; have e4 := @nI_ltI a b ha hb; have e5 := @nI_ltI b a hb ha; simp only [e1, e2, e3, e4, e5, ne_eq] at h ⊢; omega))
theorem V_icmp_gtn {P : PX} {pc : Nat} {lv : LV} {r : List Value} {S : ST} {a b : Nat} {off : Int} (tgt : Nat) (hd : decode P.2.2.2.2.2.2.1 pc = .ok (.if_icmp .gt off, 3)) (ht : (pc : Int) + off = (tgt : Int)) (ha : a < 2 ^ 31) (hb : b < 2 ^ 31) (kt : b < a → V P tgt lv r S) (kf : a ≤ b → V P (pc + 3) lv r S) : V P pc lv (.int (nI b) :: .int (nI a) :: r) S := V_icmp_gt tgt hd ht (fun h => kt (by have e1 := @nI_eq a b ha hb; have e2 := @nI_leI a b ha hb; have e3 := @nI_leI b a hb ha; have e4 := @nI_ltI a b ha hb; have e5 := @nI_ltI b a hb ha; simp only [e1, e2, e3, e4, e5, ne_eq] at h ⊢; omega)) (fun h => kf (by have e1 := @nI_eq a b ha hb; have e2 := @nI_leI a b ha hb; have e3 := @nI_leI b a hb ha; have e4 := @nI_ltI a b ha hb; have e5 := @nI_ltI b a hb ha; simp only [e1, e2, e3, e4, e5, ne_eq] at h ⊢; omega))
theorem V_icmp_len {P : PX} {pc : Nat} {lv : LV} {r : List Value} {S : ST} {a b : Nat} {off : Int} (tgt : Nat) (hd : decode P.2.2.2.2.2.2.1 pc = .ok (.if_icmp .le off, 3)) (ht : (pc : Int) + off = (tgt : Int)) (ha : a < 2 ^ 31) (hb : b < 2 ^ 31) (kt : a ≤ b → V P tgt lv r S) (kf : b < a → V P (pc + 3) lv r S) : V P pc lv (.int (nI b) :: .int (nI a) :: r) S := V_icmp_le tgt hd ht (fun h => kt (by have e1 := @nI_eq a b ha hb; have e2 := @nI_leI a b ha hb; have e3 := @nI_leI b a hb ha; have e4 := @nI_ltI a b ha hb; have e5 := @nI_ltI b a hb ha; simp only [e1, e2, e3, e4, e5, ne_eq] at h ⊢; omega)) (fun h => kf (by have e1 := @nI_eq a b ha hb; have e2 := @nI_leI a b ha hb; have e3 := @nI_leI b a hb ha; have e4 := @nI_ltI a b ha hb; have e5 := @nI_ltI b a hb ha; simp only [e1, e2, e3, e4, e5, ne_eq] at h ⊢; omega))
theorem V_if_eqn {P : PX} {pc : Nat} {lv : LV} {r : List Value} {S : ST} {a : Nat} {off : Int} (tgt : Nat) (hd : decode P.2.2.2.2.2.2.1 pc = .ok (.ifCond .eq off, 3)) (ht : (pc : Int) + off = (tgt : Int)) (ha : a < 2 ^ 31) (kt : a = 0 → V P tgt lv r S) (kf : 0 < a → V P (pc + 3) lv r S) : V P pc lv (.int (nI a) :: r) S := V_if_eq tgt hd ht (fun h => kt (by have hb : (0 : Nat) < 2 ^ 31 := Nat.two_pow_pos 31; have e1 := @nI_eq a 0 ha hb; have e2 := @nI_leI a 0 ha hb; have e3 := @nI_leI 0 a hb ha; have e4 := @nI_ltI a 0 ha hb; have e5 := @nI_ltI 0 a hb ha; rw [nI_0] at e1 e2 e3 e4 e5; simp only [e1, e2, e3, e4, e5] at h ⊢; try omega)) (fun h => kf (by have hb : (0 : Nat) < 2 ^ 31 := Nat.two_pow_pos 31; have e1 := @nI_eq a 0 ha hb; have e2 := @nI_leI a 0 ha hb; have e3 := @nI_leI 0 a hb ha; have e4 := @nI_ltI a 0 ha hb; have e5 := @nI_ltI 0 a hb ha; rw [nI_0] at e1 e2 e3 e4 e5; simp only [e1, e2, e3, e4, e5] at h ⊢; try omega))
theorem V_if_nen {P : PX} {pc : Nat} {lv : LV} {r : List Value} {S : ST} {a : Nat} {off : Int} (tgt : Nat) (hd : decode P.2.2.2.2.2.2.1 pc = .ok (.ifCond .ne off, 3)) (ht : (pc : Int) + off = (tgt : Int)) (ha : a < 2 ^ 31) (kt : 0 < a → V P tgt lv r S) (kf : a = 0 → V P (pc + 3) lv r S) : V P pc lv (.int (nI a) :: r) S := V_if_ne tgt hd ht (fun h => kt (by have hb : (0 : Nat) < 2 ^ 31 := Nat.two_pow_pos 31; have e1 := @nI_eq a 0 ha hb; have e2 := @nI_leI a 0 ha hb; have e3 := @nI_leI 0 a hb ha; have e4 := @nI_ltI a 0 ha hb; have e5 := @nI_ltI 0 a hb ha; rw [nI_0] at e1 e2 e3 e4 e5; simp only [e1, e2, e3, e4, e5] at h ⊢; try omega)) (fun h => kf (by have hb : (0 : Nat) < 2 ^ 31 := Nat.two_pow_pos 31; have e1 := @nI_eq a 0 ha hb; have e2 := @nI_leI a 0 ha hb; have e3 := @nI_leI 0 a hb ha; have e4 := @nI_ltI a 0 ha hb; have e5 := @nI_ltI 0 a hb ha; rw [nI_0] at e1 e2 e3 e4 e5; simp only [e1, e2, e3, e4, e5] at h ⊢; try omega))
theorem V_if_ltn {P : PX} {pc : Nat} {lv : LV} {r : List Value} {S : ST} {a : Nat} {off : Int} (tgt : Nat) (hd : decode P.2.2.2.2.2.2.1 pc = .ok (.ifCond .lt off, 3)) (ht : (pc : Int) + off = (tgt : Int)) (ha : a < 2 ^ 31) (kt : False → V P tgt lv r S) (kf : True → V P (pc + 3) lv r S) : V P pc lv (.int (nI a) :: r) S := V_if_lt tgt hd ht (fun h => kt (by have hb : (0 : Nat) < 2 ^ 31 := Nat.two_pow_pos 31; have e1 := @nI_eq a 0 ha hb; have e2 := @nI_leI a 0 ha hb; have e3 := @nI_leI 0 a hb ha; have e4 := @nI_ltI a 0 ha hb; have e5 := @nI_ltI 0 a hb ha; rw [nI_0] at e1 e2 e3 e4 e5; simp only [e1, e2, e3, e4, e5] at h ⊢; try omega)) (fun h => kf (by have hb : (0 : Nat) < 2 ^ 31 := Nat.two_pow_pos 31; have e1 := @nI_eq a 0 ha hb; have e2 := @nI_leI a 0 ha hb; have e3 := @nI_leI 0 a hb ha; have e4 := @nI_ltI a 0 ha hb; have e5 := @nI_ltI 0 a hb ha; rw [nI_0] at e1 e2 e3 e4 e5; simp only [e1, e2, e3, e4, e5] at h ⊢; try omega))
theorem V_if_gen {P : PX} {pc : Nat} {lv : LV} {r : List Value} {S : ST} {a : Nat} {off : Int} (tgt : Nat) (hd : decode P.2.2.2.2.2.2.1 pc = .ok (.ifCond .ge off, 3)) (ht : (pc : Int) + off = (tgt : Int)) (ha : a < 2 ^ 31) (kt : True → V P tgt lv r S) (kf : False → V P (pc + 3) lv r S) : V P pc lv (.int (nI a) :: r) S := V_if_ge tgt hd ht (fun h => kt (by have hb : (0 : Nat) < 2 ^ 31 := Nat.two_pow_pos 31; have e1 := @nI_eq a 0 ha hb; have e2 := @nI_leI a 0 ha hb; have e3 := @nI_leI 0 a hb ha; have e4 := @nI_ltI a 0 ha hb; have e5 := @nI_ltI 0 a hb ha; rw [nI_0] at e1 e2 e3 e4 e5; simp only [e1, e2, e3, e4, e5] at h ⊢; try omega)) (fun h => kf (by have hb : (0 : Nat) < 2 ^ 31 := Nat.two_pow_pos 31; have e1 := @nI_eq a 0 ha hb; have e2 := @nI_leI a 0 ha hb; have e3 := @nI_leI 0 a hb ha; have e4 := @nI_ltI a 0 ha hb; have e5 := @nI_ltI 0 a hb ha; rw [nI_0] at e1 e2 e3 e4 e5; simp only [e1, e2, e3, e4, e5] at h ⊢; try omega))
theorem V_if_gtn {P : PX} {pc : Nat} {lv : LV} {r : List Value} {S : ST} {a : Nat} {off : Int} (tgt : Nat) (hd : decode P.2.2.2.2.2.2.1 pc = .ok (.ifCond .gt off, 3)) (ht : (pc : Int) + off = (tgt : Int)) (ha : a < 2 ^ 31) (kt : 0 < a → V P tgt lv r S) (kf : a = 0 → V P (pc + 3) lv r S) : V P pc lv (.int (nI a) :: r) S := V_if_gt tgt hd ht (fun h => kt (by have hb : (0 : Nat) < 2 ^ 31 := Nat.two_pow_pos 31; have e1 := @nI_eq a 0 ha hb; have e2 := @nI_leI a 0 ha hb; have e3 := @nI_leI 0 a hb ha; have e4 := @nI_ltI a 0 ha hb; have e5 := @nI_ltI 0 a hb ha; rw [nI_0] at e1 e2 e3 e4 e5; simp only [e1, e2, e3, e4, e5] at h ⊢; try omega)) (fun h => kf (by have hb : (0 : Nat) < 2 ^ 31 := Nat.two_pow_pos 31; have e1 := @nI_eq a 0 ha hb; have e2 := @nI_leI a 0 ha hb; have e3 := @nI_leI 0 a hb ha; have e4 := @nI_ltI a 0 ha hb; have e5 := @nI_ltI 0 a hb ha; rw [nI_0] at e1 e2 e3 e4 e5; simp only [e1, e2, e3, e4, e5] at h ⊢; try omega))
theorem V_if_len {P : PX} {pc : Nat} {lv : LV} {r : List Value} {S : ST} {a : Nat} {off : Int} (tgt : Nat) (hd : decode P.2.2.2.2.2.2.1 pc = .ok (.ifCond .le off, 3)) (ht : (pc : Int) + off = (tgt : Int)) (ha : a < 2 ^ 31) (kt : a = 0 → V P tgt lv r S) (kf : 0 < a → V P (pc + 3) lv r S) : V P pc lv (.int (nI a) :: r) S := V_if_le tgt hd ht (fun h => kt (by have hb : (0 : Nat) < 2 ^ 31 := Nat.two_pow_pos 31; have e1 := @nI_eq a 0 ha hb; have e2 := @nI_leI a 0 ha hb; have e3 := @nI_leI 0 a hb ha; have e4 := @nI_ltI a 0 ha hb; have e5 := @nI_ltI 0 a hb ha; rw [nI_0] at e1 e2 e3 e4 e5; simp only [e1, e2, e3, e4, e5] at h ⊢; try omega)) (fun h => kf (by have hb : (0 : Nat) < 2 ^ 31 := Nat.two_pow_pos 31; have e1 := @nI_eq a 0 ha hb; have e2 := @nI_leI a 0 ha hb; have e3 := @nI_leI 0 a hb ha; have e4 := @nI_ltI a 0 ha hb; have e5 := @nI_ltI 0 a hb ha; rw [nI_0] at e1 e2 e3 e4 e5; simp only [e1, e2, e3, e4, e5] at h ⊢; try omega))
theorem l_9n {P : PX} {pc : Nat} {lv : LV} {r : List Value} {S : ST} {i : Nat} (hi : i < 12) (hd : decode P.2.2.2.2.2.2.1 pc = .ok (.iaload, 1)) (k : V P (pc + 1) lv (.int (S.2.2.1 9 i) :: r) S) : V P pc lv (.int (nI i) :: .ref (P.1.2.1 9) :: r) S := l_9 (vp_in_nI hi (by decide)) hd (by rw [nI_clamp (by omega)]; exact k)
theorem s_9n {P : PX} {pc : Nat} {lv : LV} {r : List Value} {S : ST} {i : Nat} {y : Int32} (hi : i < 12) (hd : decode P.2.2.2.2.2.2.1 pc = .ok (.iastore, 1)) (k : V P (pc + 1) lv r (setA S 9 i y)) : V P pc lv (.int y :: .int (nI i) :: .ref (P.1.2.1 9) :: r) S := s_9 (vp_in_nI hi (by decide)) hd (by rw [nI_clamp (by omega)]; exact k)
theorem l_10n {P : PX} {pc : Nat} {lv : LV} {r : List Value} {S : ST} {i : Nat} (hi : i < 12) (hd : decode P.2.2.2.2.2.2.1 pc = .ok (.iaload, 1)) (k : V P (pc + 1) lv (.int (S.2.2.1 10 i) :: r) S) : V P pc lv (.int (nI i) :: .ref (P.1.2.1 10) :: r) S := l_10 (vp_in_nI hi (by decide)) hd (by rw [nI_clamp (by omega)]; exact k)
theorem s_10n {P : PX} {pc : Nat} {lv : LV} {r : List Value} {S : ST} {i : Nat} {y : Int32} (hi : i < 12) (hd : decode P.2.2.2.2.2.2.1 pc = .ok (.iastore, 1)) (k : V P (pc + 1) lv r (setA S 10 i y)) : V P pc lv (.int y :: .int (nI i) :: .ref (P.1.2.1 10) :: r) S := s_10 (vp_in_nI hi (by decide)) hd (by rw [nI_clamp (by omega)]; exact k)
theorem l_11n {P : PX} {pc : Nat} {lv : LV} {r : List Value} {S : ST} {i : Nat} (hi : i < 12) (hd : decode P.2.2.2.2.2.2.1 pc = .ok (.iaload, 1)) (k : V P (pc + 1) lv (.int (S.2.2.1 11 i) :: r) S) : V P pc lv (.int (nI i) :: .ref (P.1.2.1 11) :: r) S := l_11 (vp_in_nI hi (by decide)) hd (by rw [nI_clamp (by omega)]; exact k)
theorem s_11n {P : PX} {pc : Nat} {lv : LV} {r : List Value} {S : ST} {i : Nat} {y : Int32} (hi : i < 12) (hd : decode P.2.2.2.2.2.2.1 pc = .ok (.iastore, 1)) (k : V P (pc + 1) lv r (setA S 11 i y)) : V P pc lv (.int y :: .int (nI i) :: .ref (P.1.2.1 11) :: r) S := s_11 (vp_in_nI hi (by decide)) hd (by rw [nI_clamp (by omega)]; exact k)
theorem l_12n {P : PX} {pc : Nat} {lv : LV} {r : List Value} {S : ST} {i : Nat} (hi : i < 12) (hd : decode P.2.2.2.2.2.2.1 pc = .ok (.iaload, 1)) (k : V P (pc + 1) lv (.int (S.2.2.1 12 i) :: r) S) : V P pc lv (.int (nI i) :: .ref (P.1.2.1 12) :: r) S := l_12 (vp_in_nI hi (by decide)) hd (by rw [nI_clamp (by omega)]; exact k)
theorem s_12n {P : PX} {pc : Nat} {lv : LV} {r : List Value} {S : ST} {i : Nat} {y : Int32} (hi : i < 12) (hd : decode P.2.2.2.2.2.2.1 pc = .ok (.iastore, 1)) (k : V P (pc + 1) lv r (setA S 12 i y)) : V P pc lv (.int y :: .int (nI i) :: .ref (P.1.2.1 12) :: r) S := s_12 (vp_in_nI hi (by decide)) hd (by rw [nI_clamp (by omega)]; exact k)
theorem l_13n {P : PX} {pc : Nat} {lv : LV} {r : List Value} {S : ST} {i : Nat} (hi : i < 12) (hd : decode P.2.2.2.2.2.2.1 pc = .ok (.iaload, 1)) (k : V P (pc + 1) lv (.int (S.2.2.1 13 i) :: r) S) : V P pc lv (.int (nI i) :: .ref (P.1.2.1 13) :: r) S := l_13 (vp_in_nI hi (by decide)) hd (by rw [nI_clamp (by omega)]; exact k)
theorem s_13n {P : PX} {pc : Nat} {lv : LV} {r : List Value} {S : ST} {i : Nat} {y : Int32} (hi : i < 12) (hd : decode P.2.2.2.2.2.2.1 pc = .ok (.iastore, 1)) (k : V P (pc + 1) lv r (setA S 13 i y)) : V P pc lv (.int y :: .int (nI i) :: .ref (P.1.2.1 13) :: r) S := s_13 (vp_in_nI hi (by decide)) hd (by rw [nI_clamp (by omega)]; exact k)
theorem l_14n {P : PX} {pc : Nat} {lv : LV} {r : List Value} {S : ST} {i : Nat} (hi : i < 12) (hd : decode P.2.2.2.2.2.2.1 pc = .ok (.iaload, 1)) (k : V P (pc + 1) lv (.int (S.2.2.1 14 i) :: r) S) : V P pc lv (.int (nI i) :: .ref (P.1.2.1 14) :: r) S := l_14 (vp_in_nI hi (by decide)) hd (by rw [nI_clamp (by omega)]; exact k)
theorem s_14n {P : PX} {pc : Nat} {lv : LV} {r : List Value} {S : ST} {i : Nat} {y : Int32} (hi : i < 12) (hd : decode P.2.2.2.2.2.2.1 pc = .ok (.iastore, 1)) (k : V P (pc + 1) lv r (setA S 14 i y)) : V P pc lv (.int y :: .int (nI i) :: .ref (P.1.2.1 14) :: r) S := s_14 (vp_in_nI hi (by decide)) hd (by rw [nI_clamp (by omega)]; exact k)
theorem l_15n {P : PX} {pc : Nat} {lv : LV} {r : List Value} {S : ST} {i : Nat} (hi : i < 12) (hd : decode P.2.2.2.2.2.2.1 pc = .ok (.iaload, 1)) (k : V P (pc + 1) lv (.int (S.2.2.1 15 i) :: r) S) : V P pc lv (.int (nI i) :: .ref (P.1.2.1 15) :: r) S := l_15 (vp_in_nI hi (by decide)) hd (by rw [nI_clamp (by omega)]; exact k)
theorem s_15n {P : PX} {pc : Nat} {lv : LV} {r : List Value} {S : ST} {i : Nat} {y : Int32} (hi : i < 12) (hd : decode P.2.2.2.2.2.2.1 pc = .ok (.iastore, 1)) (k : V P (pc + 1) lv r (setA S 15 i y)) : V P pc lv (.int y :: .int (nI i) :: .ref (P.1.2.1 15) :: r) S := s_15 (vp_in_nI hi (by decide)) hd (by rw [nI_clamp (by omega)]; exact k)
theorem l_16n {P : PX} {pc : Nat} {lv : LV} {r : List Value} {S : ST} {i : Nat} (hi : i < 12) (hd : decode P.2.2.2.2.2.2.1 pc = .ok (.baload, 1)) (k : V P (pc + 1) lv (.int (S.2.2.1 16 i) :: r) S) : V P pc lv (.int (nI i) :: .ref (P.1.2.1 16) :: r) S := l_16 (vp_in_nI hi (by decide)) hd (by rw [nI_clamp (by omega)]; exact k)
theorem s_16n {P : PX} {pc : Nat} {lv : LV} {r : List Value} {S : ST} {i : Nat} {y : Int32} (hi : i < 12) (hd : decode P.2.2.2.2.2.2.1 pc = .ok (.bastore, 1)) (k : V P (pc + 1) lv r (setA S 16 i (vp_nar .boolean y))) : V P pc lv (.int y :: .int (nI i) :: .ref (P.1.2.1 16) :: r) S := s_16 (vp_in_nI hi (by decide)) hd (by rw [nI_clamp (by omega)]; exact k)
theorem l_17n {P : PX} {pc : Nat} {lv : LV} {r : List Value} {S : ST} {i : Nat} (hi : i < 5) (hd : decode P.2.2.2.2.2.2.1 pc = .ok (.iaload, 1)) (k : V P (pc + 1) lv (.int (S.2.2.1 17 i) :: r) S) : V P pc lv (.int (nI i) :: .ref (P.1.2.1 17) :: r) S := l_17 (vp_in_nI hi (by decide)) hd (by rw [nI_clamp (by omega)]; exact k)
theorem s_17n {P : PX} {pc : Nat} {lv : LV} {r : List Value} {S : ST} {i : Nat} {y : Int32} (hi : i < 5) (hd : decode P.2.2.2.2.2.2.1 pc = .ok (.iastore, 1)) (k : V P (pc + 1) lv r (setA S 17 i y)) : V P pc lv (.int y :: .int (nI i) :: .ref (P.1.2.1 17) :: r) S := s_17 (vp_in_nI hi (by decide)) hd (by rw [nI_clamp (by omega)]; exact k)
theorem l_18n {P : PX} {pc : Nat} {lv : LV} {r : List Value} {S : ST} {i : Nat} (hi : i < 210) (hd : decode P.2.2.2.2.2.2.1 pc = .ok (.iaload, 1)) (k : V P (pc + 1) lv (.int (S.2.2.1 18 i) :: r) S) : V P pc lv (.int (nI i) :: .ref (P.1.2.1 18) :: r) S := l_18 (vp_in_nI hi (by decide)) hd (by rw [nI_clamp (by omega)]; exact k)
theorem s_18n {P : PX} {pc : Nat} {lv : LV} {r : List Value} {S : ST} {i : Nat} {y : Int32} (hi : i < 210) (hd : decode P.2.2.2.2.2.2.1 pc = .ok (.iastore, 1)) (k : V P (pc + 1) lv r (setA S 18 i y)) : V P pc lv (.int y :: .int (nI i) :: .ref (P.1.2.1 18) :: r) S := s_18 (vp_in_nI hi (by decide)) hd (by rw [nI_clamp (by omega)]; exact k)
theorem l_19n {P : PX} {pc : Nat} {lv : LV} {r : List Value} {S : ST} {i : Nat} (hi : i < 210) (hd : decode P.2.2.2.2.2.2.1 pc = .ok (.laload, 1)) (k : V P (pc + 1) lv (.long (S.2.2.2 19 i) :: r) S) : V P pc lv (.int (nI i) :: .ref (P.1.2.1 19) :: r) S := l_19 (vp_in_nI hi (by decide)) hd (by rw [nI_clamp (by omega)]; exact k)
theorem s_19n {P : PX} {pc : Nat} {lv : LV} {r : List Value} {S : ST} {i : Nat} {y : Int64} (hi : i < 210) (hd : decode P.2.2.2.2.2.2.1 pc = .ok (.lastore, 1)) (k : V P (pc + 1) lv r (setJ S 19 i y)) : V P pc lv (.long y :: .int (nI i) :: .ref (P.1.2.1 19) :: r) S := s_19 (vp_in_nI hi (by decide)) hd (by rw [nI_clamp (by omega)]; exact k)
theorem l_20n {P : PX} {pc : Nat} {lv : LV} {r : List Value} {S : ST} {i : Nat} (hi : i < 210) (hd : decode P.2.2.2.2.2.2.1 pc = .ok (.iaload, 1)) (k : V P (pc + 1) lv (.int (S.2.2.1 20 i) :: r) S) : V P pc lv (.int (nI i) :: .ref (P.1.2.1 20) :: r) S := l_20 (vp_in_nI hi (by decide)) hd (by rw [nI_clamp (by omega)]; exact k)
theorem s_20n {P : PX} {pc : Nat} {lv : LV} {r : List Value} {S : ST} {i : Nat} {y : Int32} (hi : i < 210) (hd : decode P.2.2.2.2.2.2.1 pc = .ok (.iastore, 1)) (k : V P (pc + 1) lv r (setA S 20 i y)) : V P pc lv (.int y :: .int (nI i) :: .ref (P.1.2.1 20) :: r) S := s_20 (vp_in_nI hi (by decide)) hd (by rw [nI_clamp (by omega)]; exact k)
theorem l_21n {P : PX} {pc : Nat} {lv : LV} {r : List Value} {S : ST} {i : Nat} (hi : i < 4096) (hd : decode P.2.2.2.2.2.2.1 pc = .ok (.iaload, 1)) (k : V P (pc + 1) lv (.int (S.2.2.1 21 i) :: r) S) : V P pc lv (.int (nI i) :: .ref (P.1.2.1 21) :: r) S := l_21 (vp_in_nI hi (by decide)) hd (by rw [nI_clamp (by omega)]; exact k)
theorem s_21n {P : PX} {pc : Nat} {lv : LV} {r : List Value} {S : ST} {i : Nat} {y : Int32} (hi : i < 4096) (hd : decode P.2.2.2.2.2.2.1 pc = .ok (.iastore, 1)) (k : V P (pc + 1) lv r (setA S 21 i y)) : V P pc lv (.int y :: .int (nI i) :: .ref (P.1.2.1 21) :: r) S := s_21 (vp_in_nI hi (by decide)) hd (by rw [nI_clamp (by omega)]; exact k)
theorem l_22n {P : PX} {pc : Nat} {lv : LV} {r : List Value} {S : ST} {i : Nat} (hi : i < 4096) (hd : decode P.2.2.2.2.2.2.1 pc = .ok (.iaload, 1)) (k : V P (pc + 1) lv (.int (S.2.2.1 22 i) :: r) S) : V P pc lv (.int (nI i) :: .ref (P.1.2.1 22) :: r) S := l_22 (vp_in_nI hi (by decide)) hd (by rw [nI_clamp (by omega)]; exact k)
theorem s_22n {P : PX} {pc : Nat} {lv : LV} {r : List Value} {S : ST} {i : Nat} {y : Int32} (hi : i < 4096) (hd : decode P.2.2.2.2.2.2.1 pc = .ok (.iastore, 1)) (k : V P (pc + 1) lv r (setA S 22 i y)) : V P pc lv (.int y :: .int (nI i) :: .ref (P.1.2.1 22) :: r) S := s_22 (vp_in_nI hi (by decide)) hd (by rw [nI_clamp (by omega)]; exact k)
theorem l_23n {P : PX} {pc : Nat} {lv : LV} {r : List Value} {S : ST} {i : Nat} (hi : i < 40) (hd : decode P.2.2.2.2.2.2.1 pc = .ok (.iaload, 1)) (k : V P (pc + 1) lv (.int (S.2.2.1 23 i) :: r) S) : V P pc lv (.int (nI i) :: .ref (P.1.2.1 23) :: r) S := l_23 (vp_in_nI hi (by decide)) hd (by rw [nI_clamp (by omega)]; exact k)
theorem s_23n {P : PX} {pc : Nat} {lv : LV} {r : List Value} {S : ST} {i : Nat} {y : Int32} (hi : i < 40) (hd : decode P.2.2.2.2.2.2.1 pc = .ok (.iastore, 1)) (k : V P (pc + 1) lv r (setA S 23 i y)) : V P pc lv (.int y :: .int (nI i) :: .ref (P.1.2.1 23) :: r) S := s_23 (vp_in_nI hi (by decide)) hd (by rw [nI_clamp (by omega)]; exact k)
theorem l_24n {P : PX} {pc : Nat} {lv : LV} {r : List Value} {S : ST} {i : Nat} (hi : i < 42) (hd : decode P.2.2.2.2.2.2.1 pc = .ok (.iaload, 1)) (k : V P (pc + 1) lv (.int (S.2.2.1 24 i) :: r) S) : V P pc lv (.int (nI i) :: .ref (P.1.2.1 24) :: r) S := l_24 (vp_in_nI hi (by decide)) hd (by rw [nI_clamp (by omega)]; exact k)
theorem s_24n {P : PX} {pc : Nat} {lv : LV} {r : List Value} {S : ST} {i : Nat} {y : Int32} (hi : i < 42) (hd : decode P.2.2.2.2.2.2.1 pc = .ok (.iastore, 1)) (k : V P (pc + 1) lv r (setA S 24 i y)) : V P pc lv (.int y :: .int (nI i) :: .ref (P.1.2.1 24) :: r) S := s_24 (vp_in_nI hi (by decide)) hd (by rw [nI_clamp (by omega)]; exact k)
theorem l_25n {P : PX} {pc : Nat} {lv : LV} {r : List Value} {S : ST} {i : Nat} (hi : i < 64) (hd : decode P.2.2.2.2.2.2.1 pc = .ok (.laload, 1)) (k : V P (pc + 1) lv (.long (S.2.2.2 25 i) :: r) S) : V P pc lv (.int (nI i) :: .ref (P.1.2.1 25) :: r) S := l_25 (vp_in_nI hi (by decide)) hd (by rw [nI_clamp (by omega)]; exact k)
theorem s_25n {P : PX} {pc : Nat} {lv : LV} {r : List Value} {S : ST} {i : Nat} {y : Int64} (hi : i < 64) (hd : decode P.2.2.2.2.2.2.1 pc = .ok (.lastore, 1)) (k : V P (pc + 1) lv r (setJ S 25 i y)) : V P pc lv (.long y :: .int (nI i) :: .ref (P.1.2.1 25) :: r) S := s_25 (vp_in_nI hi (by decide)) hd (by rw [nI_clamp (by omega)]; exact k)
theorem l_26n {P : PX} {pc : Nat} {lv : LV} {r : List Value} {S : ST} {i : Nat} (hi : i < 40) (hd : decode P.2.2.2.2.2.2.1 pc = .ok (.laload, 1)) (k : V P (pc + 1) lv (.long (S.2.2.2 26 i) :: r) S) : V P pc lv (.int (nI i) :: .ref (P.1.2.1 26) :: r) S := l_26 (vp_in_nI hi (by decide)) hd (by rw [nI_clamp (by omega)]; exact k)
theorem s_26n {P : PX} {pc : Nat} {lv : LV} {r : List Value} {S : ST} {i : Nat} {y : Int64} (hi : i < 40) (hd : decode P.2.2.2.2.2.2.1 pc = .ok (.lastore, 1)) (k : V P (pc + 1) lv r (setJ S 26 i y)) : V P pc lv (.long y :: .int (nI i) :: .ref (P.1.2.1 26) :: r) S := s_26 (vp_in_nI hi (by decide)) hd (by rw [nI_clamp (by omega)]; exact k)
theorem l_27n {P : PX} {pc : Nat} {lv : LV} {r : List Value} {S : ST} {i : Nat} (hi : i < 64) (hd : decode P.2.2.2.2.2.2.1 pc = .ok (.laload, 1)) (k : V P (pc + 1) lv (.long (S.2.2.2 27 i) :: r) S) : V P pc lv (.int (nI i) :: .ref (P.1.2.1 27) :: r) S := l_27 (vp_in_nI hi (by decide)) hd (by rw [nI_clamp (by omega)]; exact k)
theorem s_27n {P : PX} {pc : Nat} {lv : LV} {r : List Value} {S : ST} {i : Nat} {y : Int64} (hi : i < 64) (hd : decode P.2.2.2.2.2.2.1 pc = .ok (.lastore, 1)) (k : V P (pc + 1) lv r (setJ S 27 i y)) : V P pc lv (.long y :: .int (nI i) :: .ref (P.1.2.1 27) :: r) S := s_27 (vp_in_nI hi (by decide)) hd (by rw [nI_clamp (by omega)]; exact k)
theorem l_28n {P : PX} {pc : Nat} {lv : LV} {r : List Value} {S : ST} {i : Nat} (hi : i < 64) (hd : decode P.2.2.2.2.2.2.1 pc = .ok (.laload, 1)) (k : V P (pc + 1) lv (.long (S.2.2.2 28 i) :: r) S) : V P pc lv (.int (nI i) :: .ref (P.1.2.1 28) :: r) S := l_28 (vp_in_nI hi (by decide)) hd (by rw [nI_clamp (by omega)]; exact k)
theorem s_28n {P : PX} {pc : Nat} {lv : LV} {r : List Value} {S : ST} {i : Nat} {y : Int64} (hi : i < 64) (hd : decode P.2.2.2.2.2.2.1 pc = .ok (.lastore, 1)) (k : V P (pc + 1) lv r (setJ S 28 i y)) : V P pc lv (.long y :: .int (nI i) :: .ref (P.1.2.1 28) :: r) S := s_28 (vp_in_nI hi (by decide)) hd (by rw [nI_clamp (by omega)]; exact k)
theorem l_30n {P : PX} {pc : Nat} {lv : LV} {r : List Value} {S : ST} {i : Nat} (hi : i < 12) (hd : decode P.2.2.2.2.2.2.1 pc = .ok (.iaload, 1)) (k : V P (pc + 1) lv (.int (S.2.2.1 30 i) :: r) S) : V P pc lv (.int (nI i) :: .ref (P.1.2.1 30) :: r) S := l_30 (vp_in_nI hi (by decide)) hd (by rw [nI_clamp (by omega)]; exact k)
theorem s_30n {P : PX} {pc : Nat} {lv : LV} {r : List Value} {S : ST} {i : Nat} {y : Int32} (hi : i < 12) (hd : decode P.2.2.2.2.2.2.1 pc = .ok (.iastore, 1)) (k : V P (pc + 1) lv r (setA S 30 i y)) : V P pc lv (.int y :: .int (nI i) :: .ref (P.1.2.1 30) :: r) S := s_30 (vp_in_nI hi (by decide)) hd (by rw [nI_clamp (by omega)]; exact k)
theorem l_31n {P : PX} {pc : Nat} {lv : LV} {r : List Value} {S : ST} {i : Nat} (hi : i < 12) (hd : decode P.2.2.2.2.2.2.1 pc = .ok (.iaload, 1)) (k : V P (pc + 1) lv (.int (S.2.2.1 31 i) :: r) S) : V P pc lv (.int (nI i) :: .ref (P.1.2.1 31) :: r) S := l_31 (vp_in_nI hi (by decide)) hd (by rw [nI_clamp (by omega)]; exact k)
theorem s_31n {P : PX} {pc : Nat} {lv : LV} {r : List Value} {S : ST} {i : Nat} {y : Int32} (hi : i < 12) (hd : decode P.2.2.2.2.2.2.1 pc = .ok (.iastore, 1)) (k : V P (pc + 1) lv r (setA S 31 i y)) : V P pc lv (.int y :: .int (nI i) :: .ref (P.1.2.1 31) :: r) S := s_31 (vp_in_nI hi (by decide)) hd (by rw [nI_clamp (by omega)]; exact k)
theorem l_32n {P : PX} {pc : Nat} {lv : LV} {r : List Value} {S : ST} {i : Nat} (hi : i < 12) (hd : decode P.2.2.2.2.2.2.1 pc = .ok (.iaload, 1)) (k : V P (pc + 1) lv (.int (S.2.2.1 32 i) :: r) S) : V P pc lv (.int (nI i) :: .ref (P.1.2.1 32) :: r) S := l_32 (vp_in_nI hi (by decide)) hd (by rw [nI_clamp (by omega)]; exact k)
theorem s_32n {P : PX} {pc : Nat} {lv : LV} {r : List Value} {S : ST} {i : Nat} {y : Int32} (hi : i < 12) (hd : decode P.2.2.2.2.2.2.1 pc = .ok (.iastore, 1)) (k : V P (pc + 1) lv r (setA S 32 i y)) : V P pc lv (.int y :: .int (nI i) :: .ref (P.1.2.1 32) :: r) S := s_32 (vp_in_nI hi (by decide)) hd (by rw [nI_clamp (by omega)]; exact k)
theorem l_33n {P : PX} {pc : Nat} {lv : LV} {r : List Value} {S : ST} {i : Nat} (hi : i < 12) (hd : decode P.2.2.2.2.2.2.1 pc = .ok (.iaload, 1)) (k : V P (pc + 1) lv (.int (S.2.2.1 33 i) :: r) S) : V P pc lv (.int (nI i) :: .ref (P.1.2.1 33) :: r) S := l_33 (vp_in_nI hi (by decide)) hd (by rw [nI_clamp (by omega)]; exact k)
theorem s_33n {P : PX} {pc : Nat} {lv : LV} {r : List Value} {S : ST} {i : Nat} {y : Int32} (hi : i < 12) (hd : decode P.2.2.2.2.2.2.1 pc = .ok (.iastore, 1)) (k : V P (pc + 1) lv r (setA S 33 i y)) : V P pc lv (.int y :: .int (nI i) :: .ref (P.1.2.1 33) :: r) S := s_33 (vp_in_nI hi (by decide)) hd (by rw [nI_clamp (by omega)]; exact k)
theorem l_34n {P : PX} {pc : Nat} {lv : LV} {r : List Value} {S : ST} {i : Nat} (hi : i < 12) (hd : decode P.2.2.2.2.2.2.1 pc = .ok (.baload, 1)) (k : V P (pc + 1) lv (.int (S.2.2.1 34 i) :: r) S) : V P pc lv (.int (nI i) :: .ref (P.1.2.1 34) :: r) S := l_34 (vp_in_nI hi (by decide)) hd (by rw [nI_clamp (by omega)]; exact k)
theorem s_34n {P : PX} {pc : Nat} {lv : LV} {r : List Value} {S : ST} {i : Nat} {y : Int32} (hi : i < 12) (hd : decode P.2.2.2.2.2.2.1 pc = .ok (.bastore, 1)) (k : V P (pc + 1) lv r (setA S 34 i (vp_nar .boolean y))) : V P pc lv (.int y :: .int (nI i) :: .ref (P.1.2.1 34) :: r) S := s_34 (vp_in_nI hi (by decide)) hd (by rw [nI_clamp (by omega)]; exact k)
theorem l_35n {P : PX} {pc : Nat} {lv : LV} {r : List Value} {S : ST} {i : Nat} (hi : i < 12) (hd : decode P.2.2.2.2.2.2.1 pc = .ok (.iaload, 1)) (k : V P (pc + 1) lv (.int (S.2.2.1 35 i) :: r) S) : V P pc lv (.int (nI i) :: .ref (P.1.2.1 35) :: r) S := l_35 (vp_in_nI hi (by decide)) hd (by rw [nI_clamp (by omega)]; exact k)
theorem s_35n {P : PX} {pc : Nat} {lv : LV} {r : List Value} {S : ST} {i : Nat} {y : Int32} (hi : i < 12) (hd : decode P.2.2.2.2.2.2.1 pc = .ok (.iastore, 1)) (k : V P (pc + 1) lv r (setA S 35 i y)) : V P pc lv (.int y :: .int (nI i) :: .ref (P.1.2.1 35) :: r) S := s_35 (vp_in_nI hi (by decide)) hd (by rw [nI_clamp (by omega)]; exact k)
theorem l_36n {P : PX} {pc : Nat} {lv : LV} {r : List Value} {S : ST} {i : Nat} (hi : i < 12) (hd : decode P.2.2.2.2.2.2.1 pc = .ok (.baload, 1)) (k : V P (pc + 1) lv (.int (S.2.2.1 36 i) :: r) S) : V P pc lv (.int (nI i) :: .ref (P.1.2.1 36) :: r) S := l_36 (vp_in_nI hi (by decide)) hd (by rw [nI_clamp (by omega)]; exact k)
theorem s_36n {P : PX} {pc : Nat} {lv : LV} {r : List Value} {S : ST} {i : Nat} {y : Int32} (hi : i < 12) (hd : decode P.2.2.2.2.2.2.1 pc = .ok (.bastore, 1)) (k : V P (pc + 1) lv r (setA S 36 i (vp_nar .boolean y))) : V P pc lv (.int y :: .int (nI i) :: .ref (P.1.2.1 36) :: r) S := s_36 (vp_in_nI hi (by decide)) hd (by rw [nI_clamp (by omega)]; exact k)
theorem l_37n {P : PX} {pc : Nat} {lv : LV} {r : List Value} {S : ST} {i : Nat} (hi : i < 5) (hd : decode P.2.2.2.2.2.2.1 pc = .ok (.iaload, 1)) (k : V P (pc + 1) lv (.int (S.2.2.1 37 i) :: r) S) : V P pc lv (.int (nI i) :: .ref (P.1.2.1 37) :: r) S := l_37 (vp_in_nI hi (by decide)) hd (by rw [nI_clamp (by omega)]; exact k)
theorem s_37n {P : PX} {pc : Nat} {lv : LV} {r : List Value} {S : ST} {i : Nat} {y : Int32} (hi : i < 5) (hd : decode P.2.2.2.2.2.2.1 pc = .ok (.iastore, 1)) (k : V P (pc + 1) lv r (setA S 37 i y)) : V P pc lv (.int y :: .int (nI i) :: .ref (P.1.2.1 37) :: r) S := s_37 (vp_in_nI hi (by decide)) hd (by rw [nI_clamp (by omega)]; exact k)
theorem l_38n {P : PX} {pc : Nat} {lv : LV} {r : List Value} {S : ST} {i : Nat} (hi : i < 40) (hd : decode P.2.2.2.2.2.2.1 pc = .ok (.iaload, 1)) (k : V P (pc + 1) lv (.int (S.2.2.1 38 i) :: r) S) : V P pc lv (.int (nI i) :: .ref (P.1.2.1 38) :: r) S := l_38 (vp_in_nI hi (by decide)) hd (by rw [nI_clamp (by omega)]; exact k)
theorem s_38n {P : PX} {pc : Nat} {lv : LV} {r : List Value} {S : ST} {i : Nat} {y : Int32} (hi : i < 40) (hd : decode P.2.2.2.2.2.2.1 pc = .ok (.iastore, 1)) (k : V P (pc + 1) lv r (setA S 38 i y)) : V P pc lv (.int y :: .int (nI i) :: .ref (P.1.2.1 38) :: r) S := s_38 (vp_in_nI hi (by decide)) hd (by rw [nI_clamp (by omega)]; exact k)
theorem l_39n {P : PX} {pc : Nat} {lv : LV} {r : List Value} {S : ST} {i : Nat} (hi : i < 40) (hd : decode P.2.2.2.2.2.2.1 pc = .ok (.iaload, 1)) (k : V P (pc + 1) lv (.int (S.2.2.1 39 i) :: r) S) : V P pc lv (.int (nI i) :: .ref (P.1.2.1 39) :: r) S := l_39 (vp_in_nI hi (by decide)) hd (by rw [nI_clamp (by omega)]; exact k)
theorem s_39n {P : PX} {pc : Nat} {lv : LV} {r : List Value} {S : ST} {i : Nat} {y : Int32} (hi : i < 40) (hd : decode P.2.2.2.2.2.2.1 pc = .ok (.iastore, 1)) (k : V P (pc + 1) lv r (setA S 39 i y)) : V P pc lv (.int y :: .int (nI i) :: .ref (P.1.2.1 39) :: r) S := s_39 (vp_in_nI hi (by decide)) hd (by rw [nI_clamp (by omega)]; exact k)
theorem l_40n {P : PX} {pc : Nat} {lv : LV} {r : List Value} {S : ST} {i : Nat} (hi : i < 210) (hd : decode P.2.2.2.2.2.2.1 pc = .ok (.iaload, 1)) (k : V P (pc + 1) lv (.int (S.2.2.1 40 i) :: r) S) : V P pc lv (.int (nI i) :: .ref (P.1.2.1 40) :: r) S := l_40 (vp_in_nI hi (by decide)) hd (by rw [nI_clamp (by omega)]; exact k)
theorem s_40n {P : PX} {pc : Nat} {lv : LV} {r : List Value} {S : ST} {i : Nat} {y : Int32} (hi : i < 210) (hd : decode P.2.2.2.2.2.2.1 pc = .ok (.iastore, 1)) (k : V P (pc + 1) lv r (setA S 40 i y)) : V P pc lv (.int y :: .int (nI i) :: .ref (P.1.2.1 40) :: r) S := s_40 (vp_in_nI hi (by decide)) hd (by rw [nI_clamp (by omega)]; exact k)
theorem l_41n {P : PX} {pc : Nat} {lv : LV} {r : List Value} {S : ST} {i : Nat} (hi : i < 210) (hd : decode P.2.2.2.2.2.2.1 pc = .ok (.iaload, 1)) (k : V P (pc + 1) lv (.int (S.2.2.1 41 i) :: r) S) : V P pc lv (.int (nI i) :: .ref (P.1.2.1 41) :: r) S := l_41 (vp_in_nI hi (by decide)) hd (by rw [nI_clamp (by omega)]; exact k)
theorem s_41n {P : PX} {pc : Nat} {lv : LV} {r : List Value} {S : ST} {i : Nat} {y : Int32} (hi : i < 210) (hd : decode P.2.2.2.2.2.2.1 pc = .ok (.iastore, 1)) (k : V P (pc + 1) lv r (setA S 41 i y)) : V P pc lv (.int y :: .int (nI i) :: .ref (P.1.2.1 41) :: r) S := s_41 (vp_in_nI hi (by decide)) hd (by rw [nI_clamp (by omega)]; exact k)
theorem l_42n {P : PX} {pc : Nat} {lv : LV} {r : List Value} {S : ST} {i : Nat} (hi : i < 210) (hd : decode P.2.2.2.2.2.2.1 pc = .ok (.iaload, 1)) (k : V P (pc + 1) lv (.int (S.2.2.1 42 i) :: r) S) : V P pc lv (.int (nI i) :: .ref (P.1.2.1 42) :: r) S := l_42 (vp_in_nI hi (by decide)) hd (by rw [nI_clamp (by omega)]; exact k)
theorem s_42n {P : PX} {pc : Nat} {lv : LV} {r : List Value} {S : ST} {i : Nat} {y : Int32} (hi : i < 210) (hd : decode P.2.2.2.2.2.2.1 pc = .ok (.iastore, 1)) (k : V P (pc + 1) lv r (setA S 42 i y)) : V P pc lv (.int y :: .int (nI i) :: .ref (P.1.2.1 42) :: r) S := s_42 (vp_in_nI hi (by decide)) hd (by rw [nI_clamp (by omega)]; exact k)
theorem l_43n {P : PX} {pc : Nat} {lv : LV} {r : List Value} {S : ST} {i : Nat} (hi : i < 210) (hd : decode P.2.2.2.2.2.2.1 pc = .ok (.laload, 1)) (k : V P (pc + 1) lv (.long (S.2.2.2 43 i) :: r) S) : V P pc lv (.int (nI i) :: .ref (P.1.2.1 43) :: r) S := l_43 (vp_in_nI hi (by decide)) hd (by rw [nI_clamp (by omega)]; exact k)
theorem s_43n {P : PX} {pc : Nat} {lv : LV} {r : List Value} {S : ST} {i : Nat} {y : Int64} (hi : i < 210) (hd : decode P.2.2.2.2.2.2.1 pc = .ok (.lastore, 1)) (k : V P (pc + 1) lv r (setJ S 43 i y)) : V P pc lv (.long y :: .int (nI i) :: .ref (P.1.2.1 43) :: r) S := s_43 (vp_in_nI hi (by decide)) hd (by rw [nI_clamp (by omega)]; exact k)
theorem l_44n {P : PX} {pc : Nat} {lv : LV} {r : List Value} {S : ST} {i : Nat} (hi : i < 4096) (hd : decode P.2.2.2.2.2.2.1 pc = .ok (.iaload, 1)) (k : V P (pc + 1) lv (.int (S.2.2.1 44 i) :: r) S) : V P pc lv (.int (nI i) :: .ref (P.1.2.1 44) :: r) S := l_44 (vp_in_nI hi (by decide)) hd (by rw [nI_clamp (by omega)]; exact k)
theorem s_44n {P : PX} {pc : Nat} {lv : LV} {r : List Value} {S : ST} {i : Nat} {y : Int32} (hi : i < 4096) (hd : decode P.2.2.2.2.2.2.1 pc = .ok (.iastore, 1)) (k : V P (pc + 1) lv r (setA S 44 i y)) : V P pc lv (.int y :: .int (nI i) :: .ref (P.1.2.1 44) :: r) S := s_44 (vp_in_nI hi (by decide)) hd (by rw [nI_clamp (by omega)]; exact k)
theorem l_45n {P : PX} {pc : Nat} {lv : LV} {r : List Value} {S : ST} {i : Nat} (hi : i < 4096) (hd : decode P.2.2.2.2.2.2.1 pc = .ok (.iaload, 1)) (k : V P (pc + 1) lv (.int (S.2.2.1 45 i) :: r) S) : V P pc lv (.int (nI i) :: .ref (P.1.2.1 45) :: r) S := l_45 (vp_in_nI hi (by decide)) hd (by rw [nI_clamp (by omega)]; exact k)
theorem s_45n {P : PX} {pc : Nat} {lv : LV} {r : List Value} {S : ST} {i : Nat} {y : Int32} (hi : i < 4096) (hd : decode P.2.2.2.2.2.2.1 pc = .ok (.iastore, 1)) (k : V P (pc + 1) lv r (setA S 45 i y)) : V P pc lv (.int y :: .int (nI i) :: .ref (P.1.2.1 45) :: r) S := s_45 (vp_in_nI hi (by decide)) hd (by rw [nI_clamp (by omega)]; exact k)
theorem l_46n {P : PX} {pc : Nat} {lv : LV} {r : List Value} {S : ST} {i : Nat} (hi : i < 4096) (hd : decode P.2.2.2.2.2.2.1 pc = .ok (.iaload, 1)) (k : V P (pc + 1) lv (.int (S.2.2.1 46 i) :: r) S) : V P pc lv (.int (nI i) :: .ref (P.1.2.1 46) :: r) S := l_46 (vp_in_nI hi (by decide)) hd (by rw [nI_clamp (by omega)]; exact k)
theorem s_46n {P : PX} {pc : Nat} {lv : LV} {r : List Value} {S : ST} {i : Nat} {y : Int32} (hi : i < 4096) (hd : decode P.2.2.2.2.2.2.1 pc = .ok (.iastore, 1)) (k : V P (pc + 1) lv r (setA S 46 i y)) : V P pc lv (.int y :: .int (nI i) :: .ref (P.1.2.1 46) :: r) S := s_46 (vp_in_nI hi (by decide)) hd (by rw [nI_clamp (by omega)]; exact k)
theorem l_47n {P : PX} {pc : Nat} {lv : LV} {r : List Value} {S : ST} {i : Nat} (hi : i < 4096) (hd : decode P.2.2.2.2.2.2.1 pc = .ok (.iaload, 1)) (k : V P (pc + 1) lv (.int (S.2.2.1 47 i) :: r) S) : V P pc lv (.int (nI i) :: .ref (P.1.2.1 47) :: r) S := l_47 (vp_in_nI hi (by decide)) hd (by rw [nI_clamp (by omega)]; exact k)
theorem s_47n {P : PX} {pc : Nat} {lv : LV} {r : List Value} {S : ST} {i : Nat} {y : Int32} (hi : i < 4096) (hd : decode P.2.2.2.2.2.2.1 pc = .ok (.iastore, 1)) (k : V P (pc + 1) lv r (setA S 47 i y)) : V P pc lv (.int y :: .int (nI i) :: .ref (P.1.2.1 47) :: r) S := s_47 (vp_in_nI hi (by decide)) hd (by rw [nI_clamp (by omega)]; exact k)
theorem l_48n {P : PX} {pc : Nat} {lv : LV} {r : List Value} {S : ST} {i : Nat} (hi : i < 10) (hd : decode P.2.2.2.2.2.2.1 pc = .ok (.iaload, 1)) (k : V P (pc + 1) lv (.int (S.2.2.1 48 i) :: r) S) : V P pc lv (.int (nI i) :: .ref (P.1.2.1 48) :: r) S := l_48 (vp_in_nI hi (by decide)) hd (by rw [nI_clamp (by omega)]; exact k)
theorem s_48n {P : PX} {pc : Nat} {lv : LV} {r : List Value} {S : ST} {i : Nat} {y : Int32} (hi : i < 10) (hd : decode P.2.2.2.2.2.2.1 pc = .ok (.iastore, 1)) (k : V P (pc + 1) lv r (setA S 48 i y)) : V P pc lv (.int y :: .int (nI i) :: .ref (P.1.2.1 48) :: r) S := s_48 (vp_in_nI hi (by decide)) hd (by rw [nI_clamp (by omega)]; exact k)
theorem l_49n {P : PX} {pc : Nat} {lv : LV} {r : List Value} {S : ST} {i : Nat} (hi : i < 41) (hd : decode P.2.2.2.2.2.2.1 pc = .ok (.baload, 1)) (k : V P (pc + 1) lv (.int (S.2.2.1 49 i) :: r) S) : V P pc lv (.int (nI i) :: .ref (P.1.2.1 49) :: r) S := l_49 (vp_in_nI hi (by decide)) hd (by rw [nI_clamp (by omega)]; exact k)
theorem s_49n {P : PX} {pc : Nat} {lv : LV} {r : List Value} {S : ST} {i : Nat} {y : Int32} (hi : i < 41) (hd : decode P.2.2.2.2.2.2.1 pc = .ok (.bastore, 1)) (k : V P (pc + 1) lv r (setA S 49 i (vp_nar .boolean y))) : V P pc lv (.int y :: .int (nI i) :: .ref (P.1.2.1 49) :: r) S := s_49 (vp_in_nI hi (by decide)) hd (by rw [nI_clamp (by omega)]; exact k)
theorem l_50n {P : PX} {pc : Nat} {lv : LV} {r : List Value} {S : ST} {i : Nat} (hi : i < 4096) (hd : decode P.2.2.2.2.2.2.1 pc = .ok (.baload, 1)) (k : V P (pc + 1) lv (.int (S.2.2.1 50 i) :: r) S) : V P pc lv (.int (nI i) :: .ref (P.1.2.1 50) :: r) S := l_50 (vp_in_nI hi (by decide)) hd (by rw [nI_clamp (by omega)]; exact k)
theorem s_50n {P : PX} {pc : Nat} {lv : LV} {r : List Value} {S : ST} {i : Nat} {y : Int32} (hi : i < 4096) (hd : decode P.2.2.2.2.2.2.1 pc = .ok (.bastore, 1)) (k : V P (pc + 1) lv r (setA S 50 i (vp_nar .boolean y))) : V P pc lv (.int y :: .int (nI i) :: .ref (P.1.2.1 50) :: r) S := s_50 (vp_in_nI hi (by decide)) hd (by rw [nI_clamp (by omega)]; exact k)
theorem l_lown {P : PX} {pc : Nat} {lv : LV} {r : List Value} {S : ST} {i : Nat} (hi : i < 6) (hd : decode P.2.2.2.2.2.2.1 pc = .ok (.laload, 1)) (k : V P (pc + 1) lv (.long (lowF i) :: r) S) : V P pc lv (.int (nI i) :: .ref P.1.2.2.2 :: r) S := l_low (vp_in_nI hi (by decide)) hd (by rw [nI_clamp (by omega)]; exact k)
theorem V_cVi {P : PX} {pc : Nat} {lv : LV} {r : List Value} {S : ST} {d n index : Nat} {K : MX} {As : List Value} (q0 : Nat) (hok : OkV K n) (hw : Cond.methodLink P.2.2.2.2.2.1.cls index K.1 ∈ TB) (hob : ObjAt P.1 q0 K.1.cls) (hn : As.length = n) (hR : RmOk P.2.1 P.2.2.1 d K.2.2.1) (hW : (r.map fun v => v.category).sum ≤ 8) (hd : decode P.2.2.2.2.2.2.1 pc = .ok (.invokevirtual index, 3)) {st0 : List Value} (hst : st0 = As.reverse ++ .ref (P.1.2.1 q0) :: r) (hC : Cn P.1 d K (.ref (P.1.2.1 q0) :: As) S (qi (fun (x : Int32) S2 => V P (pc + 3) lv (.int x :: r) S2))) : V P pc lv st0 S := V_callV q0 hok hw hob hn hR hW hd hst hC (fun v S2 h => by obtain ⟨x, rfl, h⟩ := h; exact h)
theorem V_cSi {P : PX} {pc : Nat} {lv : LV} {r : List Value} {S : ST} {d n index : Nat} {K : MX} {As : List Value} (hok : OkS K n) (hw : Cond.methodLink P.2.2.2.2.2.1.cls index K.1 ∈ TB) (hn : As.length = n) (hR : RmOk P.2.1 P.2.2.1 d K.2.2.1) (hW : (r.map fun v => v.category).sum ≤ 8) (hd : decode P.2.2.2.2.2.2.1 pc = .ok (.invokestatic index, 3)) {st0 : List Value} (hst : st0 = As.reverse ++ r) (hC : Cn P.1 d K As S (qi (fun (x : Int32) S2 => V P (pc + 3) lv (.int x :: r) S2))) : V P pc lv st0 S := V_callS hok hw hn hR hW hd hst hC (fun v S2 h => by obtain ⟨x, rfl, h⟩ := h; exact h)
theorem V_cNi {P : PX} {pc : Nat} {lv : LV} {r : List Value} {S : ST} {d n index : Nat} {K : MX} {host : String} {As : List Value} (hok : OkS K n) (hw : Cond.methodLinkNest P.2.2.2.2.2.1.cls index K.1 host ∈ NL) (hn : As.length = n) (hR : RmOk P.2.1 P.2.2.1 d K.2.2.1) (hW : (r.map fun v => v.category).sum ≤ 8) (hd : decode P.2.2.2.2.2.2.1 pc = .ok (.invokestatic index, 3)) {st0 : List Value} (hst : st0 = As.reverse ++ r) (hC : Cn P.1 d K As S (qi (fun (x : Int32) S2 => V P (pc + 3) lv (.int x :: r) S2))) : V P pc lv st0 S := V_callSN hok hw hn hR hW hd hst hC (fun v S2 h => by obtain ⟨x, rfl, h⟩ := h; exact h)
theorem V_cVl {P : PX} {pc : Nat} {lv : LV} {r : List Value} {S : ST} {d n index : Nat} {K : MX} {As : List Value} (q0 : Nat) (hok : OkV K n) (hw : Cond.methodLink P.2.2.2.2.2.1.cls index K.1 ∈ TB) (hob : ObjAt P.1 q0 K.1.cls) (hn : As.length = n) (hR : RmOk P.2.1 P.2.2.1 d K.2.2.1) (hW : (r.map fun v => v.category).sum ≤ 8) (hd : decode P.2.2.2.2.2.2.1 pc = .ok (.invokevirtual index, 3)) {st0 : List Value} (hst : st0 = As.reverse ++ .ref (P.1.2.1 q0) :: r) (hC : Cn P.1 d K (.ref (P.1.2.1 q0) :: As) S (ql (fun (x : Int64) S2 => V P (pc + 3) lv (.long x :: r) S2))) : V P pc lv st0 S := V_callV q0 hok hw hob hn hR hW hd hst hC (fun v S2 h => by obtain ⟨x, rfl, h⟩ := h; exact h)
theorem V_cSl {P : PX} {pc : Nat} {lv : LV} {r : List Value} {S : ST} {d n index : Nat} {K : MX} {As : List Value} (hok : OkS K n) (hw : Cond.methodLink P.2.2.2.2.2.1.cls index K.1 ∈ TB) (hn : As.length = n) (hR : RmOk P.2.1 P.2.2.1 d K.2.2.1) (hW : (r.map fun v => v.category).sum ≤ 8) (hd : decode P.2.2.2.2.2.2.1 pc = .ok (.invokestatic index, 3)) {st0 : List Value} (hst : st0 = As.reverse ++ r) (hC : Cn P.1 d K As S (ql (fun (x : Int64) S2 => V P (pc + 3) lv (.long x :: r) S2))) : V P pc lv st0 S := V_callS hok hw hn hR hW hd hst hC (fun v S2 h => by obtain ⟨x, rfl, h⟩ := h; exact h)
theorem V_cNl {P : PX} {pc : Nat} {lv : LV} {r : List Value} {S : ST} {d n index : Nat} {K : MX} {host : String} {As : List Value} (hok : OkS K n) (hw : Cond.methodLinkNest P.2.2.2.2.2.1.cls index K.1 host ∈ NL) (hn : As.length = n) (hR : RmOk P.2.1 P.2.2.1 d K.2.2.1) (hW : (r.map fun v => v.category).sum ≤ 8) (hd : decode P.2.2.2.2.2.2.1 pc = .ok (.invokestatic index, 3)) {st0 : List Value} (hst : st0 = As.reverse ++ r) (hC : Cn P.1 d K As S (ql (fun (x : Int64) S2 => V P (pc + 3) lv (.long x :: r) S2))) : V P pc lv st0 S := V_callSN hok hw hn hR hW hd hst hC (fun v S2 h => by obtain ⟨x, rfl, h⟩ := h; exact h)
theorem V_cVr {P : PX} {pc : Nat} {lv : LV} {r : List Value} {S : ST} {d n index : Nat} {K : MX} {As : List Value} (q0 : Nat) (hok : OkV K n) (hw : Cond.methodLink P.2.2.2.2.2.1.cls index K.1 ∈ TB) (hob : ObjAt P.1 q0 K.1.cls) (hn : As.length = n) (hR : RmOk P.2.1 P.2.2.1 d K.2.2.1) (hW : (r.map fun v => v.category).sum ≤ 8) (hd : decode P.2.2.2.2.2.2.1 pc = .ok (.invokevirtual index, 3)) {st0 : List Value} (hst : st0 = As.reverse ++ .ref (P.1.2.1 q0) :: r) (hC : Cn P.1 d K (.ref (P.1.2.1 q0) :: As) S (qr (fun (x : Nat) S2 => V P (pc + 3) lv (.ref x :: r) S2))) : V P pc lv st0 S := V_callV q0 hok hw hob hn hR hW hd hst hC (fun v S2 h => by obtain ⟨x, rfl, h⟩ := h; exact h)
theorem V_cSr {P : PX} {pc : Nat} {lv : LV} {r : List Value} {S : ST} {d n index : Nat} {K : MX} {As : List Value} (hok : OkS K n) (hw : Cond.methodLink P.2.2.2.2.2.1.cls index K.1 ∈ TB) (hn : As.length = n) (hR : RmOk P.2.1 P.2.2.1 d K.2.2.1) (hW : (r.map fun v => v.category).sum ≤ 8) (hd : decode P.2.2.2.2.2.2.1 pc = .ok (.invokestatic index, 3)) {st0 : List Value} (hst : st0 = As.reverse ++ r) (hC : Cn P.1 d K As S (qr (fun (x : Nat) S2 => V P (pc + 3) lv (.ref x :: r) S2))) : V P pc lv st0 S := V_callS hok hw hn hR hW hd hst hC (fun v S2 h => by obtain ⟨x, rfl, h⟩ := h; exact h)
theorem V_cNr {P : PX} {pc : Nat} {lv : LV} {r : List Value} {S : ST} {d n index : Nat} {K : MX} {host : String} {As : List Value} (hok : OkS K n) (hw : Cond.methodLinkNest P.2.2.2.2.2.1.cls index K.1 host ∈ NL) (hn : As.length = n) (hR : RmOk P.2.1 P.2.2.1 d K.2.2.1) (hW : (r.map fun v => v.category).sum ≤ 8) (hd : decode P.2.2.2.2.2.2.1 pc = .ok (.invokestatic index, 3)) {st0 : List Value} (hst : st0 = As.reverse ++ r) (hC : Cn P.1 d K As S (qr (fun (x : Nat) S2 => V P (pc + 3) lv (.ref x :: r) S2))) : V P pc lv st0 S := V_callSN hok hw hn hR hW hd hst hC (fun v S2 h => by obtain ⟨x, rfl, h⟩ := h; exact h)
theorem V_cVv {P : PX} {pc : Nat} {lv : LV} {r : List Value} {S : ST} {d n index : Nat} {K : MX} {As : List Value} (q0 : Nat) (hok : OkV K n) (hw : Cond.methodLink P.2.2.2.2.2.1.cls index K.1 ∈ TB) (hob : ObjAt P.1 q0 K.1.cls) (hn : As.length = n) (hR : RmOk P.2.1 P.2.2.1 d K.2.2.1) (hW : (r.map fun v => v.category).sum ≤ 8) (hd : decode P.2.2.2.2.2.2.1 pc = .ok (.invokevirtual index, 3)) {st0 : List Value} (hst : st0 = As.reverse ++ .ref (P.1.2.1 q0) :: r) (hC : Cn P.1 d K (.ref (P.1.2.1 q0) :: As) S (qv (fun S2 => V P (pc + 3) lv (r) S2))) : V P pc lv st0 S := V_callV q0 hok hw hob hn hR hW hd hst hC (fun v S2 h => by obtain ⟨rfl, h⟩ := h; exact h)
theorem V_cSv {P : PX} {pc : Nat} {lv : LV} {r : List Value} {S : ST} {d n index : Nat} {K : MX} {As : List Value} (hok : OkS K n) (hw : Cond.methodLink P.2.2.2.2.2.1.cls index K.1 ∈ TB) (hn : As.length = n) (hR : RmOk P.2.1 P.2.2.1 d K.2.2.1) (hW : (r.map fun v => v.category).sum ≤ 8) (hd : decode P.2.2.2.2.2.2.1 pc = .ok (.invokestatic index, 3)) {st0 : List Value} (hst : st0 = As.reverse ++ r) (hC : Cn P.1 d K As S (qv (fun S2 => V P (pc + 3) lv (r) S2))) : V P pc lv st0 S := V_callS hok hw hn hR hW hd hst hC (fun v S2 h => by obtain ⟨rfl, h⟩ := h; exact h)
theorem V_cNv {P : PX} {pc : Nat} {lv : LV} {r : List Value} {S : ST} {d n index : Nat} {K : MX} {host : String} {As : List Value} (hok : OkS K n) (hw : Cond.methodLinkNest P.2.2.2.2.2.1.cls index K.1 host ∈ NL) (hn : As.length = n) (hR : RmOk P.2.1 P.2.2.1 d K.2.2.1) (hW : (r.map fun v => v.category).sum ≤ 8) (hd : decode P.2.2.2.2.2.2.1 pc = .ok (.invokestatic index, 3)) {st0 : List Value} (hst : st0 = As.reverse ++ r) (hC : Cn P.1 d K As S (qv (fun S2 => V P (pc + 3) lv (r) S2))) : V P pc lv st0 S := V_callSN hok hw hn hR hW hd hst hC (fun v S2 h => by obtain ⟨rfl, h⟩ := h; exact h)
