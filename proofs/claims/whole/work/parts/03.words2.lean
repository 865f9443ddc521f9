theorem tw_478 : (Cond.methodLink "BrokeWhere" (185 : Nat) ({ cls := "BrokeWhere$History", name := "twinsOf", desc := "(I)I" } : MethodName)) ∈ TB := TB_of 478 (by decide +kernel) rfl
theorem tw_479 : (Cond.instanceMethod ({ cls := "BrokeWhere$History", name := "twinsOf", desc := "(I)I" } : MethodName)) ∈ TB := TB_of 479 (by decide +kernel) rfl
theorem tw_480 : (Cond.selects "BrokeWhere$History" ({ cls := "BrokeWhere$History", name := "twinsOf", desc := "(I)I" } : MethodName) ({ cls := "BrokeWhere$History", name := "twinsOf", desc := "(I)I" } : MethodName)) ∈ TB := TB_of 480 (by decide +kernel) rfl
theorem tw_481 : (Cond.code ({ cls := "BrokeWhere$History", name := "twinsOf", desc := "(I)I" } : MethodName) prog_3_method_10_code (5 : Nat) (Option.some FieldType.int)) ∈ TB := TB_of 481 (by decide +kernel) rfl
theorem tw_482 : (Cond.methodLink "BrokeWhere$History" (46 : Nat) ({ cls := "BrokeWhere$History", name := "hearing", desc := "()I" } : MethodName)) ∈ TB := TB_of 482 (by decide +kernel) rfl
theorem tw_483 : (Cond.instanceMethod ({ cls := "BrokeWhere$History", name := "hearing", desc := "()I" } : MethodName)) ∈ TB := TB_of 483 (by decide +kernel) rfl
theorem tw_484 : (Cond.selects "BrokeWhere$History" ({ cls := "BrokeWhere$History", name := "hearing", desc := "()I" } : MethodName) ({ cls := "BrokeWhere$History", name := "hearing", desc := "()I" } : MethodName)) ∈ TB := TB_of 484 (by decide +kernel) rfl
theorem tw_485 : (Cond.code ({ cls := "BrokeWhere$History", name := "hearing", desc := "()I" } : MethodName) prog_3_method_9_code (3 : Nat) (Option.some FieldType.int)) ∈ TB := TB_of 485 (by decide +kernel) rfl
theorem tw_486 : (Cond.methodLink "BrokeWhereLaw" (89 : Nat) ({ cls := "BrokeWhere", name := "say", desc := "(I)I" } : MethodName)) ∈ TB := TB_of 486 (by decide +kernel) rfl
theorem tw_487 : (Cond.instanceMethod ({ cls := "BrokeWhere", name := "say", desc := "(I)I" } : MethodName)) ∈ TB := TB_of 487 (by decide +kernel) rfl
theorem tw_488 : (Cond.selects "BrokeWhere" ({ cls := "BrokeWhere", name := "say", desc := "(I)I" } : MethodName) ({ cls := "BrokeWhere", name := "say", desc := "(I)I" } : MethodName)) ∈ TB := TB_of 488 (by decide +kernel) rfl
theorem tw_489 : (Cond.code ({ cls := "BrokeWhere", name := "say", desc := "(I)I" } : MethodName) prog_1_method_19_code (2 : Nat) (Option.some FieldType.int)) ∈ TB := TB_of 489 (by decide +kernel) rfl
theorem tw_490 : (Cond.methodLink "BrokeWhere" (188 : Nat) ({ cls := "BrokeWhere$Text", name := "add", desc := "(I)I" } : MethodName)) ∈ TB := TB_of 490 (by decide +kernel) rfl
theorem tw_491 : (Cond.instanceMethod ({ cls := "BrokeWhere$Text", name := "add", desc := "(I)I" } : MethodName)) ∈ TB := TB_of 491 (by decide +kernel) rfl
theorem tw_492 : (Cond.selects "BrokeWhere$Text" ({ cls := "BrokeWhere$Text", name := "add", desc := "(I)I" } : MethodName) ({ cls := "BrokeWhere$Text", name := "add", desc := "(I)I" } : MethodName)) ∈ TB := TB_of 492 (by decide +kernel) rfl
theorem tw_493 : (Cond.code ({ cls := "BrokeWhere$Text", name := "add", desc := "(I)I" } : MethodName) prog_7_method_2_code (2 : Nat) (Option.some FieldType.int)) ∈ TB := TB_of 493 (by decide +kernel) rfl
theorem tw_494 : (Cond.methodLink "BrokeWhereLaw" (93 : Nat) ({ cls := "BrokeWhere", name := "wipe", desc := "()I" } : MethodName)) ∈ TB := TB_of 494 (by decide +kernel) rfl
theorem tw_495 : (Cond.instanceMethod ({ cls := "BrokeWhere", name := "wipe", desc := "()I" } : MethodName)) ∈ TB := TB_of 495 (by decide +kernel) rfl
theorem tw_496 : (Cond.selects "BrokeWhere" ({ cls := "BrokeWhere", name := "wipe", desc := "()I" } : MethodName) ({ cls := "BrokeWhere", name := "wipe", desc := "()I" } : MethodName)) ∈ TB := TB_of 496 (by decide +kernel) rfl
theorem tw_497 : (Cond.code ({ cls := "BrokeWhere", name := "wipe", desc := "()I" } : MethodName) prog_1_method_20_code (2 : Nat) (Option.some FieldType.int)) ∈ TB := TB_of 497 (by decide +kernel) rfl
theorem tw_498 : (Cond.methodLink "BrokeWhereLaw" (97 : Nat) ({ cls := "BrokeWhere", name := "fault", desc := "()I" } : MethodName)) ∈ TB := TB_of 498 (by decide +kernel) rfl
theorem tw_499 : (Cond.instanceMethod ({ cls := "BrokeWhere", name := "fault", desc := "()I" } : MethodName)) ∈ TB := TB_of 499 (by decide +kernel) rfl
theorem tw_500 : (Cond.selects "BrokeWhere" ({ cls := "BrokeWhere", name := "fault", desc := "()I" } : MethodName) ({ cls := "BrokeWhere", name := "fault", desc := "()I" } : MethodName)) ∈ TB := TB_of 500 (by decide +kernel) rfl
theorem tw_501 : (Cond.code ({ cls := "BrokeWhere", name := "fault", desc := "()I" } : MethodName) prog_1_method_21_code (1 : Nat) (Option.some FieldType.int)) ∈ TB := TB_of 501 (by decide +kernel) rfl
theorem tw_502 : (Cond.methodLink "BrokeWhere" (193 : Nat) ({ cls := "BrokeWhere$Text", name := "firstFault", desc := "()I" } : MethodName)) ∈ TB := TB_of 502 (by decide +kernel) rfl
theorem tw_503 : (Cond.instanceMethod ({ cls := "BrokeWhere$Text", name := "firstFault", desc := "()I" } : MethodName)) ∈ TB := TB_of 503 (by decide +kernel) rfl
theorem tw_504 : (Cond.selects "BrokeWhere$Text" ({ cls := "BrokeWhere$Text", name := "firstFault", desc := "()I" } : MethodName) ({ cls := "BrokeWhere$Text", name := "firstFault", desc := "()I" } : MethodName)) ∈ TB := TB_of 504 (by decide +kernel) rfl
theorem tw_505 : (Cond.code ({ cls := "BrokeWhere$Text", name := "firstFault", desc := "()I" } : MethodName) prog_7_method_4_code (6 : Nat) (Option.some FieldType.int)) ∈ TB := TB_of 505 (by decide +kernel) rfl
theorem tw_506 : (Cond.methodLink "BrokeWhere$Text" (22 : Nat) ({ cls := "BrokeWhere$Text", name := "textsOf", desc := "(I)I" } : MethodName)) ∈ TB := TB_of 506 (by decide +kernel) rfl
theorem tw_507 : (Cond.static ({ cls := "BrokeWhere$Text", name := "textsOf", desc := "(I)I" } : MethodName)) ∈ TB := TB_of 507 (by decide +kernel) rfl
theorem tw_508 : (Cond.code ({ cls := "BrokeWhere$Text", name := "textsOf", desc := "(I)I" } : MethodName) prog_7_method_3_code (1 : Nat) (Option.some FieldType.int)) ∈ TB := TB_of 508 (by decide +kernel) rfl
theorem tw_509 : (Cond.methodLink "BrokeWhereLaw" (101 : Nat) ({ cls := "BrokeWhere", name := "truth", desc := "()I" } : MethodName)) ∈ TB := TB_of 509 (by decide +kernel) rfl
theorem tw_510 : (Cond.instanceMethod ({ cls := "BrokeWhere", name := "truth", desc := "()I" } : MethodName)) ∈ TB := TB_of 510 (by decide +kernel) rfl
theorem tw_511 : (Cond.selects "BrokeWhere" ({ cls := "BrokeWhere", name := "truth", desc := "()I" } : MethodName) ({ cls := "BrokeWhere", name := "truth", desc := "()I" } : MethodName)) ∈ TB := TB_of 511 (by decide +kernel) rfl
theorem tw_512 : (Cond.code ({ cls := "BrokeWhere", name := "truth", desc := "()I" } : MethodName) prog_1_method_22_code (1 : Nat) (Option.some FieldType.int)) ∈ TB := TB_of 512 (by decide +kernel) rfl
theorem tw_513 : (Cond.methodLink "BrokeWhere" (197 : Nat) ({ cls := "BrokeWhere$Truth", name := "take", desc := "(LBrokeWhere$Text;)V" } : MethodName)) ∈ TB := TB_of 513 (by decide +kernel) rfl
theorem tw_514 : (Cond.instanceMethod ({ cls := "BrokeWhere$Truth", name := "take", desc := "(LBrokeWhere$Text;)V" } : MethodName)) ∈ TB := TB_of 514 (by decide +kernel) rfl
theorem tw_515 : (Cond.selects "BrokeWhere$Truth" ({ cls := "BrokeWhere$Truth", name := "take", desc := "(LBrokeWhere$Text;)V" } : MethodName) ({ cls := "BrokeWhere$Truth", name := "take", desc := "(LBrokeWhere$Text;)V" } : MethodName)) ∈ TB := TB_of 515 (by decide +kernel) rfl
theorem tw_516 : (Cond.code ({ cls := "BrokeWhere$Truth", name := "take", desc := "(LBrokeWhere$Text;)V" } : MethodName) prog_8_method_2_code (3 : Nat) (Option.none : Option FieldType)) ∈ TB := TB_of 516 (by decide +kernel) rfl
theorem tw_517 : (Cond.methodLink "BrokeWhere$Truth" (25 : Nat) ({ cls := "BrokeWhere$Truth", name := "valueOf", desc := "(LBrokeWhere$Text;I)J" } : MethodName)) ∈ TB := TB_of 517 (by decide +kernel) rfl
theorem tw_519 : (Cond.instanceMethod ({ cls := "BrokeWhere$Truth", name := "valueOf", desc := "(LBrokeWhere$Text;I)J" } : MethodName)) ∈ TB := TB_of 519 (by decide +kernel) rfl
theorem tw_520 : (Cond.code ({ cls := "BrokeWhere$Truth", name := "valueOf", desc := "(LBrokeWhere$Text;I)J" } : MethodName) prog_8_method_3_code (11 : Nat) (Option.some FieldType.long)) ∈ TB := TB_of 520 (by decide +kernel) rfl
theorem tw_521 : (Cond.methodLink "BrokeWhere$Truth" (33 : Nat) ({ cls := "BrokeWhere$Text", name := "textsOf", desc := "(I)I" } : MethodName)) ∈ TB := TB_of 521 (by decide +kernel) rfl
theorem tw_523 : (Cond.static ({ cls := "BrokeWhere", name := "setsWith", desc := "(II)J" } : MethodName)) ∈ TB := TB_of 523 (by decide +kernel) rfl
theorem tw_524 : (Cond.code ({ cls := "BrokeWhere", name := "setsWith", desc := "(II)J" } : MethodName) prog_1_method_41_code (2 : Nat) (Option.some FieldType.long)) ∈ TB := TB_of 524 (by decide +kernel) rfl
theorem tw_525 : (Cond.fieldLink "BrokeWhere" (257 : Nat) "BrokeWhere" "LOW_SETS" "[J") ∈ TB := TB_of 525 (by decide +kernel) rfl
theorem tw_527 : (Cond.methodLink "BrokeWhere" (260 : Nat) ({ cls := "BrokeWhere", name := "isBit", desc := "(II)Z" } : MethodName)) ∈ TB := TB_of 527 (by decide +kernel) rfl
theorem tw_528 : (Cond.constantLong "BrokeWhere" (263 : Nat) (-1 : Int64)) ∈ TB := TB_of 528 (by decide +kernel) rfl
theorem tw_529 : (Cond.constantLong "BrokeWhere$Truth" (41 : Nat) (-1 : Int64)) ∈ TB := TB_of 529 (by decide +kernel) rfl
theorem tw_530 : (Cond.methodLink "BrokeWhereLaw" (105 : Nat) ({ cls := "BrokeWhere", name := "fails", desc := "(II)I" } : MethodName)) ∈ TB := TB_of 530 (by decide +kernel) rfl
theorem tw_531 : (Cond.instanceMethod ({ cls := "BrokeWhere", name := "fails", desc := "(II)I" } : MethodName)) ∈ TB := TB_of 531 (by decide +kernel) rfl
theorem tw_532 : (Cond.selects "BrokeWhere" ({ cls := "BrokeWhere", name := "fails", desc := "(II)I" } : MethodName) ({ cls := "BrokeWhere", name := "fails", desc := "(II)I" } : MethodName)) ∈ TB := TB_of 532 (by decide +kernel) rfl
theorem tw_533 : (Cond.code ({ cls := "BrokeWhere", name := "fails", desc := "(II)I" } : MethodName) prog_1_method_23_code (3 : Nat) (Option.some FieldType.int)) ∈ TB := TB_of 533 (by decide +kernel) rfl
theorem tw_534 : (Cond.methodLink "BrokeWhere" (202 : Nat) ({ cls := "BrokeWhere$Families", name := "isSound", desc := "(I)Z" } : MethodName)) ∈ TB := TB_of 534 (by decide +kernel) rfl
theorem tw_535 : (Cond.instanceMethod ({ cls := "BrokeWhere$Families", name := "isSound", desc := "(I)Z" } : MethodName)) ∈ TB := TB_of 535 (by decide +kernel) rfl
theorem tw_536 : (Cond.selects "BrokeWhere$Families" ({ cls := "BrokeWhere$Families", name := "isSound", desc := "(I)Z" } : MethodName) ({ cls := "BrokeWhere$Families", name := "isSound", desc := "(I)Z" } : MethodName)) ∈ TB := TB_of 536 (by decide +kernel) rfl
theorem tw_537 : (Cond.code ({ cls := "BrokeWhere$Families", name := "isSound", desc := "(I)Z" } : MethodName) prog_2_method_3_code (2 : Nat) (Option.some FieldType.boolean)) ∈ TB := TB_of 537 (by decide +kernel) rfl
theorem tw_538 : (Cond.methodLink "BrokeWhere$Families" (45 : Nat) ({ cls := "BrokeWhere$Families", name := "soundSets", desc := "(I)J" } : MethodName)) ∈ TB := TB_of 538 (by decide +kernel) rfl
theorem tw_540 : (Cond.instanceMethod ({ cls := "BrokeWhere$Families", name := "soundSets", desc := "(I)J" } : MethodName)) ∈ TB := TB_of 540 (by decide +kernel) rfl
theorem tw_541 : (Cond.code ({ cls := "BrokeWhere$Families", name := "soundSets", desc := "(I)J" } : MethodName) prog_2_method_2_code (5 : Nat) (Option.some FieldType.long)) ∈ TB := TB_of 541 (by decide +kernel) rfl
theorem tw_542 : (Cond.constantLong "BrokeWhere$Families" (26 : Nat) (-1 : Int64)) ∈ TB := TB_of 542 (by decide +kernel) rfl
theorem tw_545 : (Cond.static ({ cls := "BrokeWhere", name := "setsWithAll", desc := "(II)J" } : MethodName)) ∈ TB := TB_of 545 (by decide +kernel) rfl
theorem tw_546 : (Cond.code ({ cls := "BrokeWhere", name := "setsWithAll", desc := "(II)J" } : MethodName) prog_1_method_42_code (5 : Nat) (Option.some FieldType.long)) ∈ TB := TB_of 546 (by decide +kernel) rfl
theorem tw_547 : (Cond.methodLink "BrokeWhere" (265 : Nat) ({ cls := "BrokeWhere", name := "setsWith", desc := "(II)J" } : MethodName)) ∈ TB := TB_of 547 (by decide +kernel) rfl
theorem tw_549 : (Cond.static ({ cls := "BrokeWhere", name := "isOfWord", desc := "(JI)Z" } : MethodName)) ∈ TB := TB_of 549 (by decide +kernel) rfl
theorem tw_550 : (Cond.code ({ cls := "BrokeWhere", name := "isOfWord", desc := "(JI)Z" } : MethodName) prog_1_method_46_code (3 : Nat) (Option.some FieldType.boolean)) ∈ TB := TB_of 550 (by decide +kernel) rfl
theorem tw_551 : (Cond.methodLink "BrokeWhere" (209 : Nat) ({ cls := "BrokeWhere", name := "isAmong", desc := "([JI)Z" } : MethodName)) ∈ TB := TB_of 551 (by decide +kernel) rfl
theorem tw_552 : (Cond.static ({ cls := "BrokeWhere", name := "isAmong", desc := "([JI)Z" } : MethodName)) ∈ TB := TB_of 552 (by decide +kernel) rfl
theorem tw_553 : (Cond.code ({ cls := "BrokeWhere", name := "isAmong", desc := "([JI)Z" } : MethodName) prog_1_method_45_code (2 : Nat) (Option.some FieldType.boolean)) ∈ TB := TB_of 553 (by decide +kernel) rfl
theorem tw_554 : (Cond.methodLink "BrokeWhere" (269 : Nat) ({ cls := "BrokeWhere", name := "isOfWord", desc := "(JI)Z" } : MethodName)) ∈ TB := TB_of 554 (by decide +kernel) rfl
theorem tw_555 : (Cond.methodLink "BrokeWhereLaw" (109 : Nat) ({ cls := "BrokeWhere", name := "play", desc := "(I)I" } : MethodName)) ∈ TB := TB_of 555 (by decide +kernel) rfl
theorem tw_556 : (Cond.instanceMethod ({ cls := "BrokeWhere", name := "play", desc := "(I)I" } : MethodName)) ∈ TB := TB_of 556 (by decide +kernel) rfl
theorem tw_557 : (Cond.selects "BrokeWhere" ({ cls := "BrokeWhere", name := "play", desc := "(I)I" } : MethodName) ({ cls := "BrokeWhere", name := "play", desc := "(I)I" } : MethodName)) ∈ TB := TB_of 557 (by decide +kernel) rfl
theorem tw_558 : (Cond.code ({ cls := "BrokeWhere", name := "play", desc := "(I)I" } : MethodName) prog_1_method_24_code (4 : Nat) (Option.some FieldType.int)) ∈ TB := TB_of 558 (by decide +kernel) rfl
theorem tw_559 : (Cond.methodLink "BrokeWhere" (213 : Nat) ({ cls := "BrokeWhere$History", name := "hearing", desc := "()I" } : MethodName)) ∈ TB := TB_of 559 (by decide +kernel) rfl
theorem tw_560 : (Cond.methodLink "BrokeWhere" (216 : Nat) ({ cls := "BrokeWhere$Stories", name := "guessIsBelow", desc := "(I)Z" } : MethodName)) ∈ TB := TB_of 560 (by decide +kernel) rfl
theorem tw_561 : (Cond.instanceMethod ({ cls := "BrokeWhere$Stories", name := "guessIsBelow", desc := "(I)Z" } : MethodName)) ∈ TB := TB_of 561 (by decide +kernel) rfl
theorem tw_562 : (Cond.selects "BrokeWhere$Stories" ({ cls := "BrokeWhere$Stories", name := "guessIsBelow", desc := "(I)Z" } : MethodName) ({ cls := "BrokeWhere$Stories", name := "guessIsBelow", desc := "(I)Z" } : MethodName)) ∈ TB := TB_of 562 (by decide +kernel) rfl
theorem tw_563 : (Cond.code ({ cls := "BrokeWhere$Stories", name := "guessIsBelow", desc := "(I)Z" } : MethodName) prog_6_method_13_code (2 : Nat) (Option.some FieldType.boolean)) ∈ TB := TB_of 563 (by decide +kernel) rfl
theorem tw_564 : (Cond.constantLong "BrokeWhere$Stories" (129 : Nat) (10 : Int64)) ∈ TB := TB_of 564 (by decide +kernel) rfl
theorem tw_565 : (Cond.methodLink "BrokeWhereLaw" (113 : Nat) ({ cls := "BrokeWhere", name := "out", desc := "(II)I" } : MethodName)) ∈ TB := TB_of 565 (by decide +kernel) rfl
theorem tw_566 : (Cond.instanceMethod ({ cls := "BrokeWhere", name := "out", desc := "(II)I" } : MethodName)) ∈ TB := TB_of 566 (by decide +kernel) rfl
theorem tw_567 : (Cond.selects "BrokeWhere" ({ cls := "BrokeWhere", name := "out", desc := "(II)I" } : MethodName) ({ cls := "BrokeWhere", name := "out", desc := "(II)I" } : MethodName)) ∈ TB := TB_of 567 (by decide +kernel) rfl
theorem tw_568 : (Cond.code ({ cls := "BrokeWhere", name := "out", desc := "(II)I" } : MethodName) prog_1_method_25_code (4 : Nat) (Option.some FieldType.int)) ∈ TB := TB_of 568 (by decide +kernel) rfl
theorem tw_569 : (Cond.methodLink "BrokeWhere" (219 : Nat) ({ cls := "BrokeWhere$Families", name := "leastOut", desc := "(I)I" } : MethodName)) ∈ TB := TB_of 569 (by decide +kernel) rfl
theorem tw_570 : (Cond.instanceMethod ({ cls := "BrokeWhere$Families", name := "leastOut", desc := "(I)I" } : MethodName)) ∈ TB := TB_of 570 (by decide +kernel) rfl
theorem tw_571 : (Cond.selects "BrokeWhere$Families" ({ cls := "BrokeWhere$Families", name := "leastOut", desc := "(I)I" } : MethodName) ({ cls := "BrokeWhere$Families", name := "leastOut", desc := "(I)I" } : MethodName)) ∈ TB := TB_of 571 (by decide +kernel) rfl
theorem tw_572 : (Cond.code ({ cls := "BrokeWhere$Families", name := "leastOut", desc := "(I)I" } : MethodName) prog_2_method_4_code (5 : Nat) (Option.some FieldType.int)) ∈ TB := TB_of 572 (by decide +kernel) rfl
theorem tw_574 : (Cond.methodLink "BrokeWhere$Families" (62 : Nat) ({ cls := "BrokeWhere$Families", name := "isLess", desc := "(II)Z" } : MethodName)) ∈ TB := TB_of 574 (by decide +kernel) rfl
theorem tw_576 : (Cond.instanceMethod ({ cls := "BrokeWhere$Families", name := "isLess", desc := "(II)Z" } : MethodName)) ∈ TB := TB_of 576 (by decide +kernel) rfl
theorem tw_577 : (Cond.code ({ cls := "BrokeWhere$Families", name := "isLess", desc := "(II)Z" } : MethodName) prog_2_method_5_code (4 : Nat) (Option.some FieldType.boolean)) ∈ TB := TB_of 577 (by decide +kernel) rfl
theorem tw_578 : (Cond.methodLink "BrokeWhere$Families" (66 : Nat) ({ cls := "java/lang/Integer", name := "bitCount", desc := "(I)I" } : MethodName)) ∈ TB := TB_of 578 (by decide +kernel) rfl
theorem tw_579 : (Cond.static ({ cls := "java/lang/Integer", name := "bitCount", desc := "(I)I" } : MethodName)) ∈ TB := TB_of 579 (by decide +kernel) rfl
theorem tw_580 : (Cond.code ({ cls := "java/lang/Integer", name := "bitCount", desc := "(I)I" } : MethodName) prog_11_method_49_code (1 : Nat) (Option.some FieldType.int)) ∈ TB := TB_of 580 (by decide +kernel) rfl
theorem tw_581 : (Cond.constant "java/lang/Integer" (265 : Nat) (1431655765 : Int32)) ∈ TB := TB_of 581 (by decide +kernel) rfl
theorem tw_582 : (Cond.constant "java/lang/Integer" (266 : Nat) (858993459 : Int32)) ∈ TB := TB_of 582 (by decide +kernel) rfl
theorem tw_583 : (Cond.constant "java/lang/Integer" (267 : Nat) (252645135 : Int32)) ∈ TB := TB_of 583 (by decide +kernel) rfl
theorem tw_584 : (Cond.methodLink "BrokeWhere$Families" (72 : Nat) ({ cls := "BrokeWhere$History", name := "sizes", desc := "(I)I" } : MethodName)) ∈ TB := TB_of 584 (by decide +kernel) rfl
theorem tw_585 : (Cond.methodLink "BrokeWhere" (222 : Nat) ({ cls := "BrokeWhere$History", name := "sizes", desc := "(I)I" } : MethodName)) ∈ TB := TB_of 585 (by decide +kernel) rfl
theorem tw_586 : (Cond.methodLink "BrokeWhereLaw" (117 : Nat) ({ cls := "BrokeWhere", name := "core", desc := "(II)I" } : MethodName)) ∈ TB := TB_of 586 (by decide +kernel) rfl
theorem tw_587 : (Cond.instanceMethod ({ cls := "BrokeWhere", name := "core", desc := "(II)I" } : MethodName)) ∈ TB := TB_of 587 (by decide +kernel) rfl
theorem tw_588 : (Cond.selects "BrokeWhere" ({ cls := "BrokeWhere", name := "core", desc := "(II)I" } : MethodName) ({ cls := "BrokeWhere", name := "core", desc := "(II)I" } : MethodName)) ∈ TB := TB_of 588 (by decide +kernel) rfl
theorem tw_589 : (Cond.code ({ cls := "BrokeWhere", name := "core", desc := "(II)I" } : MethodName) prog_1_method_26_code (3 : Nat) (Option.some FieldType.int)) ∈ TB := TB_of 589 (by decide +kernel) rfl
theorem tw_590 : (Cond.methodLink "BrokeWhere" (225 : Nat) ({ cls := "BrokeWhere$Families", name := "findCores", desc := "(I)V" } : MethodName)) ∈ TB := TB_of 590 (by decide +kernel) rfl
theorem tw_591 : (Cond.instanceMethod ({ cls := "BrokeWhere$Families", name := "findCores", desc := "(I)V" } : MethodName)) ∈ TB := TB_of 591 (by decide +kernel) rfl
theorem tw_592 : (Cond.selects "BrokeWhere$Families" ({ cls := "BrokeWhere$Families", name := "findCores", desc := "(I)V" } : MethodName) ({ cls := "BrokeWhere$Families", name := "findCores", desc := "(I)V" } : MethodName)) ∈ TB := TB_of 592 (by decide +kernel) rfl
theorem tw_593 : (Cond.code ({ cls := "BrokeWhere$Families", name := "findCores", desc := "(I)V" } : MethodName) prog_2_method_6_code (4 : Nat) (Option.none : Option FieldType)) ∈ TB := TB_of 593 (by decide +kernel) rfl
theorem tw_595 : (Cond.static ({ cls := "BrokeWhere", name := "setsWithin", desc := "(II)J" } : MethodName)) ∈ TB := TB_of 595 (by decide +kernel) rfl
theorem tw_596 : (Cond.code ({ cls := "BrokeWhere", name := "setsWithin", desc := "(II)J" } : MethodName) prog_1_method_43_code (5 : Nat) (Option.some FieldType.long)) ∈ TB := TB_of 596 (by decide +kernel) rfl
theorem tw_598 : (Cond.static ({ cls := "BrokeWhere", name := "setsGiven", desc := "(I[JI)J" } : MethodName)) ∈ TB := TB_of 598 (by decide +kernel) rfl
theorem tw_599 : (Cond.code ({ cls := "BrokeWhere", name := "setsGiven", desc := "(I[JI)J" } : MethodName) prog_1_method_44_code (4 : Nat) (Option.some FieldType.long)) ∈ TB := TB_of 599 (by decide +kernel) rfl
theorem tw_600 : (Cond.methodLink "BrokeWhere" (229 : Nat) ({ cls := "BrokeWhere$Families", name := "countFound", desc := "()I" } : MethodName)) ∈ TB := TB_of 600 (by decide +kernel) rfl
theorem tw_601 : (Cond.instanceMethod ({ cls := "BrokeWhere$Families", name := "countFound", desc := "()I" } : MethodName)) ∈ TB := TB_of 601 (by decide +kernel) rfl
theorem tw_602 : (Cond.selects "BrokeWhere$Families" ({ cls := "BrokeWhere$Families", name := "countFound", desc := "()I" } : MethodName) ({ cls := "BrokeWhere$Families", name := "countFound", desc := "()I" } : MethodName)) ∈ TB := TB_of 602 (by decide +kernel) rfl
theorem tw_603 : (Cond.code ({ cls := "BrokeWhere$Families", name := "countFound", desc := "()I" } : MethodName) prog_2_method_7_code (3 : Nat) (Option.some FieldType.int)) ∈ TB := TB_of 603 (by decide +kernel) rfl
theorem tw_604 : (Cond.methodLink "BrokeWhere$Families" (82 : Nat) ({ cls := "java/lang/Long", name := "bitCount", desc := "(J)I" } : MethodName)) ∈ TB := TB_of 604 (by decide +kernel) rfl
theorem tw_605 : (Cond.static ({ cls := "java/lang/Long", name := "bitCount", desc := "(J)I" } : MethodName)) ∈ TB := TB_of 605 (by decide +kernel) rfl
theorem tw_606 : (Cond.code ({ cls := "java/lang/Long", name := "bitCount", desc := "(J)I" } : MethodName) prog_12_method_50_code (2 : Nat) (Option.some FieldType.int)) ∈ TB := TB_of 606 (by decide +kernel) rfl
theorem tw_607 : (Cond.constantLong "java/lang/Long" (314 : Nat) (6148914691236517205 : Int64)) ∈ TB := TB_of 607 (by decide +kernel) rfl
theorem tw_608 : (Cond.constantLong "java/lang/Long" (316 : Nat) (3689348814741910323 : Int64)) ∈ TB := TB_of 608 (by decide +kernel) rfl
theorem tw_609 : (Cond.constantLong "java/lang/Long" (318 : Nat) (1085102592571150095 : Int64)) ∈ TB := TB_of 609 (by decide +kernel) rfl
theorem tw_610 : (Cond.methodLink "BrokeWhere" (232 : Nat) ({ cls := "BrokeWhere$Families", name := "foundAt", desc := "(I)I" } : MethodName)) ∈ TB := TB_of 610 (by decide +kernel) rfl
theorem tw_611 : (Cond.instanceMethod ({ cls := "BrokeWhere$Families", name := "foundAt", desc := "(I)I" } : MethodName)) ∈ TB := TB_of 611 (by decide +kernel) rfl
theorem tw_612 : (Cond.selects "BrokeWhere$Families" ({ cls := "BrokeWhere$Families", name := "foundAt", desc := "(I)I" } : MethodName) ({ cls := "BrokeWhere$Families", name := "foundAt", desc := "(I)I" } : MethodName)) ∈ TB := TB_of 612 (by decide +kernel) rfl
theorem tw_613 : (Cond.code ({ cls := "BrokeWhere$Families", name := "foundAt", desc := "(I)I" } : MethodName) prog_2_method_8_code (5 : Nat) (Option.some FieldType.int)) ∈ TB := TB_of 613 (by decide +kernel) rfl
theorem tw_614 : (Cond.methodLink "BrokeWhere$Families" (87 : Nat) ({ cls := "BrokeWhere$Families", name := "foundFrom", desc := "(II)I" } : MethodName)) ∈ TB := TB_of 614 (by decide +kernel) rfl
theorem tw_616 : (Cond.instanceMethod ({ cls := "BrokeWhere$Families", name := "foundFrom", desc := "(II)I" } : MethodName)) ∈ TB := TB_of 616 (by decide +kernel) rfl
theorem tw_617 : (Cond.code ({ cls := "BrokeWhere$Families", name := "foundFrom", desc := "(II)I" } : MethodName) prog_2_method_9_code (5 : Nat) (Option.some FieldType.int)) ∈ TB := TB_of 617 (by decide +kernel) rfl
theorem tw_618 : (Cond.methodLink "BrokeWhereLaw" (121 : Nat) ({ cls := "BrokeWhere", name := "told", desc := "(I)I" } : MethodName)) ∈ TB := TB_of 618 (by decide +kernel) rfl
theorem tw_619 : (Cond.instanceMethod ({ cls := "BrokeWhere", name := "told", desc := "(I)I" } : MethodName)) ∈ TB := TB_of 619 (by decide +kernel) rfl
theorem tw_620 : (Cond.selects "BrokeWhere" ({ cls := "BrokeWhere", name := "told", desc := "(I)I" } : MethodName) ({ cls := "BrokeWhere", name := "told", desc := "(I)I" } : MethodName)) ∈ TB := TB_of 620 (by decide +kernel) rfl
theorem tw_621 : (Cond.code ({ cls := "BrokeWhere", name := "told", desc := "(I)I" } : MethodName) prog_1_method_27_code (4 : Nat) (Option.some FieldType.int)) ∈ TB := TB_of 621 (by decide +kernel) rfl
theorem tw_622 : (Cond.classLink "BrokeWhereLaw" (10 : Nat) "BrokeWhereModel") ∈ TB := TB_of 622 (by decide +kernel) rfl
theorem tw_623 : (Cond.instantiable "BrokeWhereModel" (28 : Nat)) ∈ TB := TB_of 623 (by decide +kernel) rfl
theorem tw_624 : (Cond.methodLink "BrokeWhereLaw" (12 : Nat) ({ cls := "BrokeWhereModel", name := "<init>", desc := "()V" } : MethodName)) ∈ TB := TB_of 624 (by decide +kernel) rfl
theorem tw_625 : (Cond.instanceMethod ({ cls := "BrokeWhereModel", name := "<init>", desc := "()V" } : MethodName)) ∈ TB := TB_of 625 (by decide +kernel) rfl
theorem tw_626 : (Cond.code ({ cls := "BrokeWhereModel", name := "<init>", desc := "()V" } : MethodName) prog_10_method_1_code (1 : Nat) (Option.none : Option FieldType)) ∈ TB := TB_of 626 (by decide +kernel) rfl
theorem tw_627 : (Cond.methodLink "BrokeWhereModel" (1 : Nat) ({ cls := "java/lang/Object", name := "<init>", desc := "()V" } : MethodName)) ∈ TB := TB_of 627 (by decide +kernel) rfl
theorem tw_628 : (Cond.fieldLink "BrokeWhereModel" (75 : Nat) "BrokeWhereModel" "versions" "I") ∈ TB := TB_of 628 (by decide +kernel) rfl
theorem tw_629 : (Cond.fieldLink "BrokeWhereModel" (7 : Nat) "BrokeWhereModel" "hasOf" "[I") ∈ TB := TB_of 629 (by decide +kernel) rfl
theorem tw_630 : (Cond.fieldLink "BrokeWhereModel" (13 : Nat) "BrokeWhereModel" "size" "[I") ∈ TB := TB_of 630 (by decide +kernel) rfl
theorem tw_631 : (Cond.fieldLink "BrokeWhereModel" (16 : Nat) "BrokeWhereModel" "cost" "[I") ∈ TB := TB_of 631 (by decide +kernel) rfl
theorem tw_632 : (Cond.fieldLink "BrokeWhereModel" (19 : Nat) "BrokeWhereModel" "needs" "[I") ∈ TB := TB_of 632 (by decide +kernel) rfl
theorem tw_633 : (Cond.fieldLink "BrokeWhereModel" (22 : Nat) "BrokeWhereModel" "deaf" "[Z") ∈ TB := TB_of 633 (by decide +kernel) rfl
theorem tw_634 : (Cond.fieldLink "BrokeWhereModel" (91 : Nat) "BrokeWhereModel" "tests" "I") ∈ TB := TB_of 634 (by decide +kernel) rfl
theorem tw_635 : (Cond.fieldLink "BrokeWhereModel" (26 : Nat) "BrokeWhereModel" "testOf" "[I") ∈ TB := TB_of 635 (by decide +kernel) rfl
theorem tw_636 : (Cond.fieldLink "BrokeWhereModel" (29 : Nat) "BrokeWhereModel" "passed" "[Z") ∈ TB := TB_of 636 (by decide +kernel) rfl
theorem tw_637 : (Cond.fieldLink "BrokeWhereModel" (32 : Nat) "BrokeWhereModel" "trust" "[I") ∈ TB := TB_of 637 (by decide +kernel) rfl
theorem tw_638 : (Cond.fieldLink "BrokeWhereModel" (172 : Nat) "BrokeWhereModel" "signs" "I") ∈ TB := TB_of 638 (by decide +kernel) rfl
theorem tw_639 : (Cond.fieldLink "BrokeWhereModel" (35 : Nat) "BrokeWhereModel" "sign" "[I") ∈ TB := TB_of 639 (by decide +kernel) rfl
theorem tw_640 : (Cond.fieldLink "BrokeWhereModel" (178 : Nat) "BrokeWhereModel" "told" "I") ∈ TB := TB_of 640 (by decide +kernel) rfl
theorem tw_641 : (Cond.fieldLink "BrokeWhereModel" (38 : Nat) "BrokeWhereModel" "truth" "[I") ∈ TB := TB_of 641 (by decide +kernel) rfl
theorem tw_642 : (Cond.fieldLink "BrokeWhereModel" (112 : Nat) "BrokeWhereModel" "stories" "I") ∈ TB := TB_of 642 (by decide +kernel) rfl
theorem tw_643 : (Cond.fieldLink "BrokeWhereModel" (41 : Nat) "BrokeWhereModel" "sort" "[I") ∈ TB := TB_of 643 (by decide +kernel) rfl
theorem tw_644 : (Cond.fieldLink "BrokeWhereModel" (44 : Nat) "BrokeWhereModel" "one" "[I") ∈ TB := TB_of 644 (by decide +kernel) rfl
theorem tw_645 : (Cond.fieldLink "BrokeWhereModel" (47 : Nat) "BrokeWhereModel" "two" "[I") ∈ TB := TB_of 645 (by decide +kernel) rfl
theorem tw_646 : (Cond.fieldLink "BrokeWhereModel" (50 : Nat) "BrokeWhereModel" "weight" "[J") ∈ TB := TB_of 646 (by decide +kernel) rfl
theorem tw_647 : (Cond.fieldLink "BrokeWhereModel" (119 : Nat) "BrokeWhereModel" "all" "J") ∈ TB := TB_of 647 (by decide +kernel) rfl
theorem tw_648 : (Cond.fieldLink "BrokeWhereModel" (87 : Nat) "BrokeWhereModel" "isLaid" "Z") ∈ TB := TB_of 648 (by decide +kernel) rfl
theorem tw_649 : (Cond.fieldLink "BrokeWhereModel" (54 : Nat) "BrokeWhereModel" "most" "[I") ∈ TB := TB_of 649 (by decide +kernel) rfl
theorem tw_650 : (Cond.fieldLink "BrokeWhereModel" (57 : Nat) "BrokeWhereModel" "mostFirst" "[I") ∈ TB := TB_of 650 (by decide +kernel) rfl
theorem tw_651 : (Cond.fieldLink "BrokeWhereModel" (60 : Nat) "BrokeWhereModel" "sum" "[I") ∈ TB := TB_of 651 (by decide +kernel) rfl
theorem tw_652 : (Cond.fieldLink "BrokeWhereModel" (63 : Nat) "BrokeWhereModel" "sumFirst" "[I") ∈ TB := TB_of 652 (by decide +kernel) rfl
theorem tw_653 : (Cond.fieldLink "BrokeWhereModel" (66 : Nat) "BrokeWhereModel" "due" "[I") ∈ TB := TB_of 653 (by decide +kernel) rfl
theorem tw_654 : (Cond.fieldLink "BrokeWhereModel" (69 : Nat) "BrokeWhereModel" "pile" "[Z") ∈ TB := TB_of 654 (by decide +kernel) rfl
theorem tw_655 : (Cond.fieldLink "BrokeWhereModel" (72 : Nat) "BrokeWhereModel" "bad" "[Z") ∈ TB := TB_of 655 (by decide +kernel) rfl
theorem tw_656 : (Cond.lays "BrokeWhereModel" "BrokeWhereModel" "versions" "I") ∈ TB := TB_of 656 (by decide +kernel) rfl
theorem tw_658 : (Cond.laysFinal "BrokeWhereModel" "BrokeWhereModel" "hasOf" "[I") ∈ TB := TB_of 658 (by decide +kernel) rfl
theorem tw_660 : (Cond.laysFinal "BrokeWhereModel" "BrokeWhereModel" "size" "[I") ∈ TB := TB_of 660 (by decide +kernel) rfl
theorem tw_662 : (Cond.laysFinal "BrokeWhereModel" "BrokeWhereModel" "cost" "[I") ∈ TB := TB_of 662 (by decide +kernel) rfl
theorem tw_664 : (Cond.laysFinal "BrokeWhereModel" "BrokeWhereModel" "needs" "[I") ∈ TB := TB_of 664 (by decide +kernel) rfl
theorem tw_666 : (Cond.laysFinal "BrokeWhereModel" "BrokeWhereModel" "deaf" "[Z") ∈ TB := TB_of 666 (by decide +kernel) rfl
theorem tw_668 : (Cond.lays "BrokeWhereModel" "BrokeWhereModel" "tests" "I") ∈ TB := TB_of 668 (by decide +kernel) rfl
theorem tw_670 : (Cond.laysFinal "BrokeWhereModel" "BrokeWhereModel" "testOf" "[I") ∈ TB := TB_of 670 (by decide +kernel) rfl
theorem tw_672 : (Cond.laysFinal "BrokeWhereModel" "BrokeWhereModel" "passed" "[Z") ∈ TB := TB_of 672 (by decide +kernel) rfl
theorem tw_674 : (Cond.laysFinal "BrokeWhereModel" "BrokeWhereModel" "trust" "[I") ∈ TB := TB_of 674 (by decide +kernel) rfl
theorem tw_676 : (Cond.lays "BrokeWhereModel" "BrokeWhereModel" "signs" "I") ∈ TB := TB_of 676 (by decide +kernel) rfl
theorem tw_678 : (Cond.laysFinal "BrokeWhereModel" "BrokeWhereModel" "sign" "[I") ∈ TB := TB_of 678 (by decide +kernel) rfl
theorem tw_680 : (Cond.lays "BrokeWhereModel" "BrokeWhereModel" "told" "I") ∈ TB := TB_of 680 (by decide +kernel) rfl
theorem tw_682 : (Cond.laysFinal "BrokeWhereModel" "BrokeWhereModel" "truth" "[I") ∈ TB := TB_of 682 (by decide +kernel) rfl
theorem tw_684 : (Cond.lays "BrokeWhereModel" "BrokeWhereModel" "stories" "I") ∈ TB := TB_of 684 (by decide +kernel) rfl
theorem tw_686 : (Cond.laysFinal "BrokeWhereModel" "BrokeWhereModel" "sort" "[I") ∈ TB := TB_of 686 (by decide +kernel) rfl
theorem tw_688 : (Cond.laysFinal "BrokeWhereModel" "BrokeWhereModel" "one" "[I") ∈ TB := TB_of 688 (by decide +kernel) rfl
theorem tw_690 : (Cond.laysFinal "BrokeWhereModel" "BrokeWhereModel" "two" "[I") ∈ TB := TB_of 690 (by decide +kernel) rfl
theorem tw_692 : (Cond.laysFinal "BrokeWhereModel" "BrokeWhereModel" "weight" "[J") ∈ TB := TB_of 692 (by decide +kernel) rfl
theorem tw_694 : (Cond.lays "BrokeWhereModel" "BrokeWhereModel" "all" "J") ∈ TB := TB_of 694 (by decide +kernel) rfl
theorem tw_696 : (Cond.lays "BrokeWhereModel" "BrokeWhereModel" "isLaid" "Z") ∈ TB := TB_of 696 (by decide +kernel) rfl
theorem tw_698 : (Cond.laysFinal "BrokeWhereModel" "BrokeWhereModel" "most" "[I") ∈ TB := TB_of 698 (by decide +kernel) rfl
theorem tw_700 : (Cond.laysFinal "BrokeWhereModel" "BrokeWhereModel" "mostFirst" "[I") ∈ TB := TB_of 700 (by decide +kernel) rfl
theorem tw_702 : (Cond.laysFinal "BrokeWhereModel" "BrokeWhereModel" "sum" "[I") ∈ TB := TB_of 702 (by decide +kernel) rfl
theorem tw_704 : (Cond.laysFinal "BrokeWhereModel" "BrokeWhereModel" "sumFirst" "[I") ∈ TB := TB_of 704 (by decide +kernel) rfl
theorem tw_706 : (Cond.laysFinal "BrokeWhereModel" "BrokeWhereModel" "due" "[I") ∈ TB := TB_of 706 (by decide +kernel) rfl
theorem tw_708 : (Cond.laysFinal "BrokeWhereModel" "BrokeWhereModel" "pile" "[Z") ∈ TB := TB_of 708 (by decide +kernel) rfl
theorem tw_710 : (Cond.laysFinal "BrokeWhereModel" "BrokeWhereModel" "bad" "[Z") ∈ TB := TB_of 710 (by decide +kernel) rfl
theorem tw_713 : (Cond.methodLink "BrokeWhereLaw" (17 : Nat) ({ cls := "BrokeWhereModel", name := "version", desc := "(III)I" } : MethodName)) ∈ TB := TB_of 713 (by decide +kernel) rfl
theorem tw_714 : (Cond.instanceMethod ({ cls := "BrokeWhereModel", name := "version", desc := "(III)I" } : MethodName)) ∈ TB := TB_of 714 (by decide +kernel) rfl
theorem tw_715 : (Cond.selects "BrokeWhereModel" ({ cls := "BrokeWhereModel", name := "version", desc := "(III)I" } : MethodName) ({ cls := "BrokeWhereModel", name := "version", desc := "(III)I" } : MethodName)) ∈ TB := TB_of 715 (by decide +kernel) rfl
theorem tw_716 : (Cond.code ({ cls := "BrokeWhereModel", name := "version", desc := "(III)I" } : MethodName) prog_10_method_6_code (5 : Nat) (Option.some FieldType.int)) ∈ TB := TB_of 716 (by decide +kernel) rfl
theorem tw_717 : (Cond.methodLink "BrokeWhereModel" (83 : Nat) ({ cls := "BrokeWhereModel", name := "isVersion", desc := "(I)Z" } : MethodName)) ∈ TB := TB_of 717 (by decide +kernel) rfl
theorem tw_719 : (Cond.instanceMethod ({ cls := "BrokeWhereModel", name := "isVersion", desc := "(I)Z" } : MethodName)) ∈ TB := TB_of 719 (by decide +kernel) rfl
theorem tw_720 : (Cond.code ({ cls := "BrokeWhereModel", name := "isVersion", desc := "(I)Z" } : MethodName) prog_10_method_3_code (2 : Nat) (Option.some FieldType.boolean)) ∈ TB := TB_of 720 (by decide +kernel) rfl
theorem tw_721 : (Cond.methodLink "BrokeWhereModel" (79 : Nat) ({ cls := "BrokeWhereModel", name := "in", desc := "(III)Z" } : MethodName)) ∈ TB := TB_of 721 (by decide +kernel) rfl
theorem tw_722 : (Cond.static ({ cls := "BrokeWhereModel", name := "in", desc := "(III)Z" } : MethodName)) ∈ TB := TB_of 722 (by decide +kernel) rfl
theorem tw_723 : (Cond.code ({ cls := "BrokeWhereModel", name := "in", desc := "(III)Z" } : MethodName) prog_10_method_2_code (3 : Nat) (Option.some FieldType.boolean)) ∈ TB := TB_of 723 (by decide +kernel) rfl
theorem tw_724 : (Cond.methodLink "BrokeWhereLaw" (22 : Nat) ({ cls := "BrokeWhereModel", name := "has", desc := "(I)I" } : MethodName)) ∈ TB := TB_of 724 (by decide +kernel) rfl
theorem tw_725 : (Cond.instanceMethod ({ cls := "BrokeWhereModel", name := "has", desc := "(I)I" } : MethodName)) ∈ TB := TB_of 725 (by decide +kernel) rfl
theorem tw_726 : (Cond.selects "BrokeWhereModel" ({ cls := "BrokeWhereModel", name := "has", desc := "(I)I" } : MethodName) ({ cls := "BrokeWhereModel", name := "has", desc := "(I)I" } : MethodName)) ∈ TB := TB_of 726 (by decide +kernel) rfl
theorem tw_727 : (Cond.code ({ cls := "BrokeWhereModel", name := "has", desc := "(I)I" } : MethodName) prog_10_method_7_code (2 : Nat) (Option.some FieldType.int)) ∈ TB := TB_of 727 (by decide +kernel) rfl
theorem tw_728 : (Cond.methodLink "BrokeWhereLaw" (26 : Nat) ({ cls := "BrokeWhereModel", name := "set", desc := "(III)I" } : MethodName)) ∈ TB := TB_of 728 (by decide +kernel) rfl
theorem tw_729 : (Cond.instanceMethod ({ cls := "BrokeWhereModel", name := "set", desc := "(III)I" } : MethodName)) ∈ TB := TB_of 729 (by decide +kernel) rfl
theorem tw_730 : (Cond.selects "BrokeWhereModel" ({ cls := "BrokeWhereModel", name := "set", desc := "(III)I" } : MethodName) ({ cls := "BrokeWhereModel", name := "set", desc := "(III)I" } : MethodName)) ∈ TB := TB_of 730 (by decide +kernel) rfl
theorem tw_731 : (Cond.code ({ cls := "BrokeWhereModel", name := "set", desc := "(III)I" } : MethodName) prog_10_method_9_code (6 : Nat) (Option.some FieldType.int)) ∈ TB := TB_of 731 (by decide +kernel) rfl
theorem tw_732 : (Cond.methodLink "BrokeWhereModel" (94 : Nat) ({ cls := "BrokeWhereModel", name := "isPart", desc := "(I)Z" } : MethodName)) ∈ TB := TB_of 732 (by decide +kernel) rfl
theorem tw_733 : (Cond.static ({ cls := "BrokeWhereModel", name := "isPart", desc := "(I)Z" } : MethodName)) ∈ TB := TB_of 733 (by decide +kernel) rfl
theorem tw_734 : (Cond.code ({ cls := "BrokeWhereModel", name := "isPart", desc := "(I)Z" } : MethodName) prog_10_method_4_code (1 : Nat) (Option.some FieldType.boolean)) ∈ TB := TB_of 734 (by decide +kernel) rfl
theorem tw_735 : (Cond.methodLink "BrokeWhereModel" (97 : Nat) ({ cls := "BrokeWhereModel", name := "isTested", desc := "(I)Z" } : MethodName)) ∈ TB := TB_of 735 (by decide +kernel) rfl
theorem tw_737 : (Cond.instanceMethod ({ cls := "BrokeWhereModel", name := "isTested", desc := "(I)Z" } : MethodName)) ∈ TB := TB_of 737 (by decide +kernel) rfl
theorem tw_738 : (Cond.code ({ cls := "BrokeWhereModel", name := "isTested", desc := "(I)Z" } : MethodName) prog_10_method_8_code (4 : Nat) (Option.some FieldType.boolean)) ∈ TB := TB_of 738 (by decide +kernel) rfl
theorem tw_739 : (Cond.methodLink "BrokeWhereLaw" (31 : Nat) ({ cls := "BrokeWhereModel", name := "trust", desc := "(II)I" } : MethodName)) ∈ TB := TB_of 739 (by decide +kernel) rfl
theorem tw_740 : (Cond.instanceMethod ({ cls := "BrokeWhereModel", name := "trust", desc := "(II)I" } : MethodName)) ∈ TB := TB_of 740 (by decide +kernel) rfl
theorem tw_741 : (Cond.selects "BrokeWhereModel" ({ cls := "BrokeWhereModel", name := "trust", desc := "(II)I" } : MethodName) ({ cls := "BrokeWhereModel", name := "trust", desc := "(II)I" } : MethodName)) ∈ TB := TB_of 741 (by decide +kernel) rfl
theorem tw_742 : (Cond.code ({ cls := "BrokeWhereModel", name := "trust", desc := "(II)I" } : MethodName) prog_10_method_10_code (4 : Nat) (Option.some FieldType.int)) ∈ TB := TB_of 742 (by decide +kernel) rfl
theorem tw_743 : (Cond.methodLink "BrokeWhereLaw" (36 : Nat) ({ cls := "BrokeWhereModel", name := "test", desc := "(IZ)I" } : MethodName)) ∈ TB := TB_of 743 (by decide +kernel) rfl
theorem tw_744 : (Cond.instanceMethod ({ cls := "BrokeWhereModel", name := "test", desc := "(IZ)I" } : MethodName)) ∈ TB := TB_of 744 (by decide +kernel) rfl
theorem tw_745 : (Cond.selects "BrokeWhereModel" ({ cls := "BrokeWhereModel", name := "test", desc := "(IZ)I" } : MethodName) ({ cls := "BrokeWhereModel", name := "test", desc := "(IZ)I" } : MethodName)) ∈ TB := TB_of 745 (by decide +kernel) rfl
theorem tw_746 : (Cond.code ({ cls := "BrokeWhereModel", name := "test", desc := "(IZ)I" } : MethodName) prog_10_method_11_code (3 : Nat) (Option.some FieldType.int)) ∈ TB := TB_of 746 (by decide +kernel) rfl
theorem tw_747 : (Cond.methodLink "BrokeWhereLaw" (40 : Nat) ({ cls := "BrokeWhereModel", name := "tested", desc := "(II)I" } : MethodName)) ∈ TB := TB_of 747 (by decide +kernel) rfl
theorem tw_748 : (Cond.instanceMethod ({ cls := "BrokeWhereModel", name := "tested", desc := "(II)I" } : MethodName)) ∈ TB := TB_of 748 (by decide +kernel) rfl
theorem tw_749 : (Cond.selects "BrokeWhereModel" ({ cls := "BrokeWhereModel", name := "tested", desc := "(II)I" } : MethodName) ({ cls := "BrokeWhereModel", name := "tested", desc := "(II)I" } : MethodName)) ∈ TB := TB_of 749 (by decide +kernel) rfl
theorem tw_750 : (Cond.code ({ cls := "BrokeWhereModel", name := "tested", desc := "(II)I" } : MethodName) prog_10_method_12_code (3 : Nat) (Option.some FieldType.int)) ∈ TB := TB_of 750 (by decide +kernel) rfl
theorem tw_751 : (Cond.methodLink "BrokeWhereLaw" (45 : Nat) ({ cls := "BrokeWhereModel", name := "untest", desc := "()I" } : MethodName)) ∈ TB := TB_of 751 (by decide +kernel) rfl
theorem tw_752 : (Cond.instanceMethod ({ cls := "BrokeWhereModel", name := "untest", desc := "()I" } : MethodName)) ∈ TB := TB_of 752 (by decide +kernel) rfl
theorem tw_753 : (Cond.selects "BrokeWhereModel" ({ cls := "BrokeWhereModel", name := "untest", desc := "()I" } : MethodName) ({ cls := "BrokeWhereModel", name := "untest", desc := "()I" } : MethodName)) ∈ TB := TB_of 753 (by decide +kernel) rfl
theorem tw_754 : (Cond.code ({ cls := "BrokeWhereModel", name := "untest", desc := "()I" } : MethodName) prog_10_method_13_code (1 : Nat) (Option.some FieldType.int)) ∈ TB := TB_of 754 (by decide +kernel) rfl
theorem tw_755 : (Cond.methodLink "BrokeWhereLaw" (50 : Nat) ({ cls := "BrokeWhereModel", name := "weight", desc := "(III)J" } : MethodName)) ∈ TB := TB_of 755 (by decide +kernel) rfl
theorem tw_756 : (Cond.instanceMethod ({ cls := "BrokeWhereModel", name := "weight", desc := "(III)J" } : MethodName)) ∈ TB := TB_of 756 (by decide +kernel) rfl
theorem tw_757 : (Cond.selects "BrokeWhereModel" ({ cls := "BrokeWhereModel", name := "weight", desc := "(III)J" } : MethodName) ({ cls := "BrokeWhereModel", name := "weight", desc := "(III)J" } : MethodName)) ∈ TB := TB_of 757 (by decide +kernel) rfl
theorem tw_758 : (Cond.code ({ cls := "BrokeWhereModel", name := "weight", desc := "(III)J" } : MethodName) prog_10_method_20_code (4 : Nat) (Option.some FieldType.long)) ∈ TB := TB_of 758 (by decide +kernel) rfl
theorem tw_759 : (Cond.constantLong "BrokeWhereModel" (127 : Nat) (-1000000000000000002 : Int64)) ∈ TB := TB_of 759 (by decide +kernel) rfl
theorem tw_760 : (Cond.methodLink "BrokeWhereModel" (129 : Nat) ({ cls := "BrokeWhereModel", name := "isStory", desc := "(III)Z" } : MethodName)) ∈ TB := TB_of 760 (by decide +kernel) rfl
theorem tw_762 : (Cond.instanceMethod ({ cls := "BrokeWhereModel", name := "isStory", desc := "(III)Z" } : MethodName)) ∈ TB := TB_of 762 (by decide +kernel) rfl
theorem tw_763 : (Cond.code ({ cls := "BrokeWhereModel", name := "isStory", desc := "(III)Z" } : MethodName) prog_10_method_19_code (4 : Nat) (Option.some FieldType.boolean)) ∈ TB := TB_of 763 (by decide +kernel) rfl
theorem tw_764 : (Cond.methodLink "BrokeWhereModel" (115 : Nat) ({ cls := "BrokeWhereModel", name := "weightOf", desc := "(III)J" } : MethodName)) ∈ TB := TB_of 764 (by decide +kernel) rfl
theorem tw_766 : (Cond.instanceMethod ({ cls := "BrokeWhereModel", name := "weightOf", desc := "(III)J" } : MethodName)) ∈ TB := TB_of 766 (by decide +kernel) rfl
theorem tw_767 : (Cond.code ({ cls := "BrokeWhereModel", name := "weightOf", desc := "(III)J" } : MethodName) prog_10_method_16_code (7 : Nat) (Option.some FieldType.long)) ∈ TB := TB_of 767 (by decide +kernel) rfl
theorem tw_768 : (Cond.methodLink "BrokeWhereModel" (104 : Nat) ({ cls := "BrokeWhereModel", name := "shouldFail", desc := "(IIII)Z" } : MethodName)) ∈ TB := TB_of 768 (by decide +kernel) rfl
theorem tw_770 : (Cond.instanceMethod ({ cls := "BrokeWhereModel", name := "shouldFail", desc := "(IIII)Z" } : MethodName)) ∈ TB := TB_of 770 (by decide +kernel) rfl
theorem tw_771 : (Cond.code ({ cls := "BrokeWhereModel", name := "shouldFail", desc := "(IIII)Z" } : MethodName) prog_10_method_14_code (7 : Nat) (Option.some FieldType.boolean)) ∈ TB := TB_of 771 (by decide +kernel) rfl
theorem tw_772 : (Cond.methodLink "BrokeWhereModel" (100 : Nat) ({ cls := "BrokeWhereModel", name := "hasBit", desc := "(II)Z" } : MethodName)) ∈ TB := TB_of 772 (by decide +kernel) rfl
theorem tw_773 : (Cond.static ({ cls := "BrokeWhereModel", name := "hasBit", desc := "(II)Z" } : MethodName)) ∈ TB := TB_of 773 (by decide +kernel) rfl
theorem tw_774 : (Cond.code ({ cls := "BrokeWhereModel", name := "hasBit", desc := "(II)Z" } : MethodName) prog_10_method_5_code (2 : Nat) (Option.some FieldType.boolean)) ∈ TB := TB_of 774 (by decide +kernel) rfl
theorem tw_775 : (Cond.methodLink "BrokeWhereModel" (108 : Nat) ({ cls := "BrokeWhereModel", name := "tenths", desc := "(ZZ)I" } : MethodName)) ∈ TB := TB_of 775 (by decide +kernel) rfl
theorem tw_777 : (Cond.instanceMethod ({ cls := "BrokeWhereModel", name := "tenths", desc := "(ZZ)I" } : MethodName)) ∈ TB := TB_of 777 (by decide +kernel) rfl
theorem tw_778 : (Cond.code ({ cls := "BrokeWhereModel", name := "tenths", desc := "(ZZ)I" } : MethodName) prog_10_method_15_code (4 : Nat) (Option.some FieldType.int)) ∈ TB := TB_of 778 (by decide +kernel) rfl
theorem tw_779 : (Cond.constantLong "BrokeWhereModel" (132 : Nat) (-1000000000000000001 : Int64)) ∈ TB := TB_of 779 (by decide +kernel) rfl
theorem tw_780 : (Cond.methodLink "BrokeWhereLaw" (55 : Nat) ({ cls := "BrokeWhereModel", name := "odds", desc := "(IIII)J" } : MethodName)) ∈ TB := TB_of 780 (by decide +kernel) rfl
theorem tw_781 : (Cond.instanceMethod ({ cls := "BrokeWhereModel", name := "odds", desc := "(IIII)J" } : MethodName)) ∈ TB := TB_of 781 (by decide +kernel) rfl
theorem tw_782 : (Cond.selects "BrokeWhereModel" ({ cls := "BrokeWhereModel", name := "odds", desc := "(IIII)J" } : MethodName) ({ cls := "BrokeWhereModel", name := "odds", desc := "(IIII)J" } : MethodName)) ∈ TB := TB_of 782 (by decide +kernel) rfl
theorem tw_783 : (Cond.code ({ cls := "BrokeWhereModel", name := "odds", desc := "(IIII)J" } : MethodName) prog_10_method_22_code (5 : Nat) (Option.some FieldType.long)) ∈ TB := TB_of 783 (by decide +kernel) rfl
theorem tw_784 : (Cond.methodLink "BrokeWhereModel" (134 : Nat) ({ cls := "BrokeWhereModel", name := "layStories", desc := "()V" } : MethodName)) ∈ TB := TB_of 784 (by decide +kernel) rfl
theorem tw_786 : (Cond.instanceMethod ({ cls := "BrokeWhereModel", name := "layStories", desc := "()V" } : MethodName)) ∈ TB := TB_of 786 (by decide +kernel) rfl
theorem tw_787 : (Cond.code ({ cls := "BrokeWhereModel", name := "layStories", desc := "()V" } : MethodName) prog_10_method_18_code (4 : Nat) (Option.none : Option FieldType)) ∈ TB := TB_of 787 (by decide +kernel) rfl
theorem tw_788 : (Cond.methodLink "BrokeWhereModel" (123 : Nat) ({ cls := "BrokeWhereModel", name := "add", desc := "(III)V" } : MethodName)) ∈ TB := TB_of 788 (by decide +kernel) rfl
theorem tw_790 : (Cond.instanceMethod ({ cls := "BrokeWhereModel", name := "add", desc := "(III)V" } : MethodName)) ∈ TB := TB_of 790 (by decide +kernel) rfl
theorem tw_791 : (Cond.code ({ cls := "BrokeWhereModel", name := "add", desc := "(III)V" } : MethodName) prog_10_method_17_code (4 : Nat) (Option.none : Option FieldType)) ∈ TB := TB_of 791 (by decide +kernel) rfl
theorem tw_792 : (Cond.methodLink "BrokeWhereModel" (137 : Nat) ({ cls := "BrokeWhereModel", name := "term", desc := "(JJI)J" } : MethodName)) ∈ TB := TB_of 792 (by decide +kernel) rfl
theorem tw_793 : (Cond.static ({ cls := "BrokeWhereModel", name := "term", desc := "(JJI)J" } : MethodName)) ∈ TB := TB_of 793 (by decide +kernel) rfl
theorem tw_794 : (Cond.code ({ cls := "BrokeWhereModel", name := "term", desc := "(JJI)J" } : MethodName) prog_10_method_21_code (11 : Nat) (Option.some FieldType.long)) ∈ TB := TB_of 794 (by decide +kernel) rfl
theorem tw_795 : (Cond.methodLink "BrokeWhereLaw" (60 : Nat) ({ cls := "BrokeWhereModel", name := "sorts", desc := "(II)J" } : MethodName)) ∈ TB := TB_of 795 (by decide +kernel) rfl
theorem tw_796 : (Cond.instanceMethod ({ cls := "BrokeWhereModel", name := "sorts", desc := "(II)J" } : MethodName)) ∈ TB := TB_of 796 (by decide +kernel) rfl
theorem tw_797 : (Cond.selects "BrokeWhereModel" ({ cls := "BrokeWhereModel", name := "sorts", desc := "(II)J" } : MethodName) ({ cls := "BrokeWhereModel", name := "sorts", desc := "(II)J" } : MethodName)) ∈ TB := TB_of 797 (by decide +kernel) rfl
theorem tw_798 : (Cond.code ({ cls := "BrokeWhereModel", name := "sorts", desc := "(II)J" } : MethodName) prog_10_method_23_code (6 : Nat) (Option.some FieldType.long)) ∈ TB := TB_of 798 (by decide +kernel) rfl
theorem tw_799 : (Cond.methodLink "BrokeWhereLaw" (64 : Nat) ({ cls := "BrokeWhereModel", name := "blame", desc := "(II)J" } : MethodName)) ∈ TB := TB_of 799 (by decide +kernel) rfl
theorem tw_800 : (Cond.instanceMethod ({ cls := "BrokeWhereModel", name := "blame", desc := "(II)J" } : MethodName)) ∈ TB := TB_of 800 (by decide +kernel) rfl
theorem tw_801 : (Cond.selects "BrokeWhereModel" ({ cls := "BrokeWhereModel", name := "blame", desc := "(II)J" } : MethodName) ({ cls := "BrokeWhereModel", name := "blame", desc := "(II)J" } : MethodName)) ∈ TB := TB_of 801 (by decide +kernel) rfl
theorem tw_802 : (Cond.code ({ cls := "BrokeWhereModel", name := "blame", desc := "(II)J" } : MethodName) prog_10_method_24_code (6 : Nat) (Option.some FieldType.long)) ∈ TB := TB_of 802 (by decide +kernel) rfl
theorem tw_803 : (Cond.methodLink "BrokeWhereLaw" (68 : Nat) ({ cls := "BrokeWhereModel", name := "guess", desc := "(I)I" } : MethodName)) ∈ TB := TB_of 803 (by decide +kernel) rfl
theorem tw_804 : (Cond.instanceMethod ({ cls := "BrokeWhereModel", name := "guess", desc := "(I)I" } : MethodName)) ∈ TB := TB_of 804 (by decide +kernel) rfl
theorem tw_805 : (Cond.selects "BrokeWhereModel" ({ cls := "BrokeWhereModel", name := "guess", desc := "(I)I" } : MethodName) ({ cls := "BrokeWhereModel", name := "guess", desc := "(I)I" } : MethodName)) ∈ TB := TB_of 805 (by decide +kernel) rfl
theorem tw_806 : (Cond.code ({ cls := "BrokeWhereModel", name := "guess", desc := "(I)I" } : MethodName) prog_10_method_26_code (3 : Nat) (Option.some FieldType.int)) ∈ TB := TB_of 806 (by decide +kernel) rfl
theorem tw_807 : (Cond.methodLink "BrokeWhereModel" (141 : Nat) ({ cls := "BrokeWhereModel", name := "guessOf", desc := "()I" } : MethodName)) ∈ TB := TB_of 807 (by decide +kernel) rfl
theorem tw_809 : (Cond.instanceMethod ({ cls := "BrokeWhereModel", name := "guessOf", desc := "()I" } : MethodName)) ∈ TB := TB_of 809 (by decide +kernel) rfl
theorem tw_810 : (Cond.code ({ cls := "BrokeWhereModel", name := "guessOf", desc := "()I" } : MethodName) prog_10_method_25_code (3 : Nat) (Option.some FieldType.int)) ∈ TB := TB_of 810 (by decide +kernel) rfl
theorem tw_811 : (Cond.methodLink "BrokeWhereLaw" (72 : Nat) ({ cls := "BrokeWhereModel", name := "hope", desc := "(II)J" } : MethodName)) ∈ TB := TB_of 811 (by decide +kernel) rfl
theorem tw_812 : (Cond.instanceMethod ({ cls := "BrokeWhereModel", name := "hope", desc := "(II)J" } : MethodName)) ∈ TB := TB_of 812 (by decide +kernel) rfl
theorem tw_813 : (Cond.selects "BrokeWhereModel" ({ cls := "BrokeWhereModel", name := "hope", desc := "(II)J" } : MethodName) ({ cls := "BrokeWhereModel", name := "hope", desc := "(II)J" } : MethodName)) ∈ TB := TB_of 813 (by decide +kernel) rfl
theorem tw_814 : (Cond.code ({ cls := "BrokeWhereModel", name := "hope", desc := "(II)J" } : MethodName) prog_10_method_29_code (3 : Nat) (Option.some FieldType.long)) ∈ TB := TB_of 814 (by decide +kernel) rfl
theorem tw_815 : (Cond.methodLink "BrokeWhereModel" (145 : Nat) ({ cls := "BrokeWhereModel", name := "canTest", desc := "(I)Z" } : MethodName)) ∈ TB := TB_of 815 (by decide +kernel) rfl
theorem tw_817 : (Cond.instanceMethod ({ cls := "BrokeWhereModel", name := "canTest", desc := "(I)Z" } : MethodName)) ∈ TB := TB_of 817 (by decide +kernel) rfl
theorem tw_818 : (Cond.code ({ cls := "BrokeWhereModel", name := "canTest", desc := "(I)Z" } : MethodName) prog_10_method_27_code (2 : Nat) (Option.some FieldType.boolean)) ∈ TB := TB_of 818 (by decide +kernel) rfl
theorem tw_819 : (Cond.methodLink "BrokeWhereModel" (148 : Nat) ({ cls := "BrokeWhereModel", name := "hopeOf", desc := "(I)J" } : MethodName)) ∈ TB := TB_of 819 (by decide +kernel) rfl
theorem tw_821 : (Cond.instanceMethod ({ cls := "BrokeWhereModel", name := "hopeOf", desc := "(I)J" } : MethodName)) ∈ TB := TB_of 821 (by decide +kernel) rfl
theorem tw_822 : (Cond.code ({ cls := "BrokeWhereModel", name := "hopeOf", desc := "(I)J" } : MethodName) prog_10_method_28_code (12 : Nat) (Option.some FieldType.long)) ∈ TB := TB_of 822 (by decide +kernel) rfl
theorem tw_823 : (Cond.constantLong "BrokeWhereModel" (152 : Nat) (10 : Int64)) ∈ TB := TB_of 823 (by decide +kernel) rfl
theorem tw_824 : (Cond.methodLink "BrokeWhereLaw" (76 : Nat) ({ cls := "BrokeWhereModel", name := "next", desc := "(I)I" } : MethodName)) ∈ TB := TB_of 824 (by decide +kernel) rfl
theorem tw_825 : (Cond.instanceMethod ({ cls := "BrokeWhereModel", name := "next", desc := "(I)I" } : MethodName)) ∈ TB := TB_of 825 (by decide +kernel) rfl
theorem tw_826 : (Cond.selects "BrokeWhereModel" ({ cls := "BrokeWhereModel", name := "next", desc := "(I)I" } : MethodName) ({ cls := "BrokeWhereModel", name := "next", desc := "(I)I" } : MethodName)) ∈ TB := TB_of 826 (by decide +kernel) rfl
theorem tw_827 : (Cond.code ({ cls := "BrokeWhereModel", name := "next", desc := "(I)I" } : MethodName) prog_10_method_32_code (2 : Nat) (Option.some FieldType.int)) ∈ TB := TB_of 827 (by decide +kernel) rfl
theorem tw_828 : (Cond.methodLink "BrokeWhereModel" (158 : Nat) ({ cls := "BrokeWhereModel", name := "nextOf", desc := "(I)I" } : MethodName)) ∈ TB := TB_of 828 (by decide +kernel) rfl
theorem tw_830 : (Cond.instanceMethod ({ cls := "BrokeWhereModel", name := "nextOf", desc := "(I)I" } : MethodName)) ∈ TB := TB_of 830 (by decide +kernel) rfl
theorem tw_831 : (Cond.code ({ cls := "BrokeWhereModel", name := "nextOf", desc := "(I)I" } : MethodName) prog_10_method_31_code (8 : Nat) (Option.some FieldType.int)) ∈ TB := TB_of 831 (by decide +kernel) rfl
theorem tw_832 : (Cond.methodLink "BrokeWhereModel" (154 : Nat) ({ cls := "BrokeWhereModel", name := "badness", desc := "(II)J" } : MethodName)) ∈ TB := TB_of 832 (by decide +kernel) rfl
theorem tw_834 : (Cond.instanceMethod ({ cls := "BrokeWhereModel", name := "badness", desc := "(II)J" } : MethodName)) ∈ TB := TB_of 834 (by decide +kernel) rfl
theorem tw_835 : (Cond.code ({ cls := "BrokeWhereModel", name := "badness", desc := "(II)J" } : MethodName) prog_10_method_30_code (6 : Nat) (Option.some FieldType.long)) ∈ TB := TB_of 835 (by decide +kernel) rfl
theorem tw_836 : (Cond.methodLink "BrokeWhereLaw" (80 : Nat) ({ cls := "BrokeWhereModel", name := "worst", desc := "(II)I" } : MethodName)) ∈ TB := TB_of 836 (by decide +kernel) rfl
theorem tw_837 : (Cond.instanceMethod ({ cls := "BrokeWhereModel", name := "worst", desc := "(II)I" } : MethodName)) ∈ TB := TB_of 837 (by decide +kernel) rfl
theorem tw_838 : (Cond.selects "BrokeWhereModel" ({ cls := "BrokeWhereModel", name := "worst", desc := "(II)I" } : MethodName) ({ cls := "BrokeWhereModel", name := "worst", desc := "(II)I" } : MethodName)) ∈ TB := TB_of 838 (by decide +kernel) rfl
theorem tw_839 : (Cond.code ({ cls := "BrokeWhereModel", name := "worst", desc := "(II)I" } : MethodName) prog_10_method_36_code (3 : Nat) (Option.some FieldType.int)) ∈ TB := TB_of 839 (by decide +kernel) rfl
theorem tw_840 : (Cond.methodLink "BrokeWhereModel" (166 : Nat) ({ cls := "BrokeWhereModel", name := "isSet", desc := "(I)Z" } : MethodName)) ∈ TB := TB_of 840 (by decide +kernel) rfl
theorem tw_842 : (Cond.instanceMethod ({ cls := "BrokeWhereModel", name := "isSet", desc := "(I)Z" } : MethodName)) ∈ TB := TB_of 842 (by decide +kernel) rfl
theorem tw_843 : (Cond.code ({ cls := "BrokeWhereModel", name := "isSet", desc := "(I)Z" } : MethodName) prog_10_method_35_code (2 : Nat) (Option.some FieldType.boolean)) ∈ TB := TB_of 843 (by decide +kernel) rfl
theorem tw_844 : (Cond.methodLink "BrokeWhereModel" (169 : Nat) ({ cls := "BrokeWhereModel", name := "lay", desc := "()V" } : MethodName)) ∈ TB := TB_of 844 (by decide +kernel) rfl
theorem tw_846 : (Cond.instanceMethod ({ cls := "BrokeWhereModel", name := "lay", desc := "()V" } : MethodName)) ∈ TB := TB_of 846 (by decide +kernel) rfl
theorem tw_847 : (Cond.code ({ cls := "BrokeWhereModel", name := "lay", desc := "()V" } : MethodName) prog_10_method_34_code (2 : Nat) (Option.none : Option FieldType)) ∈ TB := TB_of 847 (by decide +kernel) rfl
theorem tw_848 : (Cond.methodLink "BrokeWhereModel" (162 : Nat) ({ cls := "BrokeWhereModel", name := "laySet", desc := "(I)V" } : MethodName)) ∈ TB := TB_of 848 (by decide +kernel) rfl
theorem tw_850 : (Cond.instanceMethod ({ cls := "BrokeWhereModel", name := "laySet", desc := "(I)V" } : MethodName)) ∈ TB := TB_of 850 (by decide +kernel) rfl
theorem tw_851 : (Cond.code ({ cls := "BrokeWhereModel", name := "laySet", desc := "(I)V" } : MethodName) prog_10_method_33_code (8 : Nat) (Option.none : Option FieldType)) ∈ TB := TB_of 851 (by decide +kernel) rfl
theorem tw_852 : (Cond.methodLink "BrokeWhereLaw" (84 : Nat) ({ cls := "BrokeWhereModel", name := "mean", desc := "(II)I" } : MethodName)) ∈ TB := TB_of 852 (by decide +kernel) rfl
theorem tw_853 : (Cond.instanceMethod ({ cls := "BrokeWhereModel", name := "mean", desc := "(II)I" } : MethodName)) ∈ TB := TB_of 853 (by decide +kernel) rfl
theorem tw_854 : (Cond.selects "BrokeWhereModel" ({ cls := "BrokeWhereModel", name := "mean", desc := "(II)I" } : MethodName) ({ cls := "BrokeWhereModel", name := "mean", desc := "(II)I" } : MethodName)) ∈ TB := TB_of 854 (by decide +kernel) rfl
theorem tw_855 : (Cond.code ({ cls := "BrokeWhereModel", name := "mean", desc := "(II)I" } : MethodName) prog_10_method_37_code (3 : Nat) (Option.some FieldType.int)) ∈ TB := TB_of 855 (by decide +kernel) rfl
theorem tw_856 : (Cond.methodLink "BrokeWhereLaw" (88 : Nat) ({ cls := "BrokeWhereModel", name := "twins", desc := "(I)I" } : MethodName)) ∈ TB := TB_of 856 (by decide +kernel) rfl
theorem tw_857 : (Cond.instanceMethod ({ cls := "BrokeWhereModel", name := "twins", desc := "(I)I" } : MethodName)) ∈ TB := TB_of 857 (by decide +kernel) rfl
theorem tw_858 : (Cond.selects "BrokeWhereModel" ({ cls := "BrokeWhereModel", name := "twins", desc := "(I)I" } : MethodName) ({ cls := "BrokeWhereModel", name := "twins", desc := "(I)I" } : MethodName)) ∈ TB := TB_of 858 (by decide +kernel) rfl
theorem tw_859 : (Cond.code ({ cls := "BrokeWhereModel", name := "twins", desc := "(I)I" } : MethodName) prog_10_method_38_code (4 : Nat) (Option.some FieldType.int)) ∈ TB := TB_of 859 (by decide +kernel) rfl
theorem tw_860 : (Cond.methodLink "BrokeWhereLaw" (92 : Nat) ({ cls := "BrokeWhereModel", name := "say", desc := "(I)I" } : MethodName)) ∈ TB := TB_of 860 (by decide +kernel) rfl
theorem tw_861 : (Cond.instanceMethod ({ cls := "BrokeWhereModel", name := "say", desc := "(I)I" } : MethodName)) ∈ TB := TB_of 861 (by decide +kernel) rfl
theorem tw_862 : (Cond.selects "BrokeWhereModel" ({ cls := "BrokeWhereModel", name := "say", desc := "(I)I" } : MethodName) ({ cls := "BrokeWhereModel", name := "say", desc := "(I)I" } : MethodName)) ∈ TB := TB_of 862 (by decide +kernel) rfl
theorem tw_863 : (Cond.code ({ cls := "BrokeWhereModel", name := "say", desc := "(I)I" } : MethodName) prog_10_method_39_code (2 : Nat) (Option.some FieldType.int)) ∈ TB := TB_of 863 (by decide +kernel) rfl
theorem tw_864 : (Cond.methodLink "BrokeWhereLaw" (96 : Nat) ({ cls := "BrokeWhereModel", name := "wipe", desc := "()I" } : MethodName)) ∈ TB := TB_of 864 (by decide +kernel) rfl
theorem tw_865 : (Cond.instanceMethod ({ cls := "BrokeWhereModel", name := "wipe", desc := "()I" } : MethodName)) ∈ TB := TB_of 865 (by decide +kernel) rfl
theorem tw_866 : (Cond.selects "BrokeWhereModel" ({ cls := "BrokeWhereModel", name := "wipe", desc := "()I" } : MethodName) ({ cls := "BrokeWhereModel", name := "wipe", desc := "()I" } : MethodName)) ∈ TB := TB_of 866 (by decide +kernel) rfl
theorem tw_867 : (Cond.code ({ cls := "BrokeWhereModel", name := "wipe", desc := "()I" } : MethodName) prog_10_method_40_code (2 : Nat) (Option.some FieldType.int)) ∈ TB := TB_of 867 (by decide +kernel) rfl
theorem tw_868 : (Cond.methodLink "BrokeWhereLaw" (100 : Nat) ({ cls := "BrokeWhereModel", name := "fault", desc := "()I" } : MethodName)) ∈ TB := TB_of 868 (by decide +kernel) rfl
theorem tw_869 : (Cond.instanceMethod ({ cls := "BrokeWhereModel", name := "fault", desc := "()I" } : MethodName)) ∈ TB := TB_of 869 (by decide +kernel) rfl
theorem tw_870 : (Cond.selects "BrokeWhereModel" ({ cls := "BrokeWhereModel", name := "fault", desc := "()I" } : MethodName) ({ cls := "BrokeWhereModel", name := "fault", desc := "()I" } : MethodName)) ∈ TB := TB_of 870 (by decide +kernel) rfl
theorem tw_871 : (Cond.code ({ cls := "BrokeWhereModel", name := "fault", desc := "()I" } : MethodName) prog_10_method_42_code (1 : Nat) (Option.some FieldType.int)) ∈ TB := TB_of 871 (by decide +kernel) rfl
theorem tw_872 : (Cond.methodLink "BrokeWhereModel" (175 : Nat) ({ cls := "BrokeWhereModel", name := "faultOf", desc := "()I" } : MethodName)) ∈ TB := TB_of 872 (by decide +kernel) rfl
theorem tw_874 : (Cond.instanceMethod ({ cls := "BrokeWhereModel", name := "faultOf", desc := "()I" } : MethodName)) ∈ TB := TB_of 874 (by decide +kernel) rfl
theorem tw_875 : (Cond.code ({ cls := "BrokeWhereModel", name := "faultOf", desc := "()I" } : MethodName) prog_10_method_41_code (6 : Nat) (Option.some FieldType.int)) ∈ TB := TB_of 875 (by decide +kernel) rfl
theorem tw_876 : (Cond.methodLink "BrokeWhereLaw" (104 : Nat) ({ cls := "BrokeWhereModel", name := "truth", desc := "()I" } : MethodName)) ∈ TB := TB_of 876 (by decide +kernel) rfl
theorem tw_877 : (Cond.instanceMethod ({ cls := "BrokeWhereModel", name := "truth", desc := "()I" } : MethodName)) ∈ TB := TB_of 877 (by decide +kernel) rfl
theorem tw_878 : (Cond.selects "BrokeWhereModel" ({ cls := "BrokeWhereModel", name := "truth", desc := "()I" } : MethodName) ({ cls := "BrokeWhereModel", name := "truth", desc := "()I" } : MethodName)) ∈ TB := TB_of 878 (by decide +kernel) rfl
theorem tw_879 : (Cond.code ({ cls := "BrokeWhereModel", name := "truth", desc := "()I" } : MethodName) prog_10_method_43_code (2 : Nat) (Option.some FieldType.int)) ∈ TB := TB_of 879 (by decide +kernel) rfl
theorem tw_880 : (Cond.methodLink "BrokeWhereLaw" (108 : Nat) ({ cls := "BrokeWhereModel", name := "fails", desc := "(II)I" } : MethodName)) ∈ TB := TB_of 880 (by decide +kernel) rfl
theorem tw_881 : (Cond.instanceMethod ({ cls := "BrokeWhereModel", name := "fails", desc := "(II)I" } : MethodName)) ∈ TB := TB_of 881 (by decide +kernel) rfl
theorem tw_882 : (Cond.selects "BrokeWhereModel" ({ cls := "BrokeWhereModel", name := "fails", desc := "(II)I" } : MethodName) ({ cls := "BrokeWhereModel", name := "fails", desc := "(II)I" } : MethodName)) ∈ TB := TB_of 882 (by decide +kernel) rfl
theorem tw_883 : (Cond.code ({ cls := "BrokeWhereModel", name := "fails", desc := "(II)I" } : MethodName) prog_10_method_46_code (3 : Nat) (Option.some FieldType.int)) ∈ TB := TB_of 883 (by decide +kernel) rfl
theorem tw_884 : (Cond.methodLink "BrokeWhereModel" (181 : Nat) ({ cls := "BrokeWhereModel", name := "isSound", desc := "(I)Z" } : MethodName)) ∈ TB := TB_of 884 (by decide +kernel) rfl
theorem tw_886 : (Cond.instanceMethod ({ cls := "BrokeWhereModel", name := "isSound", desc := "(I)Z" } : MethodName)) ∈ TB := TB_of 886 (by decide +kernel) rfl
theorem tw_887 : (Cond.code ({ cls := "BrokeWhereModel", name := "isSound", desc := "(I)Z" } : MethodName) prog_10_method_45_code (4 : Nat) (Option.some FieldType.boolean)) ∈ TB := TB_of 887 (by decide +kernel) rfl
theorem tw_888 : (Cond.methodLink "BrokeWhereModel" (184 : Nat) ({ cls := "BrokeWhereModel", name := "failsOf", desc := "(I)Z" } : MethodName)) ∈ TB := TB_of 888 (by decide +kernel) rfl
theorem tw_890 : (Cond.instanceMethod ({ cls := "BrokeWhereModel", name := "failsOf", desc := "(I)Z" } : MethodName)) ∈ TB := TB_of 890 (by decide +kernel) rfl
theorem tw_891 : (Cond.code ({ cls := "BrokeWhereModel", name := "failsOf", desc := "(I)Z" } : MethodName) prog_10_method_44_code (5 : Nat) (Option.some FieldType.boolean)) ∈ TB := TB_of 891 (by decide +kernel) rfl
theorem tw_892 : (Cond.methodLink "BrokeWhereLaw" (112 : Nat) ({ cls := "BrokeWhereModel", name := "play", desc := "(I)I" } : MethodName)) ∈ TB := TB_of 892 (by decide +kernel) rfl
theorem tw_893 : (Cond.instanceMethod ({ cls := "BrokeWhereModel", name := "play", desc := "(I)I" } : MethodName)) ∈ TB := TB_of 893 (by decide +kernel) rfl
theorem tw_894 : (Cond.selects "BrokeWhereModel" ({ cls := "BrokeWhereModel", name := "play", desc := "(I)I" } : MethodName) ({ cls := "BrokeWhereModel", name := "play", desc := "(I)I" } : MethodName)) ∈ TB := TB_of 894 (by decide +kernel) rfl
theorem tw_895 : (Cond.code ({ cls := "BrokeWhereModel", name := "play", desc := "(I)I" } : MethodName) prog_10_method_47_code (4 : Nat) (Option.some FieldType.int)) ∈ TB := TB_of 895 (by decide +kernel) rfl
theorem tw_896 : (Cond.methodLink "BrokeWhereModel" (187 : Nat) ({ cls := "BrokeWhereModel", name := "isSure", desc := "(I)Z" } : MethodName)) ∈ TB := TB_of 896 (by decide +kernel) rfl
theorem tw_898 : (Cond.instanceMethod ({ cls := "BrokeWhereModel", name := "isSure", desc := "(I)Z" } : MethodName)) ∈ TB := TB_of 898 (by decide +kernel) rfl
theorem tw_899 : (Cond.code ({ cls := "BrokeWhereModel", name := "isSure", desc := "(I)Z" } : MethodName) prog_10_method_48_code (3 : Nat) (Option.some FieldType.boolean)) ∈ TB := TB_of 899 (by decide +kernel) rfl
theorem tw_900 : (Cond.methodLink "BrokeWhereLaw" (116 : Nat) ({ cls := "BrokeWhereModel", name := "out", desc := "(II)I" } : MethodName)) ∈ TB := TB_of 900 (by decide +kernel) rfl
theorem tw_901 : (Cond.instanceMethod ({ cls := "BrokeWhereModel", name := "out", desc := "(II)I" } : MethodName)) ∈ TB := TB_of 901 (by decide +kernel) rfl
theorem tw_902 : (Cond.selects "BrokeWhereModel" ({ cls := "BrokeWhereModel", name := "out", desc := "(II)I" } : MethodName) ({ cls := "BrokeWhereModel", name := "out", desc := "(II)I" } : MethodName)) ∈ TB := TB_of 902 (by decide +kernel) rfl
theorem tw_903 : (Cond.code ({ cls := "BrokeWhereModel", name := "out", desc := "(II)I" } : MethodName) prog_10_method_51_code (7 : Nat) (Option.some FieldType.int)) ∈ TB := TB_of 903 (by decide +kernel) rfl
theorem tw_904 : (Cond.methodLink "BrokeWhereModel" (190 : Nat) ({ cls := "BrokeWhereModel", name := "bits", desc := "(I)I" } : MethodName)) ∈ TB := TB_of 904 (by decide +kernel) rfl
theorem tw_905 : (Cond.static ({ cls := "BrokeWhereModel", name := "bits", desc := "(I)I" } : MethodName)) ∈ TB := TB_of 905 (by decide +kernel) rfl
theorem tw_906 : (Cond.code ({ cls := "BrokeWhereModel", name := "bits", desc := "(I)I" } : MethodName) prog_10_method_49_code (3 : Nat) (Option.some FieldType.int)) ∈ TB := TB_of 906 (by decide +kernel) rfl
theorem tw_907 : (Cond.methodLink "BrokeWhereModel" (193 : Nat) ({ cls := "BrokeWhereModel", name := "sizes", desc := "(I)I" } : MethodName)) ∈ TB := TB_of 907 (by decide +kernel) rfl
theorem tw_909 : (Cond.instanceMethod ({ cls := "BrokeWhereModel", name := "sizes", desc := "(I)I" } : MethodName)) ∈ TB := TB_of 909 (by decide +kernel) rfl
theorem tw_910 : (Cond.code ({ cls := "BrokeWhereModel", name := "sizes", desc := "(I)I" } : MethodName) prog_10_method_50_code (4 : Nat) (Option.some FieldType.int)) ∈ TB := TB_of 910 (by decide +kernel) rfl
theorem tw_911 : (Cond.methodLink "BrokeWhereLaw" (120 : Nat) ({ cls := "BrokeWhereModel", name := "core", desc := "(II)I" } : MethodName)) ∈ TB := TB_of 911 (by decide +kernel) rfl
theorem tw_912 : (Cond.instanceMethod ({ cls := "BrokeWhereModel", name := "core", desc := "(II)I" } : MethodName)) ∈ TB := TB_of 912 (by decide +kernel) rfl
theorem tw_913 : (Cond.selects "BrokeWhereModel" ({ cls := "BrokeWhereModel", name := "core", desc := "(II)I" } : MethodName) ({ cls := "BrokeWhereModel", name := "core", desc := "(II)I" } : MethodName)) ∈ TB := TB_of 913 (by decide +kernel) rfl
theorem tw_914 : (Cond.code ({ cls := "BrokeWhereModel", name := "core", desc := "(II)I" } : MethodName) prog_10_method_52_code (8 : Nat) (Option.some FieldType.int)) ∈ TB := TB_of 914 (by decide +kernel) rfl
theorem tw_915 : (Cond.methodLink "BrokeWhereLaw" (124 : Nat) ({ cls := "BrokeWhereModel", name := "told", desc := "(I)I" } : MethodName)) ∈ TB := TB_of 915 (by decide +kernel) rfl
theorem tw_916 : (Cond.instanceMethod ({ cls := "BrokeWhereModel", name := "told", desc := "(I)I" } : MethodName)) ∈ TB := TB_of 916 (by decide +kernel) rfl
theorem tw_917 : (Cond.selects "BrokeWhereModel" ({ cls := "BrokeWhereModel", name := "told", desc := "(I)I" } : MethodName) ({ cls := "BrokeWhereModel", name := "told", desc := "(I)I" } : MethodName)) ∈ TB := TB_of 917 (by decide +kernel) rfl
theorem tw_918 : (Cond.code ({ cls := "BrokeWhereModel", name := "told", desc := "(I)I" } : MethodName) prog_10_method_53_code (4 : Nat) (Option.some FieldType.int)) ∈ TB := TB_of 918 (by decide +kernel) rfl
theorem ts_0 : Cond.selects "BrokeWhere" ⟨"BrokeWhere", "forgetPartings", "()V"⟩ ⟨"BrokeWhere", "forgetPartings", "()V"⟩ ∈ TB := TB_sel 0 (by decide +kernel) rfl
theorem ts_1 : Cond.selects "BrokeWhere" ⟨"BrokeWhere", "storyRefusal", "(III)I"⟩ ⟨"BrokeWhere", "storyRefusal", "(III)I"⟩ ∈ TB := TB_sel 1 (by decide +kernel) rfl
theorem ts_2 : Cond.selects "BrokeWhere$Stories" ⟨"BrokeWhere$Stories", "weighFrom", "(II)V"⟩ ⟨"BrokeWhere$Stories", "weighFrom", "(II)V"⟩ ∈ TB := TB_sel 2 (by decide +kernel) rfl
theorem ts_3 : Cond.selects "BrokeWhere$Stories" ⟨"BrokeWhere$Stories", "take", "(III)V"⟩ ⟨"BrokeWhere$Stories", "take", "(III)V"⟩ ∈ TB := TB_sel 3 (by decide +kernel) rfl
theorem ts_4 : Cond.selects "BrokeWhere" ⟨"BrokeWhere", "parting", "(LBrokeWhere$Partings;II)I"⟩ ⟨"BrokeWhere", "parting", "(LBrokeWhere$Partings;II)I"⟩ ∈ TB := TB_sel 4 (by decide +kernel) rfl
theorem ts_5 : Cond.selects "BrokeWhere$Partings" ⟨"BrokeWhere$Partings", "refresh", "()V"⟩ ⟨"BrokeWhere$Partings", "refresh", "()V"⟩ ∈ TB := TB_sel 5 (by decide +kernel) rfl
theorem ts_6 : Cond.selects "BrokeWhere$Partings" ⟨"BrokeWhere$Partings", "priceAt", "(II)I"⟩ ⟨"BrokeWhere$Partings", "priceAt", "(II)I"⟩ ∈ TB := TB_sel 6 (by decide +kernel) rfl
theorem ts_7 : Cond.selects "BrokeWhere$Partings" ⟨"BrokeWhere$Partings", "parts", "(II)Z"⟩ ⟨"BrokeWhere$Partings", "parts", "(II)Z"⟩ ∈ TB := TB_sel 7 (by decide +kernel) rfl
theorem ts_8 : Cond.selects "BrokeWhere$Partings" ⟨"BrokeWhere$Partings", "priceBy", "(III)I"⟩ ⟨"BrokeWhere$Partings", "priceBy", "(III)I"⟩ ∈ TB := TB_sel 8 (by decide +kernel) rfl
theorem ts_9 : Cond.selects "BrokeWhere$Truth" ⟨"BrokeWhere$Truth", "valueOf", "(LBrokeWhere$Text;I)J"⟩ ⟨"BrokeWhere$Truth", "valueOf", "(LBrokeWhere$Text;I)J"⟩ ∈ TB := TB_sel 9 (by decide +kernel) rfl
theorem ts_10 : Cond.selects "BrokeWhere$Families" ⟨"BrokeWhere$Families", "soundSets", "(I)J"⟩ ⟨"BrokeWhere$Families", "soundSets", "(I)J"⟩ ∈ TB := TB_sel 10 (by decide +kernel) rfl
theorem ts_11 : Cond.selects "BrokeWhere$Families" ⟨"BrokeWhere$Families", "isLess", "(II)Z"⟩ ⟨"BrokeWhere$Families", "isLess", "(II)Z"⟩ ∈ TB := TB_sel 11 (by decide +kernel) rfl
theorem ts_12 : Cond.selects "BrokeWhere$Families" ⟨"BrokeWhere$Families", "foundFrom", "(II)I"⟩ ⟨"BrokeWhere$Families", "foundFrom", "(II)I"⟩ ∈ TB := TB_sel 12 (by decide +kernel) rfl
theorem ts_13 : Cond.selects "BrokeWhereModel" ⟨"BrokeWhereModel", "isVersion", "(I)Z"⟩ ⟨"BrokeWhereModel", "isVersion", "(I)Z"⟩ ∈ TB := TB_sel 13 (by decide +kernel) rfl
theorem ts_14 : Cond.selects "BrokeWhereModel" ⟨"BrokeWhereModel", "isTested", "(I)Z"⟩ ⟨"BrokeWhereModel", "isTested", "(I)Z"⟩ ∈ TB := TB_sel 14 (by decide +kernel) rfl
theorem ts_15 : Cond.selects "BrokeWhereModel" ⟨"BrokeWhereModel", "isStory", "(III)Z"⟩ ⟨"BrokeWhereModel", "isStory", "(III)Z"⟩ ∈ TB := TB_sel 15 (by decide +kernel) rfl
theorem ts_16 : Cond.selects "BrokeWhereModel" ⟨"BrokeWhereModel", "weightOf", "(III)J"⟩ ⟨"BrokeWhereModel", "weightOf", "(III)J"⟩ ∈ TB := TB_sel 16 (by decide +kernel) rfl
theorem ts_17 : Cond.selects "BrokeWhereModel" ⟨"BrokeWhereModel", "shouldFail", "(IIII)Z"⟩ ⟨"BrokeWhereModel", "shouldFail", "(IIII)Z"⟩ ∈ TB := TB_sel 17 (by decide +kernel) rfl
theorem ts_18 : Cond.selects "BrokeWhereModel" ⟨"BrokeWhereModel", "tenths", "(ZZ)I"⟩ ⟨"BrokeWhereModel", "tenths", "(ZZ)I"⟩ ∈ TB := TB_sel 18 (by decide +kernel) rfl
theorem ts_19 : Cond.selects "BrokeWhereModel" ⟨"BrokeWhereModel", "layStories", "()V"⟩ ⟨"BrokeWhereModel", "layStories", "()V"⟩ ∈ TB := TB_sel 19 (by decide +kernel) rfl
theorem ts_20 : Cond.selects "BrokeWhereModel" ⟨"BrokeWhereModel", "add", "(III)V"⟩ ⟨"BrokeWhereModel", "add", "(III)V"⟩ ∈ TB := TB_sel 20 (by decide +kernel) rfl
theorem ts_21 : Cond.selects "BrokeWhereModel" ⟨"BrokeWhereModel", "guessOf", "()I"⟩ ⟨"BrokeWhereModel", "guessOf", "()I"⟩ ∈ TB := TB_sel 21 (by decide +kernel) rfl
theorem ts_22 : Cond.selects "BrokeWhereModel" ⟨"BrokeWhereModel", "canTest", "(I)Z"⟩ ⟨"BrokeWhereModel", "canTest", "(I)Z"⟩ ∈ TB := TB_sel 22 (by decide +kernel) rfl
theorem ts_23 : Cond.selects "BrokeWhereModel" ⟨"BrokeWhereModel", "hopeOf", "(I)J"⟩ ⟨"BrokeWhereModel", "hopeOf", "(I)J"⟩ ∈ TB := TB_sel 23 (by decide +kernel) rfl
theorem ts_24 : Cond.selects "BrokeWhereModel" ⟨"BrokeWhereModel", "nextOf", "(I)I"⟩ ⟨"BrokeWhereModel", "nextOf", "(I)I"⟩ ∈ TB := TB_sel 24 (by decide +kernel) rfl
theorem ts_25 : Cond.selects "BrokeWhereModel" ⟨"BrokeWhereModel", "badness", "(II)J"⟩ ⟨"BrokeWhereModel", "badness", "(II)J"⟩ ∈ TB := TB_sel 25 (by decide +kernel) rfl
theorem ts_26 : Cond.selects "BrokeWhereModel" ⟨"BrokeWhereModel", "isSet", "(I)Z"⟩ ⟨"BrokeWhereModel", "isSet", "(I)Z"⟩ ∈ TB := TB_sel 26 (by decide +kernel) rfl
theorem ts_27 : Cond.selects "BrokeWhereModel" ⟨"BrokeWhereModel", "lay", "()V"⟩ ⟨"BrokeWhereModel", "lay", "()V"⟩ ∈ TB := TB_sel 27 (by decide +kernel) rfl
theorem ts_28 : Cond.selects "BrokeWhereModel" ⟨"BrokeWhereModel", "laySet", "(I)V"⟩ ⟨"BrokeWhereModel", "laySet", "(I)V"⟩ ∈ TB := TB_sel 28 (by decide +kernel) rfl
theorem ts_29 : Cond.selects "BrokeWhereModel" ⟨"BrokeWhereModel", "faultOf", "()I"⟩ ⟨"BrokeWhereModel", "faultOf", "()I"⟩ ∈ TB := TB_sel 29 (by decide +kernel) rfl
theorem ts_30 : Cond.selects "BrokeWhereModel" ⟨"BrokeWhereModel", "isSound", "(I)Z"⟩ ⟨"BrokeWhereModel", "isSound", "(I)Z"⟩ ∈ TB := TB_sel 30 (by decide +kernel) rfl
theorem ts_31 : Cond.selects "BrokeWhereModel" ⟨"BrokeWhereModel", "failsOf", "(I)Z"⟩ ⟨"BrokeWhereModel", "failsOf", "(I)Z"⟩ ∈ TB := TB_sel 31 (by decide +kernel) rfl
theorem ts_32 : Cond.selects "BrokeWhereModel" ⟨"BrokeWhereModel", "isSure", "(I)Z"⟩ ⟨"BrokeWhereModel", "isSure", "(I)Z"⟩ ∈ TB := TB_sel 32 (by decide +kernel) rfl
theorem ts_33 : Cond.selects "BrokeWhereModel" ⟨"BrokeWhereModel", "sizes", "(I)I"⟩ ⟨"BrokeWhereModel", "sizes", "(I)I"⟩ ∈ TB := TB_sel 33 (by decide +kernel) rfl
