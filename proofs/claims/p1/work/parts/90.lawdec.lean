theorem wq_17 : (Jvm.Cond.classLink "KitRunnerLaw" (7 : Nat) "KitRunner") ∈ wG := wG_of 17 (by decide +kernel) (by decide +kernel)
theorem wq_18 : (Jvm.Cond.instantiable "KitRunner" (9 : Nat)) ∈ wG := wG_of 18 (by decide +kernel) (by decide +kernel)
theorem wq_19 : (Jvm.Cond.methodLink "KitRunnerLaw" (9 : Nat) ({ cls := "KitRunner", name := "<init>", desc := "()V" } : Jvm.MethodName)) ∈ wG := wG_of 19 (by decide +kernel) (by decide +kernel)
theorem wq_20 : (Jvm.Cond.instanceMethod ({ cls := "KitRunner", name := "<init>", desc := "()V" } : Jvm.MethodName)) ∈ wG := wG_of 20 (by decide +kernel) (by decide +kernel)
theorem wq_21 : (Jvm.Cond.code ({ cls := "KitRunner", name := "<init>", desc := "()V" } : Jvm.MethodName) prog_1_method_1_code (1 : Nat) (Option.none : Option Jvm.ClassFile.FieldType)) ∈ wG := wG_of 21 (by decide +kernel) (by decide +kernel)
theorem wq_184 : (Jvm.Cond.methodLink "KitRunnerLaw" (13 : Nat) ({ cls := "KitRunner", name := "fault", desc := "(III)I" } : Jvm.MethodName)) ∈ wG := wG_of 184 (by decide +kernel) (by decide +kernel)
theorem wq_185 : (Jvm.Cond.instanceMethod ({ cls := "KitRunner", name := "fault", desc := "(III)I" } : Jvm.MethodName)) ∈ wG := wG_of 185 (by decide +kernel) (by decide +kernel)
theorem wq_186 : (Jvm.Cond.selects "KitRunner" ({ cls := "KitRunner", name := "fault", desc := "(III)I" } : Jvm.MethodName) ({ cls := "KitRunner", name := "fault", desc := "(III)I" } : Jvm.MethodName)) ∈ wG := wG_of 186 (by decide +kernel) (by decide +kernel)
theorem wq_187 : (Jvm.Cond.code ({ cls := "KitRunner", name := "fault", desc := "(III)I" } : Jvm.MethodName) prog_1_method_2_code (4 : Nat) (Option.some Jvm.ClassFile.FieldType.int)) ∈ wG := wG_of 187 (by decide +kernel) (by decide +kernel)
theorem wq_199 : (Jvm.Cond.methodLink "KitRunnerLaw" (18 : Nat) ({ cls := "KitRunner", name := "exclude", desc := "(II)I" } : Jvm.MethodName)) ∈ wG := wG_of 199 (by decide +kernel) (by decide +kernel)
theorem wq_200 : (Jvm.Cond.instanceMethod ({ cls := "KitRunner", name := "exclude", desc := "(II)I" } : Jvm.MethodName)) ∈ wG := wG_of 200 (by decide +kernel) (by decide +kernel)
theorem wq_201 : (Jvm.Cond.selects "KitRunner" ({ cls := "KitRunner", name := "exclude", desc := "(II)I" } : Jvm.MethodName) ({ cls := "KitRunner", name := "exclude", desc := "(II)I" } : Jvm.MethodName)) ∈ wG := wG_of 201 (by decide +kernel) (by decide +kernel)
theorem wq_202 : (Jvm.Cond.code ({ cls := "KitRunner", name := "exclude", desc := "(II)I" } : Jvm.MethodName) prog_1_method_3_code (3 : Nat) (Option.some Jvm.ClassFile.FieldType.int)) ∈ wG := wG_of 202 (by decide +kernel) (by decide +kernel)
theorem wq_211 : (Jvm.Cond.methodLink "KitRunnerLaw" (23 : Nat) ({ cls := "KitRunner", name := "clear", desc := "(I)I" } : Jvm.MethodName)) ∈ wG := wG_of 211 (by decide +kernel) (by decide +kernel)
theorem wq_212 : (Jvm.Cond.instanceMethod ({ cls := "KitRunner", name := "clear", desc := "(I)I" } : Jvm.MethodName)) ∈ wG := wG_of 212 (by decide +kernel) (by decide +kernel)
theorem wq_213 : (Jvm.Cond.selects "KitRunner" ({ cls := "KitRunner", name := "clear", desc := "(I)I" } : Jvm.MethodName) ({ cls := "KitRunner", name := "clear", desc := "(I)I" } : Jvm.MethodName)) ∈ wG := wG_of 213 (by decide +kernel) (by decide +kernel)
theorem wq_214 : (Jvm.Cond.code ({ cls := "KitRunner", name := "clear", desc := "(I)I" } : Jvm.MethodName) prog_1_method_4_code (2 : Nat) (Option.some Jvm.ClassFile.FieldType.int)) ∈ wG := wG_of 214 (by decide +kernel) (by decide +kernel)
theorem wq_223 : (Jvm.Cond.methodLink "KitRunnerLaw" (28 : Nat) ({ cls := "KitRunner", name := "enable", desc := "(I)I" } : Jvm.MethodName)) ∈ wG := wG_of 223 (by decide +kernel) (by decide +kernel)
theorem wq_224 : (Jvm.Cond.instanceMethod ({ cls := "KitRunner", name := "enable", desc := "(I)I" } : Jvm.MethodName)) ∈ wG := wG_of 224 (by decide +kernel) (by decide +kernel)
theorem wq_225 : (Jvm.Cond.selects "KitRunner" ({ cls := "KitRunner", name := "enable", desc := "(I)I" } : Jvm.MethodName) ({ cls := "KitRunner", name := "enable", desc := "(I)I" } : Jvm.MethodName)) ∈ wG := wG_of 225 (by decide +kernel) (by decide +kernel)
theorem wq_226 : (Jvm.Cond.code ({ cls := "KitRunner", name := "enable", desc := "(I)I" } : Jvm.MethodName) prog_1_method_5_code (2 : Nat) (Option.some Jvm.ClassFile.FieldType.int)) ∈ wG := wG_of 226 (by decide +kernel) (by decide +kernel)
theorem wq_227 : (Jvm.Cond.methodLink "KitRunnerLaw" (34 : Nat) ({ cls := "KitRunner", name := "find", desc := "(J)I" } : Jvm.MethodName)) ∈ wG := wG_of 227 (by decide +kernel) (by decide +kernel)
theorem wq_228 : (Jvm.Cond.instanceMethod ({ cls := "KitRunner", name := "find", desc := "(J)I" } : Jvm.MethodName)) ∈ wG := wG_of 228 (by decide +kernel) (by decide +kernel)
theorem wq_229 : (Jvm.Cond.selects "KitRunner" ({ cls := "KitRunner", name := "find", desc := "(J)I" } : Jvm.MethodName) ({ cls := "KitRunner", name := "find", desc := "(J)I" } : Jvm.MethodName)) ∈ wG := wG_of 229 (by decide +kernel) (by decide +kernel)
theorem wq_230 : (Jvm.Cond.code ({ cls := "KitRunner", name := "find", desc := "(J)I" } : Jvm.MethodName) prog_1_method_6_code (6 : Nat) (Option.some Jvm.ClassFile.FieldType.int)) ∈ wG := wG_of 230 (by decide +kernel) (by decide +kernel)
theorem wq_306 : (Jvm.Cond.methodLink "KitRunnerLaw" (39 : Nat) ({ cls := "KitRunner", name := "outcome", desc := "(IIIZ)J" } : Jvm.MethodName)) ∈ wG := wG_of 306 (by decide +kernel) (by decide +kernel)
theorem wq_307 : (Jvm.Cond.instanceMethod ({ cls := "KitRunner", name := "outcome", desc := "(IIIZ)J" } : Jvm.MethodName)) ∈ wG := wG_of 307 (by decide +kernel) (by decide +kernel)
theorem wq_308 : (Jvm.Cond.selects "KitRunner" ({ cls := "KitRunner", name := "outcome", desc := "(IIIZ)J" } : Jvm.MethodName) ({ cls := "KitRunner", name := "outcome", desc := "(IIIZ)J" } : Jvm.MethodName)) ∈ wG := wG_of 308 (by decide +kernel) (by decide +kernel)
theorem wq_309 : (Jvm.Cond.code ({ cls := "KitRunner", name := "outcome", desc := "(IIIZ)J" } : Jvm.MethodName) prog_1_method_7_code (5 : Nat) (Option.some Jvm.ClassFile.FieldType.long)) ∈ wG := wG_of 309 (by decide +kernel) (by decide +kernel)
theorem wq_350 : (Jvm.Cond.methodLink "KitRunnerLaw" (44 : Nat) ({ cls := "KitRunner", name := "run", desc := "(IZ)I" } : Jvm.MethodName)) ∈ wG := wG_of 350 (by decide +kernel) (by decide +kernel)
theorem wq_351 : (Jvm.Cond.instanceMethod ({ cls := "KitRunner", name := "run", desc := "(IZ)I" } : Jvm.MethodName)) ∈ wG := wG_of 351 (by decide +kernel) (by decide +kernel)
theorem wq_352 : (Jvm.Cond.selects "KitRunner" ({ cls := "KitRunner", name := "run", desc := "(IZ)I" } : Jvm.MethodName) ({ cls := "KitRunner", name := "run", desc := "(IZ)I" } : Jvm.MethodName)) ∈ wG := wG_of 352 (by decide +kernel) (by decide +kernel)
theorem wq_353 : (Jvm.Cond.code ({ cls := "KitRunner", name := "run", desc := "(IZ)I" } : Jvm.MethodName) prog_1_method_8_code (4 : Nat) (Option.some Jvm.ClassFile.FieldType.int)) ∈ wG := wG_of 353 (by decide +kernel) (by decide +kernel)
theorem wq_460 : (Jvm.Cond.methodLink "KitRunnerLaw" (49 : Nat) ({ cls := "KitRunner", name := "failure", desc := "(II)J" } : Jvm.MethodName)) ∈ wG := wG_of 460 (by decide +kernel) (by decide +kernel)
theorem wq_461 : (Jvm.Cond.instanceMethod ({ cls := "KitRunner", name := "failure", desc := "(II)J" } : Jvm.MethodName)) ∈ wG := wG_of 461 (by decide +kernel) (by decide +kernel)
theorem wq_462 : (Jvm.Cond.selects "KitRunner" ({ cls := "KitRunner", name := "failure", desc := "(II)J" } : Jvm.MethodName) ({ cls := "KitRunner", name := "failure", desc := "(II)J" } : Jvm.MethodName)) ∈ wG := wG_of 462 (by decide +kernel) (by decide +kernel)
theorem wq_463 : (Jvm.Cond.code ({ cls := "KitRunner", name := "failure", desc := "(II)J" } : Jvm.MethodName) prog_1_method_9_code (3 : Nat) (Option.some Jvm.ClassFile.FieldType.long)) ∈ wG := wG_of 463 (by decide +kernel) (by decide +kernel)
theorem wq_488 : (Jvm.Cond.methodLink "KitRunnerLaw" (54 : Nat) ({ cls := "KitRunner", name := "shrink", desc := "(II)J" } : Jvm.MethodName)) ∈ wG := wG_of 488 (by decide +kernel) (by decide +kernel)
theorem wq_489 : (Jvm.Cond.instanceMethod ({ cls := "KitRunner", name := "shrink", desc := "(II)J" } : Jvm.MethodName)) ∈ wG := wG_of 489 (by decide +kernel) (by decide +kernel)
theorem wq_490 : (Jvm.Cond.selects "KitRunner" ({ cls := "KitRunner", name := "shrink", desc := "(II)J" } : Jvm.MethodName) ({ cls := "KitRunner", name := "shrink", desc := "(II)J" } : Jvm.MethodName)) ∈ wG := wG_of 490 (by decide +kernel) (by decide +kernel)
theorem wq_491 : (Jvm.Cond.code ({ cls := "KitRunner", name := "shrink", desc := "(II)J" } : Jvm.MethodName) prog_1_method_10_code (3 : Nat) (Option.some Jvm.ClassFile.FieldType.long)) ∈ wG := wG_of 491 (by decide +kernel) (by decide +kernel)
theorem wq_523 : (Jvm.Cond.methodLink "KitRunnerLaw" (58 : Nat) ({ cls := "KitRunner", name := "ledger", desc := "(I)I" } : Jvm.MethodName)) ∈ wG := wG_of 523 (by decide +kernel) (by decide +kernel)
theorem wq_524 : (Jvm.Cond.instanceMethod ({ cls := "KitRunner", name := "ledger", desc := "(I)I" } : Jvm.MethodName)) ∈ wG := wG_of 524 (by decide +kernel) (by decide +kernel)
theorem wq_525 : (Jvm.Cond.selects "KitRunner" ({ cls := "KitRunner", name := "ledger", desc := "(I)I" } : Jvm.MethodName) ({ cls := "KitRunner", name := "ledger", desc := "(I)I" } : Jvm.MethodName)) ∈ wG := wG_of 525 (by decide +kernel) (by decide +kernel)
theorem wq_526 : (Jvm.Cond.code ({ cls := "KitRunner", name := "ledger", desc := "(I)I" } : Jvm.MethodName) prog_1_method_11_code (2 : Nat) (Option.some Jvm.ClassFile.FieldType.int)) ∈ wG := wG_of 526 (by decide +kernel) (by decide +kernel)
theorem wq_531 : (Jvm.Cond.methodLink "KitRunnerLaw" (62 : Nat) ({ cls := "KitRunner", name := "letter", desc := "(I)I" } : Jvm.MethodName)) ∈ wG := wG_of 531 (by decide +kernel) (by decide +kernel)
theorem wq_532 : (Jvm.Cond.instanceMethod ({ cls := "KitRunner", name := "letter", desc := "(I)I" } : Jvm.MethodName)) ∈ wG := wG_of 532 (by decide +kernel) (by decide +kernel)
theorem wq_533 : (Jvm.Cond.selects "KitRunner" ({ cls := "KitRunner", name := "letter", desc := "(I)I" } : Jvm.MethodName) ({ cls := "KitRunner", name := "letter", desc := "(I)I" } : Jvm.MethodName)) ∈ wG := wG_of 533 (by decide +kernel) (by decide +kernel)
theorem wq_534 : (Jvm.Cond.code ({ cls := "KitRunner", name := "letter", desc := "(I)I" } : Jvm.MethodName) prog_1_method_12_code (2 : Nat) (Option.some Jvm.ClassFile.FieldType.int)) ∈ wG := wG_of 534 (by decide +kernel) (by decide +kernel)
theorem wq_539 : (Jvm.Cond.methodLink "KitRunnerLaw" (66 : Nat) ({ cls := "KitRunner", name := "count", desc := "(I)I" } : Jvm.MethodName)) ∈ wG := wG_of 539 (by decide +kernel) (by decide +kernel)
theorem wq_540 : (Jvm.Cond.instanceMethod ({ cls := "KitRunner", name := "count", desc := "(I)I" } : Jvm.MethodName)) ∈ wG := wG_of 540 (by decide +kernel) (by decide +kernel)
theorem wq_541 : (Jvm.Cond.selects "KitRunner" ({ cls := "KitRunner", name := "count", desc := "(I)I" } : Jvm.MethodName) ({ cls := "KitRunner", name := "count", desc := "(I)I" } : Jvm.MethodName)) ∈ wG := wG_of 541 (by decide +kernel) (by decide +kernel)
theorem wq_542 : (Jvm.Cond.code ({ cls := "KitRunner", name := "count", desc := "(I)I" } : Jvm.MethodName) prog_1_method_13_code (2 : Nat) (Option.some Jvm.ClassFile.FieldType.int)) ∈ wG := wG_of 542 (by decide +kernel) (by decide +kernel)
theorem wq_569 : (Jvm.Cond.classLink "KitRunnerLaw" (10 : Nat) "KitRunnerModel") ∈ wG := wG_of 569 (by decide +kernel) (by decide +kernel)
theorem wq_570 : (Jvm.Cond.instantiable "KitRunnerModel" (25 : Nat)) ∈ wG := wG_of 570 (by decide +kernel) (by decide +kernel)
theorem wq_571 : (Jvm.Cond.methodLink "KitRunnerLaw" (12 : Nat) ({ cls := "KitRunnerModel", name := "<init>", desc := "()V" } : Jvm.MethodName)) ∈ wG := wG_of 571 (by decide +kernel) (by decide +kernel)
theorem wq_572 : (Jvm.Cond.instanceMethod ({ cls := "KitRunnerModel", name := "<init>", desc := "()V" } : Jvm.MethodName)) ∈ wG := wG_of 572 (by decide +kernel) (by decide +kernel)
theorem wq_573 : (Jvm.Cond.code ({ cls := "KitRunnerModel", name := "<init>", desc := "()V" } : Jvm.MethodName) prog_12_method_1_code (1 : Nat) (Option.none : Option Jvm.ClassFile.FieldType)) ∈ wG := wG_of 573 (by decide +kernel) (by decide +kernel)
theorem wq_653 : (Jvm.Cond.methodLink "KitRunnerLaw" (17 : Nat) ({ cls := "KitRunnerModel", name := "fault", desc := "(III)I" } : Jvm.MethodName)) ∈ wG := wG_of 653 (by decide +kernel) (by decide +kernel)
theorem wq_654 : (Jvm.Cond.instanceMethod ({ cls := "KitRunnerModel", name := "fault", desc := "(III)I" } : Jvm.MethodName)) ∈ wG := wG_of 654 (by decide +kernel) (by decide +kernel)
theorem wq_655 : (Jvm.Cond.selects "KitRunnerModel" ({ cls := "KitRunnerModel", name := "fault", desc := "(III)I" } : Jvm.MethodName) ({ cls := "KitRunnerModel", name := "fault", desc := "(III)I" } : Jvm.MethodName)) ∈ wG := wG_of 655 (by decide +kernel) (by decide +kernel)
theorem wq_656 : (Jvm.Cond.code ({ cls := "KitRunnerModel", name := "fault", desc := "(III)I" } : Jvm.MethodName) prog_12_method_5_code (4 : Nat) (Option.some Jvm.ClassFile.FieldType.int)) ∈ wG := wG_of 656 (by decide +kernel) (by decide +kernel)
theorem wq_660 : (Jvm.Cond.methodLink "KitRunnerLaw" (22 : Nat) ({ cls := "KitRunnerModel", name := "exclude", desc := "(II)I" } : Jvm.MethodName)) ∈ wG := wG_of 660 (by decide +kernel) (by decide +kernel)
theorem wq_661 : (Jvm.Cond.instanceMethod ({ cls := "KitRunnerModel", name := "exclude", desc := "(II)I" } : Jvm.MethodName)) ∈ wG := wG_of 661 (by decide +kernel) (by decide +kernel)
theorem wq_662 : (Jvm.Cond.selects "KitRunnerModel" ({ cls := "KitRunnerModel", name := "exclude", desc := "(II)I" } : Jvm.MethodName) ({ cls := "KitRunnerModel", name := "exclude", desc := "(II)I" } : Jvm.MethodName)) ∈ wG := wG_of 662 (by decide +kernel) (by decide +kernel)
theorem wq_663 : (Jvm.Cond.code ({ cls := "KitRunnerModel", name := "exclude", desc := "(II)I" } : Jvm.MethodName) prog_12_method_6_code (3 : Nat) (Option.some Jvm.ClassFile.FieldType.int)) ∈ wG := wG_of 663 (by decide +kernel) (by decide +kernel)
theorem wq_664 : (Jvm.Cond.methodLink "KitRunnerLaw" (27 : Nat) ({ cls := "KitRunnerModel", name := "clear", desc := "(I)I" } : Jvm.MethodName)) ∈ wG := wG_of 664 (by decide +kernel) (by decide +kernel)
theorem wq_665 : (Jvm.Cond.instanceMethod ({ cls := "KitRunnerModel", name := "clear", desc := "(I)I" } : Jvm.MethodName)) ∈ wG := wG_of 665 (by decide +kernel) (by decide +kernel)
theorem wq_666 : (Jvm.Cond.selects "KitRunnerModel" ({ cls := "KitRunnerModel", name := "clear", desc := "(I)I" } : Jvm.MethodName) ({ cls := "KitRunnerModel", name := "clear", desc := "(I)I" } : Jvm.MethodName)) ∈ wG := wG_of 666 (by decide +kernel) (by decide +kernel)
theorem wq_667 : (Jvm.Cond.code ({ cls := "KitRunnerModel", name := "clear", desc := "(I)I" } : Jvm.MethodName) prog_12_method_7_code (2 : Nat) (Option.some Jvm.ClassFile.FieldType.int)) ∈ wG := wG_of 667 (by decide +kernel) (by decide +kernel)
theorem wq_668 : (Jvm.Cond.methodLink "KitRunnerLaw" (31 : Nat) ({ cls := "KitRunnerModel", name := "enable", desc := "(I)I" } : Jvm.MethodName)) ∈ wG := wG_of 668 (by decide +kernel) (by decide +kernel)
theorem wq_669 : (Jvm.Cond.instanceMethod ({ cls := "KitRunnerModel", name := "enable", desc := "(I)I" } : Jvm.MethodName)) ∈ wG := wG_of 669 (by decide +kernel) (by decide +kernel)
theorem wq_670 : (Jvm.Cond.selects "KitRunnerModel" ({ cls := "KitRunnerModel", name := "enable", desc := "(I)I" } : Jvm.MethodName) ({ cls := "KitRunnerModel", name := "enable", desc := "(I)I" } : Jvm.MethodName)) ∈ wG := wG_of 670 (by decide +kernel) (by decide +kernel)
theorem wq_671 : (Jvm.Cond.code ({ cls := "KitRunnerModel", name := "enable", desc := "(I)I" } : Jvm.MethodName) prog_12_method_8_code (2 : Nat) (Option.some Jvm.ClassFile.FieldType.int)) ∈ wG := wG_of 671 (by decide +kernel) (by decide +kernel)
theorem wq_672 : (Jvm.Cond.methodLink "KitRunnerLaw" (38 : Nat) ({ cls := "KitRunnerModel", name := "find", desc := "(J)I" } : Jvm.MethodName)) ∈ wG := wG_of 672 (by decide +kernel) (by decide +kernel)
theorem wq_673 : (Jvm.Cond.instanceMethod ({ cls := "KitRunnerModel", name := "find", desc := "(J)I" } : Jvm.MethodName)) ∈ wG := wG_of 673 (by decide +kernel) (by decide +kernel)
theorem wq_674 : (Jvm.Cond.selects "KitRunnerModel" ({ cls := "KitRunnerModel", name := "find", desc := "(J)I" } : Jvm.MethodName) ({ cls := "KitRunnerModel", name := "find", desc := "(J)I" } : Jvm.MethodName)) ∈ wG := wG_of 674 (by decide +kernel) (by decide +kernel)
theorem wq_675 : (Jvm.Cond.code ({ cls := "KitRunnerModel", name := "find", desc := "(J)I" } : Jvm.MethodName) prog_12_method_9_code (8 : Nat) (Option.some Jvm.ClassFile.FieldType.int)) ∈ wG := wG_of 675 (by decide +kernel) (by decide +kernel)
theorem wq_696 : (Jvm.Cond.methodLink "KitRunnerLaw" (43 : Nat) ({ cls := "KitRunnerModel", name := "outcome", desc := "(IIIZ)J" } : Jvm.MethodName)) ∈ wG := wG_of 696 (by decide +kernel) (by decide +kernel)
theorem wq_697 : (Jvm.Cond.instanceMethod ({ cls := "KitRunnerModel", name := "outcome", desc := "(IIIZ)J" } : Jvm.MethodName)) ∈ wG := wG_of 697 (by decide +kernel) (by decide +kernel)
theorem wq_698 : (Jvm.Cond.selects "KitRunnerModel" ({ cls := "KitRunnerModel", name := "outcome", desc := "(IIIZ)J" } : Jvm.MethodName) ({ cls := "KitRunnerModel", name := "outcome", desc := "(IIIZ)J" } : Jvm.MethodName)) ∈ wG := wG_of 698 (by decide +kernel) (by decide +kernel)
theorem wq_699 : (Jvm.Cond.code ({ cls := "KitRunnerModel", name := "outcome", desc := "(IIIZ)J" } : Jvm.MethodName) prog_12_method_13_code (5 : Nat) (Option.some Jvm.ClassFile.FieldType.long)) ∈ wG := wG_of 699 (by decide +kernel) (by decide +kernel)
theorem wq_722 : (Jvm.Cond.methodLink "KitRunnerLaw" (48 : Nat) ({ cls := "KitRunnerModel", name := "run", desc := "(IZ)I" } : Jvm.MethodName)) ∈ wG := wG_of 722 (by decide +kernel) (by decide +kernel)
theorem wq_723 : (Jvm.Cond.instanceMethod ({ cls := "KitRunnerModel", name := "run", desc := "(IZ)I" } : Jvm.MethodName)) ∈ wG := wG_of 723 (by decide +kernel) (by decide +kernel)
theorem wq_724 : (Jvm.Cond.selects "KitRunnerModel" ({ cls := "KitRunnerModel", name := "run", desc := "(IZ)I" } : Jvm.MethodName) ({ cls := "KitRunnerModel", name := "run", desc := "(IZ)I" } : Jvm.MethodName)) ∈ wG := wG_of 724 (by decide +kernel) (by decide +kernel)
theorem wq_725 : (Jvm.Cond.code ({ cls := "KitRunnerModel", name := "run", desc := "(IZ)I" } : Jvm.MethodName) prog_12_method_16_code (8 : Nat) (Option.some Jvm.ClassFile.FieldType.int)) ∈ wG := wG_of 725 (by decide +kernel) (by decide +kernel)
theorem wq_740 : (Jvm.Cond.methodLink "KitRunnerLaw" (53 : Nat) ({ cls := "KitRunnerModel", name := "failure", desc := "(II)J" } : Jvm.MethodName)) ∈ wG := wG_of 740 (by decide +kernel) (by decide +kernel)
theorem wq_741 : (Jvm.Cond.instanceMethod ({ cls := "KitRunnerModel", name := "failure", desc := "(II)J" } : Jvm.MethodName)) ∈ wG := wG_of 741 (by decide +kernel) (by decide +kernel)
theorem wq_742 : (Jvm.Cond.selects "KitRunnerModel" ({ cls := "KitRunnerModel", name := "failure", desc := "(II)J" } : Jvm.MethodName) ({ cls := "KitRunnerModel", name := "failure", desc := "(II)J" } : Jvm.MethodName)) ∈ wG := wG_of 742 (by decide +kernel) (by decide +kernel)
theorem wq_743 : (Jvm.Cond.code ({ cls := "KitRunnerModel", name := "failure", desc := "(II)J" } : Jvm.MethodName) prog_12_method_17_code (3 : Nat) (Option.some Jvm.ClassFile.FieldType.long)) ∈ wG := wG_of 743 (by decide +kernel) (by decide +kernel)
theorem wq_744 : (Jvm.Cond.methodLink "KitRunnerLaw" (57 : Nat) ({ cls := "KitRunnerModel", name := "shrink", desc := "(II)J" } : Jvm.MethodName)) ∈ wG := wG_of 744 (by decide +kernel) (by decide +kernel)
theorem wq_745 : (Jvm.Cond.instanceMethod ({ cls := "KitRunnerModel", name := "shrink", desc := "(II)J" } : Jvm.MethodName)) ∈ wG := wG_of 745 (by decide +kernel) (by decide +kernel)
theorem wq_746 : (Jvm.Cond.selects "KitRunnerModel" ({ cls := "KitRunnerModel", name := "shrink", desc := "(II)J" } : Jvm.MethodName) ({ cls := "KitRunnerModel", name := "shrink", desc := "(II)J" } : Jvm.MethodName)) ∈ wG := wG_of 746 (by decide +kernel) (by decide +kernel)
theorem wq_747 : (Jvm.Cond.code ({ cls := "KitRunnerModel", name := "shrink", desc := "(II)J" } : Jvm.MethodName) prog_12_method_21_code (5 : Nat) (Option.some Jvm.ClassFile.FieldType.long)) ∈ wG := wG_of 747 (by decide +kernel) (by decide +kernel)
theorem wq_759 : (Jvm.Cond.methodLink "KitRunnerLaw" (61 : Nat) ({ cls := "KitRunnerModel", name := "ledger", desc := "(I)I" } : Jvm.MethodName)) ∈ wG := wG_of 759 (by decide +kernel) (by decide +kernel)
theorem wq_760 : (Jvm.Cond.instanceMethod ({ cls := "KitRunnerModel", name := "ledger", desc := "(I)I" } : Jvm.MethodName)) ∈ wG := wG_of 760 (by decide +kernel) (by decide +kernel)
theorem wq_761 : (Jvm.Cond.selects "KitRunnerModel" ({ cls := "KitRunnerModel", name := "ledger", desc := "(I)I" } : Jvm.MethodName) ({ cls := "KitRunnerModel", name := "ledger", desc := "(I)I" } : Jvm.MethodName)) ∈ wG := wG_of 761 (by decide +kernel) (by decide +kernel)
theorem wq_762 : (Jvm.Cond.code ({ cls := "KitRunnerModel", name := "ledger", desc := "(I)I" } : Jvm.MethodName) prog_12_method_22_code (2 : Nat) (Option.some Jvm.ClassFile.FieldType.int)) ∈ wG := wG_of 762 (by decide +kernel) (by decide +kernel)
theorem wq_763 : (Jvm.Cond.methodLink "KitRunnerLaw" (65 : Nat) ({ cls := "KitRunnerModel", name := "letter", desc := "(I)I" } : Jvm.MethodName)) ∈ wG := wG_of 763 (by decide +kernel) (by decide +kernel)
theorem wq_764 : (Jvm.Cond.instanceMethod ({ cls := "KitRunnerModel", name := "letter", desc := "(I)I" } : Jvm.MethodName)) ∈ wG := wG_of 764 (by decide +kernel) (by decide +kernel)
theorem wq_765 : (Jvm.Cond.selects "KitRunnerModel" ({ cls := "KitRunnerModel", name := "letter", desc := "(I)I" } : Jvm.MethodName) ({ cls := "KitRunnerModel", name := "letter", desc := "(I)I" } : Jvm.MethodName)) ∈ wG := wG_of 765 (by decide +kernel) (by decide +kernel)
theorem wq_766 : (Jvm.Cond.code ({ cls := "KitRunnerModel", name := "letter", desc := "(I)I" } : Jvm.MethodName) prog_12_method_26_code (3 : Nat) (Option.some Jvm.ClassFile.FieldType.int)) ∈ wG := wG_of 766 (by decide +kernel) (by decide +kernel)
theorem wq_783 : (Jvm.Cond.methodLink "KitRunnerLaw" (69 : Nat) ({ cls := "KitRunnerModel", name := "count", desc := "(I)I" } : Jvm.MethodName)) ∈ wG := wG_of 783 (by decide +kernel) (by decide +kernel)
theorem wq_784 : (Jvm.Cond.instanceMethod ({ cls := "KitRunnerModel", name := "count", desc := "(I)I" } : Jvm.MethodName)) ∈ wG := wG_of 784 (by decide +kernel) (by decide +kernel)
theorem wq_785 : (Jvm.Cond.selects "KitRunnerModel" ({ cls := "KitRunnerModel", name := "count", desc := "(I)I" } : Jvm.MethodName) ({ cls := "KitRunnerModel", name := "count", desc := "(I)I" } : Jvm.MethodName)) ∈ wG := wG_of 785 (by decide +kernel) (by decide +kernel)
theorem wq_786 : (Jvm.Cond.code ({ cls := "KitRunnerModel", name := "count", desc := "(I)I" } : Jvm.MethodName) prog_12_method_27_code (5 : Nat) (Option.some Jvm.ClassFile.FieldType.int)) ∈ wG := wG_of 786 (by decide +kernel) (by decide +kernel)
theorem wq_787 : (Jvm.Cond.constantLong "KitRunnerLaw" (32 : Nat) (4294967295 : Int64)) ∈ wG := wG_of 787 (by decide +kernel) (by decide +kernel)
theorem d_law_0 : decode code 0 = .ok (.new 7, 3) := by decide +kernel
theorem d_law_3 : decode code 3 = .ok (.dup, 1) := by decide +kernel
theorem d_law_4 : decode code 4 = .ok (.invokespecial 9, 3) := by decide +kernel
theorem d_law_7 : decode code 7 = .ok (.astore_n 1, 1) := by decide +kernel
theorem d_law_8 : decode code 8 = .ok (.new 10, 3) := by decide +kernel
theorem d_law_11 : decode code 11 = .ok (.dup, 1) := by decide +kernel
theorem d_law_12 : decode code 12 = .ok (.invokespecial 12, 3) := by decide +kernel
theorem d_law_15 : decode code 15 = .ok (.astore_n 2, 1) := by decide +kernel
theorem d_law_16 : decode code 16 = .ok (.iconst 0, 1) := by decide +kernel
theorem d_law_17 : decode code 17 = .ok (.istore_n 3, 1) := by decide +kernel
theorem d_law_18 : decode code 18 = .ok (.iload_n 3, 1) := by decide +kernel
theorem d_law_19 : decode code 19 = .ok (.aload_n 0, 1) := by decide +kernel
theorem d_law_20 : decode code 20 = .ok (.arraylength, 1) := by decide +kernel
theorem d_law_21 : decode code 21 = .ok (.iconst 5, 1) := by decide +kernel
theorem d_law_22 : decode code 22 = .ok (.isub, 1) := by decide +kernel
theorem d_law_23 : decode code 23 = .ok (.if_icmp .gt 510, 3) := by decide +kernel
theorem d_law_26 : decode code 26 = .ok (.aload_n 0, 1) := by decide +kernel
theorem d_law_27 : decode code 27 = .ok (.iload_n 3, 1) := by decide +kernel
theorem d_law_28 : decode code 28 = .ok (.iaload, 1) := by decide +kernel
theorem d_law_29 : decode code 29 = .ok (.bipush 15, 2) := by decide +kernel
theorem d_law_31 : decode code 31 = .ok (.iand, 1) := by decide +kernel
theorem d_law_32 : decode code 32 = .ok (.tableswitch 495 0 11 #[64, 107, 140, 163, 186, 239, 309, 358, 392, 426, 449, 472], 64) := by decide +kernel
theorem d_law_96 : decode code 96 = .ok (.aload_n 1, 1) := by decide +kernel
theorem d_law_97 : decode code 97 = .ok (.aload_n 0, 1) := by decide +kernel
theorem d_law_98 : decode code 98 = .ok (.iload_n 3, 1) := by decide +kernel
theorem d_law_99 : decode code 99 = .ok (.iconst 1, 1) := by decide +kernel
theorem d_law_100 : decode code 100 = .ok (.iadd, 1) := by decide +kernel
theorem d_law_101 : decode code 101 = .ok (.iaload, 1) := by decide +kernel
theorem d_law_102 : decode code 102 = .ok (.aload_n 0, 1) := by decide +kernel
theorem d_law_103 : decode code 103 = .ok (.iload_n 3, 1) := by decide +kernel
theorem d_law_104 : decode code 104 = .ok (.iconst 2, 1) := by decide +kernel
theorem d_law_105 : decode code 105 = .ok (.iadd, 1) := by decide +kernel
theorem d_law_106 : decode code 106 = .ok (.iaload, 1) := by decide +kernel
theorem d_law_107 : decode code 107 = .ok (.aload_n 0, 1) := by decide +kernel
theorem d_law_108 : decode code 108 = .ok (.iload_n 3, 1) := by decide +kernel
theorem d_law_109 : decode code 109 = .ok (.iconst 3, 1) := by decide +kernel
theorem d_law_110 : decode code 110 = .ok (.iadd, 1) := by decide +kernel
theorem d_law_111 : decode code 111 = .ok (.iaload, 1) := by decide +kernel
theorem d_law_112 : decode code 112 = .ok (.invokevirtual 13, 3) := by decide +kernel
theorem d_law_115 : decode code 115 = .ok (.aload_n 2, 1) := by decide +kernel
theorem d_law_116 : decode code 116 = .ok (.aload_n 0, 1) := by decide +kernel
theorem d_law_117 : decode code 117 = .ok (.iload_n 3, 1) := by decide +kernel
theorem d_law_118 : decode code 118 = .ok (.iconst 1, 1) := by decide +kernel
theorem d_law_119 : decode code 119 = .ok (.iadd, 1) := by decide +kernel
theorem d_law_120 : decode code 120 = .ok (.iaload, 1) := by decide +kernel
theorem d_law_121 : decode code 121 = .ok (.aload_n 0, 1) := by decide +kernel
theorem d_law_122 : decode code 122 = .ok (.iload_n 3, 1) := by decide +kernel
theorem d_law_123 : decode code 123 = .ok (.iconst 2, 1) := by decide +kernel
theorem d_law_124 : decode code 124 = .ok (.iadd, 1) := by decide +kernel
theorem d_law_125 : decode code 125 = .ok (.iaload, 1) := by decide +kernel
theorem d_law_126 : decode code 126 = .ok (.aload_n 0, 1) := by decide +kernel
theorem d_law_127 : decode code 127 = .ok (.iload_n 3, 1) := by decide +kernel
theorem d_law_128 : decode code 128 = .ok (.iconst 3, 1) := by decide +kernel
theorem d_law_129 : decode code 129 = .ok (.iadd, 1) := by decide +kernel
theorem d_law_130 : decode code 130 = .ok (.iaload, 1) := by decide +kernel
theorem d_law_131 : decode code 131 = .ok (.invokevirtual 17, 3) := by decide +kernel
theorem d_law_134 : decode code 134 = .ok (.if_icmp .eq 393, 3) := by decide +kernel
theorem d_law_139 : decode code 139 = .ok (.aload_n 1, 1) := by decide +kernel
theorem d_law_140 : decode code 140 = .ok (.aload_n 0, 1) := by decide +kernel
theorem d_law_141 : decode code 141 = .ok (.iload_n 3, 1) := by decide +kernel
theorem d_law_142 : decode code 142 = .ok (.iconst 1, 1) := by decide +kernel
theorem d_law_143 : decode code 143 = .ok (.iadd, 1) := by decide +kernel
theorem d_law_144 : decode code 144 = .ok (.iaload, 1) := by decide +kernel
theorem d_law_145 : decode code 145 = .ok (.aload_n 0, 1) := by decide +kernel
theorem d_law_146 : decode code 146 = .ok (.iload_n 3, 1) := by decide +kernel
theorem d_law_147 : decode code 147 = .ok (.iconst 2, 1) := by decide +kernel
theorem d_law_148 : decode code 148 = .ok (.iadd, 1) := by decide +kernel
theorem d_law_149 : decode code 149 = .ok (.iaload, 1) := by decide +kernel
theorem d_law_150 : decode code 150 = .ok (.invokevirtual 18, 3) := by decide +kernel
theorem d_law_153 : decode code 153 = .ok (.aload_n 2, 1) := by decide +kernel
theorem d_law_154 : decode code 154 = .ok (.aload_n 0, 1) := by decide +kernel
theorem d_law_155 : decode code 155 = .ok (.iload_n 3, 1) := by decide +kernel
theorem d_law_156 : decode code 156 = .ok (.iconst 1, 1) := by decide +kernel
theorem d_law_157 : decode code 157 = .ok (.iadd, 1) := by decide +kernel
theorem d_law_158 : decode code 158 = .ok (.iaload, 1) := by decide +kernel
theorem d_law_159 : decode code 159 = .ok (.aload_n 0, 1) := by decide +kernel
theorem d_law_160 : decode code 160 = .ok (.iload_n 3, 1) := by decide +kernel
theorem d_law_161 : decode code 161 = .ok (.iconst 2, 1) := by decide +kernel
theorem d_law_162 : decode code 162 = .ok (.iadd, 1) := by decide +kernel
theorem d_law_163 : decode code 163 = .ok (.iaload, 1) := by decide +kernel
theorem d_law_164 : decode code 164 = .ok (.invokevirtual 22, 3) := by decide +kernel
theorem d_law_167 : decode code 167 = .ok (.if_icmp .eq 360, 3) := by decide +kernel
theorem d_law_172 : decode code 172 = .ok (.aload_n 1, 1) := by decide +kernel
theorem d_law_173 : decode code 173 = .ok (.aload_n 0, 1) := by decide +kernel
theorem d_law_174 : decode code 174 = .ok (.iload_n 3, 1) := by decide +kernel
theorem d_law_175 : decode code 175 = .ok (.iconst 1, 1) := by decide +kernel
theorem d_law_176 : decode code 176 = .ok (.iadd, 1) := by decide +kernel
theorem d_law_177 : decode code 177 = .ok (.iaload, 1) := by decide +kernel
theorem d_law_178 : decode code 178 = .ok (.invokevirtual 23, 3) := by decide +kernel
theorem d_law_181 : decode code 181 = .ok (.aload_n 2, 1) := by decide +kernel
theorem d_law_182 : decode code 182 = .ok (.aload_n 0, 1) := by decide +kernel
theorem d_law_183 : decode code 183 = .ok (.iload_n 3, 1) := by decide +kernel
theorem d_law_184 : decode code 184 = .ok (.iconst 1, 1) := by decide +kernel
theorem d_law_185 : decode code 185 = .ok (.iadd, 1) := by decide +kernel
theorem d_law_186 : decode code 186 = .ok (.iaload, 1) := by decide +kernel
theorem d_law_187 : decode code 187 = .ok (.invokevirtual 27, 3) := by decide +kernel
theorem d_law_190 : decode code 190 = .ok (.if_icmp .eq 337, 3) := by decide +kernel
theorem d_law_195 : decode code 195 = .ok (.aload_n 1, 1) := by decide +kernel
theorem d_law_196 : decode code 196 = .ok (.aload_n 0, 1) := by decide +kernel
theorem d_law_197 : decode code 197 = .ok (.iload_n 3, 1) := by decide +kernel
theorem d_law_198 : decode code 198 = .ok (.iconst 1, 1) := by decide +kernel
theorem d_law_199 : decode code 199 = .ok (.iadd, 1) := by decide +kernel
theorem d_law_200 : decode code 200 = .ok (.iaload, 1) := by decide +kernel
theorem d_law_201 : decode code 201 = .ok (.invokevirtual 28, 3) := by decide +kernel
theorem d_law_204 : decode code 204 = .ok (.aload_n 2, 1) := by decide +kernel
theorem d_law_205 : decode code 205 = .ok (.aload_n 0, 1) := by decide +kernel
theorem d_law_206 : decode code 206 = .ok (.iload_n 3, 1) := by decide +kernel
theorem d_law_207 : decode code 207 = .ok (.iconst 1, 1) := by decide +kernel
theorem d_law_208 : decode code 208 = .ok (.iadd, 1) := by decide +kernel
theorem d_law_209 : decode code 209 = .ok (.iaload, 1) := by decide +kernel
theorem d_law_210 : decode code 210 = .ok (.invokevirtual 31, 3) := by decide +kernel
theorem d_law_213 : decode code 213 = .ok (.if_icmp .eq 314, 3) := by decide +kernel
theorem d_law_218 : decode code 218 = .ok (.aload_n 1, 1) := by decide +kernel
theorem d_law_219 : decode code 219 = .ok (.aload_n 0, 1) := by decide +kernel
theorem d_law_220 : decode code 220 = .ok (.iload_n 3, 1) := by decide +kernel
theorem d_law_221 : decode code 221 = .ok (.iconst 1, 1) := by decide +kernel
theorem d_law_222 : decode code 222 = .ok (.iadd, 1) := by decide +kernel
theorem d_law_223 : decode code 223 = .ok (.iaload, 1) := by decide +kernel
theorem d_law_224 : decode code 224 = .ok (.i2l, 1) := by decide +kernel
theorem d_law_225 : decode code 225 = .ok (.bipush 32, 2) := by decide +kernel
theorem d_law_227 : decode code 227 = .ok (.lshl, 1) := by decide +kernel
theorem d_law_228 : decode code 228 = .ok (.aload_n 0, 1) := by decide +kernel
theorem d_law_229 : decode code 229 = .ok (.iload_n 3, 1) := by decide +kernel
theorem d_law_230 : decode code 230 = .ok (.iconst 2, 1) := by decide +kernel
theorem d_law_231 : decode code 231 = .ok (.iadd, 1) := by decide +kernel
theorem d_law_232 : decode code 232 = .ok (.iaload, 1) := by decide +kernel
theorem d_law_233 : decode code 233 = .ok (.i2l, 1) := by decide +kernel
theorem d_law_234 : decode code 234 = .ok (.ldc2_w 32, 3) := by decide +kernel
theorem d_law_237 : decode code 237 = .ok (.land, 1) := by decide +kernel
theorem d_law_238 : decode code 238 = .ok (.lor, 1) := by decide +kernel
theorem d_law_239 : decode code 239 = .ok (.invokevirtual 34, 3) := by decide +kernel
theorem d_law_242 : decode code 242 = .ok (.aload_n 2, 1) := by decide +kernel
theorem d_law_243 : decode code 243 = .ok (.aload_n 0, 1) := by decide +kernel
theorem d_law_244 : decode code 244 = .ok (.iload_n 3, 1) := by decide +kernel
theorem d_law_245 : decode code 245 = .ok (.iconst 1, 1) := by decide +kernel
theorem d_law_246 : decode code 246 = .ok (.iadd, 1) := by decide +kernel
theorem d_law_247 : decode code 247 = .ok (.iaload, 1) := by decide +kernel
theorem d_law_248 : decode code 248 = .ok (.i2l, 1) := by decide +kernel
theorem d_law_249 : decode code 249 = .ok (.bipush 32, 2) := by decide +kernel
theorem d_law_251 : decode code 251 = .ok (.lshl, 1) := by decide +kernel
theorem d_law_252 : decode code 252 = .ok (.aload_n 0, 1) := by decide +kernel
theorem d_law_253 : decode code 253 = .ok (.iload_n 3, 1) := by decide +kernel
theorem d_law_254 : decode code 254 = .ok (.iconst 2, 1) := by decide +kernel
theorem d_law_255 : decode code 255 = .ok (.iadd, 1) := by decide +kernel
theorem d_law_256 : decode code 256 = .ok (.iaload, 1) := by decide +kernel
theorem d_law_257 : decode code 257 = .ok (.i2l, 1) := by decide +kernel
theorem d_law_258 : decode code 258 = .ok (.ldc2_w 32, 3) := by decide +kernel
theorem d_law_261 : decode code 261 = .ok (.land, 1) := by decide +kernel
theorem d_law_262 : decode code 262 = .ok (.lor, 1) := by decide +kernel
theorem d_law_263 : decode code 263 = .ok (.invokevirtual 38, 3) := by decide +kernel
theorem d_law_266 : decode code 266 = .ok (.if_icmp .eq 261, 3) := by decide +kernel
theorem d_law_271 : decode code 271 = .ok (.aload_n 1, 1) := by decide +kernel
theorem d_law_272 : decode code 272 = .ok (.aload_n 0, 1) := by decide +kernel
theorem d_law_273 : decode code 273 = .ok (.iload_n 3, 1) := by decide +kernel
theorem d_law_274 : decode code 274 = .ok (.iconst 1, 1) := by decide +kernel
theorem d_law_275 : decode code 275 = .ok (.iadd, 1) := by decide +kernel
theorem d_law_276 : decode code 276 = .ok (.iaload, 1) := by decide +kernel
theorem d_law_277 : decode code 277 = .ok (.aload_n 0, 1) := by decide +kernel
theorem d_law_278 : decode code 278 = .ok (.iload_n 3, 1) := by decide +kernel
theorem d_law_279 : decode code 279 = .ok (.iconst 2, 1) := by decide +kernel
theorem d_law_280 : decode code 280 = .ok (.iadd, 1) := by decide +kernel
theorem d_law_281 : decode code 281 = .ok (.iaload, 1) := by decide +kernel
theorem d_law_282 : decode code 282 = .ok (.aload_n 0, 1) := by decide +kernel
theorem d_law_283 : decode code 283 = .ok (.iload_n 3, 1) := by decide +kernel
theorem d_law_284 : decode code 284 = .ok (.iconst 3, 1) := by decide +kernel
theorem d_law_285 : decode code 285 = .ok (.iadd, 1) := by decide +kernel
theorem d_law_286 : decode code 286 = .ok (.iaload, 1) := by decide +kernel
theorem d_law_287 : decode code 287 = .ok (.aload_n 0, 1) := by decide +kernel
theorem d_law_288 : decode code 288 = .ok (.iload_n 3, 1) := by decide +kernel
theorem d_law_289 : decode code 289 = .ok (.iconst 4, 1) := by decide +kernel
theorem d_law_290 : decode code 290 = .ok (.iadd, 1) := by decide +kernel
theorem d_law_291 : decode code 291 = .ok (.iaload, 1) := by decide +kernel
theorem d_law_292 : decode code 292 = .ok (.ifCond .eq 7, 3) := by decide +kernel
theorem d_law_295 : decode code 295 = .ok (.iconst 1, 1) := by decide +kernel
theorem d_law_296 : decode code 296 = .ok (.goto 4, 3) := by decide +kernel
theorem d_law_299 : decode code 299 = .ok (.iconst 0, 1) := by decide +kernel
theorem d_law_300 : decode code 300 = .ok (.invokevirtual 39, 3) := by decide +kernel
theorem d_law_303 : decode code 303 = .ok (.aload_n 2, 1) := by decide +kernel
theorem d_law_304 : decode code 304 = .ok (.aload_n 0, 1) := by decide +kernel
theorem d_law_305 : decode code 305 = .ok (.iload_n 3, 1) := by decide +kernel
theorem d_law_306 : decode code 306 = .ok (.iconst 1, 1) := by decide +kernel
theorem d_law_307 : decode code 307 = .ok (.iadd, 1) := by decide +kernel
theorem d_law_308 : decode code 308 = .ok (.iaload, 1) := by decide +kernel
theorem d_law_309 : decode code 309 = .ok (.aload_n 0, 1) := by decide +kernel
theorem d_law_310 : decode code 310 = .ok (.iload_n 3, 1) := by decide +kernel
theorem d_law_311 : decode code 311 = .ok (.iconst 2, 1) := by decide +kernel
theorem d_law_312 : decode code 312 = .ok (.iadd, 1) := by decide +kernel
theorem d_law_313 : decode code 313 = .ok (.iaload, 1) := by decide +kernel
theorem d_law_314 : decode code 314 = .ok (.aload_n 0, 1) := by decide +kernel
theorem d_law_315 : decode code 315 = .ok (.iload_n 3, 1) := by decide +kernel
theorem d_law_316 : decode code 316 = .ok (.iconst 3, 1) := by decide +kernel
theorem d_law_317 : decode code 317 = .ok (.iadd, 1) := by decide +kernel
theorem d_law_318 : decode code 318 = .ok (.iaload, 1) := by decide +kernel
theorem d_law_319 : decode code 319 = .ok (.aload_n 0, 1) := by decide +kernel
theorem d_law_320 : decode code 320 = .ok (.iload_n 3, 1) := by decide +kernel
theorem d_law_321 : decode code 321 = .ok (.iconst 4, 1) := by decide +kernel
theorem d_law_322 : decode code 322 = .ok (.iadd, 1) := by decide +kernel
theorem d_law_323 : decode code 323 = .ok (.iaload, 1) := by decide +kernel
theorem d_law_324 : decode code 324 = .ok (.ifCond .eq 7, 3) := by decide +kernel
theorem d_law_327 : decode code 327 = .ok (.iconst 1, 1) := by decide +kernel
theorem d_law_328 : decode code 328 = .ok (.goto 4, 3) := by decide +kernel
theorem d_law_331 : decode code 331 = .ok (.iconst 0, 1) := by decide +kernel
theorem d_law_332 : decode code 332 = .ok (.invokevirtual 43, 3) := by decide +kernel
theorem d_law_335 : decode code 335 = .ok (.lcmp, 1) := by decide +kernel
theorem d_law_336 : decode code 336 = .ok (.ifCond .eq 191, 3) := by decide +kernel
theorem d_law_341 : decode code 341 = .ok (.aload_n 1, 1) := by decide +kernel
theorem d_law_342 : decode code 342 = .ok (.aload_n 0, 1) := by decide +kernel
theorem d_law_343 : decode code 343 = .ok (.iload_n 3, 1) := by decide +kernel
theorem d_law_344 : decode code 344 = .ok (.iconst 1, 1) := by decide +kernel
theorem d_law_345 : decode code 345 = .ok (.iadd, 1) := by decide +kernel
theorem d_law_346 : decode code 346 = .ok (.iaload, 1) := by decide +kernel
theorem d_law_347 : decode code 347 = .ok (.aload_n 0, 1) := by decide +kernel
theorem d_law_348 : decode code 348 = .ok (.iload_n 3, 1) := by decide +kernel
theorem d_law_349 : decode code 349 = .ok (.iconst 2, 1) := by decide +kernel
theorem d_law_350 : decode code 350 = .ok (.iadd, 1) := by decide +kernel
theorem d_law_351 : decode code 351 = .ok (.iaload, 1) := by decide +kernel
theorem d_law_352 : decode code 352 = .ok (.ifCond .eq 7, 3) := by decide +kernel
theorem d_law_355 : decode code 355 = .ok (.iconst 1, 1) := by decide +kernel
theorem d_law_356 : decode code 356 = .ok (.goto 4, 3) := by decide +kernel
theorem d_law_359 : decode code 359 = .ok (.iconst 0, 1) := by decide +kernel
theorem d_law_360 : decode code 360 = .ok (.invokevirtual 44, 3) := by decide +kernel
theorem d_law_363 : decode code 363 = .ok (.aload_n 2, 1) := by decide +kernel
theorem d_law_364 : decode code 364 = .ok (.aload_n 0, 1) := by decide +kernel
theorem d_law_365 : decode code 365 = .ok (.iload_n 3, 1) := by decide +kernel
theorem d_law_366 : decode code 366 = .ok (.iconst 1, 1) := by decide +kernel
theorem d_law_367 : decode code 367 = .ok (.iadd, 1) := by decide +kernel
theorem d_law_368 : decode code 368 = .ok (.iaload, 1) := by decide +kernel
theorem d_law_369 : decode code 369 = .ok (.aload_n 0, 1) := by decide +kernel
theorem d_law_370 : decode code 370 = .ok (.iload_n 3, 1) := by decide +kernel
theorem d_law_371 : decode code 371 = .ok (.iconst 2, 1) := by decide +kernel
theorem d_law_372 : decode code 372 = .ok (.iadd, 1) := by decide +kernel
theorem d_law_373 : decode code 373 = .ok (.iaload, 1) := by decide +kernel
theorem d_law_374 : decode code 374 = .ok (.ifCond .eq 7, 3) := by decide +kernel
theorem d_law_377 : decode code 377 = .ok (.iconst 1, 1) := by decide +kernel
theorem d_law_378 : decode code 378 = .ok (.goto 4, 3) := by decide +kernel
theorem d_law_381 : decode code 381 = .ok (.iconst 0, 1) := by decide +kernel
theorem d_law_382 : decode code 382 = .ok (.invokevirtual 48, 3) := by decide +kernel
theorem d_law_385 : decode code 385 = .ok (.if_icmp .eq 142, 3) := by decide +kernel
theorem d_law_390 : decode code 390 = .ok (.aload_n 1, 1) := by decide +kernel
theorem d_law_391 : decode code 391 = .ok (.aload_n 0, 1) := by decide +kernel
theorem d_law_392 : decode code 392 = .ok (.iload_n 3, 1) := by decide +kernel
theorem d_law_393 : decode code 393 = .ok (.iconst 1, 1) := by decide +kernel
theorem d_law_394 : decode code 394 = .ok (.iadd, 1) := by decide +kernel
theorem d_law_395 : decode code 395 = .ok (.iaload, 1) := by decide +kernel
theorem d_law_396 : decode code 396 = .ok (.aload_n 0, 1) := by decide +kernel
theorem d_law_397 : decode code 397 = .ok (.iload_n 3, 1) := by decide +kernel
theorem d_law_398 : decode code 398 = .ok (.iconst 2, 1) := by decide +kernel
theorem d_law_399 : decode code 399 = .ok (.iadd, 1) := by decide +kernel
theorem d_law_400 : decode code 400 = .ok (.iaload, 1) := by decide +kernel
theorem d_law_401 : decode code 401 = .ok (.invokevirtual 49, 3) := by decide +kernel
theorem d_law_404 : decode code 404 = .ok (.aload_n 2, 1) := by decide +kernel
theorem d_law_405 : decode code 405 = .ok (.aload_n 0, 1) := by decide +kernel
theorem d_law_406 : decode code 406 = .ok (.iload_n 3, 1) := by decide +kernel
theorem d_law_407 : decode code 407 = .ok (.iconst 1, 1) := by decide +kernel
theorem d_law_408 : decode code 408 = .ok (.iadd, 1) := by decide +kernel
theorem d_law_409 : decode code 409 = .ok (.iaload, 1) := by decide +kernel
theorem d_law_410 : decode code 410 = .ok (.aload_n 0, 1) := by decide +kernel
theorem d_law_411 : decode code 411 = .ok (.iload_n 3, 1) := by decide +kernel
theorem d_law_412 : decode code 412 = .ok (.iconst 2, 1) := by decide +kernel
theorem d_law_413 : decode code 413 = .ok (.iadd, 1) := by decide +kernel
theorem d_law_414 : decode code 414 = .ok (.iaload, 1) := by decide +kernel
theorem d_law_415 : decode code 415 = .ok (.invokevirtual 53, 3) := by decide +kernel
theorem d_law_418 : decode code 418 = .ok (.lcmp, 1) := by decide +kernel
theorem d_law_419 : decode code 419 = .ok (.ifCond .eq 108, 3) := by decide +kernel
theorem d_law_424 : decode code 424 = .ok (.aload_n 1, 1) := by decide +kernel
theorem d_law_425 : decode code 425 = .ok (.aload_n 0, 1) := by decide +kernel
theorem d_law_426 : decode code 426 = .ok (.iload_n 3, 1) := by decide +kernel
theorem d_law_427 : decode code 427 = .ok (.iconst 1, 1) := by decide +kernel
theorem d_law_428 : decode code 428 = .ok (.iadd, 1) := by decide +kernel
theorem d_law_429 : decode code 429 = .ok (.iaload, 1) := by decide +kernel
theorem d_law_430 : decode code 430 = .ok (.aload_n 0, 1) := by decide +kernel
theorem d_law_431 : decode code 431 = .ok (.iload_n 3, 1) := by decide +kernel
theorem d_law_432 : decode code 432 = .ok (.iconst 2, 1) := by decide +kernel
theorem d_law_433 : decode code 433 = .ok (.iadd, 1) := by decide +kernel
theorem d_law_434 : decode code 434 = .ok (.iaload, 1) := by decide +kernel
theorem d_law_435 : decode code 435 = .ok (.invokevirtual 54, 3) := by decide +kernel
theorem d_law_438 : decode code 438 = .ok (.aload_n 2, 1) := by decide +kernel
theorem d_law_439 : decode code 439 = .ok (.aload_n 0, 1) := by decide +kernel
theorem d_law_440 : decode code 440 = .ok (.iload_n 3, 1) := by decide +kernel
theorem d_law_441 : decode code 441 = .ok (.iconst 1, 1) := by decide +kernel
theorem d_law_442 : decode code 442 = .ok (.iadd, 1) := by decide +kernel
theorem d_law_443 : decode code 443 = .ok (.iaload, 1) := by decide +kernel
theorem d_law_444 : decode code 444 = .ok (.aload_n 0, 1) := by decide +kernel
theorem d_law_445 : decode code 445 = .ok (.iload_n 3, 1) := by decide +kernel
theorem d_law_446 : decode code 446 = .ok (.iconst 2, 1) := by decide +kernel
theorem d_law_447 : decode code 447 = .ok (.iadd, 1) := by decide +kernel
theorem d_law_448 : decode code 448 = .ok (.iaload, 1) := by decide +kernel
theorem d_law_449 : decode code 449 = .ok (.invokevirtual 57, 3) := by decide +kernel
theorem d_law_452 : decode code 452 = .ok (.lcmp, 1) := by decide +kernel
theorem d_law_453 : decode code 453 = .ok (.ifCond .eq 74, 3) := by decide +kernel
theorem d_law_458 : decode code 458 = .ok (.aload_n 1, 1) := by decide +kernel
theorem d_law_459 : decode code 459 = .ok (.aload_n 0, 1) := by decide +kernel
theorem d_law_460 : decode code 460 = .ok (.iload_n 3, 1) := by decide +kernel
theorem d_law_461 : decode code 461 = .ok (.iconst 1, 1) := by decide +kernel
theorem d_law_462 : decode code 462 = .ok (.iadd, 1) := by decide +kernel
theorem d_law_463 : decode code 463 = .ok (.iaload, 1) := by decide +kernel
theorem d_law_464 : decode code 464 = .ok (.invokevirtual 58, 3) := by decide +kernel
theorem d_law_467 : decode code 467 = .ok (.aload_n 2, 1) := by decide +kernel
theorem d_law_468 : decode code 468 = .ok (.aload_n 0, 1) := by decide +kernel
theorem d_law_469 : decode code 469 = .ok (.iload_n 3, 1) := by decide +kernel
theorem d_law_470 : decode code 470 = .ok (.iconst 1, 1) := by decide +kernel
theorem d_law_471 : decode code 471 = .ok (.iadd, 1) := by decide +kernel
theorem d_law_472 : decode code 472 = .ok (.iaload, 1) := by decide +kernel
theorem d_law_473 : decode code 473 = .ok (.invokevirtual 61, 3) := by decide +kernel
theorem d_law_476 : decode code 476 = .ok (.if_icmp .eq 51, 3) := by decide +kernel
theorem d_law_481 : decode code 481 = .ok (.aload_n 1, 1) := by decide +kernel
theorem d_law_482 : decode code 482 = .ok (.aload_n 0, 1) := by decide +kernel
theorem d_law_483 : decode code 483 = .ok (.iload_n 3, 1) := by decide +kernel
theorem d_law_484 : decode code 484 = .ok (.iconst 1, 1) := by decide +kernel
theorem d_law_485 : decode code 485 = .ok (.iadd, 1) := by decide +kernel
theorem d_law_486 : decode code 486 = .ok (.iaload, 1) := by decide +kernel
theorem d_law_487 : decode code 487 = .ok (.invokevirtual 62, 3) := by decide +kernel
theorem d_law_490 : decode code 490 = .ok (.aload_n 2, 1) := by decide +kernel
theorem d_law_491 : decode code 491 = .ok (.aload_n 0, 1) := by decide +kernel
theorem d_law_492 : decode code 492 = .ok (.iload_n 3, 1) := by decide +kernel
theorem d_law_493 : decode code 493 = .ok (.iconst 1, 1) := by decide +kernel
theorem d_law_494 : decode code 494 = .ok (.iadd, 1) := by decide +kernel
theorem d_law_495 : decode code 495 = .ok (.iaload, 1) := by decide +kernel
theorem d_law_496 : decode code 496 = .ok (.invokevirtual 65, 3) := by decide +kernel
theorem d_law_499 : decode code 499 = .ok (.if_icmp .eq 28, 3) := by decide +kernel
theorem d_law_504 : decode code 504 = .ok (.aload_n 1, 1) := by decide +kernel
theorem d_law_505 : decode code 505 = .ok (.aload_n 0, 1) := by decide +kernel
theorem d_law_506 : decode code 506 = .ok (.iload_n 3, 1) := by decide +kernel
theorem d_law_507 : decode code 507 = .ok (.iconst 1, 1) := by decide +kernel
theorem d_law_508 : decode code 508 = .ok (.iadd, 1) := by decide +kernel
theorem d_law_509 : decode code 509 = .ok (.iaload, 1) := by decide +kernel
theorem d_law_510 : decode code 510 = .ok (.invokevirtual 66, 3) := by decide +kernel
theorem d_law_513 : decode code 513 = .ok (.aload_n 2, 1) := by decide +kernel
theorem d_law_514 : decode code 514 = .ok (.aload_n 0, 1) := by decide +kernel
theorem d_law_515 : decode code 515 = .ok (.iload_n 3, 1) := by decide +kernel
theorem d_law_516 : decode code 516 = .ok (.iconst 1, 1) := by decide +kernel
theorem d_law_517 : decode code 517 = .ok (.iadd, 1) := by decide +kernel
theorem d_law_518 : decode code 518 = .ok (.iaload, 1) := by decide +kernel
theorem d_law_519 : decode code 519 = .ok (.invokevirtual 69, 3) := by decide +kernel
theorem d_law_522 : decode code 522 = .ok (.if_icmp .eq 5, 3) := by decide +kernel
theorem d_law_527 : decode code 527 = .ok (.iinc 3 5, 3) := by decide +kernel
theorem d_law_530 : decode code 530 = .ok (.goto (-512), 3) := by decide +kernel
theorem d_law_533 : decode code 533 = .ok (.iconst 1, 1) := by decide +kernel
theorem d_law_534 : decode code 534 = .ok (.ireturn, 1) := by decide +kernel
