section
-- ===== PART A: goes FIRST, ahead of the names: the tables' words, and 'selects' of the private methods out of them =====
/-- a private method of a class that the tables say can be made, by its rows of tables_1 -/
def lw_okq (q : MethodName × Nat) : Prop := (q.1.cls ≠ "java/lang/invoke/MethodHandle" ∧ q.1.cls ≠ "java/lang/invoke/VarHandle") ∧ Cond.instantiable q.1.cls q.2 ∈ tables_1 ∧ Cond.privateMethod q.1 ∈ tables_1 ∧ Cond.instanceMethod q.1 ∈ tables_1
theorem lw_p0 : lw_okq (⟨"KitRunner", "forgetLatestRun", "()V"⟩, 9) := ⟨⟨by decide +kernel, by decide +kernel⟩, List.mem_of_getElem? (i := 18) (by decide +kernel), List.mem_of_getElem? (i := 355) (by decide +kernel), List.mem_of_getElem? (i := 356) (by decide +kernel)⟩
theorem lw_p1 : lw_okq (⟨"KitRunner", "runEntry", "(IIZ)V"⟩, 9) := ⟨⟨by decide +kernel, by decide +kernel⟩, List.mem_of_getElem? (i := 18) (by decide +kernel), List.mem_of_getElem? (i := 382) (by decide +kernel), List.mem_of_getElem? (i := 383) (by decide +kernel)⟩
theorem lw_p2 : lw_okq (⟨"KitRunner$PairBook", "mark", "([III)V"⟩, 4) := ⟨⟨by decide +kernel, by decide +kernel⟩, List.mem_of_getElem? (i := 62) (by decide +kernel), List.mem_of_getElem? (i := 400) (by decide +kernel), List.mem_of_getElem? (i := 401) (by decide +kernel)⟩
theorem lw_p3 : lw_okq (⟨"KitRunner", "runCase", "(III)V"⟩, 9) := ⟨⟨by decide +kernel, by decide +kernel⟩, List.mem_of_getElem? (i := 18) (by decide +kernel), List.mem_of_getElem? (i := 404) (by decide +kernel), List.mem_of_getElem? (i := 405) (by decide +kernel)⟩
theorem lw_p4 : lw_okq (⟨"KitRunner", "writeReport", "()V"⟩, 9) := ⟨⟨by decide +kernel, by decide +kernel⟩, List.mem_of_getElem? (i := 18) (by decide +kernel), List.mem_of_getElem? (i := 425) (by decide +kernel), List.mem_of_getElem? (i := 426) (by decide +kernel)⟩
theorem lw_p5 : lw_okq (⟨"KitRunner$Shrinker", "moveA", "(LKitRunner$Machine;I)Z"⟩, 3) := ⟨⟨by decide +kernel, by decide +kernel⟩, List.mem_of_getElem? (i := 140) (by decide +kernel), List.mem_of_getElem? (i := 503) (by decide +kernel), List.mem_of_getElem? (i := 504) (by decide +kernel)⟩
theorem lw_p6 : lw_okq (⟨"KitRunner$Shrinker", "moveB", "(LKitRunner$Machine;I)Z"⟩, 3) := ⟨⟨by decide +kernel, by decide +kernel⟩, List.mem_of_getElem? (i := 140) (by decide +kernel), List.mem_of_getElem? (i := 507) (by decide +kernel), List.mem_of_getElem? (i := 508) (by decide +kernel)⟩
theorem lw_p7 : lw_okq (⟨"KitRunnerModel", "given", "(III)J"⟩, 25) := ⟨⟨by decide +kernel, by decide +kernel⟩, List.mem_of_getElem? (i := 570) (by decide +kernel), List.mem_of_getElem? (i := 702) (by decide +kernel), List.mem_of_getElem? (i := 703) (by decide +kernel)⟩
theorem lw_p8 : lw_okq (⟨"KitRunnerModel", "excluded", "(III)Z"⟩, 25) := ⟨⟨by decide +kernel, by decide +kernel⟩, List.mem_of_getElem? (i := 570) (by decide +kernel), List.mem_of_getElem? (i := 733) (by decide +kernel), List.mem_of_getElem? (i := 734) (by decide +kernel)⟩
theorem lw_p9 : lw_okq (⟨"KitRunnerModel", "take", "(III)V"⟩, 25) := ⟨⟨by decide +kernel, by decide +kernel⟩, List.mem_of_getElem? (i := 570) (by decide +kernel), List.mem_of_getElem? (i := 737) (by decide +kernel), List.mem_of_getElem? (i := 738) (by decide +kernel)⟩
theorem lw_p10 : lw_okq (⟨"KitRunnerModel", "fails", "(III)Z"⟩, 25) := ⟨⟨by decide +kernel, by decide +kernel⟩, List.mem_of_getElem? (i := 570) (by decide +kernel), List.mem_of_getElem? (i := 749) (by decide +kernel), List.mem_of_getElem? (i := 750) (by decide +kernel)⟩
theorem lw_p11 : lw_okq (⟨"KitRunnerModel", "step", "(I)Z"⟩, 25) := ⟨⟨by decide +kernel, by decide +kernel⟩, List.mem_of_getElem? (i := 570) (by decide +kernel), List.mem_of_getElem? (i := 753) (by decide +kernel), List.mem_of_getElem? (i := 754) (by decide +kernel)⟩
theorem lw_p12 : lw_okq (⟨"KitRunnerModel", "write", "()I"⟩, 25) := ⟨⟨by decide +kernel, by decide +kernel⟩, List.mem_of_getElem? (i := 570) (by decide +kernel), List.mem_of_getElem? (i := 768) (by decide +kernel), List.mem_of_getElem? (i := 769) (by decide +kernel)⟩
theorem lw_p13 : lw_okq (⟨"KitRunnerModel", "put", "(IJ)I"⟩, 25) := ⟨⟨by decide +kernel, by decide +kernel⟩, List.mem_of_getElem? (i := 570) (by decide +kernel), List.mem_of_getElem? (i := 773) (by decide +kernel), List.mem_of_getElem? (i := 774) (by decide +kernel)⟩
theorem lw_p14 : lw_okq (⟨"KitRunnerModel", "putNumber", "(II)I"⟩, 25) := ⟨⟨by decide +kernel, by decide +kernel⟩, List.mem_of_getElem? (i := 570) (by decide +kernel), List.mem_of_getElem? (i := 777) (by decide +kernel), List.mem_of_getElem? (i := 778) (by decide +kernel)⟩
def lw_privs_1 : List (MethodName × Nat) := [(⟨"KitRunner", "forgetLatestRun", "()V"⟩, 9), (⟨"KitRunner", "runEntry", "(IIZ)V"⟩, 9), (⟨"KitRunner$PairBook", "mark", "([III)V"⟩, 4), (⟨"KitRunner", "runCase", "(III)V"⟩, 9), (⟨"KitRunner", "writeReport", "()V"⟩, 9), (⟨"KitRunner$Shrinker", "moveA", "(LKitRunner$Machine;I)Z"⟩, 3), (⟨"KitRunner$Shrinker", "moveB", "(LKitRunner$Machine;I)Z"⟩, 3), (⟨"KitRunnerModel", "given", "(III)J"⟩, 25), (⟨"KitRunnerModel", "excluded", "(III)Z"⟩, 25), (⟨"KitRunnerModel", "take", "(III)V"⟩, 25), (⟨"KitRunnerModel", "fails", "(III)Z"⟩, 25), (⟨"KitRunnerModel", "step", "(I)Z"⟩, 25), (⟨"KitRunnerModel", "write", "()I"⟩, 25), (⟨"KitRunnerModel", "put", "(IJ)I"⟩, 25), (⟨"KitRunnerModel", "putNumber", "(II)I"⟩, 25)]
theorem lw_r1 : ∀ q ∈ lw_privs_1, lw_okq q := List.forall_mem_cons.mpr ⟨lw_p0, List.forall_mem_cons.mpr ⟨lw_p1, List.forall_mem_cons.mpr ⟨lw_p2, List.forall_mem_cons.mpr ⟨lw_p3, List.forall_mem_cons.mpr ⟨lw_p4, List.forall_mem_cons.mpr ⟨lw_p5, List.forall_mem_cons.mpr ⟨lw_p6, List.forall_mem_cons.mpr ⟨lw_p7, List.forall_mem_cons.mpr ⟨lw_p8, List.forall_mem_cons.mpr ⟨lw_p9, List.forall_mem_cons.mpr ⟨lw_p10, List.forall_mem_cons.mpr ⟨lw_p11, List.forall_mem_cons.mpr ⟨lw_p12, List.forall_mem_cons.mpr ⟨lw_p13, List.forall_mem_cons.mpr ⟨lw_p14, fun _ h => absurd h List.not_mem_nil⟩⟩⟩⟩⟩⟩⟩⟩⟩⟩⟩⟩⟩⟩⟩
def lw_privs : List (MethodName × Nat) := lw_privs_1
def lw_tbl : List Cond := k2_sels lw_privs ++ tables_1
theorem lw_privs_ok : ∀ q ∈ lw_privs, lw_okq q := lw_r1
end
section
/-! NAMES: the tables as one list of words (those that a callee may be given), the words by their places, methods, fields. Written by a program (wip/gen/real.py). -/
def wG : List Cond := lw_tbl.filter goodWord
theorem wG_tbl {w : Cond} (h : w ∈ wG) : w ∈ lw_tbl := (List.mem_filter.mp h).1
theorem wG_of (i : Nat) {w : Cond} (h : tables_1[i]? = some w) (hg : goodWord w = true) : w ∈ wG := List.mem_filter.mpr ⟨List.mem_append_right _ (List.mem_of_getElem? h), hg⟩
theorem wG_sel (i : Nat) {w : Cond} (h : (k2_sels lw_privs)[i]? = some w) (hg : goodWord w = true) : w ∈ wG := List.mem_filter.mpr ⟨List.mem_append_left _ (List.mem_of_getElem? h), hg⟩
theorem kg {c0 ck : Cond} (h : ck ∈ wG) : GoodIn (c0 :: wG) (ck :: wG) := fun w hw => by
  rcases List.mem_cons.mp hw with rfl | hw
  · exact ⟨List.mem_cons_of_mem _ h, good_of_word (List.mem_filter.mp h).2⟩
  · exact ⟨List.mem_cons_of_mem _ hw, good_of_word (List.mem_filter.mp hw).2⟩
theorem kgL {ck : Cond} (h : ck ∈ wG) : GoodIn lw_tbl (ck :: wG) := fun w hw => by
  rcases List.mem_cons.mp hw with rfl | hw
  · exact ⟨wG_tbl h, good_of_word (List.mem_filter.mp h).2⟩
  · exact ⟨wG_tbl hw, good_of_word (List.mem_filter.mp hw).2⟩
theorem wq_1 : (Jvm.Cond.initialized "KitRunner") ∈ wG := wG_of 1 (by decide +kernel) (by decide +kernel)
theorem wq_2 : (Jvm.Cond.initialized "KitRunner$Machine") ∈ wG := wG_of 2 (by decide +kernel) (by decide +kernel)
theorem wq_3 : (Jvm.Cond.initialized "KitRunner$Exclusions") ∈ wG := wG_of 3 (by decide +kernel) (by decide +kernel)
theorem wq_4 : (Jvm.Cond.initialized "KitRunner$PairBook") ∈ wG := wG_of 4 (by decide +kernel) (by decide +kernel)
theorem wq_5 : (Jvm.Cond.initialized "KitRunner$Tally") ∈ wG := wG_of 5 (by decide +kernel) (by decide +kernel)
theorem wq_6 : (Jvm.Cond.initialized "KitRunner$FailureList") ∈ wG := wG_of 6 (by decide +kernel) (by decide +kernel)
theorem wq_7 : (Jvm.Cond.initialized "KitRunner$Report") ∈ wG := wG_of 7 (by decide +kernel) (by decide +kernel)
theorem wq_8 : (Jvm.Cond.initialized "KitRunner$Shrinker") ∈ wG := wG_of 8 (by decide +kernel) (by decide +kernel)
theorem wq_10 : (Jvm.Cond.initialized "KitRunner$EntryPoints") ∈ wG := wG_of 10 (by decide +kernel) (by decide +kernel)
theorem wq_11 : (Jvm.Cond.initialized "java/lang/String") ∈ wG := wG_of 11 (by decide +kernel) (by decide +kernel)
theorem wq_12 : (Jvm.Cond.initialized "java/lang/StringLatin1") ∈ wG := wG_of 12 (by decide +kernel) (by decide +kernel)
theorem wq_13 : (Jvm.Cond.initialized "jdk/internal/util/Preconditions") ∈ wG := wG_of 13 (by decide +kernel) (by decide +kernel)
theorem wq_15 : (Jvm.Cond.initialized "java/lang/Integer") ∈ wG := wG_of 15 (by decide +kernel) (by decide +kernel)
theorem wq_16 : (Jvm.Cond.initialized "java/util/Arrays") ∈ wG := wG_of 16 (by decide +kernel) (by decide +kernel)
theorem wq_22 : (Jvm.Cond.methodLink "KitRunner" (1 : Nat) ({ cls := "java/lang/Object", name := "<init>", desc := "()V" } : Jvm.MethodName)) ∈ wG := wG_of 22 (by decide +kernel) (by decide +kernel)
theorem wq_23 : (Jvm.Cond.instanceMethod ({ cls := "java/lang/Object", name := "<init>", desc := "()V" } : Jvm.MethodName)) ∈ wG := wG_of 23 (by decide +kernel) (by decide +kernel)
theorem wq_24 : (Jvm.Cond.code ({ cls := "java/lang/Object", name := "<init>", desc := "()V" } : Jvm.MethodName) object_method_1_code (1 : Nat) (Option.none : Option Jvm.ClassFile.FieldType)) ∈ wG := wG_of 24 (by decide +kernel) (by decide +kernel)
theorem wq_25 : (Jvm.Cond.classLink "KitRunner" (7 : Nat) "KitRunner$Machine") ∈ wG := wG_of 25 (by decide +kernel) (by decide +kernel)
theorem wq_26 : (Jvm.Cond.instantiable "KitRunner$Machine" (4 : Nat)) ∈ wG := wG_of 26 (by decide +kernel) (by decide +kernel)
theorem wq_27 : (Jvm.Cond.methodLink "KitRunner" (9 : Nat) ({ cls := "KitRunner$Machine", name := "<init>", desc := "()V" } : Jvm.MethodName)) ∈ wG := wG_of 27 (by decide +kernel) (by decide +kernel)
theorem wq_28 : (Jvm.Cond.instanceMethod ({ cls := "KitRunner$Machine", name := "<init>", desc := "()V" } : Jvm.MethodName)) ∈ wG := wG_of 28 (by decide +kernel) (by decide +kernel)
theorem wq_29 : (Jvm.Cond.code ({ cls := "KitRunner$Machine", name := "<init>", desc := "()V" } : Jvm.MethodName) prog_5_method_1_code (1 : Nat) (Option.none : Option Jvm.ClassFile.FieldType)) ∈ wG := wG_of 29 (by decide +kernel) (by decide +kernel)
theorem wq_30 : (Jvm.Cond.methodLink "KitRunner$Machine" (3 : Nat) ({ cls := "java/lang/Object", name := "<init>", desc := "()V" } : Jvm.MethodName)) ∈ wG := wG_of 30 (by decide +kernel) (by decide +kernel)
theorem wq_31 : (Jvm.Cond.fieldLink "KitRunner$Machine" (9 : Nat) "KitRunner$Machine" "entries" "[I") ∈ wG := wG_of 31 (by decide +kernel) (by decide +kernel)
theorem wq_32 : (Jvm.Cond.fieldLink "KitRunner$Machine" (15 : Nat) "KitRunner$Machine" "sorts" "[I") ∈ wG := wG_of 32 (by decide +kernel) (by decide +kernel)
theorem wq_33 : (Jvm.Cond.fieldLink "KitRunner$Machine" (18 : Nat) "KitRunner$Machine" "numbers" "[I") ∈ wG := wG_of 33 (by decide +kernel) (by decide +kernel)
theorem wq_34 : (Jvm.Cond.fieldLink "KitRunner$Machine" (21 : Nat) "KitRunner$Machine" "held" "I") ∈ wG := wG_of 34 (by decide +kernel) (by decide +kernel)
theorem wq_44 : (Jvm.Cond.arrayClass Jvm.ClassFile.FieldType.int) ∈ wG := wG_of 44 (by decide +kernel) (by decide +kernel)
theorem wq_45 : (Jvm.Cond.classLink "KitRunner" (16 : Nat) "KitRunner$Exclusions") ∈ wG := wG_of 45 (by decide +kernel) (by decide +kernel)
theorem wq_46 : (Jvm.Cond.instantiable "KitRunner$Exclusions" (3 : Nat)) ∈ wG := wG_of 46 (by decide +kernel) (by decide +kernel)
theorem wq_47 : (Jvm.Cond.methodLink "KitRunner" (18 : Nat) ({ cls := "KitRunner$Exclusions", name := "<init>", desc := "()V" } : Jvm.MethodName)) ∈ wG := wG_of 47 (by decide +kernel) (by decide +kernel)
theorem wq_48 : (Jvm.Cond.instanceMethod ({ cls := "KitRunner$Exclusions", name := "<init>", desc := "()V" } : Jvm.MethodName)) ∈ wG := wG_of 48 (by decide +kernel) (by decide +kernel)
theorem wq_49 : (Jvm.Cond.code ({ cls := "KitRunner$Exclusions", name := "<init>", desc := "()V" } : Jvm.MethodName) prog_3_method_1_code (1 : Nat) (Option.none : Option Jvm.ClassFile.FieldType)) ∈ wG := wG_of 49 (by decide +kernel) (by decide +kernel)
theorem wq_50 : (Jvm.Cond.methodLink "KitRunner$Exclusions" (3 : Nat) ({ cls := "java/lang/Object", name := "<init>", desc := "()V" } : Jvm.MethodName)) ∈ wG := wG_of 50 (by decide +kernel) (by decide +kernel)
theorem wq_51 : (Jvm.Cond.fieldLink "KitRunner$Exclusions" (9 : Nat) "KitRunner$Exclusions" "entries" "[I") ∈ wG := wG_of 51 (by decide +kernel) (by decide +kernel)
theorem wq_52 : (Jvm.Cond.fieldLink "KitRunner$Exclusions" (15 : Nat) "KitRunner$Exclusions" "numbers" "[I") ∈ wG := wG_of 52 (by decide +kernel) (by decide +kernel)
theorem wq_53 : (Jvm.Cond.fieldLink "KitRunner$Exclusions" (18 : Nat) "KitRunner$Exclusions" "held" "I") ∈ wG := wG_of 53 (by decide +kernel) (by decide +kernel)
theorem wq_61 : (Jvm.Cond.classLink "KitRunner" (23 : Nat) "KitRunner$PairBook") ∈ wG := wG_of 61 (by decide +kernel) (by decide +kernel)
theorem wq_62 : (Jvm.Cond.instantiable "KitRunner$PairBook" (4 : Nat)) ∈ wG := wG_of 62 (by decide +kernel) (by decide +kernel)
theorem wq_63 : (Jvm.Cond.methodLink "KitRunner" (25 : Nat) ({ cls := "KitRunner$PairBook", name := "<init>", desc := "()V" } : Jvm.MethodName)) ∈ wG := wG_of 63 (by decide +kernel) (by decide +kernel)
theorem wq_64 : (Jvm.Cond.instanceMethod ({ cls := "KitRunner$PairBook", name := "<init>", desc := "()V" } : Jvm.MethodName)) ∈ wG := wG_of 64 (by decide +kernel) (by decide +kernel)
theorem wq_65 : (Jvm.Cond.code ({ cls := "KitRunner$PairBook", name := "<init>", desc := "()V" } : Jvm.MethodName) prog_6_method_1_code (1 : Nat) (Option.none : Option Jvm.ClassFile.FieldType)) ∈ wG := wG_of 65 (by decide +kernel) (by decide +kernel)
theorem wq_66 : (Jvm.Cond.methodLink "KitRunner$PairBook" (3 : Nat) ({ cls := "java/lang/Object", name := "<init>", desc := "()V" } : Jvm.MethodName)) ∈ wG := wG_of 66 (by decide +kernel) (by decide +kernel)
theorem wq_67 : (Jvm.Cond.fieldLink "KitRunner$PairBook" (9 : Nat) "KitRunner$PairBook" "entryWithA" "[I") ∈ wG := wG_of 67 (by decide +kernel) (by decide +kernel)
theorem wq_68 : (Jvm.Cond.fieldLink "KitRunner$PairBook" (15 : Nat) "KitRunner$PairBook" "entryWithB" "[I") ∈ wG := wG_of 68 (by decide +kernel) (by decide +kernel)
theorem wq_69 : (Jvm.Cond.fieldLink "KitRunner$PairBook" (18 : Nat) "KitRunner$PairBook" "aWithB" "[I") ∈ wG := wG_of 69 (by decide +kernel) (by decide +kernel)
theorem wq_70 : (Jvm.Cond.fieldLink "KitRunner$PairBook" (21 : Nat) "KitRunner$PairBook" "held" "I") ∈ wG := wG_of 70 (by decide +kernel) (by decide +kernel)
theorem wq_80 : (Jvm.Cond.classLink "KitRunner" (30 : Nat) "KitRunner$Tally") ∈ wG := wG_of 80 (by decide +kernel) (by decide +kernel)
theorem wq_81 : (Jvm.Cond.instantiable "KitRunner$Tally" (4 : Nat)) ∈ wG := wG_of 81 (by decide +kernel) (by decide +kernel)
theorem wq_82 : (Jvm.Cond.methodLink "KitRunner" (32 : Nat) ({ cls := "KitRunner$Tally", name := "<init>", desc := "()V" } : Jvm.MethodName)) ∈ wG := wG_of 82 (by decide +kernel) (by decide +kernel)
theorem wq_83 : (Jvm.Cond.instanceMethod ({ cls := "KitRunner$Tally", name := "<init>", desc := "()V" } : Jvm.MethodName)) ∈ wG := wG_of 83 (by decide +kernel) (by decide +kernel)
theorem wq_84 : (Jvm.Cond.code ({ cls := "KitRunner$Tally", name := "<init>", desc := "()V" } : Jvm.MethodName) prog_9_method_1_code (1 : Nat) (Option.none : Option Jvm.ClassFile.FieldType)) ∈ wG := wG_of 84 (by decide +kernel) (by decide +kernel)
theorem wq_85 : (Jvm.Cond.methodLink "KitRunner$Tally" (3 : Nat) ({ cls := "java/lang/Object", name := "<init>", desc := "()V" } : Jvm.MethodName)) ∈ wG := wG_of 85 (by decide +kernel) (by decide +kernel)
theorem wq_86 : (Jvm.Cond.fieldLink "KitRunner$Tally" (9 : Nat) "KitRunner$Tally" "taken" "[I") ∈ wG := wG_of 86 (by decide +kernel) (by decide +kernel)
theorem wq_87 : (Jvm.Cond.fieldLink "KitRunner$Tally" (15 : Nat) "KitRunner$Tally" "failed" "[I") ∈ wG := wG_of 87 (by decide +kernel) (by decide +kernel)
theorem wq_88 : (Jvm.Cond.fieldLink "KitRunner$Tally" (18 : Nat) "KitRunner$Tally" "marks" "[I") ∈ wG := wG_of 88 (by decide +kernel) (by decide +kernel)
theorem wq_89 : (Jvm.Cond.fieldLink "KitRunner$Tally" (21 : Nat) "KitRunner$Tally" "leftOut" "I") ∈ wG := wG_of 89 (by decide +kernel) (by decide +kernel)
theorem wq_99 : (Jvm.Cond.classLink "KitRunner" (37 : Nat) "KitRunner$FailureList") ∈ wG := wG_of 99 (by decide +kernel) (by decide +kernel)
theorem wq_100 : (Jvm.Cond.instantiable "KitRunner$FailureList" (6 : Nat)) ∈ wG := wG_of 100 (by decide +kernel) (by decide +kernel)
theorem wq_101 : (Jvm.Cond.methodLink "KitRunner" (39 : Nat) ({ cls := "KitRunner$FailureList", name := "<init>", desc := "()V" } : Jvm.MethodName)) ∈ wG := wG_of 101 (by decide +kernel) (by decide +kernel)
theorem wq_102 : (Jvm.Cond.instanceMethod ({ cls := "KitRunner$FailureList", name := "<init>", desc := "()V" } : Jvm.MethodName)) ∈ wG := wG_of 102 (by decide +kernel) (by decide +kernel)
theorem wq_103 : (Jvm.Cond.code ({ cls := "KitRunner$FailureList", name := "<init>", desc := "()V" } : Jvm.MethodName) prog_4_method_1_code (1 : Nat) (Option.none : Option Jvm.ClassFile.FieldType)) ∈ wG := wG_of 103 (by decide +kernel) (by decide +kernel)
theorem wq_104 : (Jvm.Cond.methodLink "KitRunner$FailureList" (3 : Nat) ({ cls := "java/lang/Object", name := "<init>", desc := "()V" } : Jvm.MethodName)) ∈ wG := wG_of 104 (by decide +kernel) (by decide +kernel)
theorem wq_105 : (Jvm.Cond.fieldLink "KitRunner$FailureList" (9 : Nat) "KitRunner$FailureList" "entries" "[I") ∈ wG := wG_of 105 (by decide +kernel) (by decide +kernel)
theorem wq_106 : (Jvm.Cond.fieldLink "KitRunner$FailureList" (15 : Nat) "KitRunner$FailureList" "placesOfA" "[I") ∈ wG := wG_of 106 (by decide +kernel) (by decide +kernel)
theorem wq_107 : (Jvm.Cond.fieldLink "KitRunner$FailureList" (18 : Nat) "KitRunner$FailureList" "placesOfB" "[I") ∈ wG := wG_of 107 (by decide +kernel) (by decide +kernel)
theorem wq_108 : (Jvm.Cond.fieldLink "KitRunner$FailureList" (21 : Nat) "KitRunner$FailureList" "foretold" "[J") ∈ wG := wG_of 108 (by decide +kernel) (by decide +kernel)
theorem wq_109 : (Jvm.Cond.fieldLink "KitRunner$FailureList" (25 : Nat) "KitRunner$FailureList" "given" "[J") ∈ wG := wG_of 109 (by decide +kernel) (by decide +kernel)
theorem wq_110 : (Jvm.Cond.fieldLink "KitRunner$FailureList" (28 : Nat) "KitRunner$FailureList" "held" "I") ∈ wG := wG_of 110 (by decide +kernel) (by decide +kernel)
theorem wq_124 : (Jvm.Cond.arrayClass Jvm.ClassFile.FieldType.long) ∈ wG := wG_of 124 (by decide +kernel) (by decide +kernel)
theorem wq_125 : (Jvm.Cond.classLink "KitRunner" (44 : Nat) "KitRunner$Report") ∈ wG := wG_of 125 (by decide +kernel) (by decide +kernel)
theorem wq_126 : (Jvm.Cond.instantiable "KitRunner$Report" (2 : Nat)) ∈ wG := wG_of 126 (by decide +kernel) (by decide +kernel)
theorem wq_127 : (Jvm.Cond.methodLink "KitRunner" (46 : Nat) ({ cls := "KitRunner$Report", name := "<init>", desc := "()V" } : Jvm.MethodName)) ∈ wG := wG_of 127 (by decide +kernel) (by decide +kernel)
theorem wq_128 : (Jvm.Cond.instanceMethod ({ cls := "KitRunner$Report", name := "<init>", desc := "()V" } : Jvm.MethodName)) ∈ wG := wG_of 128 (by decide +kernel) (by decide +kernel)
theorem wq_129 : (Jvm.Cond.code ({ cls := "KitRunner$Report", name := "<init>", desc := "()V" } : Jvm.MethodName) prog_7_method_1_code (1 : Nat) (Option.none : Option Jvm.ClassFile.FieldType)) ∈ wG := wG_of 129 (by decide +kernel) (by decide +kernel)
theorem wq_130 : (Jvm.Cond.methodLink "KitRunner$Report" (3 : Nat) ({ cls := "java/lang/Object", name := "<init>", desc := "()V" } : Jvm.MethodName)) ∈ wG := wG_of 130 (by decide +kernel) (by decide +kernel)
theorem wq_131 : (Jvm.Cond.fieldLink "KitRunner$Report" (9 : Nat) "KitRunner$Report" "text" "[C") ∈ wG := wG_of 131 (by decide +kernel) (by decide +kernel)
theorem wq_132 : (Jvm.Cond.fieldLink "KitRunner$Report" (15 : Nat) "KitRunner$Report" "length" "I") ∈ wG := wG_of 132 (by decide +kernel) (by decide +kernel)
theorem wq_138 : (Jvm.Cond.arrayClass Jvm.ClassFile.FieldType.char) ∈ wG := wG_of 138 (by decide +kernel) (by decide +kernel)
theorem wq_139 : (Jvm.Cond.classLink "KitRunner" (51 : Nat) "KitRunner$Shrinker") ∈ wG := wG_of 139 (by decide +kernel) (by decide +kernel)
theorem wq_140 : (Jvm.Cond.instantiable "KitRunner$Shrinker" (3 : Nat)) ∈ wG := wG_of 140 (by decide +kernel) (by decide +kernel)
theorem wq_141 : (Jvm.Cond.methodLink "KitRunner" (53 : Nat) ({ cls := "KitRunner$Shrinker", name := "<init>", desc := "()V" } : Jvm.MethodName)) ∈ wG := wG_of 141 (by decide +kernel) (by decide +kernel)
theorem wq_142 : (Jvm.Cond.instanceMethod ({ cls := "KitRunner$Shrinker", name := "<init>", desc := "()V" } : Jvm.MethodName)) ∈ wG := wG_of 142 (by decide +kernel) (by decide +kernel)
theorem wq_143 : (Jvm.Cond.code ({ cls := "KitRunner$Shrinker", name := "<init>", desc := "()V" } : Jvm.MethodName) prog_8_method_1_code (1 : Nat) (Option.none : Option Jvm.ClassFile.FieldType)) ∈ wG := wG_of 143 (by decide +kernel) (by decide +kernel)
theorem wq_144 : (Jvm.Cond.methodLink "KitRunner$Shrinker" (3 : Nat) ({ cls := "java/lang/Object", name := "<init>", desc := "()V" } : Jvm.MethodName)) ∈ wG := wG_of 144 (by decide +kernel) (by decide +kernel)
theorem wq_145 : (Jvm.Cond.fieldLink "KitRunner$Shrinker" (9 : Nat) "KitRunner$Shrinker" "placeA" "I") ∈ wG := wG_of 145 (by decide +kernel) (by decide +kernel)
theorem wq_146 : (Jvm.Cond.fieldLink "KitRunner$Shrinker" (15 : Nat) "KitRunner$Shrinker" "placeB" "I") ∈ wG := wG_of 146 (by decide +kernel) (by decide +kernel)
theorem wq_147 : (Jvm.Cond.fieldLink "KitRunner$Shrinker" (18 : Nat) "KitRunner$Shrinker" "steps" "I") ∈ wG := wG_of 147 (by decide +kernel) (by decide +kernel)
theorem wq_155 : (Jvm.Cond.constant "KitRunner" (58 : Nat) (65535 : Int32)) ∈ wG := wG_of 155 (by decide +kernel) (by decide +kernel)
theorem wq_156 : (Jvm.Cond.fieldLink "KitRunner" (10 : Nat) "KitRunner" "machine" "LKitRunner$Machine;") ∈ wG := wG_of 156 (by decide +kernel) (by decide +kernel)
theorem wq_157 : (Jvm.Cond.fieldLink "KitRunner" (19 : Nat) "KitRunner" "exclusions" "LKitRunner$Exclusions;") ∈ wG := wG_of 157 (by decide +kernel) (by decide +kernel)
theorem wq_158 : (Jvm.Cond.fieldLink "KitRunner" (26 : Nat) "KitRunner" "pairBook" "LKitRunner$PairBook;") ∈ wG := wG_of 158 (by decide +kernel) (by decide +kernel)
theorem wq_159 : (Jvm.Cond.fieldLink "KitRunner" (33 : Nat) "KitRunner" "tally" "LKitRunner$Tally;") ∈ wG := wG_of 159 (by decide +kernel) (by decide +kernel)
theorem wq_160 : (Jvm.Cond.fieldLink "KitRunner" (40 : Nat) "KitRunner" "failures" "LKitRunner$FailureList;") ∈ wG := wG_of 160 (by decide +kernel) (by decide +kernel)
theorem wq_161 : (Jvm.Cond.fieldLink "KitRunner" (47 : Nat) "KitRunner" "report" "LKitRunner$Report;") ∈ wG := wG_of 161 (by decide +kernel) (by decide +kernel)
theorem wq_162 : (Jvm.Cond.fieldLink "KitRunner" (54 : Nat) "KitRunner" "shrinker" "LKitRunner$Shrinker;") ∈ wG := wG_of 162 (by decide +kernel) (by decide +kernel)
theorem wq_163 : (Jvm.Cond.fieldLink "KitRunner" (59 : Nat) "KitRunner" "enabled" "I") ∈ wG := wG_of 163 (by decide +kernel) (by decide +kernel)
theorem wq_164 : (Jvm.Cond.fieldLink "KitRunner" (63 : Nat) "KitRunner" "runs" "I") ∈ wG := wG_of 164 (by decide +kernel) (by decide +kernel)
theorem wq_188 : (Jvm.Cond.methodLink "KitRunner" (66 : Nat) ({ cls := "KitRunner", name := "isEntry", desc := "(I)Z" } : Jvm.MethodName)) ∈ wG := wG_of 188 (by decide +kernel) (by decide +kernel)
theorem wq_189 : (Jvm.Cond.static ({ cls := "KitRunner", name := "isEntry", desc := "(I)Z" } : Jvm.MethodName)) ∈ wG := wG_of 189 (by decide +kernel) (by decide +kernel)
theorem wq_190 : (Jvm.Cond.code ({ cls := "KitRunner", name := "isEntry", desc := "(I)Z" } : Jvm.MethodName) prog_1_method_14_code (1 : Nat) (Option.some Jvm.ClassFile.FieldType.boolean)) ∈ wG := wG_of 190 (by decide +kernel) (by decide +kernel)
theorem wq_191 : (Jvm.Cond.methodLink "KitRunner" (70 : Nat) ({ cls := "KitRunner$Machine", name := "addFault", desc := "(III)Z" } : Jvm.MethodName)) ∈ wG := wG_of 191 (by decide +kernel) (by decide +kernel)
theorem wq_192 : (Jvm.Cond.instanceMethod ({ cls := "KitRunner$Machine", name := "addFault", desc := "(III)Z" } : Jvm.MethodName)) ∈ wG := wG_of 192 (by decide +kernel) (by decide +kernel)
theorem wq_193 : (Jvm.Cond.selects "KitRunner$Machine" ({ cls := "KitRunner$Machine", name := "addFault", desc := "(III)Z" } : Jvm.MethodName) ({ cls := "KitRunner$Machine", name := "addFault", desc := "(III)Z" } : Jvm.MethodName)) ∈ wG := wG_of 193 (by decide +kernel) (by decide +kernel)
theorem wq_194 : (Jvm.Cond.code ({ cls := "KitRunner$Machine", name := "addFault", desc := "(III)Z" } : Jvm.MethodName) prog_5_method_2_code (4 : Nat) (Option.some Jvm.ClassFile.FieldType.boolean)) ∈ wG := wG_of 194 (by decide +kernel) (by decide +kernel)
theorem wq_195 : (Jvm.Cond.methodLink "KitRunner" (74 : Nat) ({ cls := "KitRunner$Machine", name := "faultsHeld", desc := "()I" } : Jvm.MethodName)) ∈ wG := wG_of 195 (by decide +kernel) (by decide +kernel)
theorem wq_196 : (Jvm.Cond.instanceMethod ({ cls := "KitRunner$Machine", name := "faultsHeld", desc := "()I" } : Jvm.MethodName)) ∈ wG := wG_of 196 (by decide +kernel) (by decide +kernel)
theorem wq_197 : (Jvm.Cond.selects "KitRunner$Machine" ({ cls := "KitRunner$Machine", name := "faultsHeld", desc := "()I" } : Jvm.MethodName) ({ cls := "KitRunner$Machine", name := "faultsHeld", desc := "()I" } : Jvm.MethodName)) ∈ wG := wG_of 197 (by decide +kernel) (by decide +kernel)
theorem wq_198 : (Jvm.Cond.code ({ cls := "KitRunner$Machine", name := "faultsHeld", desc := "()I" } : Jvm.MethodName) prog_5_method_4_code (1 : Nat) (Option.some Jvm.ClassFile.FieldType.int)) ∈ wG := wG_of 198 (by decide +kernel) (by decide +kernel)
theorem wq_203 : (Jvm.Cond.methodLink "KitRunner" (78 : Nat) ({ cls := "KitRunner$Exclusions", name := "add", desc := "(II)Z" } : Jvm.MethodName)) ∈ wG := wG_of 203 (by decide +kernel) (by decide +kernel)
theorem wq_204 : (Jvm.Cond.instanceMethod ({ cls := "KitRunner$Exclusions", name := "add", desc := "(II)Z" } : Jvm.MethodName)) ∈ wG := wG_of 204 (by decide +kernel) (by decide +kernel)
theorem wq_205 : (Jvm.Cond.selects "KitRunner$Exclusions" ({ cls := "KitRunner$Exclusions", name := "add", desc := "(II)Z" } : Jvm.MethodName) ({ cls := "KitRunner$Exclusions", name := "add", desc := "(II)Z" } : Jvm.MethodName)) ∈ wG := wG_of 205 (by decide +kernel) (by decide +kernel)
theorem wq_206 : (Jvm.Cond.code ({ cls := "KitRunner$Exclusions", name := "add", desc := "(II)Z" } : Jvm.MethodName) prog_3_method_2_code (3 : Nat) (Option.some Jvm.ClassFile.FieldType.boolean)) ∈ wG := wG_of 206 (by decide +kernel) (by decide +kernel)
theorem wq_207 : (Jvm.Cond.methodLink "KitRunner" (82 : Nat) ({ cls := "KitRunner$Exclusions", name := "held", desc := "()I" } : Jvm.MethodName)) ∈ wG := wG_of 207 (by decide +kernel) (by decide +kernel)
theorem wq_208 : (Jvm.Cond.instanceMethod ({ cls := "KitRunner$Exclusions", name := "held", desc := "()I" } : Jvm.MethodName)) ∈ wG := wG_of 208 (by decide +kernel) (by decide +kernel)
theorem wq_209 : (Jvm.Cond.selects "KitRunner$Exclusions" ({ cls := "KitRunner$Exclusions", name := "held", desc := "()I" } : Jvm.MethodName) ({ cls := "KitRunner$Exclusions", name := "held", desc := "()I" } : Jvm.MethodName)) ∈ wG := wG_of 209 (by decide +kernel) (by decide +kernel)
theorem wq_210 : (Jvm.Cond.code ({ cls := "KitRunner$Exclusions", name := "held", desc := "()I" } : Jvm.MethodName) prog_3_method_4_code (1 : Nat) (Option.some Jvm.ClassFile.FieldType.int)) ∈ wG := wG_of 210 (by decide +kernel) (by decide +kernel)
theorem wq_215 : (Jvm.Cond.methodLink "KitRunner" (85 : Nat) ({ cls := "KitRunner$Machine", name := "removeFaults", desc := "()V" } : Jvm.MethodName)) ∈ wG := wG_of 215 (by decide +kernel) (by decide +kernel)
theorem wq_216 : (Jvm.Cond.instanceMethod ({ cls := "KitRunner$Machine", name := "removeFaults", desc := "()V" } : Jvm.MethodName)) ∈ wG := wG_of 216 (by decide +kernel) (by decide +kernel)
theorem wq_217 : (Jvm.Cond.selects "KitRunner$Machine" ({ cls := "KitRunner$Machine", name := "removeFaults", desc := "()V" } : Jvm.MethodName) ({ cls := "KitRunner$Machine", name := "removeFaults", desc := "()V" } : Jvm.MethodName)) ∈ wG := wG_of 217 (by decide +kernel) (by decide +kernel)
theorem wq_218 : (Jvm.Cond.code ({ cls := "KitRunner$Machine", name := "removeFaults", desc := "()V" } : Jvm.MethodName) prog_5_method_3_code (1 : Nat) (Option.none : Option Jvm.ClassFile.FieldType)) ∈ wG := wG_of 218 (by decide +kernel) (by decide +kernel)
theorem wq_219 : (Jvm.Cond.methodLink "KitRunner" (88 : Nat) ({ cls := "KitRunner$Exclusions", name := "removeAll", desc := "()V" } : Jvm.MethodName)) ∈ wG := wG_of 219 (by decide +kernel) (by decide +kernel)
theorem wq_220 : (Jvm.Cond.instanceMethod ({ cls := "KitRunner$Exclusions", name := "removeAll", desc := "()V" } : Jvm.MethodName)) ∈ wG := wG_of 220 (by decide +kernel) (by decide +kernel)
theorem wq_221 : (Jvm.Cond.selects "KitRunner$Exclusions" ({ cls := "KitRunner$Exclusions", name := "removeAll", desc := "()V" } : Jvm.MethodName) ({ cls := "KitRunner$Exclusions", name := "removeAll", desc := "()V" } : Jvm.MethodName)) ∈ wG := wG_of 221 (by decide +kernel) (by decide +kernel)
theorem wq_222 : (Jvm.Cond.code ({ cls := "KitRunner$Exclusions", name := "removeAll", desc := "()V" } : Jvm.MethodName) prog_3_method_3_code (1 : Nat) (Option.none : Option Jvm.ClassFile.FieldType)) ∈ wG := wG_of 222 (by decide +kernel) (by decide +kernel)
theorem wq_231 : (Jvm.Cond.methodLink "KitRunner" (91 : Nat) ({ cls := "KitRunner", name := "withoutZeroBytes", desc := "(J)J" } : Jvm.MethodName)) ∈ wG := wG_of 231 (by decide +kernel) (by decide +kernel)
theorem wq_232 : (Jvm.Cond.static ({ cls := "KitRunner", name := "withoutZeroBytes", desc := "(J)J" } : Jvm.MethodName)) ∈ wG := wG_of 232 (by decide +kernel) (by decide +kernel)
theorem wq_233 : (Jvm.Cond.code ({ cls := "KitRunner", name := "withoutZeroBytes", desc := "(J)J" } : Jvm.MethodName) prog_1_method_17_code (7 : Nat) (Option.some Jvm.ClassFile.FieldType.long)) ∈ wG := wG_of 233 (by decide +kernel) (by decide +kernel)
theorem wq_234 : (Jvm.Cond.constantLong "KitRunner" (186 : Nat) (255 : Int64)) ∈ wG := wG_of 234 (by decide +kernel) (by decide +kernel)
theorem wq_235 : (Jvm.Cond.methodLink "KitRunner" (95 : Nat) ({ cls := "KitRunner$EntryPoints", name := "nameOf", desc := "(I)Ljava/lang/String;" } : Jvm.MethodName)) ∈ wG := wG_of 235 (by decide +kernel) (by decide +kernel)
theorem wq_236 : (Jvm.Cond.static ({ cls := "KitRunner$EntryPoints", name := "nameOf", desc := "(I)Ljava/lang/String;" } : Jvm.MethodName)) ∈ wG := wG_of 236 (by decide +kernel) (by decide +kernel)
theorem wq_237 : (Jvm.Cond.code ({ cls := "KitRunner$EntryPoints", name := "nameOf", desc := "(I)Ljava/lang/String;" } : Jvm.MethodName) prog_2_method_2_code (1 : Nat) (Option.some (Jvm.ClassFile.FieldType.object "java/lang/String"))) ∈ wG := wG_of 237 (by decide +kernel) (by decide +kernel)
theorem wq_254 : (Jvm.Cond.methodLink "KitRunner" (101 : Nat) ({ cls := "KitRunner", name := "packedText", desc := "(Ljava/lang/String;)J" } : Jvm.MethodName)) ∈ wG := wG_of 254 (by decide +kernel) (by decide +kernel)
theorem wq_255 : (Jvm.Cond.static ({ cls := "KitRunner", name := "packedText", desc := "(Ljava/lang/String;)J" } : Jvm.MethodName)) ∈ wG := wG_of 255 (by decide +kernel) (by decide +kernel)
theorem wq_256 : (Jvm.Cond.code ({ cls := "KitRunner", name := "packedText", desc := "(Ljava/lang/String;)J" } : Jvm.MethodName) prog_1_method_18_code (4 : Nat) (Option.some Jvm.ClassFile.FieldType.long)) ∈ wG := wG_of 256 (by decide +kernel) (by decide +kernel)
theorem wq_257 : (Jvm.Cond.methodLink "KitRunner" (188 : Nat) ({ cls := "java/lang/String", name := "length", desc := "()I" } : Jvm.MethodName)) ∈ wG := wG_of 257 (by decide +kernel) (by decide +kernel)
theorem wq_258 : (Jvm.Cond.instanceMethod ({ cls := "java/lang/String", name := "length", desc := "()I" } : Jvm.MethodName)) ∈ wG := wG_of 258 (by decide +kernel) (by decide +kernel)
theorem wq_259 : (Jvm.Cond.selects "java/lang/String" ({ cls := "java/lang/String", name := "length", desc := "()I" } : Jvm.MethodName) ({ cls := "java/lang/String", name := "length", desc := "()I" } : Jvm.MethodName)) ∈ wG := wG_of 259 (by decide +kernel) (by decide +kernel)
theorem wq_260 : (Jvm.Cond.code ({ cls := "java/lang/String", name := "length", desc := "()I" } : Jvm.MethodName) prog_14_method_54_code (1 : Nat) (Option.some Jvm.ClassFile.FieldType.int)) ∈ wG := wG_of 260 (by decide +kernel) (by decide +kernel)
theorem wq_261 : (Jvm.Cond.methodLink "java/lang/String" (335 : Nat) ({ cls := "java/lang/String", name := "coder", desc := "()B" } : Jvm.MethodName)) ∈ wG := wG_of 261 (by decide +kernel) (by decide +kernel)
theorem wq_262 : (Jvm.Cond.instanceMethod ({ cls := "java/lang/String", name := "coder", desc := "()B" } : Jvm.MethodName)) ∈ wG := wG_of 262 (by decide +kernel) (by decide +kernel)
theorem wq_263 : (Jvm.Cond.selects "java/lang/String" ({ cls := "java/lang/String", name := "coder", desc := "()B" } : Jvm.MethodName) ({ cls := "java/lang/String", name := "coder", desc := "()B" } : Jvm.MethodName)) ∈ wG := wG_of 263 (by decide +kernel) (by decide +kernel)
theorem wq_264 : (Jvm.Cond.code ({ cls := "java/lang/String", name := "coder", desc := "()B" } : Jvm.MethodName) prog_14_method_152_code (1 : Nat) (Option.some Jvm.ClassFile.FieldType.byte)) ∈ wG := wG_of 264 (by decide +kernel) (by decide +kernel)
theorem wq_265 : (Jvm.Cond.fieldLink "java/lang/String" (38 : Nat) "java/lang/String" "COMPACT_STRINGS" "Z") ∈ wG := wG_of 265 (by decide +kernel) (by decide +kernel)
theorem wq_267 : (Jvm.Cond.methodLink "KitRunner" (191 : Nat) ({ cls := "java/lang/String", name := "charAt", desc := "(I)C" } : Jvm.MethodName)) ∈ wG := wG_of 267 (by decide +kernel) (by decide +kernel)
theorem wq_268 : (Jvm.Cond.instanceMethod ({ cls := "java/lang/String", name := "charAt", desc := "(I)C" } : Jvm.MethodName)) ∈ wG := wG_of 268 (by decide +kernel) (by decide +kernel)
theorem wq_269 : (Jvm.Cond.selects "java/lang/String" ({ cls := "java/lang/String", name := "charAt", desc := "(I)C" } : Jvm.MethodName) ({ cls := "java/lang/String", name := "charAt", desc := "(I)C" } : Jvm.MethodName)) ∈ wG := wG_of 269 (by decide +kernel) (by decide +kernel)
theorem wq_270 : (Jvm.Cond.code ({ cls := "java/lang/String", name := "charAt", desc := "(I)C" } : Jvm.MethodName) prog_14_method_56_code (2 : Nat) (Option.some Jvm.ClassFile.FieldType.char)) ∈ wG := wG_of 270 (by decide +kernel) (by decide +kernel)
theorem wq_271 : (Jvm.Cond.methodLink "java/lang/String" (492 : Nat) ({ cls := "java/lang/String", name := "isLatin1", desc := "()Z" } : Jvm.MethodName)) ∈ wG := wG_of 271 (by decide +kernel) (by decide +kernel)
theorem wq_272 : (Jvm.Cond.instanceMethod ({ cls := "java/lang/String", name := "isLatin1", desc := "()Z" } : Jvm.MethodName)) ∈ wG := wG_of 272 (by decide +kernel) (by decide +kernel)
theorem wq_273 : (Jvm.Cond.selects "java/lang/String" ({ cls := "java/lang/String", name := "isLatin1", desc := "()Z" } : Jvm.MethodName) ({ cls := "java/lang/String", name := "isLatin1", desc := "()Z" } : Jvm.MethodName)) ∈ wG := wG_of 273 (by decide +kernel) (by decide +kernel)
theorem wq_274 : (Jvm.Cond.code ({ cls := "java/lang/String", name := "isLatin1", desc := "()Z" } : Jvm.MethodName) prog_14_method_154_code (1 : Nat) (Option.some Jvm.ClassFile.FieldType.boolean)) ∈ wG := wG_of 274 (by decide +kernel) (by decide +kernel)
theorem wq_275 : (Jvm.Cond.methodLink "java/lang/String" (495 : Nat) ({ cls := "java/lang/StringLatin1", name := "charAt", desc := "([BI)C" } : Jvm.MethodName)) ∈ wG := wG_of 275 (by decide +kernel) (by decide +kernel)
theorem wq_276 : (Jvm.Cond.static ({ cls := "java/lang/StringLatin1", name := "charAt", desc := "([BI)C" } : Jvm.MethodName)) ∈ wG := wG_of 276 (by decide +kernel) (by decide +kernel)
theorem wq_277 : (Jvm.Cond.code ({ cls := "java/lang/StringLatin1", name := "charAt", desc := "([BI)C" } : Jvm.MethodName) prog_15_method_2_code (2 : Nat) (Option.some Jvm.ClassFile.FieldType.char)) ∈ wG := wG_of 277 (by decide +kernel) (by decide +kernel)
theorem wq_278 : (Jvm.Cond.methodLink "java/lang/StringLatin1" (9 : Nat) ({ cls := "java/lang/String", name := "checkIndex", desc := "(II)V" } : Jvm.MethodName)) ∈ wG := wG_of 278 (by decide +kernel) (by decide +kernel)
theorem wq_279 : (Jvm.Cond.static ({ cls := "java/lang/String", name := "checkIndex", desc := "(II)V" } : Jvm.MethodName)) ∈ wG := wG_of 279 (by decide +kernel) (by decide +kernel)
theorem wq_280 : (Jvm.Cond.code ({ cls := "java/lang/String", name := "checkIndex", desc := "(II)V" } : Jvm.MethodName) prog_14_method_155_code (2 : Nat) (Option.none : Option Jvm.ClassFile.FieldType)) ∈ wG := wG_of 280 (by decide +kernel) (by decide +kernel)
theorem wq_281 : (Jvm.Cond.fieldLink "java/lang/String" (1053 : Nat) "jdk/internal/util/Preconditions" "SIOOBE_FORMATTER" "Ljava/util/function/BiFunction;") ∈ wG := wG_of 281 (by decide +kernel) (by decide +kernel)
theorem wq_283 : (Jvm.Cond.methodLink "java/lang/String" (1059 : Nat) ({ cls := "jdk/internal/util/Preconditions", name := "checkIndex", desc := "(IILjava/util/function/BiFunction;)I" } : Jvm.MethodName)) ∈ wG := wG_of 283 (by decide +kernel) (by decide +kernel)
theorem wq_284 : (Jvm.Cond.static ({ cls := "jdk/internal/util/Preconditions", name := "checkIndex", desc := "(IILjava/util/function/BiFunction;)I" } : Jvm.MethodName)) ∈ wG := wG_of 284 (by decide +kernel) (by decide +kernel)
theorem wq_285 : (Jvm.Cond.code ({ cls := "jdk/internal/util/Preconditions", name := "checkIndex", desc := "(IILjava/util/function/BiFunction;)I" } : Jvm.MethodName) prog_18_method_11_code (3 : Nat) (Option.some Jvm.ClassFile.FieldType.int)) ∈ wG := wG_of 285 (by decide +kernel) (by decide +kernel)
theorem wq_310 : (Jvm.Cond.constantLong "KitRunner" (105 : Nat) (-1000000000000 : Int64)) ∈ wG := wG_of 310 (by decide +kernel) (by decide +kernel)
theorem wq_311 : (Jvm.Cond.methodLink "KitRunner" (107 : Nat) ({ cls := "KitRunner$Machine", name := "give", desc := "(III)J" } : Jvm.MethodName)) ∈ wG := wG_of 311 (by decide +kernel) (by decide +kernel)
theorem wq_312 : (Jvm.Cond.instanceMethod ({ cls := "KitRunner$Machine", name := "give", desc := "(III)J" } : Jvm.MethodName)) ∈ wG := wG_of 312 (by decide +kernel) (by decide +kernel)
theorem wq_313 : (Jvm.Cond.selects "KitRunner$Machine" ({ cls := "KitRunner$Machine", name := "give", desc := "(III)J" } : Jvm.MethodName) ({ cls := "KitRunner$Machine", name := "give", desc := "(III)J" } : Jvm.MethodName)) ∈ wG := wG_of 313 (by decide +kernel) (by decide +kernel)
theorem wq_314 : (Jvm.Cond.code ({ cls := "KitRunner$Machine", name := "give", desc := "(III)J" } : Jvm.MethodName) prog_5_method_5_code (7 : Nat) (Option.some Jvm.ClassFile.FieldType.long)) ∈ wG := wG_of 314 (by decide +kernel) (by decide +kernel)
theorem wq_315 : (Jvm.Cond.methodLink "KitRunner$Machine" (25 : Nat) ({ cls := "KitRunner$EntryPoints", name := "foretell", desc := "(III)J" } : Jvm.MethodName)) ∈ wG := wG_of 315 (by decide +kernel) (by decide +kernel)
theorem wq_316 : (Jvm.Cond.static ({ cls := "KitRunner$EntryPoints", name := "foretell", desc := "(III)J" } : Jvm.MethodName)) ∈ wG := wG_of 316 (by decide +kernel) (by decide +kernel)
theorem wq_317 : (Jvm.Cond.code ({ cls := "KitRunner$EntryPoints", name := "foretell", desc := "(III)J" } : Jvm.MethodName) prog_2_method_3_code (3 : Nat) (Option.some Jvm.ClassFile.FieldType.long)) ∈ wG := wG_of 317 (by decide +kernel) (by decide +kernel)
theorem wq_318 : (Jvm.Cond.constantLong "KitRunner$EntryPoints" (41 : Nat) (10000000000 : Int64)) ∈ wG := wG_of 318 (by decide +kernel) (by decide +kernel)
theorem wq_320 : (Jvm.Cond.methodLink "KitRunner$EntryPoints" (47 : Nat) ({ cls := "java/lang/String", name := "length", desc := "()I" } : Jvm.MethodName)) ∈ wG := wG_of 320 (by decide +kernel) (by decide +kernel)
theorem wq_321 : (Jvm.Cond.constantLong "KitRunner$EntryPoints" (53 : Nat) (20000000000 : Int64)) ∈ wG := wG_of 321 (by decide +kernel) (by decide +kernel)
theorem wq_322 : (Jvm.Cond.methodLink "KitRunner$EntryPoints" (55 : Nat) ({ cls := "java/lang/String", name := "charAt", desc := "(I)C" } : Jvm.MethodName)) ∈ wG := wG_of 322 (by decide +kernel) (by decide +kernel)
theorem wq_323 : (Jvm.Cond.fieldLink "KitRunner$EntryPoints" (59 : Nat) "KitRunner$EntryPoints" "CELLS" "[I") ∈ wG := wG_of 323 (by decide +kernel) (by decide +kernel)
theorem wq_325 : (Jvm.Cond.methodLink "KitRunner$EntryPoints" (63 : Nat) ({ cls := "KitRunner$EntryPoints", name := "sizeOf", desc := "(I)J" } : Jvm.MethodName)) ∈ wG := wG_of 325 (by decide +kernel) (by decide +kernel)
theorem wq_326 : (Jvm.Cond.static ({ cls := "KitRunner$EntryPoints", name := "sizeOf", desc := "(I)J" } : Jvm.MethodName)) ∈ wG := wG_of 326 (by decide +kernel) (by decide +kernel)
theorem wq_327 : (Jvm.Cond.code ({ cls := "KitRunner$EntryPoints", name := "sizeOf", desc := "(I)J" } : Jvm.MethodName) prog_2_method_4_code (1 : Nat) (Option.some Jvm.ClassFile.FieldType.long)) ∈ wG := wG_of 327 (by decide +kernel) (by decide +kernel)
theorem wq_328 : (Jvm.Cond.constantLong "KitRunner$EntryPoints" (79 : Nat) (30000000000 : Int64)) ∈ wG := wG_of 328 (by decide +kernel) (by decide +kernel)
theorem wq_329 : (Jvm.Cond.constantLong "KitRunner$EntryPoints" (81 : Nat) (64 : Int64)) ∈ wG := wG_of 329 (by decide +kernel) (by decide +kernel)
theorem wq_330 : (Jvm.Cond.constantLong "KitRunner$EntryPoints" (67 : Nat) (40000000000 : Int64)) ∈ wG := wG_of 330 (by decide +kernel) (by decide +kernel)
theorem wq_331 : (Jvm.Cond.constantLong "KitRunner$EntryPoints" (69 : Nat) (4 : Int64)) ∈ wG := wG_of 331 (by decide +kernel) (by decide +kernel)
theorem wq_332 : (Jvm.Cond.constantLong "KitRunner$EntryPoints" (71 : Nat) (50000000000 : Int64)) ∈ wG := wG_of 332 (by decide +kernel) (by decide +kernel)
theorem wq_333 : (Jvm.Cond.methodLink "KitRunner$EntryPoints" (73 : Nat) ({ cls := "java/lang/Integer", name := "compare", desc := "(II)I" } : Jvm.MethodName)) ∈ wG := wG_of 333 (by decide +kernel) (by decide +kernel)
theorem wq_334 : (Jvm.Cond.static ({ cls := "java/lang/Integer", name := "compare", desc := "(II)I" } : Jvm.MethodName)) ∈ wG := wG_of 334 (by decide +kernel) (by decide +kernel)
theorem wq_335 : (Jvm.Cond.code ({ cls := "java/lang/Integer", name := "compare", desc := "(II)I" } : Jvm.MethodName) prog_13_method_40_code (2 : Nat) (Option.some Jvm.ClassFile.FieldType.int)) ∈ wG := wG_of 335 (by decide +kernel) (by decide +kernel)
theorem wq_336 : (Jvm.Cond.methodLink "KitRunner$Machine" (31 : Nat) ({ cls := "KitRunner$Machine", name := "applies", desc := "(IIIIJ)Z" } : Jvm.MethodName)) ∈ wG := wG_of 336 (by decide +kernel) (by decide +kernel)
theorem wq_337 : (Jvm.Cond.static ({ cls := "KitRunner$Machine", name := "applies", desc := "(IIIIJ)Z" } : Jvm.MethodName)) ∈ wG := wG_of 337 (by decide +kernel) (by decide +kernel)
theorem wq_338 : (Jvm.Cond.code ({ cls := "KitRunner$Machine", name := "applies", desc := "(IIIIJ)Z" } : Jvm.MethodName) prog_5_method_7_code (7 : Nat) (Option.some Jvm.ClassFile.FieldType.boolean)) ∈ wG := wG_of 338 (by decide +kernel) (by decide +kernel)
theorem wq_340 : (Jvm.Cond.static ({ cls := "KitRunner", name := "isTrouble", desc := "(J)Z" } : Jvm.MethodName)) ∈ wG := wG_of 340 (by decide +kernel) (by decide +kernel)
theorem wq_341 : (Jvm.Cond.code ({ cls := "KitRunner", name := "isTrouble", desc := "(J)Z" } : Jvm.MethodName) prog_1_method_15_code (2 : Nat) (Option.some Jvm.ClassFile.FieldType.boolean)) ∈ wG := wG_of 341 (by decide +kernel) (by decide +kernel)
theorem wq_342 : (Jvm.Cond.constantLong "KitRunner" (184 : Nat) (10000000000 : Int64)) ∈ wG := wG_of 342 (by decide +kernel) (by decide +kernel)
theorem wq_343 : (Jvm.Cond.methodLink "KitRunner$Machine" (35 : Nat) ({ cls := "KitRunner$Machine", name := "changed", desc := "(IIJ)J" } : Jvm.MethodName)) ∈ wG := wG_of 343 (by decide +kernel) (by decide +kernel)
theorem wq_344 : (Jvm.Cond.static ({ cls := "KitRunner$Machine", name := "changed", desc := "(IIJ)J" } : Jvm.MethodName)) ∈ wG := wG_of 344 (by decide +kernel) (by decide +kernel)
theorem wq_345 : (Jvm.Cond.code ({ cls := "KitRunner$Machine", name := "changed", desc := "(IIJ)J" } : Jvm.MethodName) prog_5_method_8_code (4 : Nat) (Option.some Jvm.ClassFile.FieldType.long)) ∈ wG := wG_of 345 (by decide +kernel) (by decide +kernel)
theorem wq_346 : (Jvm.Cond.constantLong "KitRunner$Machine" (51 : Nat) (10000000000 : Int64)) ∈ wG := wG_of 346 (by decide +kernel) (by decide +kernel)
theorem wq_347 : (Jvm.Cond.constantLong "KitRunner$Machine" (53 : Nat) (50000000000 : Int64)) ∈ wG := wG_of 347 (by decide +kernel) (by decide +kernel)
theorem wq_348 : (Jvm.Cond.constantLong "KitRunner$Machine" (55 : Nat) (40000000000 : Int64)) ∈ wG := wG_of 348 (by decide +kernel) (by decide +kernel)
theorem wq_349 : (Jvm.Cond.methodLink "KitRunner" (111 : Nat) ({ cls := "KitRunner$EntryPoints", name := "foretell", desc := "(III)J" } : Jvm.MethodName)) ∈ wG := wG_of 349 (by decide +kernel) (by decide +kernel)
theorem wq_354 : (Jvm.Cond.methodLink "KitRunner" (114 : Nat) ({ cls := "KitRunner", name := "forgetLatestRun", desc := "()V" } : Jvm.MethodName)) ∈ wG := wG_of 354 (by decide +kernel) (by decide +kernel)
theorem wq_356 : (Jvm.Cond.instanceMethod ({ cls := "KitRunner", name := "forgetLatestRun", desc := "()V" } : Jvm.MethodName)) ∈ wG := wG_of 356 (by decide +kernel) (by decide +kernel)
theorem wq_357 : (Jvm.Cond.code ({ cls := "KitRunner", name := "forgetLatestRun", desc := "()V" } : Jvm.MethodName) prog_1_method_19_code (1 : Nat) (Option.none : Option Jvm.ClassFile.FieldType)) ∈ wG := wG_of 357 (by decide +kernel) (by decide +kernel)
theorem wq_358 : (Jvm.Cond.methodLink "KitRunner" (195 : Nat) ({ cls := "KitRunner$PairBook", name := "forget", desc := "()V" } : Jvm.MethodName)) ∈ wG := wG_of 358 (by decide +kernel) (by decide +kernel)
theorem wq_359 : (Jvm.Cond.instanceMethod ({ cls := "KitRunner$PairBook", name := "forget", desc := "()V" } : Jvm.MethodName)) ∈ wG := wG_of 359 (by decide +kernel) (by decide +kernel)
theorem wq_360 : (Jvm.Cond.selects "KitRunner$PairBook" ({ cls := "KitRunner$PairBook", name := "forget", desc := "()V" } : Jvm.MethodName) ({ cls := "KitRunner$PairBook", name := "forget", desc := "()V" } : Jvm.MethodName)) ∈ wG := wG_of 360 (by decide +kernel) (by decide +kernel)
theorem wq_361 : (Jvm.Cond.code ({ cls := "KitRunner$PairBook", name := "forget", desc := "()V" } : Jvm.MethodName) prog_6_method_2_code (1 : Nat) (Option.none : Option Jvm.ClassFile.FieldType)) ∈ wG := wG_of 361 (by decide +kernel) (by decide +kernel)
theorem wq_362 : (Jvm.Cond.methodLink "KitRunner$PairBook" (25 : Nat) ({ cls := "java/util/Arrays", name := "fill", desc := "([II)V" } : Jvm.MethodName)) ∈ wG := wG_of 362 (by decide +kernel) (by decide +kernel)
theorem wq_363 : (Jvm.Cond.static ({ cls := "java/util/Arrays", name := "fill", desc := "([II)V" } : Jvm.MethodName)) ∈ wG := wG_of 363 (by decide +kernel) (by decide +kernel)
theorem wq_364 : (Jvm.Cond.code ({ cls := "java/util/Arrays", name := "fill", desc := "([II)V" } : Jvm.MethodName) prog_17_method_103_code (4 : Nat) (Option.none : Option Jvm.ClassFile.FieldType)) ∈ wG := wG_of 364 (by decide +kernel) (by decide +kernel)
theorem wq_365 : (Jvm.Cond.methodLink "KitRunner" (198 : Nat) ({ cls := "KitRunner$Tally", name := "forget", desc := "()V" } : Jvm.MethodName)) ∈ wG := wG_of 365 (by decide +kernel) (by decide +kernel)
theorem wq_366 : (Jvm.Cond.instanceMethod ({ cls := "KitRunner$Tally", name := "forget", desc := "()V" } : Jvm.MethodName)) ∈ wG := wG_of 366 (by decide +kernel) (by decide +kernel)
theorem wq_367 : (Jvm.Cond.selects "KitRunner$Tally" ({ cls := "KitRunner$Tally", name := "forget", desc := "()V" } : Jvm.MethodName) ({ cls := "KitRunner$Tally", name := "forget", desc := "()V" } : Jvm.MethodName)) ∈ wG := wG_of 367 (by decide +kernel) (by decide +kernel)
theorem wq_368 : (Jvm.Cond.code ({ cls := "KitRunner$Tally", name := "forget", desc := "()V" } : Jvm.MethodName) prog_9_method_2_code (1 : Nat) (Option.none : Option Jvm.ClassFile.FieldType)) ∈ wG := wG_of 368 (by decide +kernel) (by decide +kernel)
theorem wq_369 : (Jvm.Cond.methodLink "KitRunner$Tally" (25 : Nat) ({ cls := "java/util/Arrays", name := "fill", desc := "([II)V" } : Jvm.MethodName)) ∈ wG := wG_of 369 (by decide +kernel) (by decide +kernel)
theorem wq_370 : (Jvm.Cond.methodLink "KitRunner" (199 : Nat) ({ cls := "KitRunner$FailureList", name := "forget", desc := "()V" } : Jvm.MethodName)) ∈ wG := wG_of 370 (by decide +kernel) (by decide +kernel)
theorem wq_371 : (Jvm.Cond.instanceMethod ({ cls := "KitRunner$FailureList", name := "forget", desc := "()V" } : Jvm.MethodName)) ∈ wG := wG_of 371 (by decide +kernel) (by decide +kernel)
theorem wq_372 : (Jvm.Cond.selects "KitRunner$FailureList" ({ cls := "KitRunner$FailureList", name := "forget", desc := "()V" } : Jvm.MethodName) ({ cls := "KitRunner$FailureList", name := "forget", desc := "()V" } : Jvm.MethodName)) ∈ wG := wG_of 372 (by decide +kernel) (by decide +kernel)
theorem wq_373 : (Jvm.Cond.code ({ cls := "KitRunner$FailureList", name := "forget", desc := "()V" } : Jvm.MethodName) prog_4_method_2_code (1 : Nat) (Option.none : Option Jvm.ClassFile.FieldType)) ∈ wG := wG_of 373 (by decide +kernel) (by decide +kernel)
theorem wq_374 : (Jvm.Cond.methodLink "KitRunner" (200 : Nat) ({ cls := "KitRunner$Report", name := "forget", desc := "()V" } : Jvm.MethodName)) ∈ wG := wG_of 374 (by decide +kernel) (by decide +kernel)
theorem wq_375 : (Jvm.Cond.instanceMethod ({ cls := "KitRunner$Report", name := "forget", desc := "()V" } : Jvm.MethodName)) ∈ wG := wG_of 375 (by decide +kernel) (by decide +kernel)
theorem wq_376 : (Jvm.Cond.selects "KitRunner$Report" ({ cls := "KitRunner$Report", name := "forget", desc := "()V" } : Jvm.MethodName) ({ cls := "KitRunner$Report", name := "forget", desc := "()V" } : Jvm.MethodName)) ∈ wG := wG_of 376 (by decide +kernel) (by decide +kernel)
theorem wq_377 : (Jvm.Cond.code ({ cls := "KitRunner$Report", name := "forget", desc := "()V" } : Jvm.MethodName) prog_7_method_2_code (1 : Nat) (Option.none : Option Jvm.ClassFile.FieldType)) ∈ wG := wG_of 377 (by decide +kernel) (by decide +kernel)
theorem wq_378 : (Jvm.Cond.methodLink "KitRunner" (117 : Nat) ({ cls := "KitRunner", name := "latticeSize", desc := "(I)I" } : Jvm.MethodName)) ∈ wG := wG_of 378 (by decide +kernel) (by decide +kernel)
theorem wq_379 : (Jvm.Cond.static ({ cls := "KitRunner", name := "latticeSize", desc := "(I)I" } : Jvm.MethodName)) ∈ wG := wG_of 379 (by decide +kernel) (by decide +kernel)
theorem wq_380 : (Jvm.Cond.code ({ cls := "KitRunner", name := "latticeSize", desc := "(I)I" } : Jvm.MethodName) prog_1_method_16_code (1 : Nat) (Option.some Jvm.ClassFile.FieldType.int)) ∈ wG := wG_of 380 (by decide +kernel) (by decide +kernel)
theorem wq_381 : (Jvm.Cond.methodLink "KitRunner" (121 : Nat) ({ cls := "KitRunner", name := "runEntry", desc := "(IIZ)V" } : Jvm.MethodName)) ∈ wG := wG_of 381 (by decide +kernel) (by decide +kernel)
theorem wq_383 : (Jvm.Cond.instanceMethod ({ cls := "KitRunner", name := "runEntry", desc := "(IIZ)V" } : Jvm.MethodName)) ∈ wG := wG_of 383 (by decide +kernel) (by decide +kernel)
theorem wq_384 : (Jvm.Cond.code ({ cls := "KitRunner", name := "runEntry", desc := "(IIZ)V" } : Jvm.MethodName) prog_1_method_20_code (6 : Nat) (Option.none : Option Jvm.ClassFile.FieldType)) ∈ wG := wG_of 384 (by decide +kernel) (by decide +kernel)
theorem wq_385 : (Jvm.Cond.fieldLink "KitRunner" (135 : Nat) "KitRunner" "LATTICE" "[I") ∈ wG := wG_of 385 (by decide +kernel) (by decide +kernel)
theorem wq_387 : (Jvm.Cond.methodLink "KitRunner" (201 : Nat) ({ cls := "KitRunner$Exclusions", name := "leaveOut", desc := "(III)Z" } : Jvm.MethodName)) ∈ wG := wG_of 387 (by decide +kernel) (by decide +kernel)
theorem wq_388 : (Jvm.Cond.instanceMethod ({ cls := "KitRunner$Exclusions", name := "leaveOut", desc := "(III)Z" } : Jvm.MethodName)) ∈ wG := wG_of 388 (by decide +kernel) (by decide +kernel)
theorem wq_389 : (Jvm.Cond.selects "KitRunner$Exclusions" ({ cls := "KitRunner$Exclusions", name := "leaveOut", desc := "(III)Z" } : Jvm.MethodName) ({ cls := "KitRunner$Exclusions", name := "leaveOut", desc := "(III)Z" } : Jvm.MethodName)) ∈ wG := wG_of 389 (by decide +kernel) (by decide +kernel)
theorem wq_390 : (Jvm.Cond.code ({ cls := "KitRunner$Exclusions", name := "leaveOut", desc := "(III)Z" } : Jvm.MethodName) prog_3_method_5_code (5 : Nat) (Option.some Jvm.ClassFile.FieldType.boolean)) ∈ wG := wG_of 390 (by decide +kernel) (by decide +kernel)
theorem wq_391 : (Jvm.Cond.methodLink "KitRunner" (204 : Nat) ({ cls := "KitRunner$Tally", name := "noteLeftOut", desc := "()V" } : Jvm.MethodName)) ∈ wG := wG_of 391 (by decide +kernel) (by decide +kernel)
theorem wq_392 : (Jvm.Cond.instanceMethod ({ cls := "KitRunner$Tally", name := "noteLeftOut", desc := "()V" } : Jvm.MethodName)) ∈ wG := wG_of 392 (by decide +kernel) (by decide +kernel)
theorem wq_393 : (Jvm.Cond.selects "KitRunner$Tally" ({ cls := "KitRunner$Tally", name := "noteLeftOut", desc := "()V" } : Jvm.MethodName) ({ cls := "KitRunner$Tally", name := "noteLeftOut", desc := "()V" } : Jvm.MethodName)) ∈ wG := wG_of 393 (by decide +kernel) (by decide +kernel)
theorem wq_394 : (Jvm.Cond.code ({ cls := "KitRunner$Tally", name := "noteLeftOut", desc := "()V" } : Jvm.MethodName) prog_9_method_3_code (1 : Nat) (Option.none : Option Jvm.ClassFile.FieldType)) ∈ wG := wG_of 394 (by decide +kernel) (by decide +kernel)
theorem wq_395 : (Jvm.Cond.methodLink "KitRunner" (207 : Nat) ({ cls := "KitRunner$PairBook", name := "note", desc := "(III)Z" } : Jvm.MethodName)) ∈ wG := wG_of 395 (by decide +kernel) (by decide +kernel)
theorem wq_396 : (Jvm.Cond.instanceMethod ({ cls := "KitRunner$PairBook", name := "note", desc := "(III)Z" } : Jvm.MethodName)) ∈ wG := wG_of 396 (by decide +kernel) (by decide +kernel)
theorem wq_397 : (Jvm.Cond.selects "KitRunner$PairBook" ({ cls := "KitRunner$PairBook", name := "note", desc := "(III)Z" } : Jvm.MethodName) ({ cls := "KitRunner$PairBook", name := "note", desc := "(III)Z" } : Jvm.MethodName)) ∈ wG := wG_of 397 (by decide +kernel) (by decide +kernel)
theorem wq_398 : (Jvm.Cond.code ({ cls := "KitRunner$PairBook", name := "note", desc := "(III)Z" } : Jvm.MethodName) prog_6_method_4_code (5 : Nat) (Option.some Jvm.ClassFile.FieldType.boolean)) ∈ wG := wG_of 398 (by decide +kernel) (by decide +kernel)
theorem wq_399 : (Jvm.Cond.methodLink "KitRunner$PairBook" (31 : Nat) ({ cls := "KitRunner$PairBook", name := "mark", desc := "([III)V" } : Jvm.MethodName)) ∈ wG := wG_of 399 (by decide +kernel) (by decide +kernel)
theorem wq_401 : (Jvm.Cond.instanceMethod ({ cls := "KitRunner$PairBook", name := "mark", desc := "([III)V" } : Jvm.MethodName)) ∈ wG := wG_of 401 (by decide +kernel) (by decide +kernel)
theorem wq_402 : (Jvm.Cond.code ({ cls := "KitRunner$PairBook", name := "mark", desc := "([III)V" } : Jvm.MethodName) prog_6_method_5_code (5 : Nat) (Option.none : Option Jvm.ClassFile.FieldType)) ∈ wG := wG_of 402 (by decide +kernel) (by decide +kernel)
theorem wq_403 : (Jvm.Cond.methodLink "KitRunner" (210 : Nat) ({ cls := "KitRunner", name := "runCase", desc := "(III)V" } : Jvm.MethodName)) ∈ wG := wG_of 403 (by decide +kernel) (by decide +kernel)
theorem wq_405 : (Jvm.Cond.instanceMethod ({ cls := "KitRunner", name := "runCase", desc := "(III)V" } : Jvm.MethodName)) ∈ wG := wG_of 405 (by decide +kernel) (by decide +kernel)
theorem wq_406 : (Jvm.Cond.code ({ cls := "KitRunner", name := "runCase", desc := "(III)V" } : Jvm.MethodName) prog_1_method_21_code (8 : Nat) (Option.none : Option Jvm.ClassFile.FieldType)) ∈ wG := wG_of 406 (by decide +kernel) (by decide +kernel)
theorem wq_407 : (Jvm.Cond.methodLink "KitRunner" (214 : Nat) ({ cls := "KitRunner$Tally", name := "noteTaken", desc := "(IJ)V" } : Jvm.MethodName)) ∈ wG := wG_of 407 (by decide +kernel) (by decide +kernel)
theorem wq_408 : (Jvm.Cond.instanceMethod ({ cls := "KitRunner$Tally", name := "noteTaken", desc := "(IJ)V" } : Jvm.MethodName)) ∈ wG := wG_of 408 (by decide +kernel) (by decide +kernel)
theorem wq_409 : (Jvm.Cond.selects "KitRunner$Tally" ({ cls := "KitRunner$Tally", name := "noteTaken", desc := "(IJ)V" } : Jvm.MethodName) ({ cls := "KitRunner$Tally", name := "noteTaken", desc := "(IJ)V" } : Jvm.MethodName)) ∈ wG := wG_of 409 (by decide +kernel) (by decide +kernel)
theorem wq_410 : (Jvm.Cond.code ({ cls := "KitRunner$Tally", name := "noteTaken", desc := "(IJ)V" } : Jvm.MethodName) prog_9_method_4_code (4 : Nat) (Option.none : Option Jvm.ClassFile.FieldType)) ∈ wG := wG_of 410 (by decide +kernel) (by decide +kernel)
theorem wq_411 : (Jvm.Cond.methodLink "KitRunner$Tally" (31 : Nat) ({ cls := "KitRunner$Tally", name := "markOf", desc := "(J)I" } : Jvm.MethodName)) ∈ wG := wG_of 411 (by decide +kernel) (by decide +kernel)
theorem wq_412 : (Jvm.Cond.static ({ cls := "KitRunner$Tally", name := "markOf", desc := "(J)I" } : Jvm.MethodName)) ∈ wG := wG_of 412 (by decide +kernel) (by decide +kernel)
theorem wq_413 : (Jvm.Cond.code ({ cls := "KitRunner$Tally", name := "markOf", desc := "(J)I" } : Jvm.MethodName) prog_9_method_14_code (2 : Nat) (Option.some Jvm.ClassFile.FieldType.int)) ∈ wG := wG_of 413 (by decide +kernel) (by decide +kernel)
theorem wq_415 : (Jvm.Cond.constantLong "KitRunner$Tally" (49 : Nat) (10000000000 : Int64)) ∈ wG := wG_of 415 (by decide +kernel) (by decide +kernel)
theorem wq_416 : (Jvm.Cond.methodLink "KitRunner" (218 : Nat) ({ cls := "KitRunner$Tally", name := "noteFailed", desc := "(I)V" } : Jvm.MethodName)) ∈ wG := wG_of 416 (by decide +kernel) (by decide +kernel)
theorem wq_417 : (Jvm.Cond.instanceMethod ({ cls := "KitRunner$Tally", name := "noteFailed", desc := "(I)V" } : Jvm.MethodName)) ∈ wG := wG_of 417 (by decide +kernel) (by decide +kernel)
theorem wq_418 : (Jvm.Cond.selects "KitRunner$Tally" ({ cls := "KitRunner$Tally", name := "noteFailed", desc := "(I)V" } : Jvm.MethodName) ({ cls := "KitRunner$Tally", name := "noteFailed", desc := "(I)V" } : Jvm.MethodName)) ∈ wG := wG_of 418 (by decide +kernel) (by decide +kernel)
theorem wq_419 : (Jvm.Cond.code ({ cls := "KitRunner$Tally", name := "noteFailed", desc := "(I)V" } : Jvm.MethodName) prog_9_method_5_code (2 : Nat) (Option.none : Option Jvm.ClassFile.FieldType)) ∈ wG := wG_of 419 (by decide +kernel) (by decide +kernel)
theorem wq_420 : (Jvm.Cond.methodLink "KitRunner" (222 : Nat) ({ cls := "KitRunner$FailureList", name := "keep", desc := "(IIIJJ)V" } : Jvm.MethodName)) ∈ wG := wG_of 420 (by decide +kernel) (by decide +kernel)
theorem wq_421 : (Jvm.Cond.instanceMethod ({ cls := "KitRunner$FailureList", name := "keep", desc := "(IIIJJ)V" } : Jvm.MethodName)) ∈ wG := wG_of 421 (by decide +kernel) (by decide +kernel)
theorem wq_422 : (Jvm.Cond.selects "KitRunner$FailureList" ({ cls := "KitRunner$FailureList", name := "keep", desc := "(IIIJJ)V" } : Jvm.MethodName) ({ cls := "KitRunner$FailureList", name := "keep", desc := "(IIIJJ)V" } : Jvm.MethodName)) ∈ wG := wG_of 422 (by decide +kernel) (by decide +kernel)
theorem wq_423 : (Jvm.Cond.code ({ cls := "KitRunner$FailureList", name := "keep", desc := "(IIIJJ)V" } : Jvm.MethodName) prog_4_method_4_code (8 : Nat) (Option.none : Option Jvm.ClassFile.FieldType)) ∈ wG := wG_of 423 (by decide +kernel) (by decide +kernel)
theorem wq_424 : (Jvm.Cond.methodLink "KitRunner" (125 : Nat) ({ cls := "KitRunner", name := "writeReport", desc := "()V" } : Jvm.MethodName)) ∈ wG := wG_of 424 (by decide +kernel) (by decide +kernel)
theorem wq_426 : (Jvm.Cond.instanceMethod ({ cls := "KitRunner", name := "writeReport", desc := "()V" } : Jvm.MethodName)) ∈ wG := wG_of 426 (by decide +kernel) (by decide +kernel)
theorem wq_427 : (Jvm.Cond.code ({ cls := "KitRunner", name := "writeReport", desc := "()V" } : Jvm.MethodName) prog_1_method_22_code (2 : Nat) (Option.none : Option Jvm.ClassFile.FieldType)) ∈ wG := wG_of 427 (by decide +kernel) (by decide +kernel)
theorem wq_428 : (Jvm.Cond.methodLink "KitRunner" (226 : Nat) ({ cls := "KitRunner$Tally", name := "taken", desc := "(I)I" } : Jvm.MethodName)) ∈ wG := wG_of 428 (by decide +kernel) (by decide +kernel)
theorem wq_429 : (Jvm.Cond.instanceMethod ({ cls := "KitRunner$Tally", name := "taken", desc := "(I)I" } : Jvm.MethodName)) ∈ wG := wG_of 429 (by decide +kernel) (by decide +kernel)
theorem wq_430 : (Jvm.Cond.selects "KitRunner$Tally" ({ cls := "KitRunner$Tally", name := "taken", desc := "(I)I" } : Jvm.MethodName) ({ cls := "KitRunner$Tally", name := "taken", desc := "(I)I" } : Jvm.MethodName)) ∈ wG := wG_of 430 (by decide +kernel) (by decide +kernel)
theorem wq_431 : (Jvm.Cond.code ({ cls := "KitRunner$Tally", name := "taken", desc := "(I)I" } : Jvm.MethodName) prog_9_method_7_code (2 : Nat) (Option.some Jvm.ClassFile.FieldType.int)) ∈ wG := wG_of 431 (by decide +kernel) (by decide +kernel)
theorem wq_432 : (Jvm.Cond.methodLink "KitRunner" (229 : Nat) ({ cls := "KitRunner$Report", name := "putText", desc := "(Ljava/lang/String;)V" } : Jvm.MethodName)) ∈ wG := wG_of 432 (by decide +kernel) (by decide +kernel)
theorem wq_433 : (Jvm.Cond.instanceMethod ({ cls := "KitRunner$Report", name := "putText", desc := "(Ljava/lang/String;)V" } : Jvm.MethodName)) ∈ wG := wG_of 433 (by decide +kernel) (by decide +kernel)
theorem wq_434 : (Jvm.Cond.selects "KitRunner$Report" ({ cls := "KitRunner$Report", name := "putText", desc := "(Ljava/lang/String;)V" } : Jvm.MethodName) ({ cls := "KitRunner$Report", name := "putText", desc := "(Ljava/lang/String;)V" } : Jvm.MethodName)) ∈ wG := wG_of 434 (by decide +kernel) (by decide +kernel)
theorem wq_435 : (Jvm.Cond.code ({ cls := "KitRunner$Report", name := "putText", desc := "(Ljava/lang/String;)V" } : Jvm.MethodName) prog_7_method_6_code (3 : Nat) (Option.none : Option Jvm.ClassFile.FieldType)) ∈ wG := wG_of 435 (by decide +kernel) (by decide +kernel)
theorem wq_436 : (Jvm.Cond.methodLink "KitRunner$Report" (19 : Nat) ({ cls := "java/lang/String", name := "length", desc := "()I" } : Jvm.MethodName)) ∈ wG := wG_of 436 (by decide +kernel) (by decide +kernel)
theorem wq_437 : (Jvm.Cond.methodLink "KitRunner$Report" (24 : Nat) ({ cls := "java/lang/String", name := "charAt", desc := "(I)C" } : Jvm.MethodName)) ∈ wG := wG_of 437 (by decide +kernel) (by decide +kernel)
theorem wq_438 : (Jvm.Cond.methodLink "KitRunner$Report" (28 : Nat) ({ cls := "KitRunner$Report", name := "put", desc := "(C)V" } : Jvm.MethodName)) ∈ wG := wG_of 438 (by decide +kernel) (by decide +kernel)
theorem wq_439 : (Jvm.Cond.instanceMethod ({ cls := "KitRunner$Report", name := "put", desc := "(C)V" } : Jvm.MethodName)) ∈ wG := wG_of 439 (by decide +kernel) (by decide +kernel)
theorem wq_440 : (Jvm.Cond.selects "KitRunner$Report" ({ cls := "KitRunner$Report", name := "put", desc := "(C)V" } : Jvm.MethodName) ({ cls := "KitRunner$Report", name := "put", desc := "(C)V" } : Jvm.MethodName)) ∈ wG := wG_of 440 (by decide +kernel) (by decide +kernel)
theorem wq_441 : (Jvm.Cond.code ({ cls := "KitRunner$Report", name := "put", desc := "(C)V" } : Jvm.MethodName) prog_7_method_5_code (2 : Nat) (Option.none : Option Jvm.ClassFile.FieldType)) ∈ wG := wG_of 441 (by decide +kernel) (by decide +kernel)
theorem wq_442 : (Jvm.Cond.methodLink "KitRunner" (233 : Nat) ({ cls := "KitRunner$Report", name := "put", desc := "(C)V" } : Jvm.MethodName)) ∈ wG := wG_of 442 (by decide +kernel) (by decide +kernel)
theorem wq_443 : (Jvm.Cond.methodLink "KitRunner" (237 : Nat) ({ cls := "KitRunner$Report", name := "putNumber", desc := "(I)V" } : Jvm.MethodName)) ∈ wG := wG_of 443 (by decide +kernel) (by decide +kernel)
theorem wq_444 : (Jvm.Cond.instanceMethod ({ cls := "KitRunner$Report", name := "putNumber", desc := "(I)V" } : Jvm.MethodName)) ∈ wG := wG_of 444 (by decide +kernel) (by decide +kernel)
theorem wq_445 : (Jvm.Cond.selects "KitRunner$Report" ({ cls := "KitRunner$Report", name := "putNumber", desc := "(I)V" } : Jvm.MethodName) ({ cls := "KitRunner$Report", name := "putNumber", desc := "(I)V" } : Jvm.MethodName)) ∈ wG := wG_of 445 (by decide +kernel) (by decide +kernel)
theorem wq_446 : (Jvm.Cond.code ({ cls := "KitRunner$Report", name := "putNumber", desc := "(I)V" } : Jvm.MethodName) prog_7_method_7_code (3 : Nat) (Option.none : Option Jvm.ClassFile.FieldType)) ∈ wG := wG_of 446 (by decide +kernel) (by decide +kernel)
theorem wq_447 : (Jvm.Cond.methodLink "KitRunner" (240 : Nat) ({ cls := "KitRunner$Tally", name := "failed", desc := "(I)I" } : Jvm.MethodName)) ∈ wG := wG_of 447 (by decide +kernel) (by decide +kernel)
theorem wq_448 : (Jvm.Cond.instanceMethod ({ cls := "KitRunner$Tally", name := "failed", desc := "(I)I" } : Jvm.MethodName)) ∈ wG := wG_of 448 (by decide +kernel) (by decide +kernel)
theorem wq_449 : (Jvm.Cond.selects "KitRunner$Tally" ({ cls := "KitRunner$Tally", name := "failed", desc := "(I)I" } : Jvm.MethodName) ({ cls := "KitRunner$Tally", name := "failed", desc := "(I)I" } : Jvm.MethodName)) ∈ wG := wG_of 449 (by decide +kernel) (by decide +kernel)
theorem wq_450 : (Jvm.Cond.code ({ cls := "KitRunner$Tally", name := "failed", desc := "(I)I" } : Jvm.MethodName) prog_9_method_8_code (2 : Nat) (Option.some Jvm.ClassFile.FieldType.int)) ∈ wG := wG_of 450 (by decide +kernel) (by decide +kernel)
theorem wq_451 : (Jvm.Cond.methodLink "KitRunner" (128 : Nat) ({ cls := "KitRunner$Tally", name := "failedInAll", desc := "()I" } : Jvm.MethodName)) ∈ wG := wG_of 451 (by decide +kernel) (by decide +kernel)
theorem wq_452 : (Jvm.Cond.instanceMethod ({ cls := "KitRunner$Tally", name := "failedInAll", desc := "()I" } : Jvm.MethodName)) ∈ wG := wG_of 452 (by decide +kernel) (by decide +kernel)
theorem wq_453 : (Jvm.Cond.selects "KitRunner$Tally" ({ cls := "KitRunner$Tally", name := "failedInAll", desc := "()I" } : Jvm.MethodName) ({ cls := "KitRunner$Tally", name := "failedInAll", desc := "()I" } : Jvm.MethodName)) ∈ wG := wG_of 453 (by decide +kernel) (by decide +kernel)
theorem wq_454 : (Jvm.Cond.code ({ cls := "KitRunner$Tally", name := "failedInAll", desc := "()I" } : Jvm.MethodName) prog_9_method_11_code (1 : Nat) (Option.some Jvm.ClassFile.FieldType.int)) ∈ wG := wG_of 454 (by decide +kernel) (by decide +kernel)
theorem wq_455 : (Jvm.Cond.methodLink "KitRunner$Tally" (35 : Nat) ({ cls := "KitRunner$Tally", name := "sum", desc := "([I)I" } : Jvm.MethodName)) ∈ wG := wG_of 455 (by decide +kernel) (by decide +kernel)
theorem wq_456 : (Jvm.Cond.static ({ cls := "KitRunner$Tally", name := "sum", desc := "([I)I" } : Jvm.MethodName)) ∈ wG := wG_of 456 (by decide +kernel) (by decide +kernel)
theorem wq_457 : (Jvm.Cond.code ({ cls := "KitRunner$Tally", name := "sum", desc := "([I)I" } : Jvm.MethodName) prog_9_method_13_code (3 : Nat) (Option.some Jvm.ClassFile.FieldType.int)) ∈ wG := wG_of 457 (by decide +kernel) (by decide +kernel)
theorem wq_464 : (Jvm.Cond.methodLink "KitRunner" (131 : Nat) ({ cls := "KitRunner$FailureList", name := "held", desc := "()I" } : Jvm.MethodName)) ∈ wG := wG_of 464 (by decide +kernel) (by decide +kernel)
theorem wq_465 : (Jvm.Cond.instanceMethod ({ cls := "KitRunner$FailureList", name := "held", desc := "()I" } : Jvm.MethodName)) ∈ wG := wG_of 465 (by decide +kernel) (by decide +kernel)
theorem wq_466 : (Jvm.Cond.selects "KitRunner$FailureList" ({ cls := "KitRunner$FailureList", name := "held", desc := "()I" } : Jvm.MethodName) ({ cls := "KitRunner$FailureList", name := "held", desc := "()I" } : Jvm.MethodName)) ∈ wG := wG_of 466 (by decide +kernel) (by decide +kernel)
theorem wq_467 : (Jvm.Cond.code ({ cls := "KitRunner$FailureList", name := "held", desc := "()I" } : Jvm.MethodName) prog_4_method_3_code (1 : Nat) (Option.some Jvm.ClassFile.FieldType.int)) ∈ wG := wG_of 467 (by decide +kernel) (by decide +kernel)
theorem wq_468 : (Jvm.Cond.methodLink "KitRunner" (132 : Nat) ({ cls := "KitRunner$FailureList", name := "entry", desc := "(I)I" } : Jvm.MethodName)) ∈ wG := wG_of 468 (by decide +kernel) (by decide +kernel)
theorem wq_469 : (Jvm.Cond.instanceMethod ({ cls := "KitRunner$FailureList", name := "entry", desc := "(I)I" } : Jvm.MethodName)) ∈ wG := wG_of 469 (by decide +kernel) (by decide +kernel)
theorem wq_470 : (Jvm.Cond.selects "KitRunner$FailureList" ({ cls := "KitRunner$FailureList", name := "entry", desc := "(I)I" } : Jvm.MethodName) ({ cls := "KitRunner$FailureList", name := "entry", desc := "(I)I" } : Jvm.MethodName)) ∈ wG := wG_of 470 (by decide +kernel) (by decide +kernel)
theorem wq_471 : (Jvm.Cond.code ({ cls := "KitRunner$FailureList", name := "entry", desc := "(I)I" } : Jvm.MethodName) prog_4_method_5_code (2 : Nat) (Option.some Jvm.ClassFile.FieldType.int)) ∈ wG := wG_of 471 (by decide +kernel) (by decide +kernel)
theorem wq_472 : (Jvm.Cond.methodLink "KitRunner" (139 : Nat) ({ cls := "KitRunner$FailureList", name := "placeOfA", desc := "(I)I" } : Jvm.MethodName)) ∈ wG := wG_of 472 (by decide +kernel) (by decide +kernel)
theorem wq_473 : (Jvm.Cond.instanceMethod ({ cls := "KitRunner$FailureList", name := "placeOfA", desc := "(I)I" } : Jvm.MethodName)) ∈ wG := wG_of 473 (by decide +kernel) (by decide +kernel)
theorem wq_474 : (Jvm.Cond.selects "KitRunner$FailureList" ({ cls := "KitRunner$FailureList", name := "placeOfA", desc := "(I)I" } : Jvm.MethodName) ({ cls := "KitRunner$FailureList", name := "placeOfA", desc := "(I)I" } : Jvm.MethodName)) ∈ wG := wG_of 474 (by decide +kernel) (by decide +kernel)
theorem wq_475 : (Jvm.Cond.code ({ cls := "KitRunner$FailureList", name := "placeOfA", desc := "(I)I" } : Jvm.MethodName) prog_4_method_6_code (2 : Nat) (Option.some Jvm.ClassFile.FieldType.int)) ∈ wG := wG_of 475 (by decide +kernel) (by decide +kernel)
theorem wq_476 : (Jvm.Cond.methodLink "KitRunner" (142 : Nat) ({ cls := "KitRunner$FailureList", name := "placeOfB", desc := "(I)I" } : Jvm.MethodName)) ∈ wG := wG_of 476 (by decide +kernel) (by decide +kernel)
theorem wq_477 : (Jvm.Cond.instanceMethod ({ cls := "KitRunner$FailureList", name := "placeOfB", desc := "(I)I" } : Jvm.MethodName)) ∈ wG := wG_of 477 (by decide +kernel) (by decide +kernel)
theorem wq_478 : (Jvm.Cond.selects "KitRunner$FailureList" ({ cls := "KitRunner$FailureList", name := "placeOfB", desc := "(I)I" } : Jvm.MethodName) ({ cls := "KitRunner$FailureList", name := "placeOfB", desc := "(I)I" } : Jvm.MethodName)) ∈ wG := wG_of 478 (by decide +kernel) (by decide +kernel)
theorem wq_479 : (Jvm.Cond.code ({ cls := "KitRunner$FailureList", name := "placeOfB", desc := "(I)I" } : Jvm.MethodName) prog_4_method_7_code (2 : Nat) (Option.some Jvm.ClassFile.FieldType.int)) ∈ wG := wG_of 479 (by decide +kernel) (by decide +kernel)
theorem wq_480 : (Jvm.Cond.methodLink "KitRunner" (145 : Nat) ({ cls := "KitRunner$FailureList", name := "foretold", desc := "(I)J" } : Jvm.MethodName)) ∈ wG := wG_of 480 (by decide +kernel) (by decide +kernel)
theorem wq_481 : (Jvm.Cond.instanceMethod ({ cls := "KitRunner$FailureList", name := "foretold", desc := "(I)J" } : Jvm.MethodName)) ∈ wG := wG_of 481 (by decide +kernel) (by decide +kernel)
theorem wq_482 : (Jvm.Cond.selects "KitRunner$FailureList" ({ cls := "KitRunner$FailureList", name := "foretold", desc := "(I)J" } : Jvm.MethodName) ({ cls := "KitRunner$FailureList", name := "foretold", desc := "(I)J" } : Jvm.MethodName)) ∈ wG := wG_of 482 (by decide +kernel) (by decide +kernel)
theorem wq_483 : (Jvm.Cond.code ({ cls := "KitRunner$FailureList", name := "foretold", desc := "(I)J" } : Jvm.MethodName) prog_4_method_8_code (2 : Nat) (Option.some Jvm.ClassFile.FieldType.long)) ∈ wG := wG_of 483 (by decide +kernel) (by decide +kernel)
theorem wq_484 : (Jvm.Cond.methodLink "KitRunner" (149 : Nat) ({ cls := "KitRunner$FailureList", name := "given", desc := "(I)J" } : Jvm.MethodName)) ∈ wG := wG_of 484 (by decide +kernel) (by decide +kernel)
theorem wq_485 : (Jvm.Cond.instanceMethod ({ cls := "KitRunner$FailureList", name := "given", desc := "(I)J" } : Jvm.MethodName)) ∈ wG := wG_of 485 (by decide +kernel) (by decide +kernel)
theorem wq_486 : (Jvm.Cond.selects "KitRunner$FailureList" ({ cls := "KitRunner$FailureList", name := "given", desc := "(I)J" } : Jvm.MethodName) ({ cls := "KitRunner$FailureList", name := "given", desc := "(I)J" } : Jvm.MethodName)) ∈ wG := wG_of 486 (by decide +kernel) (by decide +kernel)
theorem wq_487 : (Jvm.Cond.code ({ cls := "KitRunner$FailureList", name := "given", desc := "(I)J" } : Jvm.MethodName) prog_4_method_9_code (2 : Nat) (Option.some Jvm.ClassFile.FieldType.long)) ∈ wG := wG_of 487 (by decide +kernel) (by decide +kernel)
theorem wq_492 : (Jvm.Cond.methodLink "KitRunner" (152 : Nat) ({ cls := "KitRunner$Shrinker", name := "reduce", desc := "(LKitRunner$Machine;III)V" } : Jvm.MethodName)) ∈ wG := wG_of 492 (by decide +kernel) (by decide +kernel)
theorem wq_493 : (Jvm.Cond.instanceMethod ({ cls := "KitRunner$Shrinker", name := "reduce", desc := "(LKitRunner$Machine;III)V" } : Jvm.MethodName)) ∈ wG := wG_of 493 (by decide +kernel) (by decide +kernel)
theorem wq_494 : (Jvm.Cond.selects "KitRunner$Shrinker" ({ cls := "KitRunner$Shrinker", name := "reduce", desc := "(LKitRunner$Machine;III)V" } : Jvm.MethodName) ({ cls := "KitRunner$Shrinker", name := "reduce", desc := "(LKitRunner$Machine;III)V" } : Jvm.MethodName)) ∈ wG := wG_of 494 (by decide +kernel) (by decide +kernel)
theorem wq_495 : (Jvm.Cond.code ({ cls := "KitRunner$Shrinker", name := "reduce", desc := "(LKitRunner$Machine;III)V" } : Jvm.MethodName) prog_8_method_2_code (5 : Nat) (Option.none : Option Jvm.ClassFile.FieldType)) ∈ wG := wG_of 495 (by decide +kernel) (by decide +kernel)
theorem wq_496 : (Jvm.Cond.methodLink "KitRunner$Shrinker" (21 : Nat) ({ cls := "KitRunner$Machine", name := "failsAt", desc := "(III)Z" } : Jvm.MethodName)) ∈ wG := wG_of 496 (by decide +kernel) (by decide +kernel)
theorem wq_497 : (Jvm.Cond.instanceMethod ({ cls := "KitRunner$Machine", name := "failsAt", desc := "(III)Z" } : Jvm.MethodName)) ∈ wG := wG_of 497 (by decide +kernel) (by decide +kernel)
theorem wq_498 : (Jvm.Cond.selects "KitRunner$Machine" ({ cls := "KitRunner$Machine", name := "failsAt", desc := "(III)Z" } : Jvm.MethodName) ({ cls := "KitRunner$Machine", name := "failsAt", desc := "(III)Z" } : Jvm.MethodName)) ∈ wG := wG_of 498 (by decide +kernel) (by decide +kernel)
theorem wq_499 : (Jvm.Cond.code ({ cls := "KitRunner$Machine", name := "failsAt", desc := "(III)Z" } : Jvm.MethodName) prog_5_method_6_code (6 : Nat) (Option.some Jvm.ClassFile.FieldType.boolean)) ∈ wG := wG_of 499 (by decide +kernel) (by decide +kernel)
theorem wq_501 : (Jvm.Cond.methodLink "KitRunner$Machine" (42 : Nat) ({ cls := "KitRunner$Machine", name := "give", desc := "(III)J" } : Jvm.MethodName)) ∈ wG := wG_of 501 (by decide +kernel) (by decide +kernel)
theorem wq_502 : (Jvm.Cond.methodLink "KitRunner$Shrinker" (27 : Nat) ({ cls := "KitRunner$Shrinker", name := "moveA", desc := "(LKitRunner$Machine;I)Z" } : Jvm.MethodName)) ∈ wG := wG_of 502 (by decide +kernel) (by decide +kernel)
theorem wq_504 : (Jvm.Cond.instanceMethod ({ cls := "KitRunner$Shrinker", name := "moveA", desc := "(LKitRunner$Machine;I)Z" } : Jvm.MethodName)) ∈ wG := wG_of 504 (by decide +kernel) (by decide +kernel)
theorem wq_505 : (Jvm.Cond.code ({ cls := "KitRunner$Shrinker", name := "moveA", desc := "(LKitRunner$Machine;I)Z" } : Jvm.MethodName) prog_8_method_6_code (4 : Nat) (Option.some Jvm.ClassFile.FieldType.boolean)) ∈ wG := wG_of 505 (by decide +kernel) (by decide +kernel)
theorem wq_506 : (Jvm.Cond.methodLink "KitRunner$Shrinker" (31 : Nat) ({ cls := "KitRunner$Shrinker", name := "moveB", desc := "(LKitRunner$Machine;I)Z" } : Jvm.MethodName)) ∈ wG := wG_of 506 (by decide +kernel) (by decide +kernel)
theorem wq_508 : (Jvm.Cond.instanceMethod ({ cls := "KitRunner$Shrinker", name := "moveB", desc := "(LKitRunner$Machine;I)Z" } : Jvm.MethodName)) ∈ wG := wG_of 508 (by decide +kernel) (by decide +kernel)
theorem wq_509 : (Jvm.Cond.code ({ cls := "KitRunner$Shrinker", name := "moveB", desc := "(LKitRunner$Machine;I)Z" } : Jvm.MethodName) prog_8_method_7_code (4 : Nat) (Option.some Jvm.ClassFile.FieldType.boolean)) ∈ wG := wG_of 509 (by decide +kernel) (by decide +kernel)
theorem wq_510 : (Jvm.Cond.methodLink "KitRunner" (156 : Nat) ({ cls := "KitRunner$Shrinker", name := "a", desc := "()I" } : Jvm.MethodName)) ∈ wG := wG_of 510 (by decide +kernel) (by decide +kernel)
theorem wq_511 : (Jvm.Cond.instanceMethod ({ cls := "KitRunner$Shrinker", name := "a", desc := "()I" } : Jvm.MethodName)) ∈ wG := wG_of 511 (by decide +kernel) (by decide +kernel)
theorem wq_512 : (Jvm.Cond.selects "KitRunner$Shrinker" ({ cls := "KitRunner$Shrinker", name := "a", desc := "()I" } : Jvm.MethodName) ({ cls := "KitRunner$Shrinker", name := "a", desc := "()I" } : Jvm.MethodName)) ∈ wG := wG_of 512 (by decide +kernel) (by decide +kernel)
theorem wq_513 : (Jvm.Cond.code ({ cls := "KitRunner$Shrinker", name := "a", desc := "()I" } : Jvm.MethodName) prog_8_method_3_code (1 : Nat) (Option.some Jvm.ClassFile.FieldType.int)) ∈ wG := wG_of 513 (by decide +kernel) (by decide +kernel)
theorem wq_515 : (Jvm.Cond.methodLink "KitRunner" (159 : Nat) ({ cls := "KitRunner$Shrinker", name := "b", desc := "()I" } : Jvm.MethodName)) ∈ wG := wG_of 515 (by decide +kernel) (by decide +kernel)
theorem wq_516 : (Jvm.Cond.instanceMethod ({ cls := "KitRunner$Shrinker", name := "b", desc := "()I" } : Jvm.MethodName)) ∈ wG := wG_of 516 (by decide +kernel) (by decide +kernel)
theorem wq_517 : (Jvm.Cond.selects "KitRunner$Shrinker" ({ cls := "KitRunner$Shrinker", name := "b", desc := "()I" } : Jvm.MethodName) ({ cls := "KitRunner$Shrinker", name := "b", desc := "()I" } : Jvm.MethodName)) ∈ wG := wG_of 517 (by decide +kernel) (by decide +kernel)
theorem wq_518 : (Jvm.Cond.code ({ cls := "KitRunner$Shrinker", name := "b", desc := "()I" } : Jvm.MethodName) prog_8_method_4_code (1 : Nat) (Option.some Jvm.ClassFile.FieldType.int)) ∈ wG := wG_of 518 (by decide +kernel) (by decide +kernel)
theorem wq_519 : (Jvm.Cond.methodLink "KitRunner" (162 : Nat) ({ cls := "KitRunner$Shrinker", name := "steps", desc := "()I" } : Jvm.MethodName)) ∈ wG := wG_of 519 (by decide +kernel) (by decide +kernel)
theorem wq_520 : (Jvm.Cond.instanceMethod ({ cls := "KitRunner$Shrinker", name := "steps", desc := "()I" } : Jvm.MethodName)) ∈ wG := wG_of 520 (by decide +kernel) (by decide +kernel)
theorem wq_521 : (Jvm.Cond.selects "KitRunner$Shrinker" ({ cls := "KitRunner$Shrinker", name := "steps", desc := "()I" } : Jvm.MethodName) ({ cls := "KitRunner$Shrinker", name := "steps", desc := "()I" } : Jvm.MethodName)) ∈ wG := wG_of 521 (by decide +kernel) (by decide +kernel)
theorem wq_522 : (Jvm.Cond.code ({ cls := "KitRunner$Shrinker", name := "steps", desc := "()I" } : Jvm.MethodName) prog_8_method_5_code (1 : Nat) (Option.some Jvm.ClassFile.FieldType.int)) ∈ wG := wG_of 522 (by decide +kernel) (by decide +kernel)
theorem wq_527 : (Jvm.Cond.methodLink "KitRunner" (165 : Nat) ({ cls := "KitRunner$Tally", name := "marks", desc := "(I)I" } : Jvm.MethodName)) ∈ wG := wG_of 527 (by decide +kernel) (by decide +kernel)
theorem wq_528 : (Jvm.Cond.instanceMethod ({ cls := "KitRunner$Tally", name := "marks", desc := "(I)I" } : Jvm.MethodName)) ∈ wG := wG_of 528 (by decide +kernel) (by decide +kernel)
theorem wq_529 : (Jvm.Cond.selects "KitRunner$Tally" ({ cls := "KitRunner$Tally", name := "marks", desc := "(I)I" } : Jvm.MethodName) ({ cls := "KitRunner$Tally", name := "marks", desc := "(I)I" } : Jvm.MethodName)) ∈ wG := wG_of 529 (by decide +kernel) (by decide +kernel)
theorem wq_530 : (Jvm.Cond.code ({ cls := "KitRunner$Tally", name := "marks", desc := "(I)I" } : Jvm.MethodName) prog_9_method_9_code (2 : Nat) (Option.some Jvm.ClassFile.FieldType.int)) ∈ wG := wG_of 530 (by decide +kernel) (by decide +kernel)
theorem wq_535 : (Jvm.Cond.methodLink "KitRunner" (168 : Nat) ({ cls := "KitRunner$Report", name := "at", desc := "(I)I" } : Jvm.MethodName)) ∈ wG := wG_of 535 (by decide +kernel) (by decide +kernel)
theorem wq_536 : (Jvm.Cond.instanceMethod ({ cls := "KitRunner$Report", name := "at", desc := "(I)I" } : Jvm.MethodName)) ∈ wG := wG_of 536 (by decide +kernel) (by decide +kernel)
theorem wq_537 : (Jvm.Cond.selects "KitRunner$Report" ({ cls := "KitRunner$Report", name := "at", desc := "(I)I" } : Jvm.MethodName) ({ cls := "KitRunner$Report", name := "at", desc := "(I)I" } : Jvm.MethodName)) ∈ wG := wG_of 537 (by decide +kernel) (by decide +kernel)
theorem wq_538 : (Jvm.Cond.code ({ cls := "KitRunner$Report", name := "at", desc := "(I)I" } : Jvm.MethodName) prog_7_method_4_code (2 : Nat) (Option.some Jvm.ClassFile.FieldType.int)) ∈ wG := wG_of 538 (by decide +kernel) (by decide +kernel)
theorem wq_543 : (Jvm.Cond.methodLink "KitRunner" (171 : Nat) ({ cls := "KitRunner$Tally", name := "takenInAll", desc := "()I" } : Jvm.MethodName)) ∈ wG := wG_of 543 (by decide +kernel) (by decide +kernel)
theorem wq_544 : (Jvm.Cond.instanceMethod ({ cls := "KitRunner$Tally", name := "takenInAll", desc := "()I" } : Jvm.MethodName)) ∈ wG := wG_of 544 (by decide +kernel) (by decide +kernel)
theorem wq_545 : (Jvm.Cond.selects "KitRunner$Tally" ({ cls := "KitRunner$Tally", name := "takenInAll", desc := "()I" } : Jvm.MethodName) ({ cls := "KitRunner$Tally", name := "takenInAll", desc := "()I" } : Jvm.MethodName)) ∈ wG := wG_of 545 (by decide +kernel) (by decide +kernel)
theorem wq_546 : (Jvm.Cond.code ({ cls := "KitRunner$Tally", name := "takenInAll", desc := "()I" } : Jvm.MethodName) prog_9_method_10_code (1 : Nat) (Option.some Jvm.ClassFile.FieldType.int)) ∈ wG := wG_of 546 (by decide +kernel) (by decide +kernel)
theorem wq_547 : (Jvm.Cond.methodLink "KitRunner" (174 : Nat) ({ cls := "KitRunner$Tally", name := "leftOut", desc := "()I" } : Jvm.MethodName)) ∈ wG := wG_of 547 (by decide +kernel) (by decide +kernel)
theorem wq_548 : (Jvm.Cond.instanceMethod ({ cls := "KitRunner$Tally", name := "leftOut", desc := "()I" } : Jvm.MethodName)) ∈ wG := wG_of 548 (by decide +kernel) (by decide +kernel)
theorem wq_549 : (Jvm.Cond.selects "KitRunner$Tally" ({ cls := "KitRunner$Tally", name := "leftOut", desc := "()I" } : Jvm.MethodName) ({ cls := "KitRunner$Tally", name := "leftOut", desc := "()I" } : Jvm.MethodName)) ∈ wG := wG_of 549 (by decide +kernel) (by decide +kernel)
theorem wq_550 : (Jvm.Cond.code ({ cls := "KitRunner$Tally", name := "leftOut", desc := "()I" } : Jvm.MethodName) prog_9_method_6_code (1 : Nat) (Option.some Jvm.ClassFile.FieldType.int)) ∈ wG := wG_of 550 (by decide +kernel) (by decide +kernel)
theorem wq_551 : (Jvm.Cond.methodLink "KitRunner" (177 : Nat) ({ cls := "KitRunner$PairBook", name := "held", desc := "()I" } : Jvm.MethodName)) ∈ wG := wG_of 551 (by decide +kernel) (by decide +kernel)
theorem wq_552 : (Jvm.Cond.instanceMethod ({ cls := "KitRunner$PairBook", name := "held", desc := "()I" } : Jvm.MethodName)) ∈ wG := wG_of 552 (by decide +kernel) (by decide +kernel)
theorem wq_553 : (Jvm.Cond.selects "KitRunner$PairBook" ({ cls := "KitRunner$PairBook", name := "held", desc := "()I" } : Jvm.MethodName) ({ cls := "KitRunner$PairBook", name := "held", desc := "()I" } : Jvm.MethodName)) ∈ wG := wG_of 553 (by decide +kernel) (by decide +kernel)
theorem wq_554 : (Jvm.Cond.code ({ cls := "KitRunner$PairBook", name := "held", desc := "()I" } : Jvm.MethodName) prog_6_method_3_code (1 : Nat) (Option.some Jvm.ClassFile.FieldType.int)) ∈ wG := wG_of 554 (by decide +kernel) (by decide +kernel)
theorem wq_555 : (Jvm.Cond.methodLink "KitRunner" (178 : Nat) ({ cls := "KitRunner$Tally", name := "marksInAll", desc := "()I" } : Jvm.MethodName)) ∈ wG := wG_of 555 (by decide +kernel) (by decide +kernel)
theorem wq_556 : (Jvm.Cond.instanceMethod ({ cls := "KitRunner$Tally", name := "marksInAll", desc := "()I" } : Jvm.MethodName)) ∈ wG := wG_of 556 (by decide +kernel) (by decide +kernel)
theorem wq_557 : (Jvm.Cond.selects "KitRunner$Tally" ({ cls := "KitRunner$Tally", name := "marksInAll", desc := "()I" } : Jvm.MethodName) ({ cls := "KitRunner$Tally", name := "marksInAll", desc := "()I" } : Jvm.MethodName)) ∈ wG := wG_of 557 (by decide +kernel) (by decide +kernel)
theorem wq_558 : (Jvm.Cond.code ({ cls := "KitRunner$Tally", name := "marksInAll", desc := "()I" } : Jvm.MethodName) prog_9_method_12_code (3 : Nat) (Option.some Jvm.ClassFile.FieldType.int)) ∈ wG := wG_of 558 (by decide +kernel) (by decide +kernel)
theorem wq_559 : (Jvm.Cond.methodLink "KitRunner$Tally" (39 : Nat) ({ cls := "java/lang/Integer", name := "bitCount", desc := "(I)I" } : Jvm.MethodName)) ∈ wG := wG_of 559 (by decide +kernel) (by decide +kernel)
theorem wq_560 : (Jvm.Cond.static ({ cls := "java/lang/Integer", name := "bitCount", desc := "(I)I" } : Jvm.MethodName)) ∈ wG := wG_of 560 (by decide +kernel) (by decide +kernel)
theorem wq_561 : (Jvm.Cond.code ({ cls := "java/lang/Integer", name := "bitCount", desc := "(I)I" } : Jvm.MethodName) prog_13_method_49_code (1 : Nat) (Option.some Jvm.ClassFile.FieldType.int)) ∈ wG := wG_of 561 (by decide +kernel) (by decide +kernel)
theorem wq_562 : (Jvm.Cond.constant "java/lang/Integer" (265 : Nat) (1431655765 : Int32)) ∈ wG := wG_of 562 (by decide +kernel) (by decide +kernel)
theorem wq_563 : (Jvm.Cond.constant "java/lang/Integer" (266 : Nat) (858993459 : Int32)) ∈ wG := wG_of 563 (by decide +kernel) (by decide +kernel)
theorem wq_564 : (Jvm.Cond.constant "java/lang/Integer" (267 : Nat) (252645135 : Int32)) ∈ wG := wG_of 564 (by decide +kernel) (by decide +kernel)
theorem wq_565 : (Jvm.Cond.methodLink "KitRunner" (181 : Nat) ({ cls := "KitRunner$Report", name := "length", desc := "()I" } : Jvm.MethodName)) ∈ wG := wG_of 565 (by decide +kernel) (by decide +kernel)
theorem wq_566 : (Jvm.Cond.instanceMethod ({ cls := "KitRunner$Report", name := "length", desc := "()I" } : Jvm.MethodName)) ∈ wG := wG_of 566 (by decide +kernel) (by decide +kernel)
theorem wq_567 : (Jvm.Cond.selects "KitRunner$Report" ({ cls := "KitRunner$Report", name := "length", desc := "()I" } : Jvm.MethodName) ({ cls := "KitRunner$Report", name := "length", desc := "()I" } : Jvm.MethodName)) ∈ wG := wG_of 567 (by decide +kernel) (by decide +kernel)
theorem wq_568 : (Jvm.Cond.code ({ cls := "KitRunner$Report", name := "length", desc := "()I" } : Jvm.MethodName) prog_7_method_3_code (1 : Nat) (Option.some Jvm.ClassFile.FieldType.int)) ∈ wG := wG_of 568 (by decide +kernel) (by decide +kernel)
theorem wq_788 : (Jvm.Cond.fieldLink "java/lang/String" (9 : Nat) "java/lang/String" "value" "[B") ∈ wG := wG_of 788 (by decide +kernel) (by decide +kernel)
theorem wq_789 : (Jvm.Cond.fieldLink "java/lang/String" (15 : Nat) "java/lang/String" "coder" "B") ∈ wG := wG_of 789 (by decide +kernel) (by decide +kernel)
theorem sq_0 : Cond.selects "KitRunner" (⟨"KitRunner", "forgetLatestRun", "()V"⟩ : MethodName) (⟨"KitRunner", "forgetLatestRun", "()V"⟩ : MethodName) ∈ wG := wG_sel 0 (by decide +kernel) (by decide +kernel)
theorem sq_1 : Cond.selects "KitRunner" (⟨"KitRunner", "runEntry", "(IIZ)V"⟩ : MethodName) (⟨"KitRunner", "runEntry", "(IIZ)V"⟩ : MethodName) ∈ wG := wG_sel 1 (by decide +kernel) (by decide +kernel)
theorem sq_2 : Cond.selects "KitRunner$PairBook" (⟨"KitRunner$PairBook", "mark", "([III)V"⟩ : MethodName) (⟨"KitRunner$PairBook", "mark", "([III)V"⟩ : MethodName) ∈ wG := wG_sel 2 (by decide +kernel) (by decide +kernel)
theorem sq_3 : Cond.selects "KitRunner" (⟨"KitRunner", "runCase", "(III)V"⟩ : MethodName) (⟨"KitRunner", "runCase", "(III)V"⟩ : MethodName) ∈ wG := wG_sel 3 (by decide +kernel) (by decide +kernel)
theorem sq_4 : Cond.selects "KitRunner" (⟨"KitRunner", "writeReport", "()V"⟩ : MethodName) (⟨"KitRunner", "writeReport", "()V"⟩ : MethodName) ∈ wG := wG_sel 4 (by decide +kernel) (by decide +kernel)
theorem sq_5 : Cond.selects "KitRunner$Shrinker" (⟨"KitRunner$Shrinker", "moveA", "(LKitRunner$Machine;I)Z"⟩ : MethodName) (⟨"KitRunner$Shrinker", "moveA", "(LKitRunner$Machine;I)Z"⟩ : MethodName) ∈ wG := wG_sel 5 (by decide +kernel) (by decide +kernel)
theorem sq_6 : Cond.selects "KitRunner$Shrinker" (⟨"KitRunner$Shrinker", "moveB", "(LKitRunner$Machine;I)Z"⟩ : MethodName) (⟨"KitRunner$Shrinker", "moveB", "(LKitRunner$Machine;I)Z"⟩ : MethodName) ∈ wG := wG_sel 6 (by decide +kernel) (by decide +kernel)
theorem sq_7 : Cond.selects "KitRunnerModel" (⟨"KitRunnerModel", "given", "(III)J"⟩ : MethodName) (⟨"KitRunnerModel", "given", "(III)J"⟩ : MethodName) ∈ wG := wG_sel 7 (by decide +kernel) (by decide +kernel)
theorem sq_8 : Cond.selects "KitRunnerModel" (⟨"KitRunnerModel", "excluded", "(III)Z"⟩ : MethodName) (⟨"KitRunnerModel", "excluded", "(III)Z"⟩ : MethodName) ∈ wG := wG_sel 8 (by decide +kernel) (by decide +kernel)
theorem sq_9 : Cond.selects "KitRunnerModel" (⟨"KitRunnerModel", "take", "(III)V"⟩ : MethodName) (⟨"KitRunnerModel", "take", "(III)V"⟩ : MethodName) ∈ wG := wG_sel 9 (by decide +kernel) (by decide +kernel)
theorem sq_10 : Cond.selects "KitRunnerModel" (⟨"KitRunnerModel", "fails", "(III)Z"⟩ : MethodName) (⟨"KitRunnerModel", "fails", "(III)Z"⟩ : MethodName) ∈ wG := wG_sel 10 (by decide +kernel) (by decide +kernel)
theorem sq_11 : Cond.selects "KitRunnerModel" (⟨"KitRunnerModel", "step", "(I)Z"⟩ : MethodName) (⟨"KitRunnerModel", "step", "(I)Z"⟩ : MethodName) ∈ wG := wG_sel 11 (by decide +kernel) (by decide +kernel)
theorem sq_12 : Cond.selects "KitRunnerModel" (⟨"KitRunnerModel", "write", "()I"⟩ : MethodName) (⟨"KitRunnerModel", "write", "()I"⟩ : MethodName) ∈ wG := wG_sel 12 (by decide +kernel) (by decide +kernel)
theorem sq_13 : Cond.selects "KitRunnerModel" (⟨"KitRunnerModel", "put", "(IJ)I"⟩ : MethodName) (⟨"KitRunnerModel", "put", "(IJ)I"⟩ : MethodName) ∈ wG := wG_sel 13 (by decide +kernel) (by decide +kernel)
theorem sq_14 : Cond.selects "KitRunnerModel" (⟨"KitRunnerModel", "putNumber", "(II)I"⟩ : MethodName) (⟨"KitRunnerModel", "putNumber", "(II)I"⟩ : MethodName) ∈ wG := wG_sel 14 (by decide +kernel) (by decide +kernel)
def T_KitRunner : u_T := fun k => match k with
  | 0 => ("KitRunner", "machine", "LKitRunner$Machine;", true)
  | 1 => ("KitRunner", "exclusions", "LKitRunner$Exclusions;", true)
  | 2 => ("KitRunner", "pairBook", "LKitRunner$PairBook;", true)
  | 3 => ("KitRunner", "tally", "LKitRunner$Tally;", true)
  | 4 => ("KitRunner", "failures", "LKitRunner$FailureList;", true)
  | 5 => ("KitRunner", "report", "LKitRunner$Report;", true)
  | 6 => ("KitRunner", "shrinker", "LKitRunner$Shrinker;", true)
  | 7 => ("KitRunner", "enabled", "I", false)
  | _ => ("KitRunner", "runs", "I", false)
def ty_KitRunner : Nat → FieldType := fun k => match k with
  | 0 => .object "KitRunner$Machine"
  | 1 => .object "KitRunner$Exclusions"
  | 2 => .object "KitRunner$PairBook"
  | 3 => .object "KitRunner$Tally"
  | 4 => .object "KitRunner$FailureList"
  | 5 => .object "KitRunner$Report"
  | 6 => .object "KitRunner$Shrinker"
  | 7 => .int
  | _ => .int
theorem nm_KitRunner : ∀ a, a < 9 → ∀ b, b < 9 → a ≠ b → (T_KitRunner a).2.1 ≠ (T_KitRunner b).2.1 := by decide +kernel
theorem ty_KitRunner_ok : ∀ k, k < 9 → parseFieldDescriptor (T_KitRunner k).2.2.1 = some (ty_KitRunner k) := by decide +kernel
theorem in_KitRunner : ∀ w ∈ u_ws "KitRunner" T_KitRunner 9, w ∈ wG := by decide +kernel
def T_K_Machine : u_T := fun k => match k with
  | 0 => ("KitRunner$Machine", "entries", "[I", true)
  | 1 => ("KitRunner$Machine", "sorts", "[I", true)
  | 2 => ("KitRunner$Machine", "numbers", "[I", true)
  | _ => ("KitRunner$Machine", "held", "I", false)
def ty_K_Machine : Nat → FieldType := fun k => match k with
  | 0 => .array .int
  | 1 => .array .int
  | 2 => .array .int
  | _ => .int
theorem nm_K_Machine : ∀ a, a < 4 → ∀ b, b < 4 → a ≠ b → (T_K_Machine a).2.1 ≠ (T_K_Machine b).2.1 := by decide +kernel
theorem ty_K_Machine_ok : ∀ k, k < 4 → parseFieldDescriptor (T_K_Machine k).2.2.1 = some (ty_K_Machine k) := by decide +kernel
theorem in_K_Machine : ∀ w ∈ u_ws "KitRunner$Machine" T_K_Machine 4, w ∈ wG := by decide +kernel
def T_K_Exclusions : u_T := fun k => match k with
  | 0 => ("KitRunner$Exclusions", "entries", "[I", true)
  | 1 => ("KitRunner$Exclusions", "numbers", "[I", true)
  | _ => ("KitRunner$Exclusions", "held", "I", false)
def ty_K_Exclusions : Nat → FieldType := fun k => match k with
  | 0 => .array .int
  | 1 => .array .int
  | _ => .int
theorem nm_K_Exclusions : ∀ a, a < 3 → ∀ b, b < 3 → a ≠ b → (T_K_Exclusions a).2.1 ≠ (T_K_Exclusions b).2.1 := by decide +kernel
theorem ty_K_Exclusions_ok : ∀ k, k < 3 → parseFieldDescriptor (T_K_Exclusions k).2.2.1 = some (ty_K_Exclusions k) := by decide +kernel
theorem in_K_Exclusions : ∀ w ∈ u_ws "KitRunner$Exclusions" T_K_Exclusions 3, w ∈ wG := by decide +kernel
def T_K_PairBook : u_T := fun k => match k with
  | 0 => ("KitRunner$PairBook", "entryWithA", "[I", true)
  | 1 => ("KitRunner$PairBook", "entryWithB", "[I", true)
  | 2 => ("KitRunner$PairBook", "aWithB", "[I", true)
  | _ => ("KitRunner$PairBook", "held", "I", false)
def ty_K_PairBook : Nat → FieldType := fun k => match k with
  | 0 => .array .int
  | 1 => .array .int
  | 2 => .array .int
  | _ => .int
theorem nm_K_PairBook : ∀ a, a < 4 → ∀ b, b < 4 → a ≠ b → (T_K_PairBook a).2.1 ≠ (T_K_PairBook b).2.1 := by decide +kernel
theorem ty_K_PairBook_ok : ∀ k, k < 4 → parseFieldDescriptor (T_K_PairBook k).2.2.1 = some (ty_K_PairBook k) := by decide +kernel
theorem in_K_PairBook : ∀ w ∈ u_ws "KitRunner$PairBook" T_K_PairBook 4, w ∈ wG := by decide +kernel
def T_K_Tally : u_T := fun k => match k with
  | 0 => ("KitRunner$Tally", "taken", "[I", true)
  | 1 => ("KitRunner$Tally", "failed", "[I", true)
  | 2 => ("KitRunner$Tally", "marks", "[I", true)
  | _ => ("KitRunner$Tally", "leftOut", "I", false)
def ty_K_Tally : Nat → FieldType := fun k => match k with
  | 0 => .array .int
  | 1 => .array .int
  | 2 => .array .int
  | _ => .int
theorem nm_K_Tally : ∀ a, a < 4 → ∀ b, b < 4 → a ≠ b → (T_K_Tally a).2.1 ≠ (T_K_Tally b).2.1 := by decide +kernel
theorem ty_K_Tally_ok : ∀ k, k < 4 → parseFieldDescriptor (T_K_Tally k).2.2.1 = some (ty_K_Tally k) := by decide +kernel
theorem in_K_Tally : ∀ w ∈ u_ws "KitRunner$Tally" T_K_Tally 4, w ∈ wG := by decide +kernel
def T_K_FailureList : u_T := fun k => match k with
  | 0 => ("KitRunner$FailureList", "entries", "[I", true)
  | 1 => ("KitRunner$FailureList", "placesOfA", "[I", true)
  | 2 => ("KitRunner$FailureList", "placesOfB", "[I", true)
  | 3 => ("KitRunner$FailureList", "foretold", "[J", true)
  | 4 => ("KitRunner$FailureList", "given", "[J", true)
  | _ => ("KitRunner$FailureList", "held", "I", false)
def ty_K_FailureList : Nat → FieldType := fun k => match k with
  | 0 => .array .int
  | 1 => .array .int
  | 2 => .array .int
  | 3 => .array .long
  | 4 => .array .long
  | _ => .int
theorem nm_K_FailureList : ∀ a, a < 6 → ∀ b, b < 6 → a ≠ b → (T_K_FailureList a).2.1 ≠ (T_K_FailureList b).2.1 := by decide +kernel
theorem ty_K_FailureList_ok : ∀ k, k < 6 → parseFieldDescriptor (T_K_FailureList k).2.2.1 = some (ty_K_FailureList k) := by decide +kernel
theorem in_K_FailureList : ∀ w ∈ u_ws "KitRunner$FailureList" T_K_FailureList 6, w ∈ wG := by decide +kernel
def T_K_Report : u_T := fun k => match k with
  | 0 => ("KitRunner$Report", "text", "[C", true)
  | _ => ("KitRunner$Report", "length", "I", false)
def ty_K_Report : Nat → FieldType := fun k => match k with
  | 0 => .array .char
  | _ => .int
theorem nm_K_Report : ∀ a, a < 2 → ∀ b, b < 2 → a ≠ b → (T_K_Report a).2.1 ≠ (T_K_Report b).2.1 := by decide +kernel
theorem ty_K_Report_ok : ∀ k, k < 2 → parseFieldDescriptor (T_K_Report k).2.2.1 = some (ty_K_Report k) := by decide +kernel
theorem in_K_Report : ∀ w ∈ u_ws "KitRunner$Report" T_K_Report 2, w ∈ wG := by decide +kernel
def T_K_Shrinker : u_T := fun k => match k with
  | 0 => ("KitRunner$Shrinker", "placeA", "I", false)
  | 1 => ("KitRunner$Shrinker", "placeB", "I", false)
  | _ => ("KitRunner$Shrinker", "steps", "I", false)
def ty_K_Shrinker : Nat → FieldType := fun k => match k with
  | 0 => .int
  | 1 => .int
  | _ => .int
theorem nm_K_Shrinker : ∀ a, a < 3 → ∀ b, b < 3 → a ≠ b → (T_K_Shrinker a).2.1 ≠ (T_K_Shrinker b).2.1 := by decide +kernel
theorem ty_K_Shrinker_ok : ∀ k, k < 3 → parseFieldDescriptor (T_K_Shrinker k).2.2.1 = some (ty_K_Shrinker k) := by decide +kernel
theorem in_K_Shrinker : ∀ w ∈ u_ws "KitRunner$Shrinker" T_K_Shrinker 3, w ∈ wG := by decide +kernel
def T_RM : u_T := fun k => match k with
  | 0 => ("KitRunnerModel", "faultEntry", "[I", true)
  | 1 => ("KitRunnerModel", "faultSort", "[I", true)
  | 2 => ("KitRunnerModel", "faultNumber", "[I", true)
  | 3 => ("KitRunnerModel", "outEntry", "[I", true)
  | 4 => ("KitRunnerModel", "outNumber", "[I", true)
  | 5 => ("KitRunnerModel", "faults", "I", false)
  | 6 => ("KitRunnerModel", "outs", "I", false)
  | 7 => ("KitRunnerModel", "enabled", "I", false)
  | 8 => ("KitRunnerModel", "runs", "I", false)
  | 9 => ("KitRunnerModel", "takenBy", "[I", true)
  | 10 => ("KitRunnerModel", "failedBy", "[I", true)
  | 11 => ("KitRunnerModel", "ledger", "[I", true)
  | 12 => ("KitRunnerModel", "withA", "[Z", true)
  | 13 => ("KitRunnerModel", "withB", "[Z", true)
  | 14 => ("KitRunnerModel", "both", "[Z", true)
  | 15 => ("KitRunnerModel", "taken", "I", false)
  | 16 => ("KitRunnerModel", "failed", "I", false)
  | 17 => ("KitRunnerModel", "left", "I", false)
  | 18 => ("KitRunnerModel", "pairsSeen", "I", false)
  | 19 => ("KitRunnerModel", "case3", "[I", true)
  | 20 => ("KitRunnerModel", "told", "[J", true)
  | 21 => ("KitRunnerModel", "report", "[I", true)
  | 22 => ("KitRunnerModel", "shrunkA", "I", false)
  | 23 => ("KitRunnerModel", "shrunkB", "I", false)
  | _ => ("KitRunnerModel", "steps", "I", false)
def ty_RM : Nat → FieldType := fun k => match k with
  | 0 => .array .int
  | 1 => .array .int
  | 2 => .array .int
  | 3 => .array .int
  | 4 => .array .int
  | 5 => .int
  | 6 => .int
  | 7 => .int
  | 8 => .int
  | 9 => .array .int
  | 10 => .array .int
  | 11 => .array .int
  | 12 => .array .boolean
  | 13 => .array .boolean
  | 14 => .array .boolean
  | 15 => .int
  | 16 => .int
  | 17 => .int
  | 18 => .int
  | 19 => .array .int
  | 20 => .array .long
  | 21 => .array .int
  | 22 => .int
  | 23 => .int
  | _ => .int
theorem nm_RM : ∀ a, a < 25 → ∀ b, b < 25 → a ≠ b → (T_RM a).2.1 ≠ (T_RM b).2.1 := by decide +kernel
theorem ty_RM_ok : ∀ k, k < 25 → parseFieldDescriptor (T_RM k).2.2.1 = some (ty_RM k) := by decide +kernel
theorem in_RM : ∀ w ∈ u_ws "KitRunnerModel" T_RM 25, w ∈ wG := by decide +kernel
abbrev vwCl : List vw_C := [("KitRunner", T_KitRunner, 9), ("KitRunner$Machine", T_K_Machine, 4), ("KitRunner$Exclusions", T_K_Exclusions, 3), ("KitRunner$PairBook", T_K_PairBook, 4), ("KitRunner$Tally", T_K_Tally, 4), ("KitRunner$FailureList", T_K_FailureList, 6), ("KitRunner$Report", T_K_Report, 2), ("KitRunner$Shrinker", T_K_Shrinker, 3), ("KitRunnerModel", T_RM, 25)]
abbrev y_Integer_compare : MethodName := ⟨"java/lang/Integer", "compare", "(II)I"⟩
abbrev ws_Integer_compare : List Cond := Cond.code y_Integer_compare prog_13_method_40_code 2 (some .int) :: wG
abbrev y_Integer_bitCount : MethodName := ⟨"java/lang/Integer", "bitCount", "(I)I"⟩
abbrev ws_Integer_bitCount : List Cond := Cond.code y_Integer_bitCount prog_13_method_49_code 1 (some .int) :: wG
abbrev y_Arrays_fill : MethodName := ⟨"java/util/Arrays", "fill", "([II)V"⟩
abbrev ws_Arrays_fill : List Cond := Cond.code y_Arrays_fill prog_17_method_103_code 4 none :: wG
abbrev y_String_coder : MethodName := ⟨"java/lang/String", "coder", "()B"⟩
abbrev ws_String_coder : List Cond := Cond.code y_String_coder prog_14_method_152_code 1 (some .byte) :: wG
abbrev y_String_isLatin1 : MethodName := ⟨"java/lang/String", "isLatin1", "()Z"⟩
abbrev ws_String_isLatin1 : List Cond := Cond.code y_String_isLatin1 prog_14_method_154_code 1 (some .boolean) :: wG
abbrev y_String_length : MethodName := ⟨"java/lang/String", "length", "()I"⟩
abbrev ws_String_length : List Cond := Cond.code y_String_length prog_14_method_54_code 1 (some .int) :: wG
abbrev y_Preconditions_checkIndex : MethodName := ⟨"jdk/internal/util/Preconditions", "checkIndex", "(IILjava/util/function/BiFunction;)I"⟩
abbrev ws_Preconditions_checkIndex : List Cond := Cond.code y_Preconditions_checkIndex prog_18_method_11_code 3 (some .int) :: wG
abbrev y_String_checkIndex : MethodName := ⟨"java/lang/String", "checkIndex", "(II)V"⟩
abbrev ws_String_checkIndex : List Cond := Cond.code y_String_checkIndex prog_14_method_155_code 2 none :: wG
abbrev y_StringLatin1_charAt : MethodName := ⟨"java/lang/StringLatin1", "charAt", "([BI)C"⟩
abbrev ws_StringLatin1_charAt : List Cond := Cond.code y_StringLatin1_charAt prog_15_method_2_code 2 (some .char) :: wG
abbrev y_String_charAt : MethodName := ⟨"java/lang/String", "charAt", "(I)C"⟩
abbrev ws_String_charAt : List Cond := Cond.code y_String_charAt prog_14_method_56_code 2 (some .char) :: wG
abbrev y_KitRunner_isEntry : MethodName := ⟨"KitRunner", "isEntry", "(I)Z"⟩
abbrev ws_KitRunner_isEntry : List Cond := Cond.code y_KitRunner_isEntry prog_1_method_14_code 1 (some .boolean) :: wG
abbrev y_KitRunner_isTrouble : MethodName := ⟨"KitRunner", "isTrouble", "(J)Z"⟩
abbrev ws_KitRunner_isTrouble : List Cond := Cond.code y_KitRunner_isTrouble prog_1_method_15_code 2 (some .boolean) :: wG
abbrev y_KitRunner_latticeSize : MethodName := ⟨"KitRunner", "latticeSize", "(I)I"⟩
abbrev ws_KitRunner_latticeSize : List Cond := Cond.code y_KitRunner_latticeSize prog_1_method_16_code 1 (some .int) :: wG
abbrev y_K_EntryPoints_sizeOf : MethodName := ⟨"KitRunner$EntryPoints", "sizeOf", "(I)J"⟩
abbrev ws_K_EntryPoints_sizeOf : List Cond := Cond.code y_K_EntryPoints_sizeOf prog_2_method_4_code 1 (some .long) :: wG
abbrev y_K_Machine_changed : MethodName := ⟨"KitRunner$Machine", "changed", "(IIJ)J"⟩
abbrev ws_K_Machine_changed : List Cond := Cond.code y_K_Machine_changed prog_5_method_8_code 4 (some .long) :: wG
abbrev y_K_Machine_applies : MethodName := ⟨"KitRunner$Machine", "applies", "(IIIIJ)Z"⟩
abbrev ws_K_Machine_applies : List Cond := Cond.code y_K_Machine_applies prog_5_method_7_code 7 (some .boolean) :: wG
abbrev y_K_Tally_markOf : MethodName := ⟨"KitRunner$Tally", "markOf", "(J)I"⟩
abbrev ws_K_Tally_markOf : List Cond := Cond.code y_K_Tally_markOf prog_9_method_14_code 2 (some .int) :: wG
abbrev y_K_Machine_addFault : MethodName := ⟨"KitRunner$Machine", "addFault", "(III)Z"⟩
abbrev ws_K_Machine_addFault : List Cond := Cond.code y_K_Machine_addFault prog_5_method_2_code 4 (some .boolean) :: wG
abbrev y_K_Machine_removeFaults : MethodName := ⟨"KitRunner$Machine", "removeFaults", "()V"⟩
abbrev ws_K_Machine_removeFaults : List Cond := Cond.code y_K_Machine_removeFaults prog_5_method_3_code 1 none :: wG
abbrev y_K_Machine_faultsHeld : MethodName := ⟨"KitRunner$Machine", "faultsHeld", "()I"⟩
abbrev ws_K_Machine_faultsHeld : List Cond := Cond.code y_K_Machine_faultsHeld prog_5_method_4_code 1 (some .int) :: wG
abbrev y_K_Exclusions_add : MethodName := ⟨"KitRunner$Exclusions", "add", "(II)Z"⟩
abbrev ws_K_Exclusions_add : List Cond := Cond.code y_K_Exclusions_add prog_3_method_2_code 3 (some .boolean) :: wG
abbrev y_K_Exclusions_removeAll : MethodName := ⟨"KitRunner$Exclusions", "removeAll", "()V"⟩
abbrev ws_K_Exclusions_removeAll : List Cond := Cond.code y_K_Exclusions_removeAll prog_3_method_3_code 1 none :: wG
abbrev y_K_Exclusions_held : MethodName := ⟨"KitRunner$Exclusions", "held", "()I"⟩
abbrev ws_K_Exclusions_held : List Cond := Cond.code y_K_Exclusions_held prog_3_method_4_code 1 (some .int) :: wG
abbrev y_K_Exclusions_leaveOut : MethodName := ⟨"KitRunner$Exclusions", "leaveOut", "(III)Z"⟩
abbrev ws_K_Exclusions_leaveOut : List Cond := Cond.code y_K_Exclusions_leaveOut prog_3_method_5_code 5 (some .boolean) :: wG
abbrev y_K_Tally_taken : MethodName := ⟨"KitRunner$Tally", "taken", "(I)I"⟩
abbrev ws_K_Tally_taken : List Cond := Cond.code y_K_Tally_taken prog_9_method_7_code 2 (some .int) :: wG
abbrev y_K_Tally_failed : MethodName := ⟨"KitRunner$Tally", "failed", "(I)I"⟩
abbrev ws_K_Tally_failed : List Cond := Cond.code y_K_Tally_failed prog_9_method_8_code 2 (some .int) :: wG
abbrev y_K_Tally_marks : MethodName := ⟨"KitRunner$Tally", "marks", "(I)I"⟩
abbrev ws_K_Tally_marks : List Cond := Cond.code y_K_Tally_marks prog_9_method_9_code 2 (some .int) :: wG
abbrev y_K_Tally_leftOut : MethodName := ⟨"KitRunner$Tally", "leftOut", "()I"⟩
abbrev ws_K_Tally_leftOut : List Cond := Cond.code y_K_Tally_leftOut prog_9_method_6_code 1 (some .int) :: wG
abbrev y_K_Tally_noteLeftOut : MethodName := ⟨"KitRunner$Tally", "noteLeftOut", "()V"⟩
abbrev ws_K_Tally_noteLeftOut : List Cond := Cond.code y_K_Tally_noteLeftOut prog_9_method_3_code 1 none :: wG
abbrev y_K_Tally_noteFailed : MethodName := ⟨"KitRunner$Tally", "noteFailed", "(I)V"⟩
abbrev ws_K_Tally_noteFailed : List Cond := Cond.code y_K_Tally_noteFailed prog_9_method_5_code 2 none :: wG
abbrev y_K_Tally_noteTaken : MethodName := ⟨"KitRunner$Tally", "noteTaken", "(IJ)V"⟩
abbrev ws_K_Tally_noteTaken : List Cond := Cond.code y_K_Tally_noteTaken prog_9_method_4_code 4 none :: wG
abbrev y_K_FailureList_forget : MethodName := ⟨"KitRunner$FailureList", "forget", "()V"⟩
abbrev ws_K_FailureList_forget : List Cond := Cond.code y_K_FailureList_forget prog_4_method_2_code 1 none :: wG
abbrev y_K_FailureList_held : MethodName := ⟨"KitRunner$FailureList", "held", "()I"⟩
abbrev ws_K_FailureList_held : List Cond := Cond.code y_K_FailureList_held prog_4_method_3_code 1 (some .int) :: wG
abbrev y_K_FailureList_entry : MethodName := ⟨"KitRunner$FailureList", "entry", "(I)I"⟩
abbrev ws_K_FailureList_entry : List Cond := Cond.code y_K_FailureList_entry prog_4_method_5_code 2 (some .int) :: wG
abbrev y_K_FailureList_placeOfA : MethodName := ⟨"KitRunner$FailureList", "placeOfA", "(I)I"⟩
abbrev ws_K_FailureList_placeOfA : List Cond := Cond.code y_K_FailureList_placeOfA prog_4_method_6_code 2 (some .int) :: wG
abbrev y_K_FailureList_placeOfB : MethodName := ⟨"KitRunner$FailureList", "placeOfB", "(I)I"⟩
abbrev ws_K_FailureList_placeOfB : List Cond := Cond.code y_K_FailureList_placeOfB prog_4_method_7_code 2 (some .int) :: wG
abbrev y_K_FailureList_foretold : MethodName := ⟨"KitRunner$FailureList", "foretold", "(I)J"⟩
abbrev ws_K_FailureList_foretold : List Cond := Cond.code y_K_FailureList_foretold prog_4_method_8_code 2 (some .long) :: wG
abbrev y_K_FailureList_given : MethodName := ⟨"KitRunner$FailureList", "given", "(I)J"⟩
abbrev ws_K_FailureList_given : List Cond := Cond.code y_K_FailureList_given prog_4_method_9_code 2 (some .long) :: wG
abbrev y_K_FailureList_keep : MethodName := ⟨"KitRunner$FailureList", "keep", "(IIIJJ)V"⟩
abbrev ws_K_FailureList_keep : List Cond := Cond.code y_K_FailureList_keep prog_4_method_4_code 8 none :: wG
abbrev y_K_Report_forget : MethodName := ⟨"KitRunner$Report", "forget", "()V"⟩
abbrev ws_K_Report_forget : List Cond := Cond.code y_K_Report_forget prog_7_method_2_code 1 none :: wG
abbrev y_K_Report_length : MethodName := ⟨"KitRunner$Report", "length", "()I"⟩
abbrev ws_K_Report_length : List Cond := Cond.code y_K_Report_length prog_7_method_3_code 1 (some .int) :: wG
abbrev y_K_Report_put : MethodName := ⟨"KitRunner$Report", "put", "(C)V"⟩
abbrev ws_K_Report_put : List Cond := Cond.code y_K_Report_put prog_7_method_5_code 2 none :: wG
abbrev y_K_Shrinker_steps : MethodName := ⟨"KitRunner$Shrinker", "steps", "()I"⟩
abbrev ws_K_Shrinker_steps : List Cond := Cond.code y_K_Shrinker_steps prog_8_method_5_code 1 (some .int) :: wG
abbrev y_K_Shrinker_a : MethodName := ⟨"KitRunner$Shrinker", "a", "()I"⟩
abbrev ws_K_Shrinker_a : List Cond := Cond.code y_K_Shrinker_a prog_8_method_3_code 1 (some .int) :: wG
abbrev y_K_Shrinker_b : MethodName := ⟨"KitRunner$Shrinker", "b", "()I"⟩
abbrev ws_K_Shrinker_b : List Cond := Cond.code y_K_Shrinker_b prog_8_method_4_code 1 (some .int) :: wG
abbrev y_K_PairBook_held : MethodName := ⟨"KitRunner$PairBook", "held", "()I"⟩
abbrev ws_K_PairBook_held : List Cond := Cond.code y_K_PairBook_held prog_6_method_3_code 1 (some .int) :: wG
abbrev y_K_EntryPoints_foretell : MethodName := ⟨"KitRunner$EntryPoints", "foretell", "(III)J"⟩
abbrev ws_K_EntryPoints_foretell : List Cond := Cond.code y_K_EntryPoints_foretell prog_2_method_3_code 3 (some .long) :: wG
abbrev y_K_Machine_give : MethodName := ⟨"KitRunner$Machine", "give", "(III)J"⟩
abbrev ws_K_Machine_give : List Cond := Cond.code y_K_Machine_give prog_5_method_5_code 7 (some .long) :: wG
abbrev y_K_Machine_failsAt : MethodName := ⟨"KitRunner$Machine", "failsAt", "(III)Z"⟩
abbrev ws_K_Machine_failsAt : List Cond := Cond.code y_K_Machine_failsAt prog_5_method_6_code 6 (some .boolean) :: wG
abbrev y_K_Tally_sum : MethodName := ⟨"KitRunner$Tally", "sum", "([I)I"⟩
abbrev ws_K_Tally_sum : List Cond := Cond.code y_K_Tally_sum prog_9_method_13_code 3 (some .int) :: wG
abbrev y_K_Tally_takenInAll : MethodName := ⟨"KitRunner$Tally", "takenInAll", "()I"⟩
abbrev ws_K_Tally_takenInAll : List Cond := Cond.code y_K_Tally_takenInAll prog_9_method_10_code 1 (some .int) :: wG
abbrev y_K_Tally_failedInAll : MethodName := ⟨"KitRunner$Tally", "failedInAll", "()I"⟩
abbrev ws_K_Tally_failedInAll : List Cond := Cond.code y_K_Tally_failedInAll prog_9_method_11_code 1 (some .int) :: wG
abbrev y_K_Tally_marksInAll : MethodName := ⟨"KitRunner$Tally", "marksInAll", "()I"⟩
abbrev ws_K_Tally_marksInAll : List Cond := Cond.code y_K_Tally_marksInAll prog_9_method_12_code 3 (some .int) :: wG
abbrev y_K_PairBook_mark : MethodName := ⟨"KitRunner$PairBook", "mark", "([III)V"⟩
abbrev ws_K_PairBook_mark : List Cond := Cond.code y_K_PairBook_mark prog_6_method_5_code 5 none :: wG
abbrev y_K_PairBook_note : MethodName := ⟨"KitRunner$PairBook", "note", "(III)Z"⟩
abbrev ws_K_PairBook_note : List Cond := Cond.code y_K_PairBook_note prog_6_method_4_code 5 (some .boolean) :: wG
abbrev y_K_PairBook_forget : MethodName := ⟨"KitRunner$PairBook", "forget", "()V"⟩
abbrev ws_K_PairBook_forget : List Cond := Cond.code y_K_PairBook_forget prog_6_method_2_code 1 none :: wG
abbrev y_K_Tally_forget : MethodName := ⟨"KitRunner$Tally", "forget", "()V"⟩
abbrev ws_K_Tally_forget : List Cond := Cond.code y_K_Tally_forget prog_9_method_2_code 1 none :: wG
abbrev y_K_Report_at : MethodName := ⟨"KitRunner$Report", "at", "(I)I"⟩
abbrev ws_K_Report_at : List Cond := Cond.code y_K_Report_at prog_7_method_4_code 2 (some .int) :: wG
abbrev y_K_Machine_init : MethodName := ⟨"KitRunner$Machine", "<init>", "()V"⟩
abbrev ws_K_Machine_init : List Cond := Cond.code y_K_Machine_init prog_5_method_1_code 1 none :: wG
abbrev y_K_Exclusions_init : MethodName := ⟨"KitRunner$Exclusions", "<init>", "()V"⟩
abbrev ws_K_Exclusions_init : List Cond := Cond.code y_K_Exclusions_init prog_3_method_1_code 1 none :: wG
abbrev y_K_PairBook_init : MethodName := ⟨"KitRunner$PairBook", "<init>", "()V"⟩
abbrev ws_K_PairBook_init : List Cond := Cond.code y_K_PairBook_init prog_6_method_1_code 1 none :: wG
abbrev y_K_Tally_init : MethodName := ⟨"KitRunner$Tally", "<init>", "()V"⟩
abbrev ws_K_Tally_init : List Cond := Cond.code y_K_Tally_init prog_9_method_1_code 1 none :: wG
abbrev y_K_FailureList_init : MethodName := ⟨"KitRunner$FailureList", "<init>", "()V"⟩
abbrev ws_K_FailureList_init : List Cond := Cond.code y_K_FailureList_init prog_4_method_1_code 1 none :: wG
abbrev y_K_Report_init : MethodName := ⟨"KitRunner$Report", "<init>", "()V"⟩
abbrev ws_K_Report_init : List Cond := Cond.code y_K_Report_init prog_7_method_1_code 1 none :: wG
abbrev y_K_Shrinker_init : MethodName := ⟨"KitRunner$Shrinker", "<init>", "()V"⟩
abbrev ws_K_Shrinker_init : List Cond := Cond.code y_K_Shrinker_init prog_8_method_1_code 1 none :: wG
abbrev y_KitRunner_init : MethodName := ⟨"KitRunner", "<init>", "()V"⟩
abbrev ws_KitRunner_init : List Cond := Cond.code y_KitRunner_init prog_1_method_1_code 1 none :: wG
abbrev y_KitRunner_fault : MethodName := ⟨"KitRunner", "fault", "(III)I"⟩
abbrev ws_KitRunner_fault : List Cond := Cond.code y_KitRunner_fault prog_1_method_2_code 4 (some .int) :: wG
abbrev y_KitRunner_exclude : MethodName := ⟨"KitRunner", "exclude", "(II)I"⟩
abbrev ws_KitRunner_exclude : List Cond := Cond.code y_KitRunner_exclude prog_1_method_3_code 3 (some .int) :: wG
abbrev y_KitRunner_clear : MethodName := ⟨"KitRunner", "clear", "(I)I"⟩
abbrev ws_KitRunner_clear : List Cond := Cond.code y_KitRunner_clear prog_1_method_4_code 2 (some .int) :: wG
abbrev y_KitRunner_enable : MethodName := ⟨"KitRunner", "enable", "(I)I"⟩
abbrev ws_KitRunner_enable : List Cond := Cond.code y_KitRunner_enable prog_1_method_5_code 2 (some .int) :: wG
abbrev y_KitRunner_outcome : MethodName := ⟨"KitRunner", "outcome", "(IIIZ)J"⟩
abbrev ws_KitRunner_outcome : List Cond := Cond.code y_KitRunner_outcome prog_1_method_7_code 5 (some .long) :: wG
abbrev y_KitRunner_letter : MethodName := ⟨"KitRunner", "letter", "(I)I"⟩
abbrev ws_KitRunner_letter : List Cond := Cond.code y_KitRunner_letter prog_1_method_12_code 2 (some .int) :: wG
abbrev y_KitRunner_runCase : MethodName := ⟨"KitRunner", "runCase", "(III)V"⟩
abbrev ws_KitRunner_runCase : List Cond := Cond.code y_KitRunner_runCase prog_1_method_21_code 8 none :: wG
abbrev y_KitRunner_runEntry : MethodName := ⟨"KitRunner", "runEntry", "(IIZ)V"⟩
abbrev ws_KitRunner_runEntry : List Cond := Cond.code y_KitRunner_runEntry prog_1_method_20_code 6 none :: wG
abbrev y_KitRunner_forgetLatestRun : MethodName := ⟨"KitRunner", "forgetLatestRun", "()V"⟩
abbrev ws_KitRunner_forgetLatestRun : List Cond := Cond.code y_KitRunner_forgetLatestRun prog_1_method_19_code 1 none :: wG
abbrev y_K_Shrinker_moveA : MethodName := ⟨"KitRunner$Shrinker", "moveA", "(LKitRunner$Machine;I)Z"⟩
abbrev ws_K_Shrinker_moveA : List Cond := Cond.code y_K_Shrinker_moveA prog_8_method_6_code 4 (some .boolean) :: wG
abbrev y_K_Shrinker_moveB : MethodName := ⟨"KitRunner$Shrinker", "moveB", "(LKitRunner$Machine;I)Z"⟩
abbrev ws_K_Shrinker_moveB : List Cond := Cond.code y_K_Shrinker_moveB prog_8_method_7_code 4 (some .boolean) :: wG
abbrev y_K_EntryPoints_nameOf : MethodName := ⟨"KitRunner$EntryPoints", "nameOf", "(I)Ljava/lang/String;"⟩
abbrev ws_K_EntryPoints_nameOf : List Cond := Cond.code y_K_EntryPoints_nameOf prog_2_method_2_code 1 (some (.object "java/lang/String")) :: wG
abbrev y_KitRunner_packedText : MethodName := ⟨"KitRunner", "packedText", "(Ljava/lang/String;)J"⟩
abbrev ws_KitRunner_packedText : List Cond := Cond.code y_KitRunner_packedText prog_1_method_18_code 4 (some .long) :: wG
abbrev y_KitRunner_withoutZeroBytes : MethodName := ⟨"KitRunner", "withoutZeroBytes", "(J)J"⟩
abbrev ws_KitRunner_withoutZeroBytes : List Cond := Cond.code y_KitRunner_withoutZeroBytes prog_1_method_17_code 7 (some .long) :: wG
abbrev y_KitRunner_find : MethodName := ⟨"KitRunner", "find", "(J)I"⟩
abbrev ws_KitRunner_find : List Cond := Cond.code y_KitRunner_find prog_1_method_6_code 6 (some .int) :: wG
abbrev y_K_Report_putText : MethodName := ⟨"KitRunner$Report", "putText", "(Ljava/lang/String;)V"⟩
abbrev ws_K_Report_putText : List Cond := Cond.code y_K_Report_putText prog_7_method_6_code 3 none :: wG
abbrev y_K_Report_putNumber : MethodName := ⟨"KitRunner$Report", "putNumber", "(I)V"⟩
abbrev ws_K_Report_putNumber : List Cond := Cond.code y_K_Report_putNumber prog_7_method_7_code 3 none :: wG
abbrev y_KitRunner_ledger : MethodName := ⟨"KitRunner", "ledger", "(I)I"⟩
abbrev ws_KitRunner_ledger : List Cond := Cond.code y_KitRunner_ledger prog_1_method_11_code 2 (some .int) :: wG
abbrev y_KitRunner_failure : MethodName := ⟨"KitRunner", "failure", "(II)J"⟩
abbrev ws_KitRunner_failure : List Cond := Cond.code y_KitRunner_failure prog_1_method_9_code 3 (some .long) :: wG
abbrev y_KitRunner_count : MethodName := ⟨"KitRunner", "count", "(I)I"⟩
abbrev ws_KitRunner_count : List Cond := Cond.code y_KitRunner_count prog_1_method_13_code 2 (some .int) :: wG
abbrev y_KitRunner_writeReport : MethodName := ⟨"KitRunner", "writeReport", "()V"⟩
abbrev ws_KitRunner_writeReport : List Cond := Cond.code y_KitRunner_writeReport prog_1_method_22_code 2 none :: wG
abbrev y_KitRunner_run : MethodName := ⟨"KitRunner", "run", "(IZ)I"⟩
abbrev ws_KitRunner_run : List Cond := Cond.code y_KitRunner_run prog_1_method_8_code 4 (some .int) :: wG
abbrev y_K_Shrinker_reduce : MethodName := ⟨"KitRunner$Shrinker", "reduce", "(LKitRunner$Machine;III)V"⟩
abbrev ws_K_Shrinker_reduce : List Cond := Cond.code y_K_Shrinker_reduce prog_8_method_2_code 5 none :: wG
abbrev y_KitRunner_shrink : MethodName := ⟨"KitRunner", "shrink", "(II)J"⟩
abbrev ws_KitRunner_shrink : List Cond := Cond.code y_KitRunner_shrink prog_1_method_10_code 3 (some .long) :: wG
end
section
theorem d_Integer_compare_0 : decode prog_13_method_40_code 0 = .ok (.iload_n 0, 1) := by decide +kernel
theorem d_Integer_compare_1 : decode prog_13_method_40_code 1 = .ok (.iload_n 1, 1) := by decide +kernel
theorem d_Integer_compare_2 : decode prog_13_method_40_code 2 = .ok (.if_icmp .ge 7, 3) := by decide +kernel
theorem d_Integer_compare_9 : decode prog_13_method_40_code 9 = .ok (.iload_n 0, 1) := by decide +kernel
theorem d_Integer_compare_10 : decode prog_13_method_40_code 10 = .ok (.iload_n 1, 1) := by decide +kernel
theorem d_Integer_compare_11 : decode prog_13_method_40_code 11 = .ok (.if_icmp .ne 7, 3) := by decide +kernel
theorem d_Integer_compare_18 : decode prog_13_method_40_code 18 = .ok (.iconst 1, 1) := by decide +kernel
theorem d_Integer_compare_19 : decode prog_13_method_40_code 19 = .ok (.ireturn, 1) := by decide +kernel
theorem d_Integer_compare_14 : decode prog_13_method_40_code 14 = .ok (.iconst 0, 1) := by decide +kernel
theorem d_Integer_compare_15 : decode prog_13_method_40_code 15 = .ok (.goto 4, 3) := by decide +kernel
theorem d_Integer_compare_5 : decode prog_13_method_40_code 5 = .ok (.iconst (-1), 1) := by decide +kernel
theorem d_Integer_compare_6 : decode prog_13_method_40_code 6 = .ok (.goto 13, 3) := by decide +kernel
theorem d_Integer_bitCount_0 : decode prog_13_method_49_code 0 = .ok (.iload_n 0, 1) := by decide +kernel
theorem d_Integer_bitCount_1 : decode prog_13_method_49_code 1 = .ok (.iload_n 0, 1) := by decide +kernel
theorem d_Integer_bitCount_2 : decode prog_13_method_49_code 2 = .ok (.iconst 1, 1) := by decide +kernel
theorem d_Integer_bitCount_3 : decode prog_13_method_49_code 3 = .ok (.iushr, 1) := by decide +kernel
theorem d_Integer_bitCount_4 : decode prog_13_method_49_code 4 = .ok (.ldc_w 265, 3) := by decide +kernel
theorem d_Integer_bitCount_7 : decode prog_13_method_49_code 7 = .ok (.iand, 1) := by decide +kernel
theorem d_Integer_bitCount_8 : decode prog_13_method_49_code 8 = .ok (.isub, 1) := by decide +kernel
theorem d_Integer_bitCount_9 : decode prog_13_method_49_code 9 = .ok (.istore_n 0, 1) := by decide +kernel
theorem d_Integer_bitCount_10 : decode prog_13_method_49_code 10 = .ok (.iload_n 0, 1) := by decide +kernel
theorem d_Integer_bitCount_11 : decode prog_13_method_49_code 11 = .ok (.ldc_w 266, 3) := by decide +kernel
theorem d_Integer_bitCount_14 : decode prog_13_method_49_code 14 = .ok (.iand, 1) := by decide +kernel
theorem d_Integer_bitCount_15 : decode prog_13_method_49_code 15 = .ok (.iload_n 0, 1) := by decide +kernel
theorem d_Integer_bitCount_16 : decode prog_13_method_49_code 16 = .ok (.iconst 2, 1) := by decide +kernel
theorem d_Integer_bitCount_17 : decode prog_13_method_49_code 17 = .ok (.iushr, 1) := by decide +kernel
theorem d_Integer_bitCount_18 : decode prog_13_method_49_code 18 = .ok (.ldc_w 266, 3) := by decide +kernel
theorem d_Integer_bitCount_21 : decode prog_13_method_49_code 21 = .ok (.iand, 1) := by decide +kernel
theorem d_Integer_bitCount_22 : decode prog_13_method_49_code 22 = .ok (.iadd, 1) := by decide +kernel
theorem d_Integer_bitCount_23 : decode prog_13_method_49_code 23 = .ok (.istore_n 0, 1) := by decide +kernel
theorem d_Integer_bitCount_24 : decode prog_13_method_49_code 24 = .ok (.iload_n 0, 1) := by decide +kernel
theorem d_Integer_bitCount_25 : decode prog_13_method_49_code 25 = .ok (.iload_n 0, 1) := by decide +kernel
theorem d_Integer_bitCount_26 : decode prog_13_method_49_code 26 = .ok (.iconst 4, 1) := by decide +kernel
theorem d_Integer_bitCount_27 : decode prog_13_method_49_code 27 = .ok (.iushr, 1) := by decide +kernel
theorem d_Integer_bitCount_28 : decode prog_13_method_49_code 28 = .ok (.iadd, 1) := by decide +kernel
theorem d_Integer_bitCount_29 : decode prog_13_method_49_code 29 = .ok (.ldc_w 267, 3) := by decide +kernel
theorem d_Integer_bitCount_32 : decode prog_13_method_49_code 32 = .ok (.iand, 1) := by decide +kernel
theorem d_Integer_bitCount_33 : decode prog_13_method_49_code 33 = .ok (.istore_n 0, 1) := by decide +kernel
theorem d_Integer_bitCount_34 : decode prog_13_method_49_code 34 = .ok (.iload_n 0, 1) := by decide +kernel
theorem d_Integer_bitCount_35 : decode prog_13_method_49_code 35 = .ok (.iload_n 0, 1) := by decide +kernel
theorem d_Integer_bitCount_36 : decode prog_13_method_49_code 36 = .ok (.bipush 8, 2) := by decide +kernel
theorem d_Integer_bitCount_38 : decode prog_13_method_49_code 38 = .ok (.iushr, 1) := by decide +kernel
theorem d_Integer_bitCount_39 : decode prog_13_method_49_code 39 = .ok (.iadd, 1) := by decide +kernel
theorem d_Integer_bitCount_40 : decode prog_13_method_49_code 40 = .ok (.istore_n 0, 1) := by decide +kernel
theorem d_Integer_bitCount_41 : decode prog_13_method_49_code 41 = .ok (.iload_n 0, 1) := by decide +kernel
theorem d_Integer_bitCount_42 : decode prog_13_method_49_code 42 = .ok (.iload_n 0, 1) := by decide +kernel
theorem d_Integer_bitCount_43 : decode prog_13_method_49_code 43 = .ok (.bipush 16, 2) := by decide +kernel
theorem d_Integer_bitCount_45 : decode prog_13_method_49_code 45 = .ok (.iushr, 1) := by decide +kernel
theorem d_Integer_bitCount_46 : decode prog_13_method_49_code 46 = .ok (.iadd, 1) := by decide +kernel
theorem d_Integer_bitCount_47 : decode prog_13_method_49_code 47 = .ok (.istore_n 0, 1) := by decide +kernel
theorem d_Integer_bitCount_48 : decode prog_13_method_49_code 48 = .ok (.iload_n 0, 1) := by decide +kernel
theorem d_Integer_bitCount_49 : decode prog_13_method_49_code 49 = .ok (.bipush 63, 2) := by decide +kernel
theorem d_Integer_bitCount_51 : decode prog_13_method_49_code 51 = .ok (.iand, 1) := by decide +kernel
theorem d_Integer_bitCount_52 : decode prog_13_method_49_code 52 = .ok (.ireturn, 1) := by decide +kernel
theorem d_Arrays_fill_0 : decode prog_17_method_103_code 0 = .ok (.iconst 0, 1) := by decide +kernel
theorem d_Arrays_fill_1 : decode prog_17_method_103_code 1 = .ok (.istore_n 2, 1) := by decide +kernel
theorem d_Arrays_fill_2 : decode prog_17_method_103_code 2 = .ok (.aload_n 0, 1) := by decide +kernel
theorem d_Arrays_fill_3 : decode prog_17_method_103_code 3 = .ok (.arraylength, 1) := by decide +kernel
theorem d_Arrays_fill_4 : decode prog_17_method_103_code 4 = .ok (.istore_n 3, 1) := by decide +kernel
theorem d_Arrays_fill_5 : decode prog_17_method_103_code 5 = .ok (.iload_n 2, 1) := by decide +kernel
theorem d_Arrays_fill_6 : decode prog_17_method_103_code 6 = .ok (.iload_n 3, 1) := by decide +kernel
theorem d_Arrays_fill_7 : decode prog_17_method_103_code 7 = .ok (.if_icmp .ge 13, 3) := by decide +kernel
theorem d_Arrays_fill_20 : decode prog_17_method_103_code 20 = .ok (.return_, 1) := by decide +kernel
theorem d_Arrays_fill_10 : decode prog_17_method_103_code 10 = .ok (.aload_n 0, 1) := by decide +kernel
theorem d_Arrays_fill_11 : decode prog_17_method_103_code 11 = .ok (.iload_n 2, 1) := by decide +kernel
theorem d_Arrays_fill_12 : decode prog_17_method_103_code 12 = .ok (.iload_n 1, 1) := by decide +kernel
theorem d_Arrays_fill_13 : decode prog_17_method_103_code 13 = .ok (.iastore, 1) := by decide +kernel
theorem d_Arrays_fill_14 : decode prog_17_method_103_code 14 = .ok (.iinc 2 1, 3) := by decide +kernel
theorem d_Arrays_fill_17 : decode prog_17_method_103_code 17 = .ok (.goto (-12), 3) := by decide +kernel
theorem d_String_coder_0 : decode prog_14_method_152_code 0 = .ok (.getstatic 38, 3) := by decide +kernel
theorem d_String_coder_3 : decode prog_14_method_152_code 3 = .ok (.ifCond .eq 10, 3) := by decide +kernel
theorem d_String_coder_6 : decode prog_14_method_152_code 6 = .ok (.aload_n 0, 1) := by decide +kernel
theorem d_String_coder_7 : decode prog_14_method_152_code 7 = .ok (.getfield 15, 3) := by decide +kernel
theorem d_String_coder_10 : decode prog_14_method_152_code 10 = .ok (.goto 4, 3) := by decide +kernel
theorem d_String_coder_14 : decode prog_14_method_152_code 14 = .ok (.ireturn, 1) := by decide +kernel
theorem d_String_isLatin1_0 : decode prog_14_method_154_code 0 = .ok (.getstatic 38, 3) := by decide +kernel
theorem d_String_isLatin1_3 : decode prog_14_method_154_code 3 = .ok (.ifCond .eq 14, 3) := by decide +kernel
theorem d_String_isLatin1_6 : decode prog_14_method_154_code 6 = .ok (.aload_n 0, 1) := by decide +kernel
theorem d_String_isLatin1_7 : decode prog_14_method_154_code 7 = .ok (.getfield 15, 3) := by decide +kernel
theorem d_String_isLatin1_10 : decode prog_14_method_154_code 10 = .ok (.ifCond .ne 7, 3) := by decide +kernel
theorem d_String_isLatin1_13 : decode prog_14_method_154_code 13 = .ok (.iconst 1, 1) := by decide +kernel
theorem d_String_isLatin1_14 : decode prog_14_method_154_code 14 = .ok (.goto 4, 3) := by decide +kernel
theorem d_String_isLatin1_18 : decode prog_14_method_154_code 18 = .ok (.ireturn, 1) := by decide +kernel
theorem d_String_length_0 : decode prog_14_method_54_code 0 = .ok (.aload_n 0, 1) := by decide +kernel
theorem d_String_length_1 : decode prog_14_method_54_code 1 = .ok (.getfield 9, 3) := by decide +kernel
theorem d_String_length_4 : decode prog_14_method_54_code 4 = .ok (.arraylength, 1) := by decide +kernel
theorem d_String_length_5 : decode prog_14_method_54_code 5 = .ok (.aload_n 0, 1) := by decide +kernel
theorem d_String_length_6 : decode prog_14_method_54_code 6 = .ok (.invokevirtual 335, 3) := by decide +kernel
theorem d_String_length_9 : decode prog_14_method_54_code 9 = .ok (.ishr, 1) := by decide +kernel
theorem d_String_length_10 : decode prog_14_method_54_code 10 = .ok (.ireturn, 1) := by decide +kernel
theorem d_Preconditions_checkIndex_0 : decode prog_18_method_11_code 0 = .ok (.iload_n 0, 1) := by decide +kernel
theorem d_Preconditions_checkIndex_1 : decode prog_18_method_11_code 1 = .ok (.ifCond .lt 8, 3) := by decide +kernel
theorem d_Preconditions_checkIndex_4 : decode prog_18_method_11_code 4 = .ok (.iload_n 0, 1) := by decide +kernel
theorem d_Preconditions_checkIndex_5 : decode prog_18_method_11_code 5 = .ok (.iload_n 1, 1) := by decide +kernel
theorem d_Preconditions_checkIndex_6 : decode prog_18_method_11_code 6 = .ok (.if_icmp .lt 10, 3) := by decide +kernel
theorem d_Preconditions_checkIndex_16 : decode prog_18_method_11_code 16 = .ok (.iload_n 0, 1) := by decide +kernel
theorem d_Preconditions_checkIndex_17 : decode prog_18_method_11_code 17 = .ok (.ireturn, 1) := by decide +kernel
theorem d_String_checkIndex_0 : decode prog_14_method_155_code 0 = .ok (.iload_n 0, 1) := by decide +kernel
theorem d_String_checkIndex_1 : decode prog_14_method_155_code 1 = .ok (.iload_n 1, 1) := by decide +kernel
theorem d_String_checkIndex_2 : decode prog_14_method_155_code 2 = .ok (.getstatic 1053, 3) := by decide +kernel
theorem d_String_checkIndex_5 : decode prog_14_method_155_code 5 = .ok (.invokestatic 1059, 3) := by decide +kernel
theorem d_String_checkIndex_8 : decode prog_14_method_155_code 8 = .ok (.pop, 1) := by decide +kernel
theorem d_String_checkIndex_9 : decode prog_14_method_155_code 9 = .ok (.return_, 1) := by decide +kernel
theorem d_StringLatin1_charAt_0 : decode prog_15_method_2_code 0 = .ok (.iload_n 1, 1) := by decide +kernel
theorem d_StringLatin1_charAt_1 : decode prog_15_method_2_code 1 = .ok (.aload_n 0, 1) := by decide +kernel
theorem d_StringLatin1_charAt_2 : decode prog_15_method_2_code 2 = .ok (.arraylength, 1) := by decide +kernel
theorem d_StringLatin1_charAt_3 : decode prog_15_method_2_code 3 = .ok (.invokestatic 9, 3) := by decide +kernel
theorem d_StringLatin1_charAt_6 : decode prog_15_method_2_code 6 = .ok (.aload_n 0, 1) := by decide +kernel
theorem d_StringLatin1_charAt_7 : decode prog_15_method_2_code 7 = .ok (.iload_n 1, 1) := by decide +kernel
theorem d_StringLatin1_charAt_8 : decode prog_15_method_2_code 8 = .ok (.baload, 1) := by decide +kernel
theorem d_StringLatin1_charAt_9 : decode prog_15_method_2_code 9 = .ok (.sipush 255, 3) := by decide +kernel
theorem d_StringLatin1_charAt_12 : decode prog_15_method_2_code 12 = .ok (.iand, 1) := by decide +kernel
theorem d_StringLatin1_charAt_13 : decode prog_15_method_2_code 13 = .ok (.i2c, 1) := by decide +kernel
theorem d_StringLatin1_charAt_14 : decode prog_15_method_2_code 14 = .ok (.ireturn, 1) := by decide +kernel
theorem d_String_charAt_0 : decode prog_14_method_56_code 0 = .ok (.aload_n 0, 1) := by decide +kernel
theorem d_String_charAt_1 : decode prog_14_method_56_code 1 = .ok (.invokevirtual 492, 3) := by decide +kernel
theorem d_String_charAt_4 : decode prog_14_method_56_code 4 = .ok (.ifCond .eq 12, 3) := by decide +kernel
theorem d_String_charAt_7 : decode prog_14_method_56_code 7 = .ok (.aload_n 0, 1) := by decide +kernel
theorem d_String_charAt_8 : decode prog_14_method_56_code 8 = .ok (.getfield 9, 3) := by decide +kernel
theorem d_String_charAt_11 : decode prog_14_method_56_code 11 = .ok (.iload_n 1, 1) := by decide +kernel
theorem d_String_charAt_12 : decode prog_14_method_56_code 12 = .ok (.invokestatic 495, 3) := by decide +kernel
theorem d_String_charAt_15 : decode prog_14_method_56_code 15 = .ok (.ireturn, 1) := by decide +kernel
theorem d_KitRunner_isEntry_0 : decode prog_1_method_14_code 0 = .ok (.iload_n 0, 1) := by decide +kernel
theorem d_KitRunner_isEntry_1 : decode prog_1_method_14_code 1 = .ok (.ifCond .lt 13, 3) := by decide +kernel
theorem d_KitRunner_isEntry_14 : decode prog_1_method_14_code 14 = .ok (.iconst 0, 1) := by decide +kernel
theorem d_KitRunner_isEntry_15 : decode prog_1_method_14_code 15 = .ok (.ireturn, 1) := by decide +kernel
theorem d_KitRunner_isEntry_4 : decode prog_1_method_14_code 4 = .ok (.iload_n 0, 1) := by decide +kernel
theorem d_KitRunner_isEntry_5 : decode prog_1_method_14_code 5 = .ok (.bipush 16, 2) := by decide +kernel
theorem d_KitRunner_isEntry_7 : decode prog_1_method_14_code 7 = .ok (.if_icmp .ge 7, 3) := by decide +kernel
theorem d_KitRunner_isEntry_10 : decode prog_1_method_14_code 10 = .ok (.iconst 1, 1) := by decide +kernel
theorem d_KitRunner_isEntry_11 : decode prog_1_method_14_code 11 = .ok (.goto 4, 3) := by decide +kernel
theorem d_KitRunner_isTrouble_0 : decode prog_1_method_15_code 0 = .ok (.lload_n 0, 1) := by decide +kernel
theorem d_KitRunner_isTrouble_1 : decode prog_1_method_15_code 1 = .ok (.ldc2_w 184, 3) := by decide +kernel
theorem d_KitRunner_isTrouble_4 : decode prog_1_method_15_code 4 = .ok (.lcmp, 1) := by decide +kernel
theorem d_KitRunner_isTrouble_5 : decode prog_1_method_15_code 5 = .ok (.ifCond .lt 7, 3) := by decide +kernel
theorem d_KitRunner_isTrouble_12 : decode prog_1_method_15_code 12 = .ok (.iconst 0, 1) := by decide +kernel
theorem d_KitRunner_isTrouble_13 : decode prog_1_method_15_code 13 = .ok (.ireturn, 1) := by decide +kernel
theorem d_KitRunner_isTrouble_8 : decode prog_1_method_15_code 8 = .ok (.iconst 1, 1) := by decide +kernel
theorem d_KitRunner_isTrouble_9 : decode prog_1_method_15_code 9 = .ok (.goto 4, 3) := by decide +kernel
theorem d_KitRunner_latticeSize_0 : decode prog_1_method_16_code 0 = .ok (.iload_n 0, 1) := by decide +kernel
theorem d_KitRunner_latticeSize_1 : decode prog_1_method_16_code 1 = .ok (.iconst 1, 1) := by decide +kernel
theorem d_KitRunner_latticeSize_2 : decode prog_1_method_16_code 2 = .ok (.if_icmp .ne 7, 3) := by decide +kernel
theorem d_KitRunner_latticeSize_9 : decode prog_1_method_16_code 9 = .ok (.iload_n 0, 1) := by decide +kernel
theorem d_KitRunner_latticeSize_10 : decode prog_1_method_16_code 10 = .ok (.iconst 2, 1) := by decide +kernel
theorem d_KitRunner_latticeSize_11 : decode prog_1_method_16_code 11 = .ok (.if_icmp .ne 8, 3) := by decide +kernel
theorem d_KitRunner_latticeSize_19 : decode prog_1_method_16_code 19 = .ok (.bipush 12, 2) := by decide +kernel
theorem d_KitRunner_latticeSize_21 : decode prog_1_method_16_code 21 = .ok (.ireturn, 1) := by decide +kernel
theorem d_KitRunner_latticeSize_14 : decode prog_1_method_16_code 14 = .ok (.bipush 6, 2) := by decide +kernel
theorem d_KitRunner_latticeSize_16 : decode prog_1_method_16_code 16 = .ok (.goto 5, 3) := by decide +kernel
theorem d_KitRunner_latticeSize_5 : decode prog_1_method_16_code 5 = .ok (.iconst 3, 1) := by decide +kernel
theorem d_KitRunner_latticeSize_6 : decode prog_1_method_16_code 6 = .ok (.goto 15, 3) := by decide +kernel
theorem d_K_EntryPoints_sizeOf_0 : decode prog_2_method_4_code 0 = .ok (.iload_n 0, 1) := by decide +kernel
theorem d_K_EntryPoints_sizeOf_1 : decode prog_2_method_4_code 1 = .ok (.ifCond .ge 7, 3) := by decide +kernel
theorem d_K_EntryPoints_sizeOf_8 : decode prog_2_method_4_code 8 = .ok (.iload_n 0, 1) := by decide +kernel
theorem d_K_EntryPoints_sizeOf_9 : decode prog_2_method_4_code 9 = .ok (.bipush 64, 2) := by decide +kernel
theorem d_K_EntryPoints_sizeOf_11 : decode prog_2_method_4_code 11 = .ok (.if_icmp .le 9, 3) := by decide +kernel
theorem d_K_EntryPoints_sizeOf_20 : decode prog_2_method_4_code 20 = .ok (.iload_n 0, 1) := by decide +kernel
theorem d_K_EntryPoints_sizeOf_21 : decode prog_2_method_4_code 21 = .ok (.i2l, 1) := by decide +kernel
theorem d_K_EntryPoints_sizeOf_22 : decode prog_2_method_4_code 22 = .ok (.lreturn, 1) := by decide +kernel
theorem d_K_EntryPoints_sizeOf_14 : decode prog_2_method_4_code 14 = .ok (.ldc2_w 81, 3) := by decide +kernel
end
section
theorem d_K_EntryPoints_sizeOf_17 : decode prog_2_method_4_code 17 = .ok (.goto 5, 3) := by decide +kernel
theorem d_K_EntryPoints_sizeOf_4 : decode prog_2_method_4_code 4 = .ok (.ldc2_w 79, 3) := by decide +kernel
theorem d_K_EntryPoints_sizeOf_7 : decode prog_2_method_4_code 7 = .ok (.lreturn, 1) := by decide +kernel
theorem d_K_Machine_changed_0 : decode prog_5_method_8_code 0 = .ok (.iload_n 0, 1) := by decide +kernel
theorem d_K_Machine_changed_1 : decode prog_5_method_8_code 1 = .ok (.tableswitch 62 0 3 #[31, 37, 41, 44], 31) := by decide +kernel
theorem d_K_Machine_changed_32 : decode prog_5_method_8_code 32 = .ok (.lload_n 2, 1) := by decide +kernel
theorem d_K_Machine_changed_33 : decode prog_5_method_8_code 33 = .ok (.l2i, 1) := by decide +kernel
theorem d_K_Machine_changed_34 : decode prog_5_method_8_code 34 = .ok (.iconst 1, 1) := by decide +kernel
theorem d_K_Machine_changed_35 : decode prog_5_method_8_code 35 = .ok (.iadd, 1) := by decide +kernel
theorem d_K_Machine_changed_36 : decode prog_5_method_8_code 36 = .ok (.i2l, 1) := by decide +kernel
theorem d_K_Machine_changed_37 : decode prog_5_method_8_code 37 = .ok (.lreturn, 1) := by decide +kernel
theorem d_K_Machine_changed_38 : decode prog_5_method_8_code 38 = .ok (.ldc2_w 51, 3) := by decide +kernel
theorem d_K_Machine_changed_41 : decode prog_5_method_8_code 41 = .ok (.lreturn, 1) := by decide +kernel
theorem d_K_Machine_changed_42 : decode prog_5_method_8_code 42 = .ok (.iload_n 1, 1) := by decide +kernel
theorem d_K_Machine_changed_43 : decode prog_5_method_8_code 43 = .ok (.i2l, 1) := by decide +kernel
theorem d_K_Machine_changed_44 : decode prog_5_method_8_code 44 = .ok (.lreturn, 1) := by decide +kernel
theorem d_K_Machine_changed_45 : decode prog_5_method_8_code 45 = .ok (.lload_n 2, 1) := by decide +kernel
theorem d_K_Machine_changed_46 : decode prog_5_method_8_code 46 = .ok (.ldc2_w 53, 3) := by decide +kernel
theorem d_K_Machine_changed_49 : decode prog_5_method_8_code 49 = .ok (.lcmp, 1) := by decide +kernel
theorem d_K_Machine_changed_50 : decode prog_5_method_8_code 50 = .ok (.ifCond .ne 9, 3) := by decide +kernel
theorem d_K_Machine_changed_59 : decode prog_5_method_8_code 59 = .ok (.ldc2_w 53, 3) := by decide +kernel
theorem d_K_Machine_changed_62 : decode prog_5_method_8_code 62 = .ok (.lreturn, 1) := by decide +kernel
theorem d_K_Machine_changed_53 : decode prog_5_method_8_code 53 = .ok (.ldc2_w 55, 3) := by decide +kernel
theorem d_K_Machine_changed_56 : decode prog_5_method_8_code 56 = .ok (.goto 6, 3) := by decide +kernel
theorem d_K_Machine_changed_63 : decode prog_5_method_8_code 63 = .ok (.lload_n 2, 1) := by decide +kernel
theorem d_K_Machine_changed_64 : decode prog_5_method_8_code 64 = .ok (.lconst 1, 1) := by decide +kernel
theorem d_K_Machine_changed_65 : decode prog_5_method_8_code 65 = .ok (.lxor, 1) := by decide +kernel
theorem d_K_Machine_changed_66 : decode prog_5_method_8_code 66 = .ok (.lreturn, 1) := by decide +kernel
theorem d_K_Machine_applies_0 : decode prog_5_method_7_code 0 = .ok (.lload 4, 2) := by decide +kernel
theorem d_K_Machine_applies_2 : decode prog_5_method_7_code 2 = .ok (.invokestatic 45, 3) := by decide +kernel
theorem d_K_Machine_applies_5 : decode prog_5_method_7_code 5 = .ok (.istore 6, 2) := by decide +kernel
theorem d_K_Machine_applies_7 : decode prog_5_method_7_code 7 = .ok (.iload_n 0, 1) := by decide +kernel
theorem d_K_Machine_applies_8 : decode prog_5_method_7_code 8 = .ok (.tableswitch 70 0 3 #[32, 48, 64, 67], 32) := by decide +kernel
theorem d_K_Machine_applies_40 : decode prog_5_method_7_code 40 = .ok (.iload 6, 2) := by decide +kernel
theorem d_K_Machine_applies_42 : decode prog_5_method_7_code 42 = .ok (.ifCond .ne 12, 3) := by decide +kernel
theorem d_K_Machine_applies_54 : decode prog_5_method_7_code 54 = .ok (.iconst 0, 1) := by decide +kernel
theorem d_K_Machine_applies_55 : decode prog_5_method_7_code 55 = .ok (.ireturn, 1) := by decide +kernel
theorem d_K_Machine_applies_45 : decode prog_5_method_7_code 45 = .ok (.iload_n 2, 1) := by decide +kernel
theorem d_K_Machine_applies_46 : decode prog_5_method_7_code 46 = .ok (.iload_n 1, 1) := by decide +kernel
theorem d_K_Machine_applies_47 : decode prog_5_method_7_code 47 = .ok (.if_icmp .ne 7, 3) := by decide +kernel
theorem d_K_Machine_applies_50 : decode prog_5_method_7_code 50 = .ok (.iconst 1, 1) := by decide +kernel
theorem d_K_Machine_applies_51 : decode prog_5_method_7_code 51 = .ok (.goto 4, 3) := by decide +kernel
theorem d_K_Machine_applies_56 : decode prog_5_method_7_code 56 = .ok (.iload 6, 2) := by decide +kernel
theorem d_K_Machine_applies_58 : decode prog_5_method_7_code 58 = .ok (.ifCond .ne 12, 3) := by decide +kernel
theorem d_K_Machine_applies_70 : decode prog_5_method_7_code 70 = .ok (.iconst 0, 1) := by decide +kernel
theorem d_K_Machine_applies_71 : decode prog_5_method_7_code 71 = .ok (.ireturn, 1) := by decide +kernel
theorem d_K_Machine_applies_61 : decode prog_5_method_7_code 61 = .ok (.iload_n 3, 1) := by decide +kernel
theorem d_K_Machine_applies_62 : decode prog_5_method_7_code 62 = .ok (.iload_n 1, 1) := by decide +kernel
theorem d_K_Machine_applies_63 : decode prog_5_method_7_code 63 = .ok (.if_icmp .ne 7, 3) := by decide +kernel
theorem d_K_Machine_applies_66 : decode prog_5_method_7_code 66 = .ok (.iconst 1, 1) := by decide +kernel
theorem d_K_Machine_applies_67 : decode prog_5_method_7_code 67 = .ok (.goto 4, 3) := by decide +kernel
theorem d_K_Machine_applies_72 : decode prog_5_method_7_code 72 = .ok (.iload 6, 2) := by decide +kernel
theorem d_K_Machine_applies_74 : decode prog_5_method_7_code 74 = .ok (.ireturn, 1) := by decide +kernel
theorem d_K_Machine_applies_75 : decode prog_5_method_7_code 75 = .ok (.iload 6, 2) := by decide +kernel
theorem d_K_Machine_applies_77 : decode prog_5_method_7_code 77 = .ok (.ireturn, 1) := by decide +kernel
theorem d_K_Machine_applies_78 : decode prog_5_method_7_code 78 = .ok (.iload 6, 2) := by decide +kernel
theorem d_K_Machine_applies_80 : decode prog_5_method_7_code 80 = .ok (.ifCond .ne 15, 3) := by decide +kernel
theorem d_K_Machine_applies_95 : decode prog_5_method_7_code 95 = .ok (.iconst 0, 1) := by decide +kernel
theorem d_K_Machine_applies_96 : decode prog_5_method_7_code 96 = .ok (.ireturn, 1) := by decide +kernel
theorem d_K_Machine_applies_83 : decode prog_5_method_7_code 83 = .ok (.lload 4, 2) := by decide +kernel
theorem d_K_Machine_applies_85 : decode prog_5_method_7_code 85 = .ok (.iload_n 1, 1) := by decide +kernel
theorem d_K_Machine_applies_86 : decode prog_5_method_7_code 86 = .ok (.i2l, 1) := by decide +kernel
theorem d_K_Machine_applies_87 : decode prog_5_method_7_code 87 = .ok (.lcmp, 1) := by decide +kernel
theorem d_K_Machine_applies_88 : decode prog_5_method_7_code 88 = .ok (.ifCond .le 7, 3) := by decide +kernel
theorem d_K_Machine_applies_91 : decode prog_5_method_7_code 91 = .ok (.iconst 1, 1) := by decide +kernel
theorem d_K_Machine_applies_92 : decode prog_5_method_7_code 92 = .ok (.goto 4, 3) := by decide +kernel
theorem d_K_Tally_markOf_0 : decode prog_9_method_14_code 0 = .ok (.lload_n 0, 1) := by decide +kernel
theorem d_K_Tally_markOf_1 : decode prog_9_method_14_code 1 = .ok (.invokestatic 45, 3) := by decide +kernel
theorem d_K_Tally_markOf_4 : decode prog_9_method_14_code 4 = .ok (.ifCond .eq 12, 3) := by decide +kernel
theorem d_K_Tally_markOf_16 : decode prog_9_method_14_code 16 = .ok (.lload_n 0, 1) := by decide +kernel
theorem d_K_Tally_markOf_17 : decode prog_9_method_14_code 17 = .ok (.lconst 0, 1) := by decide +kernel
theorem d_K_Tally_markOf_18 : decode prog_9_method_14_code 18 = .ok (.lcmp, 1) := by decide +kernel
theorem d_K_Tally_markOf_19 : decode prog_9_method_14_code 19 = .ok (.ifCond .ge 7, 3) := by decide +kernel
theorem d_K_Tally_markOf_26 : decode prog_9_method_14_code 26 = .ok (.lload_n 0, 1) := by decide +kernel
theorem d_K_Tally_markOf_27 : decode prog_9_method_14_code 27 = .ok (.lconst 0, 1) := by decide +kernel
theorem d_K_Tally_markOf_28 : decode prog_9_method_14_code 28 = .ok (.lcmp, 1) := by decide +kernel
theorem d_K_Tally_markOf_29 : decode prog_9_method_14_code 29 = .ok (.ifCond .ne 7, 3) := by decide +kernel
theorem d_K_Tally_markOf_36 : decode prog_9_method_14_code 36 = .ok (.iconst 4, 1) := by decide +kernel
theorem d_K_Tally_markOf_37 : decode prog_9_method_14_code 37 = .ok (.ireturn, 1) := by decide +kernel
theorem d_K_Tally_markOf_32 : decode prog_9_method_14_code 32 = .ok (.iconst 2, 1) := by decide +kernel
theorem d_K_Tally_markOf_33 : decode prog_9_method_14_code 33 = .ok (.goto 4, 3) := by decide +kernel
theorem d_K_Tally_markOf_22 : decode prog_9_method_14_code 22 = .ok (.iconst 1, 1) := by decide +kernel
theorem d_K_Tally_markOf_23 : decode prog_9_method_14_code 23 = .ok (.goto 14, 3) := by decide +kernel
theorem d_K_Tally_markOf_7 : decode prog_9_method_14_code 7 = .ok (.iconst 4, 1) := by decide +kernel
theorem d_K_Tally_markOf_8 : decode prog_9_method_14_code 8 = .ok (.lload_n 0, 1) := by decide +kernel
theorem d_K_Tally_markOf_9 : decode prog_9_method_14_code 9 = .ok (.ldc2_w 49, 3) := by decide +kernel
theorem d_K_Tally_markOf_12 : decode prog_9_method_14_code 12 = .ok (.ldiv, 1) := by decide +kernel
theorem d_K_Tally_markOf_13 : decode prog_9_method_14_code 13 = .ok (.l2i, 1) := by decide +kernel
theorem d_K_Tally_markOf_14 : decode prog_9_method_14_code 14 = .ok (.ishl, 1) := by decide +kernel
theorem d_K_Tally_markOf_15 : decode prog_9_method_14_code 15 = .ok (.ireturn, 1) := by decide +kernel
theorem d_K_Machine_addFault_0 : decode prog_5_method_2_code 0 = .ok (.aload_n 0, 1) := by decide +kernel
theorem d_K_Machine_addFault_1 : decode prog_5_method_2_code 1 = .ok (.getfield 21, 3) := by decide +kernel
theorem d_K_Machine_addFault_4 : decode prog_5_method_2_code 4 = .ok (.iconst 4, 1) := by decide +kernel
theorem d_K_Machine_addFault_5 : decode prog_5_method_2_code 5 = .ok (.if_icmp .lt 5, 3) := by decide +kernel
theorem d_K_Machine_addFault_10 : decode prog_5_method_2_code 10 = .ok (.aload_n 0, 1) := by decide +kernel
theorem d_K_Machine_addFault_11 : decode prog_5_method_2_code 11 = .ok (.getfield 9, 3) := by decide +kernel
theorem d_K_Machine_addFault_14 : decode prog_5_method_2_code 14 = .ok (.aload_n 0, 1) := by decide +kernel
theorem d_K_Machine_addFault_15 : decode prog_5_method_2_code 15 = .ok (.getfield 21, 3) := by decide +kernel
theorem d_K_Machine_addFault_18 : decode prog_5_method_2_code 18 = .ok (.iload_n 1, 1) := by decide +kernel
theorem d_K_Machine_addFault_19 : decode prog_5_method_2_code 19 = .ok (.iastore, 1) := by decide +kernel
theorem d_K_Machine_addFault_20 : decode prog_5_method_2_code 20 = .ok (.aload_n 0, 1) := by decide +kernel
theorem d_K_Machine_addFault_21 : decode prog_5_method_2_code 21 = .ok (.getfield 15, 3) := by decide +kernel
theorem d_K_Machine_addFault_24 : decode prog_5_method_2_code 24 = .ok (.aload_n 0, 1) := by decide +kernel
theorem d_K_Machine_addFault_25 : decode prog_5_method_2_code 25 = .ok (.getfield 21, 3) := by decide +kernel
theorem d_K_Machine_addFault_28 : decode prog_5_method_2_code 28 = .ok (.iload_n 2, 1) := by decide +kernel
theorem d_K_Machine_addFault_29 : decode prog_5_method_2_code 29 = .ok (.iastore, 1) := by decide +kernel
theorem d_K_Machine_addFault_30 : decode prog_5_method_2_code 30 = .ok (.aload_n 0, 1) := by decide +kernel
theorem d_K_Machine_addFault_31 : decode prog_5_method_2_code 31 = .ok (.getfield 18, 3) := by decide +kernel
theorem d_K_Machine_addFault_34 : decode prog_5_method_2_code 34 = .ok (.aload_n 0, 1) := by decide +kernel
theorem d_K_Machine_addFault_35 : decode prog_5_method_2_code 35 = .ok (.getfield 21, 3) := by decide +kernel
theorem d_K_Machine_addFault_38 : decode prog_5_method_2_code 38 = .ok (.iload_n 3, 1) := by decide +kernel
theorem d_K_Machine_addFault_39 : decode prog_5_method_2_code 39 = .ok (.iastore, 1) := by decide +kernel
theorem d_K_Machine_addFault_40 : decode prog_5_method_2_code 40 = .ok (.aload_n 0, 1) := by decide +kernel
theorem d_K_Machine_addFault_41 : decode prog_5_method_2_code 41 = .ok (.dup, 1) := by decide +kernel
theorem d_K_Machine_addFault_42 : decode prog_5_method_2_code 42 = .ok (.getfield 21, 3) := by decide +kernel
theorem d_K_Machine_addFault_45 : decode prog_5_method_2_code 45 = .ok (.iconst 1, 1) := by decide +kernel
theorem d_K_Machine_addFault_46 : decode prog_5_method_2_code 46 = .ok (.iadd, 1) := by decide +kernel
theorem d_K_Machine_addFault_47 : decode prog_5_method_2_code 47 = .ok (.putfield 21, 3) := by decide +kernel
theorem d_K_Machine_addFault_50 : decode prog_5_method_2_code 50 = .ok (.iconst 1, 1) := by decide +kernel
theorem d_K_Machine_addFault_51 : decode prog_5_method_2_code 51 = .ok (.ireturn, 1) := by decide +kernel
theorem d_K_Machine_addFault_8 : decode prog_5_method_2_code 8 = .ok (.iconst 0, 1) := by decide +kernel
theorem d_K_Machine_addFault_9 : decode prog_5_method_2_code 9 = .ok (.ireturn, 1) := by decide +kernel
theorem d_K_Machine_removeFaults_0 : decode prog_5_method_3_code 0 = .ok (.aload_n 0, 1) := by decide +kernel
theorem d_K_Machine_removeFaults_1 : decode prog_5_method_3_code 1 = .ok (.iconst 0, 1) := by decide +kernel
theorem d_K_Machine_removeFaults_2 : decode prog_5_method_3_code 2 = .ok (.putfield 21, 3) := by decide +kernel
theorem d_K_Machine_removeFaults_5 : decode prog_5_method_3_code 5 = .ok (.return_, 1) := by decide +kernel
theorem d_K_Machine_faultsHeld_0 : decode prog_5_method_4_code 0 = .ok (.aload_n 0, 1) := by decide +kernel
theorem d_K_Machine_faultsHeld_1 : decode prog_5_method_4_code 1 = .ok (.getfield 21, 3) := by decide +kernel
theorem d_K_Machine_faultsHeld_4 : decode prog_5_method_4_code 4 = .ok (.ireturn, 1) := by decide +kernel
theorem d_K_Exclusions_add_0 : decode prog_3_method_2_code 0 = .ok (.aload_n 0, 1) := by decide +kernel
theorem d_K_Exclusions_add_1 : decode prog_3_method_2_code 1 = .ok (.getfield 18, 3) := by decide +kernel
theorem d_K_Exclusions_add_4 : decode prog_3_method_2_code 4 = .ok (.bipush 6, 2) := by decide +kernel
theorem d_K_Exclusions_add_6 : decode prog_3_method_2_code 6 = .ok (.if_icmp .lt 5, 3) := by decide +kernel
theorem d_K_Exclusions_add_11 : decode prog_3_method_2_code 11 = .ok (.aload_n 0, 1) := by decide +kernel
theorem d_K_Exclusions_add_12 : decode prog_3_method_2_code 12 = .ok (.getfield 9, 3) := by decide +kernel
theorem d_K_Exclusions_add_15 : decode prog_3_method_2_code 15 = .ok (.aload_n 0, 1) := by decide +kernel
theorem d_K_Exclusions_add_16 : decode prog_3_method_2_code 16 = .ok (.getfield 18, 3) := by decide +kernel
theorem d_K_Exclusions_add_19 : decode prog_3_method_2_code 19 = .ok (.iload_n 1, 1) := by decide +kernel
theorem d_K_Exclusions_add_20 : decode prog_3_method_2_code 20 = .ok (.iastore, 1) := by decide +kernel
theorem d_K_Exclusions_add_21 : decode prog_3_method_2_code 21 = .ok (.aload_n 0, 1) := by decide +kernel
theorem d_K_Exclusions_add_22 : decode prog_3_method_2_code 22 = .ok (.getfield 15, 3) := by decide +kernel
theorem d_K_Exclusions_add_25 : decode prog_3_method_2_code 25 = .ok (.aload_n 0, 1) := by decide +kernel
theorem d_K_Exclusions_add_26 : decode prog_3_method_2_code 26 = .ok (.getfield 18, 3) := by decide +kernel
theorem d_K_Exclusions_add_29 : decode prog_3_method_2_code 29 = .ok (.iload_n 2, 1) := by decide +kernel
theorem d_K_Exclusions_add_30 : decode prog_3_method_2_code 30 = .ok (.iastore, 1) := by decide +kernel
theorem d_K_Exclusions_add_31 : decode prog_3_method_2_code 31 = .ok (.aload_n 0, 1) := by decide +kernel
theorem d_K_Exclusions_add_32 : decode prog_3_method_2_code 32 = .ok (.dup, 1) := by decide +kernel
theorem d_K_Exclusions_add_33 : decode prog_3_method_2_code 33 = .ok (.getfield 18, 3) := by decide +kernel
theorem d_K_Exclusions_add_36 : decode prog_3_method_2_code 36 = .ok (.iconst 1, 1) := by decide +kernel
theorem d_K_Exclusions_add_37 : decode prog_3_method_2_code 37 = .ok (.iadd, 1) := by decide +kernel
theorem d_K_Exclusions_add_38 : decode prog_3_method_2_code 38 = .ok (.putfield 18, 3) := by decide +kernel
theorem d_K_Exclusions_add_41 : decode prog_3_method_2_code 41 = .ok (.iconst 1, 1) := by decide +kernel
theorem d_K_Exclusions_add_42 : decode prog_3_method_2_code 42 = .ok (.ireturn, 1) := by decide +kernel
theorem d_K_Exclusions_add_9 : decode prog_3_method_2_code 9 = .ok (.iconst 0, 1) := by decide +kernel
theorem d_K_Exclusions_add_10 : decode prog_3_method_2_code 10 = .ok (.ireturn, 1) := by decide +kernel
theorem d_K_Exclusions_removeAll_0 : decode prog_3_method_3_code 0 = .ok (.aload_n 0, 1) := by decide +kernel
theorem d_K_Exclusions_removeAll_1 : decode prog_3_method_3_code 1 = .ok (.iconst 0, 1) := by decide +kernel
theorem d_K_Exclusions_removeAll_2 : decode prog_3_method_3_code 2 = .ok (.putfield 18, 3) := by decide +kernel
theorem d_K_Exclusions_removeAll_5 : decode prog_3_method_3_code 5 = .ok (.return_, 1) := by decide +kernel
theorem d_K_Exclusions_held_0 : decode prog_3_method_4_code 0 = .ok (.aload_n 0, 1) := by decide +kernel
end
section
theorem d_K_Exclusions_held_1 : decode prog_3_method_4_code 1 = .ok (.getfield 18, 3) := by decide +kernel
theorem d_K_Exclusions_held_4 : decode prog_3_method_4_code 4 = .ok (.ireturn, 1) := by decide +kernel
theorem d_K_Exclusions_leaveOut_0 : decode prog_3_method_5_code 0 = .ok (.iconst 0, 1) := by decide +kernel
theorem d_K_Exclusions_leaveOut_1 : decode prog_3_method_5_code 1 = .ok (.istore 4, 2) := by decide +kernel
theorem d_K_Exclusions_leaveOut_3 : decode prog_3_method_5_code 3 = .ok (.iload 4, 2) := by decide +kernel
theorem d_K_Exclusions_leaveOut_5 : decode prog_3_method_5_code 5 = .ok (.aload_n 0, 1) := by decide +kernel
theorem d_K_Exclusions_leaveOut_6 : decode prog_3_method_5_code 6 = .ok (.getfield 18, 3) := by decide +kernel
theorem d_K_Exclusions_leaveOut_9 : decode prog_3_method_5_code 9 = .ok (.if_icmp .ge 44, 3) := by decide +kernel
theorem d_K_Exclusions_leaveOut_53 : decode prog_3_method_5_code 53 = .ok (.iconst 0, 1) := by decide +kernel
theorem d_K_Exclusions_leaveOut_54 : decode prog_3_method_5_code 54 = .ok (.ireturn, 1) := by decide +kernel
theorem d_K_Exclusions_leaveOut_12 : decode prog_3_method_5_code 12 = .ok (.aload_n 0, 1) := by decide +kernel
theorem d_K_Exclusions_leaveOut_13 : decode prog_3_method_5_code 13 = .ok (.getfield 9, 3) := by decide +kernel
theorem d_K_Exclusions_leaveOut_16 : decode prog_3_method_5_code 16 = .ok (.iload 4, 2) := by decide +kernel
theorem d_K_Exclusions_leaveOut_18 : decode prog_3_method_5_code 18 = .ok (.iaload, 1) := by decide +kernel
theorem d_K_Exclusions_leaveOut_19 : decode prog_3_method_5_code 19 = .ok (.iload_n 1, 1) := by decide +kernel
theorem d_K_Exclusions_leaveOut_20 : decode prog_3_method_5_code 20 = .ok (.if_icmp .ne 27, 3) := by decide +kernel
theorem d_K_Exclusions_leaveOut_47 : decode prog_3_method_5_code 47 = .ok (.iinc 4 1, 3) := by decide +kernel
theorem d_K_Exclusions_leaveOut_50 : decode prog_3_method_5_code 50 = .ok (.goto (-47), 3) := by decide +kernel
theorem d_K_Exclusions_leaveOut_23 : decode prog_3_method_5_code 23 = .ok (.aload_n 0, 1) := by decide +kernel
theorem d_K_Exclusions_leaveOut_24 : decode prog_3_method_5_code 24 = .ok (.getfield 15, 3) := by decide +kernel
theorem d_K_Exclusions_leaveOut_27 : decode prog_3_method_5_code 27 = .ok (.iload 4, 2) := by decide +kernel
theorem d_K_Exclusions_leaveOut_29 : decode prog_3_method_5_code 29 = .ok (.iaload, 1) := by decide +kernel
theorem d_K_Exclusions_leaveOut_30 : decode prog_3_method_5_code 30 = .ok (.iload_n 2, 1) := by decide +kernel
theorem d_K_Exclusions_leaveOut_31 : decode prog_3_method_5_code 31 = .ok (.if_icmp .eq 14, 3) := by decide +kernel
theorem d_K_Exclusions_leaveOut_45 : decode prog_3_method_5_code 45 = .ok (.iconst 1, 1) := by decide +kernel
theorem d_K_Exclusions_leaveOut_46 : decode prog_3_method_5_code 46 = .ok (.ireturn, 1) := by decide +kernel
theorem d_K_Exclusions_leaveOut_34 : decode prog_3_method_5_code 34 = .ok (.aload_n 0, 1) := by decide +kernel
theorem d_K_Exclusions_leaveOut_35 : decode prog_3_method_5_code 35 = .ok (.getfield 15, 3) := by decide +kernel
theorem d_K_Exclusions_leaveOut_38 : decode prog_3_method_5_code 38 = .ok (.iload 4, 2) := by decide +kernel
theorem d_K_Exclusions_leaveOut_40 : decode prog_3_method_5_code 40 = .ok (.iaload, 1) := by decide +kernel
theorem d_K_Exclusions_leaveOut_41 : decode prog_3_method_5_code 41 = .ok (.iload_n 3, 1) := by decide +kernel
theorem d_K_Exclusions_leaveOut_42 : decode prog_3_method_5_code 42 = .ok (.if_icmp .ne 5, 3) := by decide +kernel
theorem d_K_Tally_taken_0 : decode prog_9_method_7_code 0 = .ok (.aload_n 0, 1) := by decide +kernel
theorem d_K_Tally_taken_1 : decode prog_9_method_7_code 1 = .ok (.getfield 9, 3) := by decide +kernel
theorem d_K_Tally_taken_4 : decode prog_9_method_7_code 4 = .ok (.iload_n 1, 1) := by decide +kernel
theorem d_K_Tally_taken_5 : decode prog_9_method_7_code 5 = .ok (.iaload, 1) := by decide +kernel
theorem d_K_Tally_taken_6 : decode prog_9_method_7_code 6 = .ok (.ireturn, 1) := by decide +kernel
theorem d_K_Tally_failed_0 : decode prog_9_method_8_code 0 = .ok (.aload_n 0, 1) := by decide +kernel
theorem d_K_Tally_failed_1 : decode prog_9_method_8_code 1 = .ok (.getfield 15, 3) := by decide +kernel
theorem d_K_Tally_failed_4 : decode prog_9_method_8_code 4 = .ok (.iload_n 1, 1) := by decide +kernel
theorem d_K_Tally_failed_5 : decode prog_9_method_8_code 5 = .ok (.iaload, 1) := by decide +kernel
theorem d_K_Tally_failed_6 : decode prog_9_method_8_code 6 = .ok (.ireturn, 1) := by decide +kernel
theorem d_K_Tally_marks_0 : decode prog_9_method_9_code 0 = .ok (.aload_n 0, 1) := by decide +kernel
theorem d_K_Tally_marks_1 : decode prog_9_method_9_code 1 = .ok (.getfield 18, 3) := by decide +kernel
theorem d_K_Tally_marks_4 : decode prog_9_method_9_code 4 = .ok (.iload_n 1, 1) := by decide +kernel
theorem d_K_Tally_marks_5 : decode prog_9_method_9_code 5 = .ok (.iaload, 1) := by decide +kernel
theorem d_K_Tally_marks_6 : decode prog_9_method_9_code 6 = .ok (.ireturn, 1) := by decide +kernel
theorem d_K_Tally_leftOut_0 : decode prog_9_method_6_code 0 = .ok (.aload_n 0, 1) := by decide +kernel
theorem d_K_Tally_leftOut_1 : decode prog_9_method_6_code 1 = .ok (.getfield 21, 3) := by decide +kernel
theorem d_K_Tally_leftOut_4 : decode prog_9_method_6_code 4 = .ok (.ireturn, 1) := by decide +kernel
theorem d_K_Tally_noteLeftOut_0 : decode prog_9_method_3_code 0 = .ok (.aload_n 0, 1) := by decide +kernel
theorem d_K_Tally_noteLeftOut_1 : decode prog_9_method_3_code 1 = .ok (.dup, 1) := by decide +kernel
theorem d_K_Tally_noteLeftOut_2 : decode prog_9_method_3_code 2 = .ok (.getfield 21, 3) := by decide +kernel
theorem d_K_Tally_noteLeftOut_5 : decode prog_9_method_3_code 5 = .ok (.iconst 1, 1) := by decide +kernel
theorem d_K_Tally_noteLeftOut_6 : decode prog_9_method_3_code 6 = .ok (.iadd, 1) := by decide +kernel
theorem d_K_Tally_noteLeftOut_7 : decode prog_9_method_3_code 7 = .ok (.putfield 21, 3) := by decide +kernel
theorem d_K_Tally_noteLeftOut_10 : decode prog_9_method_3_code 10 = .ok (.return_, 1) := by decide +kernel
theorem d_K_Tally_noteFailed_0 : decode prog_9_method_5_code 0 = .ok (.aload_n 0, 1) := by decide +kernel
theorem d_K_Tally_noteFailed_1 : decode prog_9_method_5_code 1 = .ok (.getfield 15, 3) := by decide +kernel
theorem d_K_Tally_noteFailed_4 : decode prog_9_method_5_code 4 = .ok (.iload_n 1, 1) := by decide +kernel
theorem d_K_Tally_noteFailed_5 : decode prog_9_method_5_code 5 = .ok (.dup2, 1) := by decide +kernel
theorem d_K_Tally_noteFailed_6 : decode prog_9_method_5_code 6 = .ok (.iaload, 1) := by decide +kernel
theorem d_K_Tally_noteFailed_7 : decode prog_9_method_5_code 7 = .ok (.iconst 1, 1) := by decide +kernel
theorem d_K_Tally_noteFailed_8 : decode prog_9_method_5_code 8 = .ok (.iadd, 1) := by decide +kernel
theorem d_K_Tally_noteFailed_9 : decode prog_9_method_5_code 9 = .ok (.iastore, 1) := by decide +kernel
theorem d_K_Tally_noteFailed_10 : decode prog_9_method_5_code 10 = .ok (.return_, 1) := by decide +kernel
theorem d_K_Tally_noteTaken_0 : decode prog_9_method_4_code 0 = .ok (.aload_n 0, 1) := by decide +kernel
theorem d_K_Tally_noteTaken_1 : decode prog_9_method_4_code 1 = .ok (.getfield 9, 3) := by decide +kernel
theorem d_K_Tally_noteTaken_4 : decode prog_9_method_4_code 4 = .ok (.iload_n 1, 1) := by decide +kernel
theorem d_K_Tally_noteTaken_5 : decode prog_9_method_4_code 5 = .ok (.dup2, 1) := by decide +kernel
theorem d_K_Tally_noteTaken_6 : decode prog_9_method_4_code 6 = .ok (.iaload, 1) := by decide +kernel
theorem d_K_Tally_noteTaken_7 : decode prog_9_method_4_code 7 = .ok (.iconst 1, 1) := by decide +kernel
theorem d_K_Tally_noteTaken_8 : decode prog_9_method_4_code 8 = .ok (.iadd, 1) := by decide +kernel
theorem d_K_Tally_noteTaken_9 : decode prog_9_method_4_code 9 = .ok (.iastore, 1) := by decide +kernel
theorem d_K_Tally_noteTaken_10 : decode prog_9_method_4_code 10 = .ok (.aload_n 0, 1) := by decide +kernel
theorem d_K_Tally_noteTaken_11 : decode prog_9_method_4_code 11 = .ok (.getfield 18, 3) := by decide +kernel
theorem d_K_Tally_noteTaken_14 : decode prog_9_method_4_code 14 = .ok (.iload_n 1, 1) := by decide +kernel
theorem d_K_Tally_noteTaken_15 : decode prog_9_method_4_code 15 = .ok (.dup2, 1) := by decide +kernel
theorem d_K_Tally_noteTaken_16 : decode prog_9_method_4_code 16 = .ok (.iaload, 1) := by decide +kernel
theorem d_K_Tally_noteTaken_17 : decode prog_9_method_4_code 17 = .ok (.lload_n 2, 1) := by decide +kernel
theorem d_K_Tally_noteTaken_18 : decode prog_9_method_4_code 18 = .ok (.invokestatic 31, 3) := by decide +kernel
theorem d_K_Tally_noteTaken_21 : decode prog_9_method_4_code 21 = .ok (.ior, 1) := by decide +kernel
theorem d_K_Tally_noteTaken_22 : decode prog_9_method_4_code 22 = .ok (.iastore, 1) := by decide +kernel
theorem d_K_Tally_noteTaken_23 : decode prog_9_method_4_code 23 = .ok (.return_, 1) := by decide +kernel
theorem d_K_FailureList_forget_0 : decode prog_4_method_2_code 0 = .ok (.aload_n 0, 1) := by decide +kernel
theorem d_K_FailureList_forget_1 : decode prog_4_method_2_code 1 = .ok (.iconst 0, 1) := by decide +kernel
theorem d_K_FailureList_forget_2 : decode prog_4_method_2_code 2 = .ok (.putfield 28, 3) := by decide +kernel
theorem d_K_FailureList_forget_5 : decode prog_4_method_2_code 5 = .ok (.return_, 1) := by decide +kernel
theorem d_K_FailureList_held_0 : decode prog_4_method_3_code 0 = .ok (.aload_n 0, 1) := by decide +kernel
theorem d_K_FailureList_held_1 : decode prog_4_method_3_code 1 = .ok (.getfield 28, 3) := by decide +kernel
theorem d_K_FailureList_held_4 : decode prog_4_method_3_code 4 = .ok (.ireturn, 1) := by decide +kernel
theorem d_K_FailureList_entry_0 : decode prog_4_method_5_code 0 = .ok (.aload_n 0, 1) := by decide +kernel
theorem d_K_FailureList_entry_1 : decode prog_4_method_5_code 1 = .ok (.getfield 9, 3) := by decide +kernel
theorem d_K_FailureList_entry_4 : decode prog_4_method_5_code 4 = .ok (.iload_n 1, 1) := by decide +kernel
theorem d_K_FailureList_entry_5 : decode prog_4_method_5_code 5 = .ok (.iaload, 1) := by decide +kernel
theorem d_K_FailureList_entry_6 : decode prog_4_method_5_code 6 = .ok (.ireturn, 1) := by decide +kernel
theorem d_K_FailureList_placeOfA_0 : decode prog_4_method_6_code 0 = .ok (.aload_n 0, 1) := by decide +kernel
theorem d_K_FailureList_placeOfA_1 : decode prog_4_method_6_code 1 = .ok (.getfield 15, 3) := by decide +kernel
theorem d_K_FailureList_placeOfA_4 : decode prog_4_method_6_code 4 = .ok (.iload_n 1, 1) := by decide +kernel
theorem d_K_FailureList_placeOfA_5 : decode prog_4_method_6_code 5 = .ok (.iaload, 1) := by decide +kernel
theorem d_K_FailureList_placeOfA_6 : decode prog_4_method_6_code 6 = .ok (.ireturn, 1) := by decide +kernel
theorem d_K_FailureList_placeOfB_0 : decode prog_4_method_7_code 0 = .ok (.aload_n 0, 1) := by decide +kernel
theorem d_K_FailureList_placeOfB_1 : decode prog_4_method_7_code 1 = .ok (.getfield 18, 3) := by decide +kernel
theorem d_K_FailureList_placeOfB_4 : decode prog_4_method_7_code 4 = .ok (.iload_n 1, 1) := by decide +kernel
theorem d_K_FailureList_placeOfB_5 : decode prog_4_method_7_code 5 = .ok (.iaload, 1) := by decide +kernel
theorem d_K_FailureList_placeOfB_6 : decode prog_4_method_7_code 6 = .ok (.ireturn, 1) := by decide +kernel
theorem d_K_FailureList_foretold_0 : decode prog_4_method_8_code 0 = .ok (.aload_n 0, 1) := by decide +kernel
theorem d_K_FailureList_foretold_1 : decode prog_4_method_8_code 1 = .ok (.getfield 21, 3) := by decide +kernel
theorem d_K_FailureList_foretold_4 : decode prog_4_method_8_code 4 = .ok (.iload_n 1, 1) := by decide +kernel
theorem d_K_FailureList_foretold_5 : decode prog_4_method_8_code 5 = .ok (.laload, 1) := by decide +kernel
theorem d_K_FailureList_foretold_6 : decode prog_4_method_8_code 6 = .ok (.lreturn, 1) := by decide +kernel
theorem d_K_FailureList_given_0 : decode prog_4_method_9_code 0 = .ok (.aload_n 0, 1) := by decide +kernel
theorem d_K_FailureList_given_1 : decode prog_4_method_9_code 1 = .ok (.getfield 25, 3) := by decide +kernel
theorem d_K_FailureList_given_4 : decode prog_4_method_9_code 4 = .ok (.iload_n 1, 1) := by decide +kernel
theorem d_K_FailureList_given_5 : decode prog_4_method_9_code 5 = .ok (.laload, 1) := by decide +kernel
theorem d_K_FailureList_given_6 : decode prog_4_method_9_code 6 = .ok (.lreturn, 1) := by decide +kernel
theorem d_K_FailureList_keep_0 : decode prog_4_method_4_code 0 = .ok (.aload_n 0, 1) := by decide +kernel
theorem d_K_FailureList_keep_1 : decode prog_4_method_4_code 1 = .ok (.getfield 28, 3) := by decide +kernel
theorem d_K_FailureList_keep_4 : decode prog_4_method_4_code 4 = .ok (.bipush 12, 2) := by decide +kernel
theorem d_K_FailureList_keep_6 : decode prog_4_method_4_code 6 = .ok (.if_icmp .lt 4, 3) := by decide +kernel
theorem d_K_FailureList_keep_10 : decode prog_4_method_4_code 10 = .ok (.aload_n 0, 1) := by decide +kernel
theorem d_K_FailureList_keep_11 : decode prog_4_method_4_code 11 = .ok (.getfield 9, 3) := by decide +kernel
theorem d_K_FailureList_keep_14 : decode prog_4_method_4_code 14 = .ok (.aload_n 0, 1) := by decide +kernel
theorem d_K_FailureList_keep_15 : decode prog_4_method_4_code 15 = .ok (.getfield 28, 3) := by decide +kernel
theorem d_K_FailureList_keep_18 : decode prog_4_method_4_code 18 = .ok (.iload_n 1, 1) := by decide +kernel
theorem d_K_FailureList_keep_19 : decode prog_4_method_4_code 19 = .ok (.iastore, 1) := by decide +kernel
theorem d_K_FailureList_keep_20 : decode prog_4_method_4_code 20 = .ok (.aload_n 0, 1) := by decide +kernel
theorem d_K_FailureList_keep_21 : decode prog_4_method_4_code 21 = .ok (.getfield 15, 3) := by decide +kernel
theorem d_K_FailureList_keep_24 : decode prog_4_method_4_code 24 = .ok (.aload_n 0, 1) := by decide +kernel
theorem d_K_FailureList_keep_25 : decode prog_4_method_4_code 25 = .ok (.getfield 28, 3) := by decide +kernel
theorem d_K_FailureList_keep_28 : decode prog_4_method_4_code 28 = .ok (.iload_n 2, 1) := by decide +kernel
theorem d_K_FailureList_keep_29 : decode prog_4_method_4_code 29 = .ok (.iastore, 1) := by decide +kernel
theorem d_K_FailureList_keep_30 : decode prog_4_method_4_code 30 = .ok (.aload_n 0, 1) := by decide +kernel
theorem d_K_FailureList_keep_31 : decode prog_4_method_4_code 31 = .ok (.getfield 18, 3) := by decide +kernel
theorem d_K_FailureList_keep_34 : decode prog_4_method_4_code 34 = .ok (.aload_n 0, 1) := by decide +kernel
theorem d_K_FailureList_keep_35 : decode prog_4_method_4_code 35 = .ok (.getfield 28, 3) := by decide +kernel
theorem d_K_FailureList_keep_38 : decode prog_4_method_4_code 38 = .ok (.iload_n 3, 1) := by decide +kernel
theorem d_K_FailureList_keep_39 : decode prog_4_method_4_code 39 = .ok (.iastore, 1) := by decide +kernel
theorem d_K_FailureList_keep_40 : decode prog_4_method_4_code 40 = .ok (.aload_n 0, 1) := by decide +kernel
theorem d_K_FailureList_keep_41 : decode prog_4_method_4_code 41 = .ok (.getfield 21, 3) := by decide +kernel
theorem d_K_FailureList_keep_44 : decode prog_4_method_4_code 44 = .ok (.aload_n 0, 1) := by decide +kernel
theorem d_K_FailureList_keep_45 : decode prog_4_method_4_code 45 = .ok (.getfield 28, 3) := by decide +kernel
theorem d_K_FailureList_keep_48 : decode prog_4_method_4_code 48 = .ok (.lload 4, 2) := by decide +kernel
theorem d_K_FailureList_keep_50 : decode prog_4_method_4_code 50 = .ok (.lastore, 1) := by decide +kernel
theorem d_K_FailureList_keep_51 : decode prog_4_method_4_code 51 = .ok (.aload_n 0, 1) := by decide +kernel
theorem d_K_FailureList_keep_52 : decode prog_4_method_4_code 52 = .ok (.getfield 25, 3) := by decide +kernel
theorem d_K_FailureList_keep_55 : decode prog_4_method_4_code 55 = .ok (.aload_n 0, 1) := by decide +kernel
theorem d_K_FailureList_keep_56 : decode prog_4_method_4_code 56 = .ok (.getfield 28, 3) := by decide +kernel
theorem d_K_FailureList_keep_59 : decode prog_4_method_4_code 59 = .ok (.lload 6, 2) := by decide +kernel
theorem d_K_FailureList_keep_61 : decode prog_4_method_4_code 61 = .ok (.lastore, 1) := by decide +kernel
theorem d_K_FailureList_keep_62 : decode prog_4_method_4_code 62 = .ok (.aload_n 0, 1) := by decide +kernel
theorem d_K_FailureList_keep_63 : decode prog_4_method_4_code 63 = .ok (.dup, 1) := by decide +kernel
theorem d_K_FailureList_keep_64 : decode prog_4_method_4_code 64 = .ok (.getfield 28, 3) := by decide +kernel
theorem d_K_FailureList_keep_67 : decode prog_4_method_4_code 67 = .ok (.iconst 1, 1) := by decide +kernel
theorem d_K_FailureList_keep_68 : decode prog_4_method_4_code 68 = .ok (.iadd, 1) := by decide +kernel
theorem d_K_FailureList_keep_69 : decode prog_4_method_4_code 69 = .ok (.putfield 28, 3) := by decide +kernel
theorem d_K_FailureList_keep_72 : decode prog_4_method_4_code 72 = .ok (.return_, 1) := by decide +kernel
theorem d_K_FailureList_keep_9 : decode prog_4_method_4_code 9 = .ok (.return_, 1) := by decide +kernel
theorem d_K_Report_forget_0 : decode prog_7_method_2_code 0 = .ok (.aload_n 0, 1) := by decide +kernel
theorem d_K_Report_forget_1 : decode prog_7_method_2_code 1 = .ok (.iconst 0, 1) := by decide +kernel
end
section
theorem d_K_Report_forget_2 : decode prog_7_method_2_code 2 = .ok (.putfield 15, 3) := by decide +kernel
theorem d_K_Report_forget_5 : decode prog_7_method_2_code 5 = .ok (.return_, 1) := by decide +kernel
theorem d_K_Report_length_0 : decode prog_7_method_3_code 0 = .ok (.aload_n 0, 1) := by decide +kernel
theorem d_K_Report_length_1 : decode prog_7_method_3_code 1 = .ok (.getfield 15, 3) := by decide +kernel
theorem d_K_Report_length_4 : decode prog_7_method_3_code 4 = .ok (.ireturn, 1) := by decide +kernel
theorem d_K_Report_put_0 : decode prog_7_method_5_code 0 = .ok (.aload_n 0, 1) := by decide +kernel
theorem d_K_Report_put_1 : decode prog_7_method_5_code 1 = .ok (.getfield 15, 3) := by decide +kernel
theorem d_K_Report_put_4 : decode prog_7_method_5_code 4 = .ok (.sipush 256, 3) := by decide +kernel
theorem d_K_Report_put_7 : decode prog_7_method_5_code 7 = .ok (.if_icmp .ge 23, 3) := by decide +kernel
theorem d_K_Report_put_30 : decode prog_7_method_5_code 30 = .ok (.return_, 1) := by decide +kernel
theorem d_K_Report_put_10 : decode prog_7_method_5_code 10 = .ok (.aload_n 0, 1) := by decide +kernel
theorem d_K_Report_put_11 : decode prog_7_method_5_code 11 = .ok (.getfield 9, 3) := by decide +kernel
theorem d_K_Report_put_14 : decode prog_7_method_5_code 14 = .ok (.aload_n 0, 1) := by decide +kernel
theorem d_K_Report_put_15 : decode prog_7_method_5_code 15 = .ok (.getfield 15, 3) := by decide +kernel
theorem d_K_Report_put_18 : decode prog_7_method_5_code 18 = .ok (.iload_n 1, 1) := by decide +kernel
theorem d_K_Report_put_19 : decode prog_7_method_5_code 19 = .ok (.castore, 1) := by decide +kernel
theorem d_K_Report_put_20 : decode prog_7_method_5_code 20 = .ok (.aload_n 0, 1) := by decide +kernel
theorem d_K_Report_put_21 : decode prog_7_method_5_code 21 = .ok (.dup, 1) := by decide +kernel
theorem d_K_Report_put_22 : decode prog_7_method_5_code 22 = .ok (.getfield 15, 3) := by decide +kernel
theorem d_K_Report_put_25 : decode prog_7_method_5_code 25 = .ok (.iconst 1, 1) := by decide +kernel
theorem d_K_Report_put_26 : decode prog_7_method_5_code 26 = .ok (.iadd, 1) := by decide +kernel
theorem d_K_Report_put_27 : decode prog_7_method_5_code 27 = .ok (.putfield 15, 3) := by decide +kernel
theorem d_K_Shrinker_steps_0 : decode prog_8_method_5_code 0 = .ok (.aload_n 0, 1) := by decide +kernel
theorem d_K_Shrinker_steps_1 : decode prog_8_method_5_code 1 = .ok (.getfield 18, 3) := by decide +kernel
theorem d_K_Shrinker_steps_4 : decode prog_8_method_5_code 4 = .ok (.ireturn, 1) := by decide +kernel
theorem d_K_Shrinker_a_0 : decode prog_8_method_3_code 0 = .ok (.getstatic 34, 3) := by decide +kernel
theorem d_K_Shrinker_a_3 : decode prog_8_method_3_code 3 = .ok (.aload_n 0, 1) := by decide +kernel
theorem d_K_Shrinker_a_4 : decode prog_8_method_3_code 4 = .ok (.getfield 9, 3) := by decide +kernel
theorem d_K_Shrinker_a_7 : decode prog_8_method_3_code 7 = .ok (.iaload, 1) := by decide +kernel
theorem d_K_Shrinker_a_8 : decode prog_8_method_3_code 8 = .ok (.ireturn, 1) := by decide +kernel
theorem d_K_Shrinker_b_0 : decode prog_8_method_4_code 0 = .ok (.getstatic 34, 3) := by decide +kernel
theorem d_K_Shrinker_b_3 : decode prog_8_method_4_code 3 = .ok (.aload_n 0, 1) := by decide +kernel
theorem d_K_Shrinker_b_4 : decode prog_8_method_4_code 4 = .ok (.getfield 15, 3) := by decide +kernel
theorem d_K_Shrinker_b_7 : decode prog_8_method_4_code 7 = .ok (.iaload, 1) := by decide +kernel
theorem d_K_Shrinker_b_8 : decode prog_8_method_4_code 8 = .ok (.ireturn, 1) := by decide +kernel
theorem d_K_PairBook_held_0 : decode prog_6_method_3_code 0 = .ok (.aload_n 0, 1) := by decide +kernel
theorem d_K_PairBook_held_1 : decode prog_6_method_3_code 1 = .ok (.getfield 21, 3) := by decide +kernel
theorem d_K_PairBook_held_4 : decode prog_6_method_3_code 4 = .ok (.ireturn, 1) := by decide +kernel
theorem d_K_EntryPoints_foretell_0 : decode prog_2_method_3_code 0 = .ok (.iload_n 0, 1) := by decide +kernel
theorem d_K_EntryPoints_foretell_1 : decode prog_2_method_3_code 1 = .ok (.tableswitch 226 0 14 #[75, 80, 85, 90, 105, 120, 125, 130, 135, 139, 143, 170, 192, 197, 211], 75) := by decide +kernel
theorem d_K_EntryPoints_foretell_76 : decode prog_2_method_3_code 76 = .ok (.iload_n 1, 1) := by decide +kernel
theorem d_K_EntryPoints_foretell_77 : decode prog_2_method_3_code 77 = .ok (.iload_n 2, 1) := by decide +kernel
theorem d_K_EntryPoints_foretell_78 : decode prog_2_method_3_code 78 = .ok (.iadd, 1) := by decide +kernel
theorem d_K_EntryPoints_foretell_79 : decode prog_2_method_3_code 79 = .ok (.i2l, 1) := by decide +kernel
theorem d_K_EntryPoints_foretell_80 : decode prog_2_method_3_code 80 = .ok (.lreturn, 1) := by decide +kernel
theorem d_K_EntryPoints_foretell_81 : decode prog_2_method_3_code 81 = .ok (.iload_n 1, 1) := by decide +kernel
theorem d_K_EntryPoints_foretell_82 : decode prog_2_method_3_code 82 = .ok (.iload_n 2, 1) := by decide +kernel
theorem d_K_EntryPoints_foretell_83 : decode prog_2_method_3_code 83 = .ok (.isub, 1) := by decide +kernel
theorem d_K_EntryPoints_foretell_84 : decode prog_2_method_3_code 84 = .ok (.i2l, 1) := by decide +kernel
theorem d_K_EntryPoints_foretell_85 : decode prog_2_method_3_code 85 = .ok (.lreturn, 1) := by decide +kernel
theorem d_K_EntryPoints_foretell_86 : decode prog_2_method_3_code 86 = .ok (.iload_n 1, 1) := by decide +kernel
theorem d_K_EntryPoints_foretell_87 : decode prog_2_method_3_code 87 = .ok (.iload_n 2, 1) := by decide +kernel
theorem d_K_EntryPoints_foretell_88 : decode prog_2_method_3_code 88 = .ok (.imul, 1) := by decide +kernel
theorem d_K_EntryPoints_foretell_89 : decode prog_2_method_3_code 89 = .ok (.i2l, 1) := by decide +kernel
theorem d_K_EntryPoints_foretell_90 : decode prog_2_method_3_code 90 = .ok (.lreturn, 1) := by decide +kernel
theorem d_K_EntryPoints_foretell_91 : decode prog_2_method_3_code 91 = .ok (.iload_n 2, 1) := by decide +kernel
theorem d_K_EntryPoints_foretell_92 : decode prog_2_method_3_code 92 = .ok (.ifCond .ne 9, 3) := by decide +kernel
theorem d_K_EntryPoints_foretell_101 : decode prog_2_method_3_code 101 = .ok (.iload_n 1, 1) := by decide +kernel
theorem d_K_EntryPoints_foretell_102 : decode prog_2_method_3_code 102 = .ok (.iload_n 2, 1) := by decide +kernel
theorem d_K_EntryPoints_foretell_103 : decode prog_2_method_3_code 103 = .ok (.idiv, 1) := by decide +kernel
theorem d_K_EntryPoints_foretell_104 : decode prog_2_method_3_code 104 = .ok (.i2l, 1) := by decide +kernel
theorem d_K_EntryPoints_foretell_105 : decode prog_2_method_3_code 105 = .ok (.lreturn, 1) := by decide +kernel
theorem d_K_EntryPoints_foretell_95 : decode prog_2_method_3_code 95 = .ok (.ldc2_w 41, 3) := by decide +kernel
theorem d_K_EntryPoints_foretell_98 : decode prog_2_method_3_code 98 = .ok (.goto 7, 3) := by decide +kernel
theorem d_K_EntryPoints_foretell_106 : decode prog_2_method_3_code 106 = .ok (.iload_n 2, 1) := by decide +kernel
theorem d_K_EntryPoints_foretell_107 : decode prog_2_method_3_code 107 = .ok (.ifCond .ne 9, 3) := by decide +kernel
theorem d_K_EntryPoints_foretell_116 : decode prog_2_method_3_code 116 = .ok (.iload_n 1, 1) := by decide +kernel
theorem d_K_EntryPoints_foretell_117 : decode prog_2_method_3_code 117 = .ok (.iload_n 2, 1) := by decide +kernel
theorem d_K_EntryPoints_foretell_118 : decode prog_2_method_3_code 118 = .ok (.irem, 1) := by decide +kernel
theorem d_K_EntryPoints_foretell_119 : decode prog_2_method_3_code 119 = .ok (.i2l, 1) := by decide +kernel
theorem d_K_EntryPoints_foretell_120 : decode prog_2_method_3_code 120 = .ok (.lreturn, 1) := by decide +kernel
theorem d_K_EntryPoints_foretell_110 : decode prog_2_method_3_code 110 = .ok (.ldc2_w 41, 3) := by decide +kernel
theorem d_K_EntryPoints_foretell_113 : decode prog_2_method_3_code 113 = .ok (.goto 7, 3) := by decide +kernel
theorem d_K_EntryPoints_foretell_121 : decode prog_2_method_3_code 121 = .ok (.iload_n 1, 1) := by decide +kernel
theorem d_K_EntryPoints_foretell_122 : decode prog_2_method_3_code 122 = .ok (.iload_n 2, 1) := by decide +kernel
theorem d_K_EntryPoints_foretell_123 : decode prog_2_method_3_code 123 = .ok (.ishl, 1) := by decide +kernel
theorem d_K_EntryPoints_foretell_124 : decode prog_2_method_3_code 124 = .ok (.i2l, 1) := by decide +kernel
theorem d_K_EntryPoints_foretell_125 : decode prog_2_method_3_code 125 = .ok (.lreturn, 1) := by decide +kernel
theorem d_K_EntryPoints_foretell_126 : decode prog_2_method_3_code 126 = .ok (.iload_n 1, 1) := by decide +kernel
theorem d_K_EntryPoints_foretell_127 : decode prog_2_method_3_code 127 = .ok (.iload_n 2, 1) := by decide +kernel
theorem d_K_EntryPoints_foretell_128 : decode prog_2_method_3_code 128 = .ok (.ishr, 1) := by decide +kernel
theorem d_K_EntryPoints_foretell_129 : decode prog_2_method_3_code 129 = .ok (.i2l, 1) := by decide +kernel
theorem d_K_EntryPoints_foretell_130 : decode prog_2_method_3_code 130 = .ok (.lreturn, 1) := by decide +kernel
theorem d_K_EntryPoints_foretell_131 : decode prog_2_method_3_code 131 = .ok (.iload_n 1, 1) := by decide +kernel
theorem d_K_EntryPoints_foretell_132 : decode prog_2_method_3_code 132 = .ok (.iload_n 2, 1) := by decide +kernel
theorem d_K_EntryPoints_foretell_133 : decode prog_2_method_3_code 133 = .ok (.iushr, 1) := by decide +kernel
theorem d_K_EntryPoints_foretell_134 : decode prog_2_method_3_code 134 = .ok (.i2l, 1) := by decide +kernel
theorem d_K_EntryPoints_foretell_135 : decode prog_2_method_3_code 135 = .ok (.lreturn, 1) := by decide +kernel
theorem d_K_EntryPoints_foretell_136 : decode prog_2_method_3_code 136 = .ok (.iload_n 1, 1) := by decide +kernel
theorem d_K_EntryPoints_foretell_137 : decode prog_2_method_3_code 137 = .ok (.i2b, 1) := by decide +kernel
theorem d_K_EntryPoints_foretell_138 : decode prog_2_method_3_code 138 = .ok (.i2l, 1) := by decide +kernel
theorem d_K_EntryPoints_foretell_139 : decode prog_2_method_3_code 139 = .ok (.lreturn, 1) := by decide +kernel
theorem d_K_EntryPoints_foretell_140 : decode prog_2_method_3_code 140 = .ok (.iload_n 1, 1) := by decide +kernel
theorem d_K_EntryPoints_foretell_141 : decode prog_2_method_3_code 141 = .ok (.i2c, 1) := by decide +kernel
theorem d_K_EntryPoints_foretell_142 : decode prog_2_method_3_code 142 = .ok (.i2l, 1) := by decide +kernel
theorem d_K_EntryPoints_foretell_143 : decode prog_2_method_3_code 143 = .ok (.lreturn, 1) := by decide +kernel
theorem d_K_EntryPoints_foretell_144 : decode prog_2_method_3_code 144 = .ok (.iload_n 1, 1) := by decide +kernel
theorem d_K_EntryPoints_foretell_145 : decode prog_2_method_3_code 145 = .ok (.ifCond .lt 12, 3) := by decide +kernel
theorem d_K_EntryPoints_foretell_157 : decode prog_2_method_3_code 157 = .ok (.ldc2_w 53, 3) := by decide +kernel
theorem d_K_EntryPoints_foretell_160 : decode prog_2_method_3_code 160 = .ok (.goto 10, 3) := by decide +kernel
theorem d_K_EntryPoints_foretell_170 : decode prog_2_method_3_code 170 = .ok (.lreturn, 1) := by decide +kernel
theorem d_K_EntryPoints_foretell_148 : decode prog_2_method_3_code 148 = .ok (.iload_n 1, 1) := by decide +kernel
theorem d_K_EntryPoints_foretell_149 : decode prog_2_method_3_code 149 = .ok (.ldc 45, 2) := by decide +kernel
theorem d_K_EntryPoints_foretell_151 : decode prog_2_method_3_code 151 = .ok (.invokevirtual 47, 3) := by decide +kernel
theorem d_K_EntryPoints_foretell_154 : decode prog_2_method_3_code 154 = .ok (.if_icmp .lt 9, 3) := by decide +kernel
theorem d_K_EntryPoints_foretell_163 : decode prog_2_method_3_code 163 = .ok (.ldc 45, 2) := by decide +kernel
theorem d_K_EntryPoints_foretell_165 : decode prog_2_method_3_code 165 = .ok (.iload_n 1, 1) := by decide +kernel
theorem d_K_EntryPoints_foretell_166 : decode prog_2_method_3_code 166 = .ok (.invokevirtual 55, 3) := by decide +kernel
theorem d_K_EntryPoints_foretell_169 : decode prog_2_method_3_code 169 = .ok (.i2l, 1) := by decide +kernel
theorem d_K_EntryPoints_foretell_171 : decode prog_2_method_3_code 171 = .ok (.iload_n 2, 1) := by decide +kernel
theorem d_K_EntryPoints_foretell_172 : decode prog_2_method_3_code 172 = .ok (.ifCond .lt 8, 3) := by decide +kernel
theorem d_K_EntryPoints_foretell_180 : decode prog_2_method_3_code 180 = .ok (.ldc2_w 53, 3) := by decide +kernel
theorem d_K_EntryPoints_foretell_183 : decode prog_2_method_3_code 183 = .ok (.goto 9, 3) := by decide +kernel
theorem d_K_EntryPoints_foretell_192 : decode prog_2_method_3_code 192 = .ok (.lreturn, 1) := by decide +kernel
theorem d_K_EntryPoints_foretell_175 : decode prog_2_method_3_code 175 = .ok (.iload_n 2, 1) := by decide +kernel
theorem d_K_EntryPoints_foretell_176 : decode prog_2_method_3_code 176 = .ok (.iconst 3, 1) := by decide +kernel
theorem d_K_EntryPoints_foretell_177 : decode prog_2_method_3_code 177 = .ok (.if_icmp .lt 9, 3) := by decide +kernel
theorem d_K_EntryPoints_foretell_186 : decode prog_2_method_3_code 186 = .ok (.getstatic 59, 3) := by decide +kernel
theorem d_K_EntryPoints_foretell_189 : decode prog_2_method_3_code 189 = .ok (.iload_n 2, 1) := by decide +kernel
theorem d_K_EntryPoints_foretell_190 : decode prog_2_method_3_code 190 = .ok (.iaload, 1) := by decide +kernel
theorem d_K_EntryPoints_foretell_191 : decode prog_2_method_3_code 191 = .ok (.i2l, 1) := by decide +kernel
theorem d_K_EntryPoints_foretell_193 : decode prog_2_method_3_code 193 = .ok (.iload_n 1, 1) := by decide +kernel
theorem d_K_EntryPoints_foretell_194 : decode prog_2_method_3_code 194 = .ok (.invokestatic 63, 3) := by decide +kernel
theorem d_K_EntryPoints_foretell_197 : decode prog_2_method_3_code 197 = .ok (.lreturn, 1) := by decide +kernel
theorem d_K_EntryPoints_foretell_198 : decode prog_2_method_3_code 198 = .ok (.iload_n 1, 1) := by decide +kernel
theorem d_K_EntryPoints_foretell_199 : decode prog_2_method_3_code 199 = .ok (.iload_n 2, 1) := by decide +kernel
theorem d_K_EntryPoints_foretell_200 : decode prog_2_method_3_code 200 = .ok (.if_icmp .ne 8, 3) := by decide +kernel
theorem d_K_EntryPoints_foretell_208 : decode prog_2_method_3_code 208 = .ok (.ldc2_w 67, 3) := by decide +kernel
theorem d_K_EntryPoints_foretell_211 : decode prog_2_method_3_code 211 = .ok (.lreturn, 1) := by decide +kernel
theorem d_K_EntryPoints_foretell_203 : decode prog_2_method_3_code 203 = .ok (.iload_n 1, 1) := by decide +kernel
theorem d_K_EntryPoints_foretell_204 : decode prog_2_method_3_code 204 = .ok (.i2l, 1) := by decide +kernel
theorem d_K_EntryPoints_foretell_205 : decode prog_2_method_3_code 205 = .ok (.goto 6, 3) := by decide +kernel
theorem d_K_EntryPoints_foretell_212 : decode prog_2_method_3_code 212 = .ok (.iload_n 1, 1) := by decide +kernel
theorem d_K_EntryPoints_foretell_213 : decode prog_2_method_3_code 213 = .ok (.iload_n 2, 1) := by decide +kernel
theorem d_K_EntryPoints_foretell_214 : decode prog_2_method_3_code 214 = .ok (.if_icmp .le 9, 3) := by decide +kernel
theorem d_K_EntryPoints_foretell_223 : decode prog_2_method_3_code 223 = .ok (.ldc2_w 71, 3) := by decide +kernel
theorem d_K_EntryPoints_foretell_226 : decode prog_2_method_3_code 226 = .ok (.lreturn, 1) := by decide +kernel
theorem d_K_EntryPoints_foretell_217 : decode prog_2_method_3_code 217 = .ok (.ldc2_w 69, 3) := by decide +kernel
theorem d_K_EntryPoints_foretell_220 : decode prog_2_method_3_code 220 = .ok (.goto 6, 3) := by decide +kernel
theorem d_K_EntryPoints_foretell_227 : decode prog_2_method_3_code 227 = .ok (.iload_n 1, 1) := by decide +kernel
theorem d_K_EntryPoints_foretell_228 : decode prog_2_method_3_code 228 = .ok (.iload_n 2, 1) := by decide +kernel
theorem d_K_EntryPoints_foretell_229 : decode prog_2_method_3_code 229 = .ok (.invokestatic 73, 3) := by decide +kernel
theorem d_K_EntryPoints_foretell_232 : decode prog_2_method_3_code 232 = .ok (.i2l, 1) := by decide +kernel
theorem d_K_EntryPoints_foretell_233 : decode prog_2_method_3_code 233 = .ok (.lreturn, 1) := by decide +kernel
theorem d_K_Machine_give_0 : decode prog_5_method_5_code 0 = .ok (.iload_n 1, 1) := by decide +kernel
theorem d_K_Machine_give_1 : decode prog_5_method_5_code 1 = .ok (.iload_n 2, 1) := by decide +kernel
theorem d_K_Machine_give_2 : decode prog_5_method_5_code 2 = .ok (.iload_n 3, 1) := by decide +kernel
theorem d_K_Machine_give_3 : decode prog_5_method_5_code 3 = .ok (.invokestatic 25, 3) := by decide +kernel
theorem d_K_Machine_give_6 : decode prog_5_method_5_code 6 = .ok (.lstore 4, 2) := by decide +kernel
theorem d_K_Machine_give_8 : decode prog_5_method_5_code 8 = .ok (.iconst 0, 1) := by decide +kernel
theorem d_K_Machine_give_9 : decode prog_5_method_5_code 9 = .ok (.istore 6, 2) := by decide +kernel
theorem d_K_Machine_give_11 : decode prog_5_method_5_code 11 = .ok (.iload 6, 2) := by decide +kernel
theorem d_K_Machine_give_13 : decode prog_5_method_5_code 13 = .ok (.aload_n 0, 1) := by decide +kernel
theorem d_K_Machine_give_14 : decode prog_5_method_5_code 14 = .ok (.getfield 21, 3) := by decide +kernel
theorem d_K_Machine_give_17 : decode prog_5_method_5_code 17 = .ok (.if_icmp .ge 64, 3) := by decide +kernel
theorem d_K_Machine_give_81 : decode prog_5_method_5_code 81 = .ok (.lload 4, 2) := by decide +kernel
theorem d_K_Machine_give_83 : decode prog_5_method_5_code 83 = .ok (.lreturn, 1) := by decide +kernel
theorem d_K_Machine_give_20 : decode prog_5_method_5_code 20 = .ok (.aload_n 0, 1) := by decide +kernel
theorem d_K_Machine_give_21 : decode prog_5_method_5_code 21 = .ok (.getfield 9, 3) := by decide +kernel
theorem d_K_Machine_give_24 : decode prog_5_method_5_code 24 = .ok (.iload 6, 2) := by decide +kernel
end
section
theorem d_K_Machine_give_26 : decode prog_5_method_5_code 26 = .ok (.iaload, 1) := by decide +kernel
theorem d_K_Machine_give_27 : decode prog_5_method_5_code 27 = .ok (.iload_n 1, 1) := by decide +kernel
theorem d_K_Machine_give_28 : decode prog_5_method_5_code 28 = .ok (.if_icmp .ne 47, 3) := by decide +kernel
theorem d_K_Machine_give_75 : decode prog_5_method_5_code 75 = .ok (.iinc 6 1, 3) := by decide +kernel
theorem d_K_Machine_give_78 : decode prog_5_method_5_code 78 = .ok (.goto (-67), 3) := by decide +kernel
theorem d_K_Machine_give_31 : decode prog_5_method_5_code 31 = .ok (.aload_n 0, 1) := by decide +kernel
theorem d_K_Machine_give_32 : decode prog_5_method_5_code 32 = .ok (.getfield 15, 3) := by decide +kernel
theorem d_K_Machine_give_35 : decode prog_5_method_5_code 35 = .ok (.iload 6, 2) := by decide +kernel
theorem d_K_Machine_give_37 : decode prog_5_method_5_code 37 = .ok (.iaload, 1) := by decide +kernel
theorem d_K_Machine_give_38 : decode prog_5_method_5_code 38 = .ok (.aload_n 0, 1) := by decide +kernel
theorem d_K_Machine_give_39 : decode prog_5_method_5_code 39 = .ok (.getfield 18, 3) := by decide +kernel
theorem d_K_Machine_give_42 : decode prog_5_method_5_code 42 = .ok (.iload 6, 2) := by decide +kernel
theorem d_K_Machine_give_44 : decode prog_5_method_5_code 44 = .ok (.iaload, 1) := by decide +kernel
theorem d_K_Machine_give_45 : decode prog_5_method_5_code 45 = .ok (.iload_n 2, 1) := by decide +kernel
theorem d_K_Machine_give_46 : decode prog_5_method_5_code 46 = .ok (.iload_n 3, 1) := by decide +kernel
theorem d_K_Machine_give_47 : decode prog_5_method_5_code 47 = .ok (.lload 4, 2) := by decide +kernel
theorem d_K_Machine_give_49 : decode prog_5_method_5_code 49 = .ok (.invokestatic 31, 3) := by decide +kernel
theorem d_K_Machine_give_52 : decode prog_5_method_5_code 52 = .ok (.ifCond .eq 23, 3) := by decide +kernel
theorem d_K_Machine_give_55 : decode prog_5_method_5_code 55 = .ok (.aload_n 0, 1) := by decide +kernel
theorem d_K_Machine_give_56 : decode prog_5_method_5_code 56 = .ok (.getfield 15, 3) := by decide +kernel
theorem d_K_Machine_give_59 : decode prog_5_method_5_code 59 = .ok (.iload 6, 2) := by decide +kernel
theorem d_K_Machine_give_61 : decode prog_5_method_5_code 61 = .ok (.iaload, 1) := by decide +kernel
theorem d_K_Machine_give_62 : decode prog_5_method_5_code 62 = .ok (.aload_n 0, 1) := by decide +kernel
theorem d_K_Machine_give_63 : decode prog_5_method_5_code 63 = .ok (.getfield 18, 3) := by decide +kernel
theorem d_K_Machine_give_66 : decode prog_5_method_5_code 66 = .ok (.iload 6, 2) := by decide +kernel
theorem d_K_Machine_give_68 : decode prog_5_method_5_code 68 = .ok (.iaload, 1) := by decide +kernel
theorem d_K_Machine_give_69 : decode prog_5_method_5_code 69 = .ok (.lload 4, 2) := by decide +kernel
theorem d_K_Machine_give_71 : decode prog_5_method_5_code 71 = .ok (.invokestatic 35, 3) := by decide +kernel
theorem d_K_Machine_give_74 : decode prog_5_method_5_code 74 = .ok (.lreturn, 1) := by decide +kernel
theorem d_K_Machine_failsAt_0 : decode prog_5_method_6_code 0 = .ok (.getstatic 39, 3) := by decide +kernel
theorem d_K_Machine_failsAt_3 : decode prog_5_method_6_code 3 = .ok (.iload_n 2, 1) := by decide +kernel
theorem d_K_Machine_failsAt_4 : decode prog_5_method_6_code 4 = .ok (.iaload, 1) := by decide +kernel
theorem d_K_Machine_failsAt_5 : decode prog_5_method_6_code 5 = .ok (.istore 4, 2) := by decide +kernel
theorem d_K_Machine_failsAt_7 : decode prog_5_method_6_code 7 = .ok (.getstatic 39, 3) := by decide +kernel
theorem d_K_Machine_failsAt_10 : decode prog_5_method_6_code 10 = .ok (.iload_n 3, 1) := by decide +kernel
theorem d_K_Machine_failsAt_11 : decode prog_5_method_6_code 11 = .ok (.iaload, 1) := by decide +kernel
theorem d_K_Machine_failsAt_12 : decode prog_5_method_6_code 12 = .ok (.istore 5, 2) := by decide +kernel
theorem d_K_Machine_failsAt_14 : decode prog_5_method_6_code 14 = .ok (.aload_n 0, 1) := by decide +kernel
theorem d_K_Machine_failsAt_15 : decode prog_5_method_6_code 15 = .ok (.iload_n 1, 1) := by decide +kernel
theorem d_K_Machine_failsAt_16 : decode prog_5_method_6_code 16 = .ok (.iload 4, 2) := by decide +kernel
theorem d_K_Machine_failsAt_18 : decode prog_5_method_6_code 18 = .ok (.iload 5, 2) := by decide +kernel
theorem d_K_Machine_failsAt_20 : decode prog_5_method_6_code 20 = .ok (.invokevirtual 42, 3) := by decide +kernel
theorem d_K_Machine_failsAt_23 : decode prog_5_method_6_code 23 = .ok (.iload_n 1, 1) := by decide +kernel
theorem d_K_Machine_failsAt_24 : decode prog_5_method_6_code 24 = .ok (.iload 4, 2) := by decide +kernel
theorem d_K_Machine_failsAt_26 : decode prog_5_method_6_code 26 = .ok (.iload 5, 2) := by decide +kernel
theorem d_K_Machine_failsAt_28 : decode prog_5_method_6_code 28 = .ok (.invokestatic 25, 3) := by decide +kernel
theorem d_K_Machine_failsAt_31 : decode prog_5_method_6_code 31 = .ok (.lcmp, 1) := by decide +kernel
theorem d_K_Machine_failsAt_32 : decode prog_5_method_6_code 32 = .ok (.ifCond .eq 7, 3) := by decide +kernel
theorem d_K_Machine_failsAt_39 : decode prog_5_method_6_code 39 = .ok (.iconst 0, 1) := by decide +kernel
theorem d_K_Machine_failsAt_40 : decode prog_5_method_6_code 40 = .ok (.ireturn, 1) := by decide +kernel
theorem d_K_Machine_failsAt_35 : decode prog_5_method_6_code 35 = .ok (.iconst 1, 1) := by decide +kernel
theorem d_K_Machine_failsAt_36 : decode prog_5_method_6_code 36 = .ok (.goto 4, 3) := by decide +kernel
theorem d_K_Tally_sum_0 : decode prog_9_method_13_code 0 = .ok (.iconst 0, 1) := by decide +kernel
theorem d_K_Tally_sum_1 : decode prog_9_method_13_code 1 = .ok (.istore_n 1, 1) := by decide +kernel
theorem d_K_Tally_sum_2 : decode prog_9_method_13_code 2 = .ok (.iconst 0, 1) := by decide +kernel
theorem d_K_Tally_sum_3 : decode prog_9_method_13_code 3 = .ok (.istore_n 2, 1) := by decide +kernel
theorem d_K_Tally_sum_4 : decode prog_9_method_13_code 4 = .ok (.iload_n 2, 1) := by decide +kernel
theorem d_K_Tally_sum_5 : decode prog_9_method_13_code 5 = .ok (.bipush 16, 2) := by decide +kernel
theorem d_K_Tally_sum_7 : decode prog_9_method_13_code 7 = .ok (.if_icmp .ge 15, 3) := by decide +kernel
theorem d_K_Tally_sum_22 : decode prog_9_method_13_code 22 = .ok (.iload_n 1, 1) := by decide +kernel
theorem d_K_Tally_sum_23 : decode prog_9_method_13_code 23 = .ok (.ireturn, 1) := by decide +kernel
theorem d_K_Tally_sum_10 : decode prog_9_method_13_code 10 = .ok (.iload_n 1, 1) := by decide +kernel
theorem d_K_Tally_sum_11 : decode prog_9_method_13_code 11 = .ok (.aload_n 0, 1) := by decide +kernel
theorem d_K_Tally_sum_12 : decode prog_9_method_13_code 12 = .ok (.iload_n 2, 1) := by decide +kernel
theorem d_K_Tally_sum_13 : decode prog_9_method_13_code 13 = .ok (.iaload, 1) := by decide +kernel
theorem d_K_Tally_sum_14 : decode prog_9_method_13_code 14 = .ok (.iadd, 1) := by decide +kernel
theorem d_K_Tally_sum_15 : decode prog_9_method_13_code 15 = .ok (.istore_n 1, 1) := by decide +kernel
theorem d_K_Tally_sum_16 : decode prog_9_method_13_code 16 = .ok (.iinc 2 1, 3) := by decide +kernel
theorem d_K_Tally_sum_19 : decode prog_9_method_13_code 19 = .ok (.goto (-15), 3) := by decide +kernel
theorem d_K_Tally_takenInAll_0 : decode prog_9_method_10_code 0 = .ok (.aload_n 0, 1) := by decide +kernel
theorem d_K_Tally_takenInAll_1 : decode prog_9_method_10_code 1 = .ok (.getfield 9, 3) := by decide +kernel
theorem d_K_Tally_takenInAll_4 : decode prog_9_method_10_code 4 = .ok (.invokestatic 35, 3) := by decide +kernel
theorem d_K_Tally_takenInAll_7 : decode prog_9_method_10_code 7 = .ok (.ireturn, 1) := by decide +kernel
theorem d_K_Tally_failedInAll_0 : decode prog_9_method_11_code 0 = .ok (.aload_n 0, 1) := by decide +kernel
theorem d_K_Tally_failedInAll_1 : decode prog_9_method_11_code 1 = .ok (.getfield 15, 3) := by decide +kernel
theorem d_K_Tally_failedInAll_4 : decode prog_9_method_11_code 4 = .ok (.invokestatic 35, 3) := by decide +kernel
theorem d_K_Tally_failedInAll_7 : decode prog_9_method_11_code 7 = .ok (.ireturn, 1) := by decide +kernel
theorem d_K_Tally_marksInAll_0 : decode prog_9_method_12_code 0 = .ok (.iconst 0, 1) := by decide +kernel
theorem d_K_Tally_marksInAll_1 : decode prog_9_method_12_code 1 = .ok (.istore_n 1, 1) := by decide +kernel
theorem d_K_Tally_marksInAll_2 : decode prog_9_method_12_code 2 = .ok (.iconst 0, 1) := by decide +kernel
theorem d_K_Tally_marksInAll_3 : decode prog_9_method_12_code 3 = .ok (.istore_n 2, 1) := by decide +kernel
theorem d_K_Tally_marksInAll_4 : decode prog_9_method_12_code 4 = .ok (.iload_n 2, 1) := by decide +kernel
theorem d_K_Tally_marksInAll_5 : decode prog_9_method_12_code 5 = .ok (.bipush 16, 2) := by decide +kernel
theorem d_K_Tally_marksInAll_7 : decode prog_9_method_12_code 7 = .ok (.if_icmp .ge 21, 3) := by decide +kernel
theorem d_K_Tally_marksInAll_28 : decode prog_9_method_12_code 28 = .ok (.iload_n 1, 1) := by decide +kernel
theorem d_K_Tally_marksInAll_29 : decode prog_9_method_12_code 29 = .ok (.ireturn, 1) := by decide +kernel
theorem d_K_Tally_marksInAll_10 : decode prog_9_method_12_code 10 = .ok (.iload_n 1, 1) := by decide +kernel
theorem d_K_Tally_marksInAll_11 : decode prog_9_method_12_code 11 = .ok (.aload_n 0, 1) := by decide +kernel
theorem d_K_Tally_marksInAll_12 : decode prog_9_method_12_code 12 = .ok (.getfield 18, 3) := by decide +kernel
theorem d_K_Tally_marksInAll_15 : decode prog_9_method_12_code 15 = .ok (.iload_n 2, 1) := by decide +kernel
theorem d_K_Tally_marksInAll_16 : decode prog_9_method_12_code 16 = .ok (.iaload, 1) := by decide +kernel
theorem d_K_Tally_marksInAll_17 : decode prog_9_method_12_code 17 = .ok (.invokestatic 39, 3) := by decide +kernel
theorem d_K_Tally_marksInAll_20 : decode prog_9_method_12_code 20 = .ok (.iadd, 1) := by decide +kernel
theorem d_K_Tally_marksInAll_21 : decode prog_9_method_12_code 21 = .ok (.istore_n 1, 1) := by decide +kernel
theorem d_K_Tally_marksInAll_22 : decode prog_9_method_12_code 22 = .ok (.iinc 2 1, 3) := by decide +kernel
theorem d_K_Tally_marksInAll_25 : decode prog_9_method_12_code 25 = .ok (.goto (-21), 3) := by decide +kernel
theorem d_K_PairBook_mark_0 : decode prog_6_method_5_code 0 = .ok (.iconst 1, 1) := by decide +kernel
theorem d_K_PairBook_mark_1 : decode prog_6_method_5_code 1 = .ok (.iload_n 3, 1) := by decide +kernel
theorem d_K_PairBook_mark_2 : decode prog_6_method_5_code 2 = .ok (.ishl, 1) := by decide +kernel
theorem d_K_PairBook_mark_3 : decode prog_6_method_5_code 3 = .ok (.istore 4, 2) := by decide +kernel
theorem d_K_PairBook_mark_5 : decode prog_6_method_5_code 5 = .ok (.aload_n 1, 1) := by decide +kernel
theorem d_K_PairBook_mark_6 : decode prog_6_method_5_code 6 = .ok (.iload_n 2, 1) := by decide +kernel
theorem d_K_PairBook_mark_7 : decode prog_6_method_5_code 7 = .ok (.iaload, 1) := by decide +kernel
theorem d_K_PairBook_mark_8 : decode prog_6_method_5_code 8 = .ok (.iload 4, 2) := by decide +kernel
theorem d_K_PairBook_mark_10 : decode prog_6_method_5_code 10 = .ok (.iand, 1) := by decide +kernel
theorem d_K_PairBook_mark_11 : decode prog_6_method_5_code 11 = .ok (.ifCond .ne 21, 3) := by decide +kernel
theorem d_K_PairBook_mark_32 : decode prog_6_method_5_code 32 = .ok (.return_, 1) := by decide +kernel
theorem d_K_PairBook_mark_14 : decode prog_6_method_5_code 14 = .ok (.aload_n 1, 1) := by decide +kernel
theorem d_K_PairBook_mark_15 : decode prog_6_method_5_code 15 = .ok (.iload_n 2, 1) := by decide +kernel
theorem d_K_PairBook_mark_16 : decode prog_6_method_5_code 16 = .ok (.dup2, 1) := by decide +kernel
theorem d_K_PairBook_mark_17 : decode prog_6_method_5_code 17 = .ok (.iaload, 1) := by decide +kernel
theorem d_K_PairBook_mark_18 : decode prog_6_method_5_code 18 = .ok (.iload 4, 2) := by decide +kernel
theorem d_K_PairBook_mark_20 : decode prog_6_method_5_code 20 = .ok (.ior, 1) := by decide +kernel
theorem d_K_PairBook_mark_21 : decode prog_6_method_5_code 21 = .ok (.iastore, 1) := by decide +kernel
theorem d_K_PairBook_mark_22 : decode prog_6_method_5_code 22 = .ok (.aload_n 0, 1) := by decide +kernel
theorem d_K_PairBook_mark_23 : decode prog_6_method_5_code 23 = .ok (.dup, 1) := by decide +kernel
theorem d_K_PairBook_mark_24 : decode prog_6_method_5_code 24 = .ok (.getfield 21, 3) := by decide +kernel
theorem d_K_PairBook_mark_27 : decode prog_6_method_5_code 27 = .ok (.iconst 1, 1) := by decide +kernel
theorem d_K_PairBook_mark_28 : decode prog_6_method_5_code 28 = .ok (.iadd, 1) := by decide +kernel
theorem d_K_PairBook_mark_29 : decode prog_6_method_5_code 29 = .ok (.putfield 21, 3) := by decide +kernel
theorem d_K_PairBook_note_0 : decode prog_6_method_4_code 0 = .ok (.aload_n 0, 1) := by decide +kernel
theorem d_K_PairBook_note_1 : decode prog_6_method_4_code 1 = .ok (.getfield 21, 3) := by decide +kernel
theorem d_K_PairBook_note_4 : decode prog_6_method_4_code 4 = .ok (.istore 4, 2) := by decide +kernel
theorem d_K_PairBook_note_6 : decode prog_6_method_4_code 6 = .ok (.aload_n 0, 1) := by decide +kernel
theorem d_K_PairBook_note_7 : decode prog_6_method_4_code 7 = .ok (.aload_n 0, 1) := by decide +kernel
theorem d_K_PairBook_note_8 : decode prog_6_method_4_code 8 = .ok (.getfield 9, 3) := by decide +kernel
theorem d_K_PairBook_note_11 : decode prog_6_method_4_code 11 = .ok (.iload_n 1, 1) := by decide +kernel
theorem d_K_PairBook_note_12 : decode prog_6_method_4_code 12 = .ok (.iload_n 2, 1) := by decide +kernel
theorem d_K_PairBook_note_13 : decode prog_6_method_4_code 13 = .ok (.invokevirtual 31, 3) := by decide +kernel
theorem d_K_PairBook_note_16 : decode prog_6_method_4_code 16 = .ok (.aload_n 0, 1) := by decide +kernel
theorem d_K_PairBook_note_17 : decode prog_6_method_4_code 17 = .ok (.aload_n 0, 1) := by decide +kernel
theorem d_K_PairBook_note_18 : decode prog_6_method_4_code 18 = .ok (.getfield 15, 3) := by decide +kernel
theorem d_K_PairBook_note_21 : decode prog_6_method_4_code 21 = .ok (.iload_n 1, 1) := by decide +kernel
theorem d_K_PairBook_note_22 : decode prog_6_method_4_code 22 = .ok (.iload_n 3, 1) := by decide +kernel
theorem d_K_PairBook_note_23 : decode prog_6_method_4_code 23 = .ok (.invokevirtual 31, 3) := by decide +kernel
theorem d_K_PairBook_note_26 : decode prog_6_method_4_code 26 = .ok (.aload_n 0, 1) := by decide +kernel
theorem d_K_PairBook_note_27 : decode prog_6_method_4_code 27 = .ok (.aload_n 0, 1) := by decide +kernel
theorem d_K_PairBook_note_28 : decode prog_6_method_4_code 28 = .ok (.getfield 18, 3) := by decide +kernel
theorem d_K_PairBook_note_31 : decode prog_6_method_4_code 31 = .ok (.iload_n 2, 1) := by decide +kernel
theorem d_K_PairBook_note_32 : decode prog_6_method_4_code 32 = .ok (.iload_n 3, 1) := by decide +kernel
theorem d_K_PairBook_note_33 : decode prog_6_method_4_code 33 = .ok (.invokevirtual 31, 3) := by decide +kernel
theorem d_K_PairBook_note_36 : decode prog_6_method_4_code 36 = .ok (.aload_n 0, 1) := by decide +kernel
theorem d_K_PairBook_note_37 : decode prog_6_method_4_code 37 = .ok (.getfield 21, 3) := by decide +kernel
theorem d_K_PairBook_note_40 : decode prog_6_method_4_code 40 = .ok (.iload 4, 2) := by decide +kernel
theorem d_K_PairBook_note_42 : decode prog_6_method_4_code 42 = .ok (.if_icmp .le 7, 3) := by decide +kernel
theorem d_K_PairBook_note_49 : decode prog_6_method_4_code 49 = .ok (.iconst 0, 1) := by decide +kernel
theorem d_K_PairBook_note_50 : decode prog_6_method_4_code 50 = .ok (.ireturn, 1) := by decide +kernel
theorem d_K_PairBook_note_45 : decode prog_6_method_4_code 45 = .ok (.iconst 1, 1) := by decide +kernel
theorem d_K_PairBook_note_46 : decode prog_6_method_4_code 46 = .ok (.goto 4, 3) := by decide +kernel
theorem d_K_PairBook_forget_0 : decode prog_6_method_2_code 0 = .ok (.aload_n 0, 1) := by decide +kernel
theorem d_K_PairBook_forget_1 : decode prog_6_method_2_code 1 = .ok (.getfield 9, 3) := by decide +kernel
theorem d_K_PairBook_forget_4 : decode prog_6_method_2_code 4 = .ok (.iconst 0, 1) := by decide +kernel
theorem d_K_PairBook_forget_5 : decode prog_6_method_2_code 5 = .ok (.invokestatic 25, 3) := by decide +kernel
theorem d_K_PairBook_forget_8 : decode prog_6_method_2_code 8 = .ok (.aload_n 0, 1) := by decide +kernel
theorem d_K_PairBook_forget_9 : decode prog_6_method_2_code 9 = .ok (.getfield 15, 3) := by decide +kernel
theorem d_K_PairBook_forget_12 : decode prog_6_method_2_code 12 = .ok (.iconst 0, 1) := by decide +kernel
theorem d_K_PairBook_forget_13 : decode prog_6_method_2_code 13 = .ok (.invokestatic 25, 3) := by decide +kernel
theorem d_K_PairBook_forget_16 : decode prog_6_method_2_code 16 = .ok (.aload_n 0, 1) := by decide +kernel
theorem d_K_PairBook_forget_17 : decode prog_6_method_2_code 17 = .ok (.getfield 18, 3) := by decide +kernel
theorem d_K_PairBook_forget_20 : decode prog_6_method_2_code 20 = .ok (.iconst 0, 1) := by decide +kernel
end
section
theorem d_K_PairBook_forget_21 : decode prog_6_method_2_code 21 = .ok (.invokestatic 25, 3) := by decide +kernel
theorem d_K_PairBook_forget_24 : decode prog_6_method_2_code 24 = .ok (.aload_n 0, 1) := by decide +kernel
theorem d_K_PairBook_forget_25 : decode prog_6_method_2_code 25 = .ok (.iconst 0, 1) := by decide +kernel
theorem d_K_PairBook_forget_26 : decode prog_6_method_2_code 26 = .ok (.putfield 21, 3) := by decide +kernel
theorem d_K_PairBook_forget_29 : decode prog_6_method_2_code 29 = .ok (.return_, 1) := by decide +kernel
theorem d_K_Tally_forget_0 : decode prog_9_method_2_code 0 = .ok (.aload_n 0, 1) := by decide +kernel
theorem d_K_Tally_forget_1 : decode prog_9_method_2_code 1 = .ok (.getfield 9, 3) := by decide +kernel
theorem d_K_Tally_forget_4 : decode prog_9_method_2_code 4 = .ok (.iconst 0, 1) := by decide +kernel
theorem d_K_Tally_forget_5 : decode prog_9_method_2_code 5 = .ok (.invokestatic 25, 3) := by decide +kernel
theorem d_K_Tally_forget_8 : decode prog_9_method_2_code 8 = .ok (.aload_n 0, 1) := by decide +kernel
theorem d_K_Tally_forget_9 : decode prog_9_method_2_code 9 = .ok (.getfield 15, 3) := by decide +kernel
theorem d_K_Tally_forget_12 : decode prog_9_method_2_code 12 = .ok (.iconst 0, 1) := by decide +kernel
theorem d_K_Tally_forget_13 : decode prog_9_method_2_code 13 = .ok (.invokestatic 25, 3) := by decide +kernel
theorem d_K_Tally_forget_16 : decode prog_9_method_2_code 16 = .ok (.aload_n 0, 1) := by decide +kernel
theorem d_K_Tally_forget_17 : decode prog_9_method_2_code 17 = .ok (.getfield 18, 3) := by decide +kernel
theorem d_K_Tally_forget_20 : decode prog_9_method_2_code 20 = .ok (.iconst 0, 1) := by decide +kernel
theorem d_K_Tally_forget_21 : decode prog_9_method_2_code 21 = .ok (.invokestatic 25, 3) := by decide +kernel
theorem d_K_Tally_forget_24 : decode prog_9_method_2_code 24 = .ok (.aload_n 0, 1) := by decide +kernel
theorem d_K_Tally_forget_25 : decode prog_9_method_2_code 25 = .ok (.iconst 0, 1) := by decide +kernel
theorem d_K_Tally_forget_26 : decode prog_9_method_2_code 26 = .ok (.putfield 21, 3) := by decide +kernel
theorem d_K_Tally_forget_29 : decode prog_9_method_2_code 29 = .ok (.return_, 1) := by decide +kernel
theorem d_K_Report_at_0 : decode prog_7_method_4_code 0 = .ok (.iload_n 1, 1) := by decide +kernel
theorem d_K_Report_at_1 : decode prog_7_method_4_code 1 = .ok (.ifCond .lt 11, 3) := by decide +kernel
theorem d_K_Report_at_12 : decode prog_7_method_4_code 12 = .ok (.iconst 0, 1) := by decide +kernel
theorem d_K_Report_at_13 : decode prog_7_method_4_code 13 = .ok (.goto 9, 3) := by decide +kernel
theorem d_K_Report_at_22 : decode prog_7_method_4_code 22 = .ok (.ireturn, 1) := by decide +kernel
theorem d_K_Report_at_4 : decode prog_7_method_4_code 4 = .ok (.iload_n 1, 1) := by decide +kernel
theorem d_K_Report_at_5 : decode prog_7_method_4_code 5 = .ok (.aload_n 0, 1) := by decide +kernel
theorem d_K_Report_at_6 : decode prog_7_method_4_code 6 = .ok (.getfield 15, 3) := by decide +kernel
theorem d_K_Report_at_9 : decode prog_7_method_4_code 9 = .ok (.if_icmp .lt 7, 3) := by decide +kernel
theorem d_K_Report_at_16 : decode prog_7_method_4_code 16 = .ok (.aload_n 0, 1) := by decide +kernel
theorem d_K_Report_at_17 : decode prog_7_method_4_code 17 = .ok (.getfield 9, 3) := by decide +kernel
theorem d_K_Report_at_20 : decode prog_7_method_4_code 20 = .ok (.iload_n 1, 1) := by decide +kernel
theorem d_K_Report_at_21 : decode prog_7_method_4_code 21 = .ok (.caload, 1) := by decide +kernel
theorem d_K_Machine_init_0 : decode prog_5_method_1_code 0 = .ok (.aload_n 0, 1) := by decide +kernel
theorem d_K_Machine_init_1 : decode prog_5_method_1_code 1 = .ok (.invokespecial 3, 3) := by decide +kernel
theorem d_K_Machine_init_4 : decode prog_5_method_1_code 4 = .ok (.aload_n 0, 1) := by decide +kernel
theorem d_K_Machine_init_5 : decode prog_5_method_1_code 5 = .ok (.iconst 4, 1) := by decide +kernel
theorem d_K_Machine_init_6 : decode prog_5_method_1_code 6 = .ok (.newarray .int, 2) := by decide +kernel
theorem d_K_Machine_init_8 : decode prog_5_method_1_code 8 = .ok (.putfield 9, 3) := by decide +kernel
theorem d_K_Machine_init_11 : decode prog_5_method_1_code 11 = .ok (.aload_n 0, 1) := by decide +kernel
theorem d_K_Machine_init_12 : decode prog_5_method_1_code 12 = .ok (.iconst 4, 1) := by decide +kernel
theorem d_K_Machine_init_13 : decode prog_5_method_1_code 13 = .ok (.newarray .int, 2) := by decide +kernel
theorem d_K_Machine_init_15 : decode prog_5_method_1_code 15 = .ok (.putfield 15, 3) := by decide +kernel
theorem d_K_Machine_init_18 : decode prog_5_method_1_code 18 = .ok (.aload_n 0, 1) := by decide +kernel
theorem d_K_Machine_init_19 : decode prog_5_method_1_code 19 = .ok (.iconst 4, 1) := by decide +kernel
theorem d_K_Machine_init_20 : decode prog_5_method_1_code 20 = .ok (.newarray .int, 2) := by decide +kernel
theorem d_K_Machine_init_22 : decode prog_5_method_1_code 22 = .ok (.putfield 18, 3) := by decide +kernel
theorem d_K_Machine_init_25 : decode prog_5_method_1_code 25 = .ok (.aload_n 0, 1) := by decide +kernel
theorem d_K_Machine_init_26 : decode prog_5_method_1_code 26 = .ok (.iconst 0, 1) := by decide +kernel
theorem d_K_Machine_init_27 : decode prog_5_method_1_code 27 = .ok (.putfield 21, 3) := by decide +kernel
theorem d_K_Machine_init_30 : decode prog_5_method_1_code 30 = .ok (.return_, 1) := by decide +kernel
theorem d_K_Exclusions_init_0 : decode prog_3_method_1_code 0 = .ok (.aload_n 0, 1) := by decide +kernel
theorem d_K_Exclusions_init_1 : decode prog_3_method_1_code 1 = .ok (.invokespecial 3, 3) := by decide +kernel
theorem d_K_Exclusions_init_4 : decode prog_3_method_1_code 4 = .ok (.aload_n 0, 1) := by decide +kernel
theorem d_K_Exclusions_init_5 : decode prog_3_method_1_code 5 = .ok (.bipush 6, 2) := by decide +kernel
theorem d_K_Exclusions_init_7 : decode prog_3_method_1_code 7 = .ok (.newarray .int, 2) := by decide +kernel
theorem d_K_Exclusions_init_9 : decode prog_3_method_1_code 9 = .ok (.putfield 9, 3) := by decide +kernel
theorem d_K_Exclusions_init_12 : decode prog_3_method_1_code 12 = .ok (.aload_n 0, 1) := by decide +kernel
theorem d_K_Exclusions_init_13 : decode prog_3_method_1_code 13 = .ok (.bipush 6, 2) := by decide +kernel
theorem d_K_Exclusions_init_15 : decode prog_3_method_1_code 15 = .ok (.newarray .int, 2) := by decide +kernel
theorem d_K_Exclusions_init_17 : decode prog_3_method_1_code 17 = .ok (.putfield 15, 3) := by decide +kernel
theorem d_K_Exclusions_init_20 : decode prog_3_method_1_code 20 = .ok (.aload_n 0, 1) := by decide +kernel
theorem d_K_Exclusions_init_21 : decode prog_3_method_1_code 21 = .ok (.iconst 0, 1) := by decide +kernel
theorem d_K_Exclusions_init_22 : decode prog_3_method_1_code 22 = .ok (.putfield 18, 3) := by decide +kernel
theorem d_K_Exclusions_init_25 : decode prog_3_method_1_code 25 = .ok (.return_, 1) := by decide +kernel
theorem d_K_PairBook_init_0 : decode prog_6_method_1_code 0 = .ok (.aload_n 0, 1) := by decide +kernel
theorem d_K_PairBook_init_1 : decode prog_6_method_1_code 1 = .ok (.invokespecial 3, 3) := by decide +kernel
theorem d_K_PairBook_init_4 : decode prog_6_method_1_code 4 = .ok (.aload_n 0, 1) := by decide +kernel
theorem d_K_PairBook_init_5 : decode prog_6_method_1_code 5 = .ok (.bipush 16, 2) := by decide +kernel
theorem d_K_PairBook_init_7 : decode prog_6_method_1_code 7 = .ok (.newarray .int, 2) := by decide +kernel
theorem d_K_PairBook_init_9 : decode prog_6_method_1_code 9 = .ok (.putfield 9, 3) := by decide +kernel
theorem d_K_PairBook_init_12 : decode prog_6_method_1_code 12 = .ok (.aload_n 0, 1) := by decide +kernel
theorem d_K_PairBook_init_13 : decode prog_6_method_1_code 13 = .ok (.bipush 16, 2) := by decide +kernel
theorem d_K_PairBook_init_15 : decode prog_6_method_1_code 15 = .ok (.newarray .int, 2) := by decide +kernel
theorem d_K_PairBook_init_17 : decode prog_6_method_1_code 17 = .ok (.putfield 15, 3) := by decide +kernel
theorem d_K_PairBook_init_20 : decode prog_6_method_1_code 20 = .ok (.aload_n 0, 1) := by decide +kernel
theorem d_K_PairBook_init_21 : decode prog_6_method_1_code 21 = .ok (.bipush 12, 2) := by decide +kernel
theorem d_K_PairBook_init_23 : decode prog_6_method_1_code 23 = .ok (.newarray .int, 2) := by decide +kernel
theorem d_K_PairBook_init_25 : decode prog_6_method_1_code 25 = .ok (.putfield 18, 3) := by decide +kernel
theorem d_K_PairBook_init_28 : decode prog_6_method_1_code 28 = .ok (.aload_n 0, 1) := by decide +kernel
theorem d_K_PairBook_init_29 : decode prog_6_method_1_code 29 = .ok (.iconst 0, 1) := by decide +kernel
theorem d_K_PairBook_init_30 : decode prog_6_method_1_code 30 = .ok (.putfield 21, 3) := by decide +kernel
theorem d_K_PairBook_init_33 : decode prog_6_method_1_code 33 = .ok (.return_, 1) := by decide +kernel
theorem d_K_Tally_init_0 : decode prog_9_method_1_code 0 = .ok (.aload_n 0, 1) := by decide +kernel
theorem d_K_Tally_init_1 : decode prog_9_method_1_code 1 = .ok (.invokespecial 3, 3) := by decide +kernel
theorem d_K_Tally_init_4 : decode prog_9_method_1_code 4 = .ok (.aload_n 0, 1) := by decide +kernel
theorem d_K_Tally_init_5 : decode prog_9_method_1_code 5 = .ok (.bipush 16, 2) := by decide +kernel
theorem d_K_Tally_init_7 : decode prog_9_method_1_code 7 = .ok (.newarray .int, 2) := by decide +kernel
theorem d_K_Tally_init_9 : decode prog_9_method_1_code 9 = .ok (.putfield 9, 3) := by decide +kernel
theorem d_K_Tally_init_12 : decode prog_9_method_1_code 12 = .ok (.aload_n 0, 1) := by decide +kernel
theorem d_K_Tally_init_13 : decode prog_9_method_1_code 13 = .ok (.bipush 16, 2) := by decide +kernel
theorem d_K_Tally_init_15 : decode prog_9_method_1_code 15 = .ok (.newarray .int, 2) := by decide +kernel
theorem d_K_Tally_init_17 : decode prog_9_method_1_code 17 = .ok (.putfield 15, 3) := by decide +kernel
theorem d_K_Tally_init_20 : decode prog_9_method_1_code 20 = .ok (.aload_n 0, 1) := by decide +kernel
theorem d_K_Tally_init_21 : decode prog_9_method_1_code 21 = .ok (.bipush 16, 2) := by decide +kernel
theorem d_K_Tally_init_23 : decode prog_9_method_1_code 23 = .ok (.newarray .int, 2) := by decide +kernel
theorem d_K_Tally_init_25 : decode prog_9_method_1_code 25 = .ok (.putfield 18, 3) := by decide +kernel
theorem d_K_Tally_init_28 : decode prog_9_method_1_code 28 = .ok (.aload_n 0, 1) := by decide +kernel
theorem d_K_Tally_init_29 : decode prog_9_method_1_code 29 = .ok (.iconst 0, 1) := by decide +kernel
theorem d_K_Tally_init_30 : decode prog_9_method_1_code 30 = .ok (.putfield 21, 3) := by decide +kernel
theorem d_K_Tally_init_33 : decode prog_9_method_1_code 33 = .ok (.return_, 1) := by decide +kernel
theorem d_K_FailureList_init_0 : decode prog_4_method_1_code 0 = .ok (.aload_n 0, 1) := by decide +kernel
theorem d_K_FailureList_init_1 : decode prog_4_method_1_code 1 = .ok (.invokespecial 3, 3) := by decide +kernel
theorem d_K_FailureList_init_4 : decode prog_4_method_1_code 4 = .ok (.aload_n 0, 1) := by decide +kernel
theorem d_K_FailureList_init_5 : decode prog_4_method_1_code 5 = .ok (.bipush 12, 2) := by decide +kernel
theorem d_K_FailureList_init_7 : decode prog_4_method_1_code 7 = .ok (.newarray .int, 2) := by decide +kernel
theorem d_K_FailureList_init_9 : decode prog_4_method_1_code 9 = .ok (.putfield 9, 3) := by decide +kernel
theorem d_K_FailureList_init_12 : decode prog_4_method_1_code 12 = .ok (.aload_n 0, 1) := by decide +kernel
theorem d_K_FailureList_init_13 : decode prog_4_method_1_code 13 = .ok (.bipush 12, 2) := by decide +kernel
theorem d_K_FailureList_init_15 : decode prog_4_method_1_code 15 = .ok (.newarray .int, 2) := by decide +kernel
theorem d_K_FailureList_init_17 : decode prog_4_method_1_code 17 = .ok (.putfield 15, 3) := by decide +kernel
theorem d_K_FailureList_init_20 : decode prog_4_method_1_code 20 = .ok (.aload_n 0, 1) := by decide +kernel
theorem d_K_FailureList_init_21 : decode prog_4_method_1_code 21 = .ok (.bipush 12, 2) := by decide +kernel
theorem d_K_FailureList_init_23 : decode prog_4_method_1_code 23 = .ok (.newarray .int, 2) := by decide +kernel
theorem d_K_FailureList_init_25 : decode prog_4_method_1_code 25 = .ok (.putfield 18, 3) := by decide +kernel
theorem d_K_FailureList_init_28 : decode prog_4_method_1_code 28 = .ok (.aload_n 0, 1) := by decide +kernel
theorem d_K_FailureList_init_29 : decode prog_4_method_1_code 29 = .ok (.bipush 12, 2) := by decide +kernel
theorem d_K_FailureList_init_31 : decode prog_4_method_1_code 31 = .ok (.newarray .long, 2) := by decide +kernel
theorem d_K_FailureList_init_33 : decode prog_4_method_1_code 33 = .ok (.putfield 21, 3) := by decide +kernel
theorem d_K_FailureList_init_36 : decode prog_4_method_1_code 36 = .ok (.aload_n 0, 1) := by decide +kernel
theorem d_K_FailureList_init_37 : decode prog_4_method_1_code 37 = .ok (.bipush 12, 2) := by decide +kernel
theorem d_K_FailureList_init_39 : decode prog_4_method_1_code 39 = .ok (.newarray .long, 2) := by decide +kernel
theorem d_K_FailureList_init_41 : decode prog_4_method_1_code 41 = .ok (.putfield 25, 3) := by decide +kernel
theorem d_K_FailureList_init_44 : decode prog_4_method_1_code 44 = .ok (.aload_n 0, 1) := by decide +kernel
theorem d_K_FailureList_init_45 : decode prog_4_method_1_code 45 = .ok (.iconst 0, 1) := by decide +kernel
theorem d_K_FailureList_init_46 : decode prog_4_method_1_code 46 = .ok (.putfield 28, 3) := by decide +kernel
theorem d_K_FailureList_init_49 : decode prog_4_method_1_code 49 = .ok (.return_, 1) := by decide +kernel
theorem d_K_Report_init_0 : decode prog_7_method_1_code 0 = .ok (.aload_n 0, 1) := by decide +kernel
theorem d_K_Report_init_1 : decode prog_7_method_1_code 1 = .ok (.invokespecial 3, 3) := by decide +kernel
theorem d_K_Report_init_4 : decode prog_7_method_1_code 4 = .ok (.aload_n 0, 1) := by decide +kernel
theorem d_K_Report_init_5 : decode prog_7_method_1_code 5 = .ok (.sipush 256, 3) := by decide +kernel
theorem d_K_Report_init_8 : decode prog_7_method_1_code 8 = .ok (.newarray .char, 2) := by decide +kernel
theorem d_K_Report_init_10 : decode prog_7_method_1_code 10 = .ok (.putfield 9, 3) := by decide +kernel
theorem d_K_Report_init_13 : decode prog_7_method_1_code 13 = .ok (.aload_n 0, 1) := by decide +kernel
theorem d_K_Report_init_14 : decode prog_7_method_1_code 14 = .ok (.iconst 0, 1) := by decide +kernel
theorem d_K_Report_init_15 : decode prog_7_method_1_code 15 = .ok (.putfield 15, 3) := by decide +kernel
theorem d_K_Report_init_18 : decode prog_7_method_1_code 18 = .ok (.return_, 1) := by decide +kernel
theorem d_K_Shrinker_init_0 : decode prog_8_method_1_code 0 = .ok (.aload_n 0, 1) := by decide +kernel
theorem d_K_Shrinker_init_1 : decode prog_8_method_1_code 1 = .ok (.invokespecial 3, 3) := by decide +kernel
theorem d_K_Shrinker_init_4 : decode prog_8_method_1_code 4 = .ok (.aload_n 0, 1) := by decide +kernel
theorem d_K_Shrinker_init_5 : decode prog_8_method_1_code 5 = .ok (.iconst 0, 1) := by decide +kernel
theorem d_K_Shrinker_init_6 : decode prog_8_method_1_code 6 = .ok (.putfield 9, 3) := by decide +kernel
theorem d_K_Shrinker_init_9 : decode prog_8_method_1_code 9 = .ok (.aload_n 0, 1) := by decide +kernel
theorem d_K_Shrinker_init_10 : decode prog_8_method_1_code 10 = .ok (.iconst 0, 1) := by decide +kernel
theorem d_K_Shrinker_init_11 : decode prog_8_method_1_code 11 = .ok (.putfield 15, 3) := by decide +kernel
theorem d_K_Shrinker_init_14 : decode prog_8_method_1_code 14 = .ok (.aload_n 0, 1) := by decide +kernel
theorem d_K_Shrinker_init_15 : decode prog_8_method_1_code 15 = .ok (.iconst 0, 1) := by decide +kernel
theorem d_K_Shrinker_init_16 : decode prog_8_method_1_code 16 = .ok (.putfield 18, 3) := by decide +kernel
theorem d_K_Shrinker_init_19 : decode prog_8_method_1_code 19 = .ok (.return_, 1) := by decide +kernel
theorem d_KitRunner_init_0 : decode prog_1_method_1_code 0 = .ok (.aload_n 0, 1) := by decide +kernel
theorem d_KitRunner_init_1 : decode prog_1_method_1_code 1 = .ok (.invokespecial 1, 3) := by decide +kernel
theorem d_KitRunner_init_4 : decode prog_1_method_1_code 4 = .ok (.aload_n 0, 1) := by decide +kernel
theorem d_KitRunner_init_5 : decode prog_1_method_1_code 5 = .ok (.new 7, 3) := by decide +kernel
theorem d_KitRunner_init_8 : decode prog_1_method_1_code 8 = .ok (.dup, 1) := by decide +kernel
theorem d_KitRunner_init_9 : decode prog_1_method_1_code 9 = .ok (.invokespecial 9, 3) := by decide +kernel
theorem d_KitRunner_init_12 : decode prog_1_method_1_code 12 = .ok (.putfield 10, 3) := by decide +kernel
theorem d_KitRunner_init_15 : decode prog_1_method_1_code 15 = .ok (.aload_n 0, 1) := by decide +kernel
theorem d_KitRunner_init_16 : decode prog_1_method_1_code 16 = .ok (.new 16, 3) := by decide +kernel
theorem d_KitRunner_init_19 : decode prog_1_method_1_code 19 = .ok (.dup, 1) := by decide +kernel
end
section
theorem d_KitRunner_init_20 : decode prog_1_method_1_code 20 = .ok (.invokespecial 18, 3) := by decide +kernel
theorem d_KitRunner_init_23 : decode prog_1_method_1_code 23 = .ok (.putfield 19, 3) := by decide +kernel
theorem d_KitRunner_init_26 : decode prog_1_method_1_code 26 = .ok (.aload_n 0, 1) := by decide +kernel
theorem d_KitRunner_init_27 : decode prog_1_method_1_code 27 = .ok (.new 23, 3) := by decide +kernel
theorem d_KitRunner_init_30 : decode prog_1_method_1_code 30 = .ok (.dup, 1) := by decide +kernel
theorem d_KitRunner_init_31 : decode prog_1_method_1_code 31 = .ok (.invokespecial 25, 3) := by decide +kernel
theorem d_KitRunner_init_34 : decode prog_1_method_1_code 34 = .ok (.putfield 26, 3) := by decide +kernel
theorem d_KitRunner_init_37 : decode prog_1_method_1_code 37 = .ok (.aload_n 0, 1) := by decide +kernel
theorem d_KitRunner_init_38 : decode prog_1_method_1_code 38 = .ok (.new 30, 3) := by decide +kernel
theorem d_KitRunner_init_41 : decode prog_1_method_1_code 41 = .ok (.dup, 1) := by decide +kernel
theorem d_KitRunner_init_42 : decode prog_1_method_1_code 42 = .ok (.invokespecial 32, 3) := by decide +kernel
theorem d_KitRunner_init_45 : decode prog_1_method_1_code 45 = .ok (.putfield 33, 3) := by decide +kernel
theorem d_KitRunner_init_48 : decode prog_1_method_1_code 48 = .ok (.aload_n 0, 1) := by decide +kernel
theorem d_KitRunner_init_49 : decode prog_1_method_1_code 49 = .ok (.new 37, 3) := by decide +kernel
theorem d_KitRunner_init_52 : decode prog_1_method_1_code 52 = .ok (.dup, 1) := by decide +kernel
theorem d_KitRunner_init_53 : decode prog_1_method_1_code 53 = .ok (.invokespecial 39, 3) := by decide +kernel
theorem d_KitRunner_init_56 : decode prog_1_method_1_code 56 = .ok (.putfield 40, 3) := by decide +kernel
theorem d_KitRunner_init_59 : decode prog_1_method_1_code 59 = .ok (.aload_n 0, 1) := by decide +kernel
theorem d_KitRunner_init_60 : decode prog_1_method_1_code 60 = .ok (.new 44, 3) := by decide +kernel
theorem d_KitRunner_init_63 : decode prog_1_method_1_code 63 = .ok (.dup, 1) := by decide +kernel
theorem d_KitRunner_init_64 : decode prog_1_method_1_code 64 = .ok (.invokespecial 46, 3) := by decide +kernel
theorem d_KitRunner_init_67 : decode prog_1_method_1_code 67 = .ok (.putfield 47, 3) := by decide +kernel
theorem d_KitRunner_init_70 : decode prog_1_method_1_code 70 = .ok (.aload_n 0, 1) := by decide +kernel
theorem d_KitRunner_init_71 : decode prog_1_method_1_code 71 = .ok (.new 51, 3) := by decide +kernel
theorem d_KitRunner_init_74 : decode prog_1_method_1_code 74 = .ok (.dup, 1) := by decide +kernel
theorem d_KitRunner_init_75 : decode prog_1_method_1_code 75 = .ok (.invokespecial 53, 3) := by decide +kernel
theorem d_KitRunner_init_78 : decode prog_1_method_1_code 78 = .ok (.putfield 54, 3) := by decide +kernel
theorem d_KitRunner_init_81 : decode prog_1_method_1_code 81 = .ok (.aload_n 0, 1) := by decide +kernel
theorem d_KitRunner_init_82 : decode prog_1_method_1_code 82 = .ok (.ldc 58, 2) := by decide +kernel
theorem d_KitRunner_init_84 : decode prog_1_method_1_code 84 = .ok (.putfield 59, 3) := by decide +kernel
theorem d_KitRunner_init_87 : decode prog_1_method_1_code 87 = .ok (.aload_n 0, 1) := by decide +kernel
theorem d_KitRunner_init_88 : decode prog_1_method_1_code 88 = .ok (.iconst 0, 1) := by decide +kernel
theorem d_KitRunner_init_89 : decode prog_1_method_1_code 89 = .ok (.putfield 63, 3) := by decide +kernel
theorem d_KitRunner_init_92 : decode prog_1_method_1_code 92 = .ok (.return_, 1) := by decide +kernel
theorem d_KitRunner_fault_0 : decode prog_1_method_2_code 0 = .ok (.iload_n 1, 1) := by decide +kernel
theorem d_KitRunner_fault_1 : decode prog_1_method_2_code 1 = .ok (.invokestatic 66, 3) := by decide +kernel
theorem d_KitRunner_fault_4 : decode prog_1_method_2_code 4 = .ok (.ifCond .eq 12, 3) := by decide +kernel
theorem d_KitRunner_fault_16 : decode prog_1_method_2_code 16 = .ok (.iconst (-1), 1) := by decide +kernel
theorem d_KitRunner_fault_17 : decode prog_1_method_2_code 17 = .ok (.ireturn, 1) := by decide +kernel
theorem d_KitRunner_fault_7 : decode prog_1_method_2_code 7 = .ok (.iload_n 2, 1) := by decide +kernel
theorem d_KitRunner_fault_8 : decode prog_1_method_2_code 8 = .ok (.ifCond .lt 8, 3) := by decide +kernel
theorem d_KitRunner_fault_11 : decode prog_1_method_2_code 11 = .ok (.iload_n 2, 1) := by decide +kernel
theorem d_KitRunner_fault_12 : decode prog_1_method_2_code 12 = .ok (.iconst 5, 1) := by decide +kernel
theorem d_KitRunner_fault_13 : decode prog_1_method_2_code 13 = .ok (.if_icmp .lt 5, 3) := by decide +kernel
theorem d_KitRunner_fault_18 : decode prog_1_method_2_code 18 = .ok (.aload_n 0, 1) := by decide +kernel
theorem d_KitRunner_fault_19 : decode prog_1_method_2_code 19 = .ok (.getfield 10, 3) := by decide +kernel
theorem d_KitRunner_fault_22 : decode prog_1_method_2_code 22 = .ok (.iload_n 1, 1) := by decide +kernel
theorem d_KitRunner_fault_23 : decode prog_1_method_2_code 23 = .ok (.iload_n 2, 1) := by decide +kernel
theorem d_KitRunner_fault_24 : decode prog_1_method_2_code 24 = .ok (.iload_n 3, 1) := by decide +kernel
theorem d_KitRunner_fault_25 : decode prog_1_method_2_code 25 = .ok (.invokevirtual 70, 3) := by decide +kernel
theorem d_KitRunner_fault_28 : decode prog_1_method_2_code 28 = .ok (.ifCond .eq 13, 3) := by decide +kernel
theorem d_KitRunner_fault_41 : decode prog_1_method_2_code 41 = .ok (.bipush (-2), 2) := by decide +kernel
theorem d_KitRunner_fault_43 : decode prog_1_method_2_code 43 = .ok (.ireturn, 1) := by decide +kernel
theorem d_KitRunner_fault_31 : decode prog_1_method_2_code 31 = .ok (.aload_n 0, 1) := by decide +kernel
theorem d_KitRunner_fault_32 : decode prog_1_method_2_code 32 = .ok (.getfield 10, 3) := by decide +kernel
theorem d_KitRunner_fault_35 : decode prog_1_method_2_code 35 = .ok (.invokevirtual 74, 3) := by decide +kernel
theorem d_KitRunner_fault_38 : decode prog_1_method_2_code 38 = .ok (.goto 5, 3) := by decide +kernel
theorem d_KitRunner_exclude_0 : decode prog_1_method_3_code 0 = .ok (.iload_n 1, 1) := by decide +kernel
theorem d_KitRunner_exclude_1 : decode prog_1_method_3_code 1 = .ok (.invokestatic 66, 3) := by decide +kernel
theorem d_KitRunner_exclude_4 : decode prog_1_method_3_code 4 = .ok (.ifCond .ne 5, 3) := by decide +kernel
theorem d_KitRunner_exclude_9 : decode prog_1_method_3_code 9 = .ok (.aload_n 0, 1) := by decide +kernel
theorem d_KitRunner_exclude_10 : decode prog_1_method_3_code 10 = .ok (.getfield 19, 3) := by decide +kernel
theorem d_KitRunner_exclude_13 : decode prog_1_method_3_code 13 = .ok (.iload_n 1, 1) := by decide +kernel
theorem d_KitRunner_exclude_14 : decode prog_1_method_3_code 14 = .ok (.iload_n 2, 1) := by decide +kernel
theorem d_KitRunner_exclude_15 : decode prog_1_method_3_code 15 = .ok (.invokevirtual 78, 3) := by decide +kernel
theorem d_KitRunner_exclude_18 : decode prog_1_method_3_code 18 = .ok (.ifCond .eq 13, 3) := by decide +kernel
theorem d_KitRunner_exclude_31 : decode prog_1_method_3_code 31 = .ok (.bipush (-2), 2) := by decide +kernel
theorem d_KitRunner_exclude_33 : decode prog_1_method_3_code 33 = .ok (.ireturn, 1) := by decide +kernel
theorem d_KitRunner_exclude_21 : decode prog_1_method_3_code 21 = .ok (.aload_n 0, 1) := by decide +kernel
theorem d_KitRunner_exclude_22 : decode prog_1_method_3_code 22 = .ok (.getfield 19, 3) := by decide +kernel
theorem d_KitRunner_exclude_25 : decode prog_1_method_3_code 25 = .ok (.invokevirtual 82, 3) := by decide +kernel
theorem d_KitRunner_exclude_28 : decode prog_1_method_3_code 28 = .ok (.goto 5, 3) := by decide +kernel
theorem d_KitRunner_exclude_7 : decode prog_1_method_3_code 7 = .ok (.iconst (-1), 1) := by decide +kernel
theorem d_KitRunner_exclude_8 : decode prog_1_method_3_code 8 = .ok (.ireturn, 1) := by decide +kernel
theorem d_KitRunner_clear_0 : decode prog_1_method_4_code 0 = .ok (.iload_n 1, 1) := by decide +kernel
theorem d_KitRunner_clear_1 : decode prog_1_method_4_code 1 = .ok (.ifCond .lt 8, 3) := by decide +kernel
theorem d_KitRunner_clear_9 : decode prog_1_method_4_code 9 = .ok (.iconst (-1), 1) := by decide +kernel
theorem d_KitRunner_clear_10 : decode prog_1_method_4_code 10 = .ok (.ireturn, 1) := by decide +kernel
theorem d_KitRunner_clear_4 : decode prog_1_method_4_code 4 = .ok (.iload_n 1, 1) := by decide +kernel
theorem d_KitRunner_clear_5 : decode prog_1_method_4_code 5 = .ok (.iconst 2, 1) := by decide +kernel
theorem d_KitRunner_clear_6 : decode prog_1_method_4_code 6 = .ok (.if_icmp .le 5, 3) := by decide +kernel
theorem d_KitRunner_clear_11 : decode prog_1_method_4_code 11 = .ok (.iload_n 1, 1) := by decide +kernel
theorem d_KitRunner_clear_12 : decode prog_1_method_4_code 12 = .ok (.iconst 1, 1) := by decide +kernel
theorem d_KitRunner_clear_13 : decode prog_1_method_4_code 13 = .ok (.if_icmp .eq 10, 3) := by decide +kernel
theorem d_KitRunner_clear_23 : decode prog_1_method_4_code 23 = .ok (.iload_n 1, 1) := by decide +kernel
theorem d_KitRunner_clear_24 : decode prog_1_method_4_code 24 = .ok (.ifCond .eq 10, 3) := by decide +kernel
theorem d_KitRunner_clear_34 : decode prog_1_method_4_code 34 = .ok (.iconst 0, 1) := by decide +kernel
theorem d_KitRunner_clear_35 : decode prog_1_method_4_code 35 = .ok (.ireturn, 1) := by decide +kernel
theorem d_KitRunner_clear_27 : decode prog_1_method_4_code 27 = .ok (.aload_n 0, 1) := by decide +kernel
theorem d_KitRunner_clear_28 : decode prog_1_method_4_code 28 = .ok (.getfield 19, 3) := by decide +kernel
theorem d_KitRunner_clear_31 : decode prog_1_method_4_code 31 = .ok (.invokevirtual 88, 3) := by decide +kernel
theorem d_KitRunner_clear_16 : decode prog_1_method_4_code 16 = .ok (.aload_n 0, 1) := by decide +kernel
theorem d_KitRunner_clear_17 : decode prog_1_method_4_code 17 = .ok (.getfield 10, 3) := by decide +kernel
theorem d_KitRunner_clear_20 : decode prog_1_method_4_code 20 = .ok (.invokevirtual 85, 3) := by decide +kernel
theorem d_KitRunner_enable_0 : decode prog_1_method_5_code 0 = .ok (.iload_n 1, 1) := by decide +kernel
theorem d_KitRunner_enable_1 : decode prog_1_method_5_code 1 = .ok (.ifCond .lt 9, 3) := by decide +kernel
theorem d_KitRunner_enable_10 : decode prog_1_method_5_code 10 = .ok (.iconst (-1), 1) := by decide +kernel
theorem d_KitRunner_enable_11 : decode prog_1_method_5_code 11 = .ok (.ireturn, 1) := by decide +kernel
theorem d_KitRunner_enable_4 : decode prog_1_method_5_code 4 = .ok (.iload_n 1, 1) := by decide +kernel
theorem d_KitRunner_enable_5 : decode prog_1_method_5_code 5 = .ok (.ldc 58, 2) := by decide +kernel
theorem d_KitRunner_enable_7 : decode prog_1_method_5_code 7 = .ok (.if_icmp .le 5, 3) := by decide +kernel
theorem d_KitRunner_enable_12 : decode prog_1_method_5_code 12 = .ok (.aload_n 0, 1) := by decide +kernel
theorem d_KitRunner_enable_13 : decode prog_1_method_5_code 13 = .ok (.iload_n 1, 1) := by decide +kernel
theorem d_KitRunner_enable_14 : decode prog_1_method_5_code 14 = .ok (.putfield 59, 3) := by decide +kernel
theorem d_KitRunner_enable_17 : decode prog_1_method_5_code 17 = .ok (.iconst 0, 1) := by decide +kernel
theorem d_KitRunner_enable_18 : decode prog_1_method_5_code 18 = .ok (.ireturn, 1) := by decide +kernel
theorem d_KitRunner_outcome_0 : decode prog_1_method_7_code 0 = .ok (.iload_n 1, 1) := by decide +kernel
theorem d_KitRunner_outcome_1 : decode prog_1_method_7_code 1 = .ok (.invokestatic 66, 3) := by decide +kernel
theorem d_KitRunner_outcome_4 : decode prog_1_method_7_code 4 = .ok (.ifCond .ne 7, 3) := by decide +kernel
theorem d_KitRunner_outcome_11 : decode prog_1_method_7_code 11 = .ok (.iload 4, 2) := by decide +kernel
theorem d_KitRunner_outcome_13 : decode prog_1_method_7_code 13 = .ok (.ifCond .eq 16, 3) := by decide +kernel
theorem d_KitRunner_outcome_29 : decode prog_1_method_7_code 29 = .ok (.iload_n 1, 1) := by decide +kernel
theorem d_KitRunner_outcome_30 : decode prog_1_method_7_code 30 = .ok (.iload_n 2, 1) := by decide +kernel
theorem d_KitRunner_outcome_31 : decode prog_1_method_7_code 31 = .ok (.iload_n 3, 1) := by decide +kernel
theorem d_KitRunner_outcome_32 : decode prog_1_method_7_code 32 = .ok (.invokestatic 111, 3) := by decide +kernel
theorem d_KitRunner_outcome_35 : decode prog_1_method_7_code 35 = .ok (.lreturn, 1) := by decide +kernel
theorem d_KitRunner_outcome_16 : decode prog_1_method_7_code 16 = .ok (.aload_n 0, 1) := by decide +kernel
theorem d_KitRunner_outcome_17 : decode prog_1_method_7_code 17 = .ok (.getfield 10, 3) := by decide +kernel
theorem d_KitRunner_outcome_20 : decode prog_1_method_7_code 20 = .ok (.iload_n 1, 1) := by decide +kernel
theorem d_KitRunner_outcome_21 : decode prog_1_method_7_code 21 = .ok (.iload_n 2, 1) := by decide +kernel
theorem d_KitRunner_outcome_22 : decode prog_1_method_7_code 22 = .ok (.iload_n 3, 1) := by decide +kernel
theorem d_KitRunner_outcome_23 : decode prog_1_method_7_code 23 = .ok (.invokevirtual 107, 3) := by decide +kernel
theorem d_KitRunner_outcome_26 : decode prog_1_method_7_code 26 = .ok (.goto 9, 3) := by decide +kernel
theorem d_KitRunner_outcome_7 : decode prog_1_method_7_code 7 = .ok (.ldc2_w 105, 3) := by decide +kernel
theorem d_KitRunner_outcome_10 : decode prog_1_method_7_code 10 = .ok (.lreturn, 1) := by decide +kernel
theorem d_KitRunner_letter_0 : decode prog_1_method_12_code 0 = .ok (.aload_n 0, 1) := by decide +kernel
theorem d_KitRunner_letter_1 : decode prog_1_method_12_code 1 = .ok (.getfield 47, 3) := by decide +kernel
theorem d_KitRunner_letter_4 : decode prog_1_method_12_code 4 = .ok (.iload_n 1, 1) := by decide +kernel
theorem d_KitRunner_letter_5 : decode prog_1_method_12_code 5 = .ok (.invokevirtual 168, 3) := by decide +kernel
theorem d_KitRunner_letter_8 : decode prog_1_method_12_code 8 = .ok (.ireturn, 1) := by decide +kernel
theorem d_KitRunner_runCase_0 : decode prog_1_method_21_code 0 = .ok (.iload_n 1, 1) := by decide +kernel
theorem d_KitRunner_runCase_1 : decode prog_1_method_21_code 1 = .ok (.getstatic 135, 3) := by decide +kernel
theorem d_KitRunner_runCase_4 : decode prog_1_method_21_code 4 = .ok (.iload_n 2, 1) := by decide +kernel
theorem d_KitRunner_runCase_5 : decode prog_1_method_21_code 5 = .ok (.iaload, 1) := by decide +kernel
theorem d_KitRunner_runCase_6 : decode prog_1_method_21_code 6 = .ok (.getstatic 135, 3) := by decide +kernel
theorem d_KitRunner_runCase_9 : decode prog_1_method_21_code 9 = .ok (.iload_n 3, 1) := by decide +kernel
theorem d_KitRunner_runCase_10 : decode prog_1_method_21_code 10 = .ok (.iaload, 1) := by decide +kernel
theorem d_KitRunner_runCase_11 : decode prog_1_method_21_code 11 = .ok (.invokestatic 111, 3) := by decide +kernel
theorem d_KitRunner_runCase_14 : decode prog_1_method_21_code 14 = .ok (.lstore 4, 2) := by decide +kernel
theorem d_KitRunner_runCase_16 : decode prog_1_method_21_code 16 = .ok (.aload_n 0, 1) := by decide +kernel
theorem d_KitRunner_runCase_17 : decode prog_1_method_21_code 17 = .ok (.getfield 10, 3) := by decide +kernel
theorem d_KitRunner_runCase_20 : decode prog_1_method_21_code 20 = .ok (.iload_n 1, 1) := by decide +kernel
theorem d_KitRunner_runCase_21 : decode prog_1_method_21_code 21 = .ok (.getstatic 135, 3) := by decide +kernel
theorem d_KitRunner_runCase_24 : decode prog_1_method_21_code 24 = .ok (.iload_n 2, 1) := by decide +kernel
theorem d_KitRunner_runCase_25 : decode prog_1_method_21_code 25 = .ok (.iaload, 1) := by decide +kernel
theorem d_KitRunner_runCase_26 : decode prog_1_method_21_code 26 = .ok (.getstatic 135, 3) := by decide +kernel
theorem d_KitRunner_runCase_29 : decode prog_1_method_21_code 29 = .ok (.iload_n 3, 1) := by decide +kernel
theorem d_KitRunner_runCase_30 : decode prog_1_method_21_code 30 = .ok (.iaload, 1) := by decide +kernel
theorem d_KitRunner_runCase_31 : decode prog_1_method_21_code 31 = .ok (.invokevirtual 107, 3) := by decide +kernel
theorem d_KitRunner_runCase_34 : decode prog_1_method_21_code 34 = .ok (.lstore 6, 2) := by decide +kernel
theorem d_KitRunner_runCase_36 : decode prog_1_method_21_code 36 = .ok (.aload_n 0, 1) := by decide +kernel
theorem d_KitRunner_runCase_37 : decode prog_1_method_21_code 37 = .ok (.getfield 33, 3) := by decide +kernel
theorem d_KitRunner_runCase_40 : decode prog_1_method_21_code 40 = .ok (.iload_n 1, 1) := by decide +kernel
theorem d_KitRunner_runCase_41 : decode prog_1_method_21_code 41 = .ok (.lload 6, 2) := by decide +kernel
theorem d_KitRunner_runCase_43 : decode prog_1_method_21_code 43 = .ok (.invokevirtual 214, 3) := by decide +kernel
theorem d_KitRunner_runCase_46 : decode prog_1_method_21_code 46 = .ok (.lload 6, 2) := by decide +kernel
theorem d_KitRunner_runCase_48 : decode prog_1_method_21_code 48 = .ok (.lload 4, 2) := by decide +kernel
theorem d_KitRunner_runCase_50 : decode prog_1_method_21_code 50 = .ok (.lcmp, 1) := by decide +kernel
theorem d_KitRunner_runCase_51 : decode prog_1_method_21_code 51 = .ok (.ifCond .eq 25, 3) := by decide +kernel
theorem d_KitRunner_runCase_76 : decode prog_1_method_21_code 76 = .ok (.return_, 1) := by decide +kernel
end
section
theorem d_KitRunner_runCase_54 : decode prog_1_method_21_code 54 = .ok (.aload_n 0, 1) := by decide +kernel
theorem d_KitRunner_runCase_55 : decode prog_1_method_21_code 55 = .ok (.getfield 33, 3) := by decide +kernel
theorem d_KitRunner_runCase_58 : decode prog_1_method_21_code 58 = .ok (.iload_n 1, 1) := by decide +kernel
theorem d_KitRunner_runCase_59 : decode prog_1_method_21_code 59 = .ok (.invokevirtual 218, 3) := by decide +kernel
theorem d_KitRunner_runCase_62 : decode prog_1_method_21_code 62 = .ok (.aload_n 0, 1) := by decide +kernel
theorem d_KitRunner_runCase_63 : decode prog_1_method_21_code 63 = .ok (.getfield 40, 3) := by decide +kernel
theorem d_KitRunner_runCase_66 : decode prog_1_method_21_code 66 = .ok (.iload_n 1, 1) := by decide +kernel
theorem d_KitRunner_runCase_67 : decode prog_1_method_21_code 67 = .ok (.iload_n 2, 1) := by decide +kernel
theorem d_KitRunner_runCase_68 : decode prog_1_method_21_code 68 = .ok (.iload_n 3, 1) := by decide +kernel
theorem d_KitRunner_runCase_69 : decode prog_1_method_21_code 69 = .ok (.lload 4, 2) := by decide +kernel
theorem d_KitRunner_runCase_71 : decode prog_1_method_21_code 71 = .ok (.lload 6, 2) := by decide +kernel
theorem d_KitRunner_runCase_73 : decode prog_1_method_21_code 73 = .ok (.invokevirtual 222, 3) := by decide +kernel
theorem d_KitRunner_runEntry_0 : decode prog_1_method_20_code 0 = .ok (.iconst 0, 1) := by decide +kernel
theorem d_KitRunner_runEntry_1 : decode prog_1_method_20_code 1 = .ok (.istore 4, 2) := by decide +kernel
theorem d_KitRunner_runEntry_3 : decode prog_1_method_20_code 3 = .ok (.iload 4, 2) := by decide +kernel
theorem d_KitRunner_runEntry_5 : decode prog_1_method_20_code 5 = .ok (.iload_n 2, 1) := by decide +kernel
theorem d_KitRunner_runEntry_6 : decode prog_1_method_20_code 6 = .ok (.if_icmp .ge 85, 3) := by decide +kernel
theorem d_KitRunner_runEntry_91 : decode prog_1_method_20_code 91 = .ok (.return_, 1) := by decide +kernel
theorem d_KitRunner_runEntry_9 : decode prog_1_method_20_code 9 = .ok (.iconst 0, 1) := by decide +kernel
theorem d_KitRunner_runEntry_10 : decode prog_1_method_20_code 10 = .ok (.istore 5, 2) := by decide +kernel
theorem d_KitRunner_runEntry_12 : decode prog_1_method_20_code 12 = .ok (.iload 5, 2) := by decide +kernel
theorem d_KitRunner_runEntry_14 : decode prog_1_method_20_code 14 = .ok (.iload_n 2, 1) := by decide +kernel
theorem d_KitRunner_runEntry_15 : decode prog_1_method_20_code 15 = .ok (.if_icmp .ge 70, 3) := by decide +kernel
theorem d_KitRunner_runEntry_85 : decode prog_1_method_20_code 85 = .ok (.iinc 4 1, 3) := by decide +kernel
theorem d_KitRunner_runEntry_88 : decode prog_1_method_20_code 88 = .ok (.goto (-85), 3) := by decide +kernel
theorem d_KitRunner_runEntry_18 : decode prog_1_method_20_code 18 = .ok (.aload_n 0, 1) := by decide +kernel
theorem d_KitRunner_runEntry_19 : decode prog_1_method_20_code 19 = .ok (.getfield 19, 3) := by decide +kernel
theorem d_KitRunner_runEntry_22 : decode prog_1_method_20_code 22 = .ok (.iload_n 1, 1) := by decide +kernel
theorem d_KitRunner_runEntry_23 : decode prog_1_method_20_code 23 = .ok (.getstatic 135, 3) := by decide +kernel
theorem d_KitRunner_runEntry_26 : decode prog_1_method_20_code 26 = .ok (.iload 4, 2) := by decide +kernel
theorem d_KitRunner_runEntry_28 : decode prog_1_method_20_code 28 = .ok (.iaload, 1) := by decide +kernel
theorem d_KitRunner_runEntry_29 : decode prog_1_method_20_code 29 = .ok (.getstatic 135, 3) := by decide +kernel
theorem d_KitRunner_runEntry_32 : decode prog_1_method_20_code 32 = .ok (.iload 5, 2) := by decide +kernel
theorem d_KitRunner_runEntry_34 : decode prog_1_method_20_code 34 = .ok (.iaload, 1) := by decide +kernel
theorem d_KitRunner_runEntry_35 : decode prog_1_method_20_code 35 = .ok (.invokevirtual 201, 3) := by decide +kernel
theorem d_KitRunner_runEntry_38 : decode prog_1_method_20_code 38 = .ok (.ifCond .eq 13, 3) := by decide +kernel
theorem d_KitRunner_runEntry_51 : decode prog_1_method_20_code 51 = .ok (.aload_n 0, 1) := by decide +kernel
theorem d_KitRunner_runEntry_52 : decode prog_1_method_20_code 52 = .ok (.getfield 26, 3) := by decide +kernel
theorem d_KitRunner_runEntry_55 : decode prog_1_method_20_code 55 = .ok (.iload_n 1, 1) := by decide +kernel
theorem d_KitRunner_runEntry_56 : decode prog_1_method_20_code 56 = .ok (.iload 4, 2) := by decide +kernel
theorem d_KitRunner_runEntry_58 : decode prog_1_method_20_code 58 = .ok (.iload 5, 2) := by decide +kernel
theorem d_KitRunner_runEntry_60 : decode prog_1_method_20_code 60 = .ok (.invokevirtual 207, 3) := by decide +kernel
theorem d_KitRunner_runEntry_63 : decode prog_1_method_20_code 63 = .ok (.ifCond .ne 7, 3) := by decide +kernel
theorem d_KitRunner_runEntry_70 : decode prog_1_method_20_code 70 = .ok (.aload_n 0, 1) := by decide +kernel
theorem d_KitRunner_runEntry_71 : decode prog_1_method_20_code 71 = .ok (.iload_n 1, 1) := by decide +kernel
theorem d_KitRunner_runEntry_72 : decode prog_1_method_20_code 72 = .ok (.iload 4, 2) := by decide +kernel
theorem d_KitRunner_runEntry_74 : decode prog_1_method_20_code 74 = .ok (.iload 5, 2) := by decide +kernel
theorem d_KitRunner_runEntry_76 : decode prog_1_method_20_code 76 = .ok (.invokevirtual 210, 3) := by decide +kernel
theorem d_KitRunner_runEntry_79 : decode prog_1_method_20_code 79 = .ok (.iinc 5 1, 3) := by decide +kernel
theorem d_KitRunner_runEntry_82 : decode prog_1_method_20_code 82 = .ok (.goto (-70), 3) := by decide +kernel
theorem d_KitRunner_runEntry_66 : decode prog_1_method_20_code 66 = .ok (.iload_n 3, 1) := by decide +kernel
theorem d_KitRunner_runEntry_67 : decode prog_1_method_20_code 67 = .ok (.ifCond .ne 12, 3) := by decide +kernel
theorem d_KitRunner_runEntry_41 : decode prog_1_method_20_code 41 = .ok (.aload_n 0, 1) := by decide +kernel
theorem d_KitRunner_runEntry_42 : decode prog_1_method_20_code 42 = .ok (.getfield 33, 3) := by decide +kernel
theorem d_KitRunner_runEntry_45 : decode prog_1_method_20_code 45 = .ok (.invokevirtual 204, 3) := by decide +kernel
theorem d_KitRunner_runEntry_48 : decode prog_1_method_20_code 48 = .ok (.goto 31, 3) := by decide +kernel
theorem d_KitRunner_forgetLatestRun_0 : decode prog_1_method_19_code 0 = .ok (.aload_n 0, 1) := by decide +kernel
theorem d_KitRunner_forgetLatestRun_1 : decode prog_1_method_19_code 1 = .ok (.getfield 26, 3) := by decide +kernel
theorem d_KitRunner_forgetLatestRun_4 : decode prog_1_method_19_code 4 = .ok (.invokevirtual 195, 3) := by decide +kernel
theorem d_KitRunner_forgetLatestRun_7 : decode prog_1_method_19_code 7 = .ok (.aload_n 0, 1) := by decide +kernel
theorem d_KitRunner_forgetLatestRun_8 : decode prog_1_method_19_code 8 = .ok (.getfield 33, 3) := by decide +kernel
theorem d_KitRunner_forgetLatestRun_11 : decode prog_1_method_19_code 11 = .ok (.invokevirtual 198, 3) := by decide +kernel
theorem d_KitRunner_forgetLatestRun_14 : decode prog_1_method_19_code 14 = .ok (.aload_n 0, 1) := by decide +kernel
theorem d_KitRunner_forgetLatestRun_15 : decode prog_1_method_19_code 15 = .ok (.getfield 40, 3) := by decide +kernel
theorem d_KitRunner_forgetLatestRun_18 : decode prog_1_method_19_code 18 = .ok (.invokevirtual 199, 3) := by decide +kernel
theorem d_KitRunner_forgetLatestRun_21 : decode prog_1_method_19_code 21 = .ok (.aload_n 0, 1) := by decide +kernel
theorem d_KitRunner_forgetLatestRun_22 : decode prog_1_method_19_code 22 = .ok (.getfield 47, 3) := by decide +kernel
theorem d_KitRunner_forgetLatestRun_25 : decode prog_1_method_19_code 25 = .ok (.invokevirtual 200, 3) := by decide +kernel
theorem d_KitRunner_forgetLatestRun_28 : decode prog_1_method_19_code 28 = .ok (.return_, 1) := by decide +kernel
theorem d_K_Shrinker_moveA_0 : decode prog_8_method_6_code 0 = .ok (.iconst 0, 1) := by decide +kernel
theorem d_K_Shrinker_moveA_1 : decode prog_8_method_6_code 1 = .ok (.istore_n 3, 1) := by decide +kernel
theorem d_K_Shrinker_moveA_2 : decode prog_8_method_6_code 2 = .ok (.iload_n 3, 1) := by decide +kernel
theorem d_K_Shrinker_moveA_3 : decode prog_8_method_6_code 3 = .ok (.aload_n 0, 1) := by decide +kernel
theorem d_K_Shrinker_moveA_4 : decode prog_8_method_6_code 4 = .ok (.getfield 9, 3) := by decide +kernel
theorem d_K_Shrinker_moveA_7 : decode prog_8_method_6_code 7 = .ok (.if_icmp .ge 29, 3) := by decide +kernel
theorem d_K_Shrinker_moveA_36 : decode prog_8_method_6_code 36 = .ok (.iconst 0, 1) := by decide +kernel
theorem d_K_Shrinker_moveA_37 : decode prog_8_method_6_code 37 = .ok (.ireturn, 1) := by decide +kernel
theorem d_K_Shrinker_moveA_10 : decode prog_8_method_6_code 10 = .ok (.aload_n 1, 1) := by decide +kernel
theorem d_K_Shrinker_moveA_11 : decode prog_8_method_6_code 11 = .ok (.iload_n 2, 1) := by decide +kernel
theorem d_K_Shrinker_moveA_12 : decode prog_8_method_6_code 12 = .ok (.iload_n 3, 1) := by decide +kernel
theorem d_K_Shrinker_moveA_13 : decode prog_8_method_6_code 13 = .ok (.aload_n 0, 1) := by decide +kernel
theorem d_K_Shrinker_moveA_14 : decode prog_8_method_6_code 14 = .ok (.getfield 15, 3) := by decide +kernel
theorem d_K_Shrinker_moveA_17 : decode prog_8_method_6_code 17 = .ok (.invokevirtual 21, 3) := by decide +kernel
theorem d_K_Shrinker_moveA_20 : decode prog_8_method_6_code 20 = .ok (.ifCond .eq 10, 3) := by decide +kernel
theorem d_K_Shrinker_moveA_30 : decode prog_8_method_6_code 30 = .ok (.iinc 3 1, 3) := by decide +kernel
theorem d_K_Shrinker_moveA_33 : decode prog_8_method_6_code 33 = .ok (.goto (-31), 3) := by decide +kernel
theorem d_K_Shrinker_moveA_23 : decode prog_8_method_6_code 23 = .ok (.aload_n 0, 1) := by decide +kernel
theorem d_K_Shrinker_moveA_24 : decode prog_8_method_6_code 24 = .ok (.iload_n 3, 1) := by decide +kernel
theorem d_K_Shrinker_moveA_25 : decode prog_8_method_6_code 25 = .ok (.putfield 9, 3) := by decide +kernel
theorem d_K_Shrinker_moveA_28 : decode prog_8_method_6_code 28 = .ok (.iconst 1, 1) := by decide +kernel
theorem d_K_Shrinker_moveA_29 : decode prog_8_method_6_code 29 = .ok (.ireturn, 1) := by decide +kernel
theorem d_K_Shrinker_moveB_0 : decode prog_8_method_7_code 0 = .ok (.iconst 0, 1) := by decide +kernel
theorem d_K_Shrinker_moveB_1 : decode prog_8_method_7_code 1 = .ok (.istore_n 3, 1) := by decide +kernel
theorem d_K_Shrinker_moveB_2 : decode prog_8_method_7_code 2 = .ok (.iload_n 3, 1) := by decide +kernel
theorem d_K_Shrinker_moveB_3 : decode prog_8_method_7_code 3 = .ok (.aload_n 0, 1) := by decide +kernel
theorem d_K_Shrinker_moveB_4 : decode prog_8_method_7_code 4 = .ok (.getfield 15, 3) := by decide +kernel
theorem d_K_Shrinker_moveB_7 : decode prog_8_method_7_code 7 = .ok (.if_icmp .ge 29, 3) := by decide +kernel
theorem d_K_Shrinker_moveB_36 : decode prog_8_method_7_code 36 = .ok (.iconst 0, 1) := by decide +kernel
theorem d_K_Shrinker_moveB_37 : decode prog_8_method_7_code 37 = .ok (.ireturn, 1) := by decide +kernel
theorem d_K_Shrinker_moveB_10 : decode prog_8_method_7_code 10 = .ok (.aload_n 1, 1) := by decide +kernel
theorem d_K_Shrinker_moveB_11 : decode prog_8_method_7_code 11 = .ok (.iload_n 2, 1) := by decide +kernel
theorem d_K_Shrinker_moveB_12 : decode prog_8_method_7_code 12 = .ok (.aload_n 0, 1) := by decide +kernel
theorem d_K_Shrinker_moveB_13 : decode prog_8_method_7_code 13 = .ok (.getfield 9, 3) := by decide +kernel
theorem d_K_Shrinker_moveB_16 : decode prog_8_method_7_code 16 = .ok (.iload_n 3, 1) := by decide +kernel
theorem d_K_Shrinker_moveB_17 : decode prog_8_method_7_code 17 = .ok (.invokevirtual 21, 3) := by decide +kernel
theorem d_K_Shrinker_moveB_20 : decode prog_8_method_7_code 20 = .ok (.ifCond .eq 10, 3) := by decide +kernel
theorem d_K_Shrinker_moveB_30 : decode prog_8_method_7_code 30 = .ok (.iinc 3 1, 3) := by decide +kernel
theorem d_K_Shrinker_moveB_33 : decode prog_8_method_7_code 33 = .ok (.goto (-31), 3) := by decide +kernel
theorem d_K_Shrinker_moveB_23 : decode prog_8_method_7_code 23 = .ok (.aload_n 0, 1) := by decide +kernel
theorem d_K_Shrinker_moveB_24 : decode prog_8_method_7_code 24 = .ok (.iload_n 3, 1) := by decide +kernel
theorem d_K_Shrinker_moveB_25 : decode prog_8_method_7_code 25 = .ok (.putfield 15, 3) := by decide +kernel
theorem d_K_Shrinker_moveB_28 : decode prog_8_method_7_code 28 = .ok (.iconst 1, 1) := by decide +kernel
theorem d_K_Shrinker_moveB_29 : decode prog_8_method_7_code 29 = .ok (.ireturn, 1) := by decide +kernel
theorem d_K_EntryPoints_nameOf_0 : decode prog_2_method_2_code 0 = .ok (.iload_n 0, 1) := by decide +kernel
theorem d_K_EntryPoints_nameOf_1 : decode prog_2_method_2_code 1 = .ok (.tableswitch 120 0 14 #[75, 78, 81, 84, 87, 90, 93, 96, 99, 102, 105, 108, 111, 114, 117], 75) := by decide +kernel
theorem d_K_EntryPoints_nameOf_76 : decode prog_2_method_2_code 76 = .ok (.ldc 7, 2) := by decide +kernel
theorem d_K_EntryPoints_nameOf_78 : decode prog_2_method_2_code 78 = .ok (.areturn, 1) := by decide +kernel
theorem d_K_EntryPoints_nameOf_79 : decode prog_2_method_2_code 79 = .ok (.ldc 9, 2) := by decide +kernel
theorem d_K_EntryPoints_nameOf_81 : decode prog_2_method_2_code 81 = .ok (.areturn, 1) := by decide +kernel
theorem d_K_EntryPoints_nameOf_82 : decode prog_2_method_2_code 82 = .ok (.ldc 11, 2) := by decide +kernel
theorem d_K_EntryPoints_nameOf_84 : decode prog_2_method_2_code 84 = .ok (.areturn, 1) := by decide +kernel
theorem d_K_EntryPoints_nameOf_85 : decode prog_2_method_2_code 85 = .ok (.ldc 13, 2) := by decide +kernel
theorem d_K_EntryPoints_nameOf_87 : decode prog_2_method_2_code 87 = .ok (.areturn, 1) := by decide +kernel
theorem d_K_EntryPoints_nameOf_88 : decode prog_2_method_2_code 88 = .ok (.ldc 15, 2) := by decide +kernel
theorem d_K_EntryPoints_nameOf_90 : decode prog_2_method_2_code 90 = .ok (.areturn, 1) := by decide +kernel
theorem d_K_EntryPoints_nameOf_91 : decode prog_2_method_2_code 91 = .ok (.ldc 17, 2) := by decide +kernel
theorem d_K_EntryPoints_nameOf_93 : decode prog_2_method_2_code 93 = .ok (.areturn, 1) := by decide +kernel
theorem d_K_EntryPoints_nameOf_94 : decode prog_2_method_2_code 94 = .ok (.ldc 19, 2) := by decide +kernel
theorem d_K_EntryPoints_nameOf_96 : decode prog_2_method_2_code 96 = .ok (.areturn, 1) := by decide +kernel
theorem d_K_EntryPoints_nameOf_97 : decode prog_2_method_2_code 97 = .ok (.ldc 21, 2) := by decide +kernel
theorem d_K_EntryPoints_nameOf_99 : decode prog_2_method_2_code 99 = .ok (.areturn, 1) := by decide +kernel
theorem d_K_EntryPoints_nameOf_100 : decode prog_2_method_2_code 100 = .ok (.ldc 23, 2) := by decide +kernel
theorem d_K_EntryPoints_nameOf_102 : decode prog_2_method_2_code 102 = .ok (.areturn, 1) := by decide +kernel
theorem d_K_EntryPoints_nameOf_103 : decode prog_2_method_2_code 103 = .ok (.ldc 25, 2) := by decide +kernel
theorem d_K_EntryPoints_nameOf_105 : decode prog_2_method_2_code 105 = .ok (.areturn, 1) := by decide +kernel
theorem d_K_EntryPoints_nameOf_106 : decode prog_2_method_2_code 106 = .ok (.ldc 27, 2) := by decide +kernel
theorem d_K_EntryPoints_nameOf_108 : decode prog_2_method_2_code 108 = .ok (.areturn, 1) := by decide +kernel
theorem d_K_EntryPoints_nameOf_109 : decode prog_2_method_2_code 109 = .ok (.ldc 29, 2) := by decide +kernel
theorem d_K_EntryPoints_nameOf_111 : decode prog_2_method_2_code 111 = .ok (.areturn, 1) := by decide +kernel
theorem d_K_EntryPoints_nameOf_112 : decode prog_2_method_2_code 112 = .ok (.ldc 31, 2) := by decide +kernel
theorem d_K_EntryPoints_nameOf_114 : decode prog_2_method_2_code 114 = .ok (.areturn, 1) := by decide +kernel
theorem d_K_EntryPoints_nameOf_115 : decode prog_2_method_2_code 115 = .ok (.ldc 33, 2) := by decide +kernel
theorem d_K_EntryPoints_nameOf_117 : decode prog_2_method_2_code 117 = .ok (.areturn, 1) := by decide +kernel
theorem d_K_EntryPoints_nameOf_118 : decode prog_2_method_2_code 118 = .ok (.ldc 35, 2) := by decide +kernel
theorem d_K_EntryPoints_nameOf_120 : decode prog_2_method_2_code 120 = .ok (.areturn, 1) := by decide +kernel
theorem d_K_EntryPoints_nameOf_121 : decode prog_2_method_2_code 121 = .ok (.ldc 37, 2) := by decide +kernel
theorem d_K_EntryPoints_nameOf_123 : decode prog_2_method_2_code 123 = .ok (.areturn, 1) := by decide +kernel
theorem d_KitRunner_packedText_0 : decode prog_1_method_18_code 0 = .ok (.lconst 0, 1) := by decide +kernel
theorem d_KitRunner_packedText_1 : decode prog_1_method_18_code 1 = .ok (.lstore_n 1, 1) := by decide +kernel
theorem d_KitRunner_packedText_2 : decode prog_1_method_18_code 2 = .ok (.iconst 0, 1) := by decide +kernel
theorem d_KitRunner_packedText_3 : decode prog_1_method_18_code 3 = .ok (.istore_n 3, 1) := by decide +kernel
theorem d_KitRunner_packedText_4 : decode prog_1_method_18_code 4 = .ok (.iload_n 3, 1) := by decide +kernel
theorem d_KitRunner_packedText_5 : decode prog_1_method_18_code 5 = .ok (.aload_n 0, 1) := by decide +kernel
theorem d_KitRunner_packedText_6 : decode prog_1_method_18_code 6 = .ok (.invokevirtual 188, 3) := by decide +kernel
theorem d_KitRunner_packedText_9 : decode prog_1_method_18_code 9 = .ok (.if_icmp .ge 21, 3) := by decide +kernel
theorem d_KitRunner_packedText_30 : decode prog_1_method_18_code 30 = .ok (.lload_n 1, 1) := by decide +kernel
theorem d_KitRunner_packedText_31 : decode prog_1_method_18_code 31 = .ok (.lreturn, 1) := by decide +kernel
theorem d_KitRunner_packedText_12 : decode prog_1_method_18_code 12 = .ok (.lload_n 1, 1) := by decide +kernel
theorem d_KitRunner_packedText_13 : decode prog_1_method_18_code 13 = .ok (.bipush 8, 2) := by decide +kernel
theorem d_KitRunner_packedText_15 : decode prog_1_method_18_code 15 = .ok (.lshl, 1) := by decide +kernel
end
section
theorem d_KitRunner_packedText_16 : decode prog_1_method_18_code 16 = .ok (.aload_n 0, 1) := by decide +kernel
theorem d_KitRunner_packedText_17 : decode prog_1_method_18_code 17 = .ok (.iload_n 3, 1) := by decide +kernel
theorem d_KitRunner_packedText_18 : decode prog_1_method_18_code 18 = .ok (.invokevirtual 191, 3) := by decide +kernel
theorem d_KitRunner_packedText_21 : decode prog_1_method_18_code 21 = .ok (.i2l, 1) := by decide +kernel
theorem d_KitRunner_packedText_22 : decode prog_1_method_18_code 22 = .ok (.lor, 1) := by decide +kernel
theorem d_KitRunner_packedText_23 : decode prog_1_method_18_code 23 = .ok (.lstore_n 1, 1) := by decide +kernel
theorem d_KitRunner_packedText_24 : decode prog_1_method_18_code 24 = .ok (.iinc 3 1, 3) := by decide +kernel
theorem d_KitRunner_packedText_27 : decode prog_1_method_18_code 27 = .ok (.goto (-23), 3) := by decide +kernel
theorem d_KitRunner_withoutZeroBytes_0 : decode prog_1_method_17_code 0 = .ok (.lconst 0, 1) := by decide +kernel
theorem d_KitRunner_withoutZeroBytes_1 : decode prog_1_method_17_code 1 = .ok (.lstore_n 2, 1) := by decide +kernel
theorem d_KitRunner_withoutZeroBytes_2 : decode prog_1_method_17_code 2 = .ok (.bipush 56, 2) := by decide +kernel
theorem d_KitRunner_withoutZeroBytes_4 : decode prog_1_method_17_code 4 = .ok (.istore 4, 2) := by decide +kernel
theorem d_KitRunner_withoutZeroBytes_6 : decode prog_1_method_17_code 6 = .ok (.iload 4, 2) := by decide +kernel
theorem d_KitRunner_withoutZeroBytes_8 : decode prog_1_method_17_code 8 = .ok (.ifCond .lt 34, 3) := by decide +kernel
theorem d_KitRunner_withoutZeroBytes_42 : decode prog_1_method_17_code 42 = .ok (.lload_n 2, 1) := by decide +kernel
theorem d_KitRunner_withoutZeroBytes_43 : decode prog_1_method_17_code 43 = .ok (.lreturn, 1) := by decide +kernel
theorem d_KitRunner_withoutZeroBytes_11 : decode prog_1_method_17_code 11 = .ok (.lload_n 0, 1) := by decide +kernel
theorem d_KitRunner_withoutZeroBytes_12 : decode prog_1_method_17_code 12 = .ok (.iload 4, 2) := by decide +kernel
theorem d_KitRunner_withoutZeroBytes_14 : decode prog_1_method_17_code 14 = .ok (.lushr, 1) := by decide +kernel
theorem d_KitRunner_withoutZeroBytes_15 : decode prog_1_method_17_code 15 = .ok (.ldc2_w 186, 3) := by decide +kernel
theorem d_KitRunner_withoutZeroBytes_18 : decode prog_1_method_17_code 18 = .ok (.land, 1) := by decide +kernel
theorem d_KitRunner_withoutZeroBytes_19 : decode prog_1_method_17_code 19 = .ok (.lstore 5, 2) := by decide +kernel
theorem d_KitRunner_withoutZeroBytes_21 : decode prog_1_method_17_code 21 = .ok (.lload 5, 2) := by decide +kernel
theorem d_KitRunner_withoutZeroBytes_23 : decode prog_1_method_17_code 23 = .ok (.lconst 0, 1) := by decide +kernel
theorem d_KitRunner_withoutZeroBytes_24 : decode prog_1_method_17_code 24 = .ok (.lcmp, 1) := by decide +kernel
theorem d_KitRunner_withoutZeroBytes_25 : decode prog_1_method_17_code 25 = .ok (.ifCond .eq 11, 3) := by decide +kernel
theorem d_KitRunner_withoutZeroBytes_36 : decode prog_1_method_17_code 36 = .ok (.iinc 4 (-8), 3) := by decide +kernel
theorem d_KitRunner_withoutZeroBytes_39 : decode prog_1_method_17_code 39 = .ok (.goto (-33), 3) := by decide +kernel
theorem d_KitRunner_withoutZeroBytes_28 : decode prog_1_method_17_code 28 = .ok (.lload_n 2, 1) := by decide +kernel
theorem d_KitRunner_withoutZeroBytes_29 : decode prog_1_method_17_code 29 = .ok (.bipush 8, 2) := by decide +kernel
theorem d_KitRunner_withoutZeroBytes_31 : decode prog_1_method_17_code 31 = .ok (.lshl, 1) := by decide +kernel
theorem d_KitRunner_withoutZeroBytes_32 : decode prog_1_method_17_code 32 = .ok (.lload 5, 2) := by decide +kernel
theorem d_KitRunner_withoutZeroBytes_34 : decode prog_1_method_17_code 34 = .ok (.lor, 1) := by decide +kernel
theorem d_KitRunner_withoutZeroBytes_35 : decode prog_1_method_17_code 35 = .ok (.lstore_n 2, 1) := by decide +kernel
theorem d_KitRunner_find_0 : decode prog_1_method_6_code 0 = .ok (.lload_n 1, 1) := by decide +kernel
theorem d_KitRunner_find_1 : decode prog_1_method_6_code 1 = .ok (.invokestatic 91, 3) := by decide +kernel
theorem d_KitRunner_find_4 : decode prog_1_method_6_code 4 = .ok (.lstore_n 3, 1) := by decide +kernel
theorem d_KitRunner_find_5 : decode prog_1_method_6_code 5 = .ok (.iconst 0, 1) := by decide +kernel
theorem d_KitRunner_find_6 : decode prog_1_method_6_code 6 = .ok (.istore 5, 2) := by decide +kernel
theorem d_KitRunner_find_8 : decode prog_1_method_6_code 8 = .ok (.iload 5, 2) := by decide +kernel
theorem d_KitRunner_find_10 : decode prog_1_method_6_code 10 = .ok (.bipush 16, 2) := by decide +kernel
theorem d_KitRunner_find_12 : decode prog_1_method_6_code 12 = .ok (.if_icmp .ge 25, 3) := by decide +kernel
theorem d_KitRunner_find_37 : decode prog_1_method_6_code 37 = .ok (.iconst (-1), 1) := by decide +kernel
theorem d_KitRunner_find_38 : decode prog_1_method_6_code 38 = .ok (.ireturn, 1) := by decide +kernel
theorem d_KitRunner_find_15 : decode prog_1_method_6_code 15 = .ok (.iload 5, 2) := by decide +kernel
theorem d_KitRunner_find_17 : decode prog_1_method_6_code 17 = .ok (.invokestatic 95, 3) := by decide +kernel
theorem d_KitRunner_find_20 : decode prog_1_method_6_code 20 = .ok (.invokestatic 101, 3) := by decide +kernel
theorem d_KitRunner_find_23 : decode prog_1_method_6_code 23 = .ok (.lload_n 3, 1) := by decide +kernel
theorem d_KitRunner_find_24 : decode prog_1_method_6_code 24 = .ok (.lcmp, 1) := by decide +kernel
theorem d_KitRunner_find_25 : decode prog_1_method_6_code 25 = .ok (.ifCond .ne 6, 3) := by decide +kernel
theorem d_KitRunner_find_31 : decode prog_1_method_6_code 31 = .ok (.iinc 5 1, 3) := by decide +kernel
theorem d_KitRunner_find_34 : decode prog_1_method_6_code 34 = .ok (.goto (-26), 3) := by decide +kernel
theorem d_KitRunner_find_28 : decode prog_1_method_6_code 28 = .ok (.iload 5, 2) := by decide +kernel
theorem d_KitRunner_find_30 : decode prog_1_method_6_code 30 = .ok (.ireturn, 1) := by decide +kernel
theorem d_K_Report_putText_0 : decode prog_7_method_6_code 0 = .ok (.iconst 0, 1) := by decide +kernel
theorem d_K_Report_putText_1 : decode prog_7_method_6_code 1 = .ok (.istore_n 2, 1) := by decide +kernel
theorem d_K_Report_putText_2 : decode prog_7_method_6_code 2 = .ok (.iload_n 2, 1) := by decide +kernel
theorem d_K_Report_putText_3 : decode prog_7_method_6_code 3 = .ok (.aload_n 1, 1) := by decide +kernel
theorem d_K_Report_putText_4 : decode prog_7_method_6_code 4 = .ok (.invokevirtual 19, 3) := by decide +kernel
theorem d_K_Report_putText_7 : decode prog_7_method_6_code 7 = .ok (.if_icmp .ge 18, 3) := by decide +kernel
theorem d_K_Report_putText_25 : decode prog_7_method_6_code 25 = .ok (.return_, 1) := by decide +kernel
theorem d_K_Report_putText_10 : decode prog_7_method_6_code 10 = .ok (.aload_n 0, 1) := by decide +kernel
theorem d_K_Report_putText_11 : decode prog_7_method_6_code 11 = .ok (.aload_n 1, 1) := by decide +kernel
theorem d_K_Report_putText_12 : decode prog_7_method_6_code 12 = .ok (.iload_n 2, 1) := by decide +kernel
theorem d_K_Report_putText_13 : decode prog_7_method_6_code 13 = .ok (.invokevirtual 24, 3) := by decide +kernel
theorem d_K_Report_putText_16 : decode prog_7_method_6_code 16 = .ok (.invokevirtual 28, 3) := by decide +kernel
theorem d_K_Report_putText_19 : decode prog_7_method_6_code 19 = .ok (.iinc 2 1, 3) := by decide +kernel
theorem d_K_Report_putText_22 : decode prog_7_method_6_code 22 = .ok (.goto (-20), 3) := by decide +kernel
theorem d_K_Report_putNumber_0 : decode prog_7_method_7_code 0 = .ok (.bipush 100, 2) := by decide +kernel
theorem d_K_Report_putNumber_2 : decode prog_7_method_7_code 2 = .ok (.istore_n 2, 1) := by decide +kernel
theorem d_K_Report_putNumber_3 : decode prog_7_method_7_code 3 = .ok (.iload_n 2, 1) := by decide +kernel
theorem d_K_Report_putNumber_4 : decode prog_7_method_7_code 4 = .ok (.iconst 1, 1) := by decide +kernel
theorem d_K_Report_putNumber_5 : decode prog_7_method_7_code 5 = .ok (.if_icmp .lt 35, 3) := by decide +kernel
theorem d_K_Report_putNumber_8 : decode prog_7_method_7_code 8 = .ok (.iload_n 1, 1) := by decide +kernel
theorem d_K_Report_putNumber_9 : decode prog_7_method_7_code 9 = .ok (.iload_n 2, 1) := by decide +kernel
theorem d_K_Report_putNumber_10 : decode prog_7_method_7_code 10 = .ok (.if_icmp .ge 8, 3) := by decide +kernel
theorem d_K_Report_putNumber_18 : decode prog_7_method_7_code 18 = .ok (.aload_n 0, 1) := by decide +kernel
theorem d_K_Report_putNumber_19 : decode prog_7_method_7_code 19 = .ok (.bipush 48, 2) := by decide +kernel
theorem d_K_Report_putNumber_21 : decode prog_7_method_7_code 21 = .ok (.iload_n 1, 1) := by decide +kernel
theorem d_K_Report_putNumber_22 : decode prog_7_method_7_code 22 = .ok (.iload_n 2, 1) := by decide +kernel
theorem d_K_Report_putNumber_23 : decode prog_7_method_7_code 23 = .ok (.idiv, 1) := by decide +kernel
theorem d_K_Report_putNumber_24 : decode prog_7_method_7_code 24 = .ok (.bipush 10, 2) := by decide +kernel
theorem d_K_Report_putNumber_26 : decode prog_7_method_7_code 26 = .ok (.irem, 1) := by decide +kernel
theorem d_K_Report_putNumber_27 : decode prog_7_method_7_code 27 = .ok (.iadd, 1) := by decide +kernel
theorem d_K_Report_putNumber_28 : decode prog_7_method_7_code 28 = .ok (.i2c, 1) := by decide +kernel
theorem d_K_Report_putNumber_29 : decode prog_7_method_7_code 29 = .ok (.invokevirtual 28, 3) := by decide +kernel
theorem d_K_Report_putNumber_32 : decode prog_7_method_7_code 32 = .ok (.iload_n 2, 1) := by decide +kernel
theorem d_K_Report_putNumber_33 : decode prog_7_method_7_code 33 = .ok (.bipush 10, 2) := by decide +kernel
theorem d_K_Report_putNumber_35 : decode prog_7_method_7_code 35 = .ok (.idiv, 1) := by decide +kernel
theorem d_K_Report_putNumber_36 : decode prog_7_method_7_code 36 = .ok (.istore_n 2, 1) := by decide +kernel
theorem d_K_Report_putNumber_37 : decode prog_7_method_7_code 37 = .ok (.goto (-34), 3) := by decide +kernel
theorem d_K_Report_putNumber_40 : decode prog_7_method_7_code 40 = .ok (.return_, 1) := by decide +kernel
theorem d_K_Report_putNumber_13 : decode prog_7_method_7_code 13 = .ok (.iload_n 2, 1) := by decide +kernel
theorem d_K_Report_putNumber_14 : decode prog_7_method_7_code 14 = .ok (.iconst 1, 1) := by decide +kernel
theorem d_K_Report_putNumber_15 : decode prog_7_method_7_code 15 = .ok (.if_icmp .ne 17, 3) := by decide +kernel
theorem d_KitRunner_ledger_0 : decode prog_1_method_11_code 0 = .ok (.iload_n 1, 1) := by decide +kernel
theorem d_KitRunner_ledger_1 : decode prog_1_method_11_code 1 = .ok (.invokestatic 66, 3) := by decide +kernel
theorem d_KitRunner_ledger_4 : decode prog_1_method_11_code 4 = .ok (.ifCond .eq 14, 3) := by decide +kernel
theorem d_KitRunner_ledger_18 : decode prog_1_method_11_code 18 = .ok (.iconst (-1), 1) := by decide +kernel
theorem d_KitRunner_ledger_19 : decode prog_1_method_11_code 19 = .ok (.ireturn, 1) := by decide +kernel
theorem d_KitRunner_ledger_7 : decode prog_1_method_11_code 7 = .ok (.aload_n 0, 1) := by decide +kernel
theorem d_KitRunner_ledger_8 : decode prog_1_method_11_code 8 = .ok (.getfield 33, 3) := by decide +kernel
theorem d_KitRunner_ledger_11 : decode prog_1_method_11_code 11 = .ok (.iload_n 1, 1) := by decide +kernel
theorem d_KitRunner_ledger_12 : decode prog_1_method_11_code 12 = .ok (.invokevirtual 165, 3) := by decide +kernel
theorem d_KitRunner_ledger_15 : decode prog_1_method_11_code 15 = .ok (.goto 4, 3) := by decide +kernel
theorem d_KitRunner_failure_0 : decode prog_1_method_9_code 0 = .ok (.iload_n 1, 1) := by decide +kernel
theorem d_KitRunner_failure_1 : decode prog_1_method_9_code 1 = .ok (.ifCond .lt 14, 3) := by decide +kernel
theorem d_KitRunner_failure_15 : decode prog_1_method_9_code 15 = .ok (.ldc2_w 105, 3) := by decide +kernel
theorem d_KitRunner_failure_18 : decode prog_1_method_9_code 18 = .ok (.lreturn, 1) := by decide +kernel
theorem d_KitRunner_failure_4 : decode prog_1_method_9_code 4 = .ok (.iload_n 1, 1) := by decide +kernel
theorem d_KitRunner_failure_5 : decode prog_1_method_9_code 5 = .ok (.aload_n 0, 1) := by decide +kernel
theorem d_KitRunner_failure_6 : decode prog_1_method_9_code 6 = .ok (.getfield 40, 3) := by decide +kernel
theorem d_KitRunner_failure_9 : decode prog_1_method_9_code 9 = .ok (.invokevirtual 131, 3) := by decide +kernel
theorem d_KitRunner_failure_12 : decode prog_1_method_9_code 12 = .ok (.if_icmp .lt 7, 3) := by decide +kernel
theorem d_KitRunner_failure_19 : decode prog_1_method_9_code 19 = .ok (.iload_n 2, 1) := by decide +kernel
theorem d_KitRunner_failure_20 : decode prog_1_method_9_code 20 = .ok (.tableswitch 92 0 4 #[36, 46, 60, 74, 83], 36) := by decide +kernel
theorem d_KitRunner_failure_56 : decode prog_1_method_9_code 56 = .ok (.aload_n 0, 1) := by decide +kernel
theorem d_KitRunner_failure_57 : decode prog_1_method_9_code 57 = .ok (.getfield 40, 3) := by decide +kernel
theorem d_KitRunner_failure_60 : decode prog_1_method_9_code 60 = .ok (.iload_n 1, 1) := by decide +kernel
theorem d_KitRunner_failure_61 : decode prog_1_method_9_code 61 = .ok (.invokevirtual 132, 3) := by decide +kernel
theorem d_KitRunner_failure_64 : decode prog_1_method_9_code 64 = .ok (.i2l, 1) := by decide +kernel
theorem d_KitRunner_failure_65 : decode prog_1_method_9_code 65 = .ok (.lreturn, 1) := by decide +kernel
theorem d_KitRunner_failure_66 : decode prog_1_method_9_code 66 = .ok (.getstatic 135, 3) := by decide +kernel
theorem d_KitRunner_failure_69 : decode prog_1_method_9_code 69 = .ok (.aload_n 0, 1) := by decide +kernel
theorem d_KitRunner_failure_70 : decode prog_1_method_9_code 70 = .ok (.getfield 40, 3) := by decide +kernel
theorem d_KitRunner_failure_73 : decode prog_1_method_9_code 73 = .ok (.iload_n 1, 1) := by decide +kernel
theorem d_KitRunner_failure_74 : decode prog_1_method_9_code 74 = .ok (.invokevirtual 139, 3) := by decide +kernel
theorem d_KitRunner_failure_77 : decode prog_1_method_9_code 77 = .ok (.iaload, 1) := by decide +kernel
theorem d_KitRunner_failure_78 : decode prog_1_method_9_code 78 = .ok (.i2l, 1) := by decide +kernel
theorem d_KitRunner_failure_79 : decode prog_1_method_9_code 79 = .ok (.lreturn, 1) := by decide +kernel
theorem d_KitRunner_failure_80 : decode prog_1_method_9_code 80 = .ok (.getstatic 135, 3) := by decide +kernel
theorem d_KitRunner_failure_83 : decode prog_1_method_9_code 83 = .ok (.aload_n 0, 1) := by decide +kernel
theorem d_KitRunner_failure_84 : decode prog_1_method_9_code 84 = .ok (.getfield 40, 3) := by decide +kernel
theorem d_KitRunner_failure_87 : decode prog_1_method_9_code 87 = .ok (.iload_n 1, 1) := by decide +kernel
theorem d_KitRunner_failure_88 : decode prog_1_method_9_code 88 = .ok (.invokevirtual 142, 3) := by decide +kernel
theorem d_KitRunner_failure_91 : decode prog_1_method_9_code 91 = .ok (.iaload, 1) := by decide +kernel
theorem d_KitRunner_failure_92 : decode prog_1_method_9_code 92 = .ok (.i2l, 1) := by decide +kernel
theorem d_KitRunner_failure_93 : decode prog_1_method_9_code 93 = .ok (.lreturn, 1) := by decide +kernel
theorem d_KitRunner_failure_94 : decode prog_1_method_9_code 94 = .ok (.aload_n 0, 1) := by decide +kernel
theorem d_KitRunner_failure_95 : decode prog_1_method_9_code 95 = .ok (.getfield 40, 3) := by decide +kernel
theorem d_KitRunner_failure_98 : decode prog_1_method_9_code 98 = .ok (.iload_n 1, 1) := by decide +kernel
theorem d_KitRunner_failure_99 : decode prog_1_method_9_code 99 = .ok (.invokevirtual 145, 3) := by decide +kernel
theorem d_KitRunner_failure_102 : decode prog_1_method_9_code 102 = .ok (.lreturn, 1) := by decide +kernel
theorem d_KitRunner_failure_103 : decode prog_1_method_9_code 103 = .ok (.aload_n 0, 1) := by decide +kernel
theorem d_KitRunner_failure_104 : decode prog_1_method_9_code 104 = .ok (.getfield 40, 3) := by decide +kernel
theorem d_KitRunner_failure_107 : decode prog_1_method_9_code 107 = .ok (.iload_n 1, 1) := by decide +kernel
theorem d_KitRunner_failure_108 : decode prog_1_method_9_code 108 = .ok (.invokevirtual 149, 3) := by decide +kernel
theorem d_KitRunner_failure_111 : decode prog_1_method_9_code 111 = .ok (.lreturn, 1) := by decide +kernel
theorem d_KitRunner_failure_112 : decode prog_1_method_9_code 112 = .ok (.ldc2_w 105, 3) := by decide +kernel
theorem d_KitRunner_failure_115 : decode prog_1_method_9_code 115 = .ok (.lreturn, 1) := by decide +kernel
theorem d_KitRunner_count_0 : decode prog_1_method_13_code 0 = .ok (.iload_n 1, 1) := by decide +kernel
theorem d_KitRunner_count_1 : decode prog_1_method_13_code 1 = .ok (.tableswitch 140 0 9 #[55, 63, 71, 79, 87, 95, 103, 119, 124, 132], 55) := by decide +kernel
theorem d_KitRunner_count_56 : decode prog_1_method_13_code 56 = .ok (.aload_n 0, 1) := by decide +kernel
theorem d_KitRunner_count_57 : decode prog_1_method_13_code 57 = .ok (.getfield 33, 3) := by decide +kernel
theorem d_KitRunner_count_60 : decode prog_1_method_13_code 60 = .ok (.invokevirtual 171, 3) := by decide +kernel
theorem d_KitRunner_count_63 : decode prog_1_method_13_code 63 = .ok (.ireturn, 1) := by decide +kernel
theorem d_KitRunner_count_64 : decode prog_1_method_13_code 64 = .ok (.aload_n 0, 1) := by decide +kernel
theorem d_KitRunner_count_65 : decode prog_1_method_13_code 65 = .ok (.getfield 33, 3) := by decide +kernel
theorem d_KitRunner_count_68 : decode prog_1_method_13_code 68 = .ok (.invokevirtual 128, 3) := by decide +kernel
theorem d_KitRunner_count_71 : decode prog_1_method_13_code 71 = .ok (.ireturn, 1) := by decide +kernel
end
section
theorem d_KitRunner_count_72 : decode prog_1_method_13_code 72 = .ok (.aload_n 0, 1) := by decide +kernel
theorem d_KitRunner_count_73 : decode prog_1_method_13_code 73 = .ok (.getfield 33, 3) := by decide +kernel
theorem d_KitRunner_count_76 : decode prog_1_method_13_code 76 = .ok (.invokevirtual 174, 3) := by decide +kernel
theorem d_KitRunner_count_79 : decode prog_1_method_13_code 79 = .ok (.ireturn, 1) := by decide +kernel
theorem d_KitRunner_count_80 : decode prog_1_method_13_code 80 = .ok (.aload_n 0, 1) := by decide +kernel
theorem d_KitRunner_count_81 : decode prog_1_method_13_code 81 = .ok (.getfield 26, 3) := by decide +kernel
theorem d_KitRunner_count_84 : decode prog_1_method_13_code 84 = .ok (.invokevirtual 177, 3) := by decide +kernel
theorem d_KitRunner_count_87 : decode prog_1_method_13_code 87 = .ok (.ireturn, 1) := by decide +kernel
theorem d_KitRunner_count_88 : decode prog_1_method_13_code 88 = .ok (.aload_n 0, 1) := by decide +kernel
theorem d_KitRunner_count_89 : decode prog_1_method_13_code 89 = .ok (.getfield 33, 3) := by decide +kernel
theorem d_KitRunner_count_92 : decode prog_1_method_13_code 92 = .ok (.invokevirtual 178, 3) := by decide +kernel
theorem d_KitRunner_count_95 : decode prog_1_method_13_code 95 = .ok (.ireturn, 1) := by decide +kernel
theorem d_KitRunner_count_96 : decode prog_1_method_13_code 96 = .ok (.aload_n 0, 1) := by decide +kernel
theorem d_KitRunner_count_97 : decode prog_1_method_13_code 97 = .ok (.getfield 47, 3) := by decide +kernel
theorem d_KitRunner_count_100 : decode prog_1_method_13_code 100 = .ok (.invokevirtual 181, 3) := by decide +kernel
theorem d_KitRunner_count_103 : decode prog_1_method_13_code 103 = .ok (.ireturn, 1) := by decide +kernel
theorem d_KitRunner_count_104 : decode prog_1_method_13_code 104 = .ok (.aload_n 0, 1) := by decide +kernel
theorem d_KitRunner_count_105 : decode prog_1_method_13_code 105 = .ok (.getfield 33, 3) := by decide +kernel
theorem d_KitRunner_count_108 : decode prog_1_method_13_code 108 = .ok (.invokevirtual 128, 3) := by decide +kernel
theorem d_KitRunner_count_111 : decode prog_1_method_13_code 111 = .ok (.ifCond .le 7, 3) := by decide +kernel
theorem d_KitRunner_count_118 : decode prog_1_method_13_code 118 = .ok (.iconst 0, 1) := by decide +kernel
theorem d_KitRunner_count_119 : decode prog_1_method_13_code 119 = .ok (.ireturn, 1) := by decide +kernel
theorem d_KitRunner_count_114 : decode prog_1_method_13_code 114 = .ok (.iconst 1, 1) := by decide +kernel
theorem d_KitRunner_count_115 : decode prog_1_method_13_code 115 = .ok (.goto 4, 3) := by decide +kernel
theorem d_KitRunner_count_120 : decode prog_1_method_13_code 120 = .ok (.aload_n 0, 1) := by decide +kernel
theorem d_KitRunner_count_121 : decode prog_1_method_13_code 121 = .ok (.getfield 63, 3) := by decide +kernel
theorem d_KitRunner_count_124 : decode prog_1_method_13_code 124 = .ok (.ireturn, 1) := by decide +kernel
theorem d_KitRunner_count_125 : decode prog_1_method_13_code 125 = .ok (.aload_n 0, 1) := by decide +kernel
theorem d_KitRunner_count_126 : decode prog_1_method_13_code 126 = .ok (.getfield 10, 3) := by decide +kernel
theorem d_KitRunner_count_129 : decode prog_1_method_13_code 129 = .ok (.invokevirtual 74, 3) := by decide +kernel
theorem d_KitRunner_count_132 : decode prog_1_method_13_code 132 = .ok (.ireturn, 1) := by decide +kernel
theorem d_KitRunner_count_133 : decode prog_1_method_13_code 133 = .ok (.aload_n 0, 1) := by decide +kernel
theorem d_KitRunner_count_134 : decode prog_1_method_13_code 134 = .ok (.getfield 19, 3) := by decide +kernel
theorem d_KitRunner_count_137 : decode prog_1_method_13_code 137 = .ok (.invokevirtual 82, 3) := by decide +kernel
theorem d_KitRunner_count_140 : decode prog_1_method_13_code 140 = .ok (.ireturn, 1) := by decide +kernel
theorem d_KitRunner_count_141 : decode prog_1_method_13_code 141 = .ok (.iconst (-1), 1) := by decide +kernel
theorem d_KitRunner_count_142 : decode prog_1_method_13_code 142 = .ok (.ireturn, 1) := by decide +kernel
theorem d_KitRunner_writeReport_0 : decode prog_1_method_22_code 0 = .ok (.iconst 0, 1) := by decide +kernel
theorem d_KitRunner_writeReport_1 : decode prog_1_method_22_code 1 = .ok (.istore_n 1, 1) := by decide +kernel
theorem d_KitRunner_writeReport_2 : decode prog_1_method_22_code 2 = .ok (.iload_n 1, 1) := by decide +kernel
theorem d_KitRunner_writeReport_3 : decode prog_1_method_22_code 3 = .ok (.bipush 16, 2) := by decide +kernel
theorem d_KitRunner_writeReport_5 : decode prog_1_method_22_code 5 = .ok (.if_icmp .ge 88, 3) := by decide +kernel
theorem d_KitRunner_writeReport_93 : decode prog_1_method_22_code 93 = .ok (.aload_n 0, 1) := by decide +kernel
theorem d_KitRunner_writeReport_94 : decode prog_1_method_22_code 94 = .ok (.getfield 47, 3) := by decide +kernel
theorem d_KitRunner_writeReport_97 : decode prog_1_method_22_code 97 = .ok (.aload_n 0, 1) := by decide +kernel
theorem d_KitRunner_writeReport_98 : decode prog_1_method_22_code 98 = .ok (.getfield 33, 3) := by decide +kernel
theorem d_KitRunner_writeReport_101 : decode prog_1_method_22_code 101 = .ok (.invokevirtual 128, 3) := by decide +kernel
theorem d_KitRunner_writeReport_104 : decode prog_1_method_22_code 104 = .ok (.ifCond .le 8, 3) := by decide +kernel
theorem d_KitRunner_writeReport_112 : decode prog_1_method_22_code 112 = .ok (.ldc 245, 2) := by decide +kernel
theorem d_KitRunner_writeReport_114 : decode prog_1_method_22_code 114 = .ok (.invokevirtual 229, 3) := by decide +kernel
theorem d_KitRunner_writeReport_117 : decode prog_1_method_22_code 117 = .ok (.aload_n 0, 1) := by decide +kernel
theorem d_KitRunner_writeReport_118 : decode prog_1_method_22_code 118 = .ok (.getfield 47, 3) := by decide +kernel
theorem d_KitRunner_writeReport_121 : decode prog_1_method_22_code 121 = .ok (.bipush 10, 2) := by decide +kernel
theorem d_KitRunner_writeReport_123 : decode prog_1_method_22_code 123 = .ok (.invokevirtual 233, 3) := by decide +kernel
theorem d_KitRunner_writeReport_126 : decode prog_1_method_22_code 126 = .ok (.return_, 1) := by decide +kernel
theorem d_KitRunner_writeReport_107 : decode prog_1_method_22_code 107 = .ok (.ldc 243, 2) := by decide +kernel
theorem d_KitRunner_writeReport_109 : decode prog_1_method_22_code 109 = .ok (.goto 5, 3) := by decide +kernel
theorem d_KitRunner_writeReport_8 : decode prog_1_method_22_code 8 = .ok (.aload_n 0, 1) := by decide +kernel
theorem d_KitRunner_writeReport_9 : decode prog_1_method_22_code 9 = .ok (.getfield 33, 3) := by decide +kernel
theorem d_KitRunner_writeReport_12 : decode prog_1_method_22_code 12 = .ok (.iload_n 1, 1) := by decide +kernel
theorem d_KitRunner_writeReport_13 : decode prog_1_method_22_code 13 = .ok (.invokevirtual 226, 3) := by decide +kernel
theorem d_KitRunner_writeReport_16 : decode prog_1_method_22_code 16 = .ok (.ifCond .le 71, 3) := by decide +kernel
theorem d_KitRunner_writeReport_87 : decode prog_1_method_22_code 87 = .ok (.iinc 1 1, 3) := by decide +kernel
theorem d_KitRunner_writeReport_90 : decode prog_1_method_22_code 90 = .ok (.goto (-88), 3) := by decide +kernel
theorem d_KitRunner_writeReport_19 : decode prog_1_method_22_code 19 = .ok (.aload_n 0, 1) := by decide +kernel
theorem d_KitRunner_writeReport_20 : decode prog_1_method_22_code 20 = .ok (.getfield 47, 3) := by decide +kernel
theorem d_KitRunner_writeReport_23 : decode prog_1_method_22_code 23 = .ok (.iload_n 1, 1) := by decide +kernel
theorem d_KitRunner_writeReport_24 : decode prog_1_method_22_code 24 = .ok (.invokestatic 95, 3) := by decide +kernel
theorem d_KitRunner_writeReport_27 : decode prog_1_method_22_code 27 = .ok (.invokevirtual 229, 3) := by decide +kernel
theorem d_KitRunner_writeReport_30 : decode prog_1_method_22_code 30 = .ok (.aload_n 0, 1) := by decide +kernel
theorem d_KitRunner_writeReport_31 : decode prog_1_method_22_code 31 = .ok (.getfield 47, 3) := by decide +kernel
theorem d_KitRunner_writeReport_34 : decode prog_1_method_22_code 34 = .ok (.bipush 32, 2) := by decide +kernel
theorem d_KitRunner_writeReport_36 : decode prog_1_method_22_code 36 = .ok (.invokevirtual 233, 3) := by decide +kernel
theorem d_KitRunner_writeReport_39 : decode prog_1_method_22_code 39 = .ok (.aload_n 0, 1) := by decide +kernel
theorem d_KitRunner_writeReport_40 : decode prog_1_method_22_code 40 = .ok (.getfield 47, 3) := by decide +kernel
theorem d_KitRunner_writeReport_43 : decode prog_1_method_22_code 43 = .ok (.aload_n 0, 1) := by decide +kernel
theorem d_KitRunner_writeReport_44 : decode prog_1_method_22_code 44 = .ok (.getfield 33, 3) := by decide +kernel
theorem d_KitRunner_writeReport_47 : decode prog_1_method_22_code 47 = .ok (.iload_n 1, 1) := by decide +kernel
theorem d_KitRunner_writeReport_48 : decode prog_1_method_22_code 48 = .ok (.invokevirtual 226, 3) := by decide +kernel
theorem d_KitRunner_writeReport_51 : decode prog_1_method_22_code 51 = .ok (.invokevirtual 237, 3) := by decide +kernel
theorem d_KitRunner_writeReport_54 : decode prog_1_method_22_code 54 = .ok (.aload_n 0, 1) := by decide +kernel
theorem d_KitRunner_writeReport_55 : decode prog_1_method_22_code 55 = .ok (.getfield 47, 3) := by decide +kernel
theorem d_KitRunner_writeReport_58 : decode prog_1_method_22_code 58 = .ok (.bipush 32, 2) := by decide +kernel
theorem d_KitRunner_writeReport_60 : decode prog_1_method_22_code 60 = .ok (.invokevirtual 233, 3) := by decide +kernel
theorem d_KitRunner_writeReport_63 : decode prog_1_method_22_code 63 = .ok (.aload_n 0, 1) := by decide +kernel
theorem d_KitRunner_writeReport_64 : decode prog_1_method_22_code 64 = .ok (.getfield 47, 3) := by decide +kernel
theorem d_KitRunner_writeReport_67 : decode prog_1_method_22_code 67 = .ok (.aload_n 0, 1) := by decide +kernel
theorem d_KitRunner_writeReport_68 : decode prog_1_method_22_code 68 = .ok (.getfield 33, 3) := by decide +kernel
theorem d_KitRunner_writeReport_71 : decode prog_1_method_22_code 71 = .ok (.iload_n 1, 1) := by decide +kernel
theorem d_KitRunner_writeReport_72 : decode prog_1_method_22_code 72 = .ok (.invokevirtual 240, 3) := by decide +kernel
theorem d_KitRunner_writeReport_75 : decode prog_1_method_22_code 75 = .ok (.invokevirtual 237, 3) := by decide +kernel
theorem d_KitRunner_writeReport_78 : decode prog_1_method_22_code 78 = .ok (.aload_n 0, 1) := by decide +kernel
theorem d_KitRunner_writeReport_79 : decode prog_1_method_22_code 79 = .ok (.getfield 47, 3) := by decide +kernel
theorem d_KitRunner_writeReport_82 : decode prog_1_method_22_code 82 = .ok (.bipush 10, 2) := by decide +kernel
theorem d_KitRunner_writeReport_84 : decode prog_1_method_22_code 84 = .ok (.invokevirtual 233, 3) := by decide +kernel
theorem d_KitRunner_run_0 : decode prog_1_method_8_code 0 = .ok (.iload_n 1, 1) := by decide +kernel
theorem d_KitRunner_run_1 : decode prog_1_method_8_code 1 = .ok (.iconst 1, 1) := by decide +kernel
theorem d_KitRunner_run_2 : decode prog_1_method_8_code 2 = .ok (.if_icmp .lt 8, 3) := by decide +kernel
theorem d_KitRunner_run_10 : decode prog_1_method_8_code 10 = .ok (.iconst (-1), 1) := by decide +kernel
theorem d_KitRunner_run_11 : decode prog_1_method_8_code 11 = .ok (.ireturn, 1) := by decide +kernel
theorem d_KitRunner_run_5 : decode prog_1_method_8_code 5 = .ok (.iload_n 1, 1) := by decide +kernel
theorem d_KitRunner_run_6 : decode prog_1_method_8_code 6 = .ok (.iconst 3, 1) := by decide +kernel
theorem d_KitRunner_run_7 : decode prog_1_method_8_code 7 = .ok (.if_icmp .le 5, 3) := by decide +kernel
theorem d_KitRunner_run_12 : decode prog_1_method_8_code 12 = .ok (.aload_n 0, 1) := by decide +kernel
theorem d_KitRunner_run_13 : decode prog_1_method_8_code 13 = .ok (.invokevirtual 114, 3) := by decide +kernel
theorem d_KitRunner_run_16 : decode prog_1_method_8_code 16 = .ok (.iconst 0, 1) := by decide +kernel
theorem d_KitRunner_run_17 : decode prog_1_method_8_code 17 = .ok (.istore_n 3, 1) := by decide +kernel
theorem d_KitRunner_run_18 : decode prog_1_method_8_code 18 = .ok (.iload_n 3, 1) := by decide +kernel
theorem d_KitRunner_run_19 : decode prog_1_method_8_code 19 = .ok (.bipush 16, 2) := by decide +kernel
theorem d_KitRunner_run_21 : decode prog_1_method_8_code 21 = .ok (.if_icmp .ge 31, 3) := by decide +kernel
theorem d_KitRunner_run_52 : decode prog_1_method_8_code 52 = .ok (.aload_n 0, 1) := by decide +kernel
theorem d_KitRunner_run_53 : decode prog_1_method_8_code 53 = .ok (.invokevirtual 125, 3) := by decide +kernel
theorem d_KitRunner_run_56 : decode prog_1_method_8_code 56 = .ok (.aload_n 0, 1) := by decide +kernel
theorem d_KitRunner_run_57 : decode prog_1_method_8_code 57 = .ok (.dup, 1) := by decide +kernel
theorem d_KitRunner_run_58 : decode prog_1_method_8_code 58 = .ok (.getfield 63, 3) := by decide +kernel
theorem d_KitRunner_run_61 : decode prog_1_method_8_code 61 = .ok (.iconst 1, 1) := by decide +kernel
theorem d_KitRunner_run_62 : decode prog_1_method_8_code 62 = .ok (.iadd, 1) := by decide +kernel
theorem d_KitRunner_run_63 : decode prog_1_method_8_code 63 = .ok (.putfield 63, 3) := by decide +kernel
theorem d_KitRunner_run_66 : decode prog_1_method_8_code 66 = .ok (.aload_n 0, 1) := by decide +kernel
theorem d_KitRunner_run_67 : decode prog_1_method_8_code 67 = .ok (.getfield 33, 3) := by decide +kernel
theorem d_KitRunner_run_70 : decode prog_1_method_8_code 70 = .ok (.invokevirtual 128, 3) := by decide +kernel
theorem d_KitRunner_run_73 : decode prog_1_method_8_code 73 = .ok (.ireturn, 1) := by decide +kernel
theorem d_KitRunner_run_24 : decode prog_1_method_8_code 24 = .ok (.aload_n 0, 1) := by decide +kernel
theorem d_KitRunner_run_25 : decode prog_1_method_8_code 25 = .ok (.getfield 59, 3) := by decide +kernel
theorem d_KitRunner_run_28 : decode prog_1_method_8_code 28 = .ok (.iload_n 3, 1) := by decide +kernel
theorem d_KitRunner_run_29 : decode prog_1_method_8_code 29 = .ok (.ishr, 1) := by decide +kernel
theorem d_KitRunner_run_30 : decode prog_1_method_8_code 30 = .ok (.iconst 1, 1) := by decide +kernel
theorem d_KitRunner_run_31 : decode prog_1_method_8_code 31 = .ok (.iand, 1) := by decide +kernel
theorem d_KitRunner_run_32 : decode prog_1_method_8_code 32 = .ok (.iconst 1, 1) := by decide +kernel
theorem d_KitRunner_run_33 : decode prog_1_method_8_code 33 = .ok (.if_icmp .ne 13, 3) := by decide +kernel
theorem d_KitRunner_run_46 : decode prog_1_method_8_code 46 = .ok (.iinc 3 1, 3) := by decide +kernel
theorem d_KitRunner_run_49 : decode prog_1_method_8_code 49 = .ok (.goto (-31), 3) := by decide +kernel
theorem d_KitRunner_run_36 : decode prog_1_method_8_code 36 = .ok (.aload_n 0, 1) := by decide +kernel
theorem d_KitRunner_run_37 : decode prog_1_method_8_code 37 = .ok (.iload_n 3, 1) := by decide +kernel
theorem d_KitRunner_run_38 : decode prog_1_method_8_code 38 = .ok (.iload_n 1, 1) := by decide +kernel
theorem d_KitRunner_run_39 : decode prog_1_method_8_code 39 = .ok (.invokestatic 117, 3) := by decide +kernel
theorem d_KitRunner_run_42 : decode prog_1_method_8_code 42 = .ok (.iload_n 2, 1) := by decide +kernel
theorem d_KitRunner_run_43 : decode prog_1_method_8_code 43 = .ok (.invokevirtual 121, 3) := by decide +kernel
theorem d_K_Shrinker_reduce_0 : decode prog_8_method_2_code 0 = .ok (.aload_n 0, 1) := by decide +kernel
theorem d_K_Shrinker_reduce_1 : decode prog_8_method_2_code 1 = .ok (.iload_n 3, 1) := by decide +kernel
theorem d_K_Shrinker_reduce_2 : decode prog_8_method_2_code 2 = .ok (.putfield 9, 3) := by decide +kernel
theorem d_K_Shrinker_reduce_5 : decode prog_8_method_2_code 5 = .ok (.aload_n 0, 1) := by decide +kernel
theorem d_K_Shrinker_reduce_6 : decode prog_8_method_2_code 6 = .ok (.iload 4, 2) := by decide +kernel
theorem d_K_Shrinker_reduce_8 : decode prog_8_method_2_code 8 = .ok (.putfield 15, 3) := by decide +kernel
theorem d_K_Shrinker_reduce_11 : decode prog_8_method_2_code 11 = .ok (.aload_n 0, 1) := by decide +kernel
theorem d_K_Shrinker_reduce_12 : decode prog_8_method_2_code 12 = .ok (.iconst 0, 1) := by decide +kernel
theorem d_K_Shrinker_reduce_13 : decode prog_8_method_2_code 13 = .ok (.putfield 18, 3) := by decide +kernel
theorem d_K_Shrinker_reduce_16 : decode prog_8_method_2_code 16 = .ok (.aload_n 1, 1) := by decide +kernel
theorem d_K_Shrinker_reduce_17 : decode prog_8_method_2_code 17 = .ok (.iload_n 2, 1) := by decide +kernel
theorem d_K_Shrinker_reduce_18 : decode prog_8_method_2_code 18 = .ok (.aload_n 0, 1) := by decide +kernel
theorem d_K_Shrinker_reduce_19 : decode prog_8_method_2_code 19 = .ok (.getfield 9, 3) := by decide +kernel
theorem d_K_Shrinker_reduce_22 : decode prog_8_method_2_code 22 = .ok (.aload_n 0, 1) := by decide +kernel
theorem d_K_Shrinker_reduce_23 : decode prog_8_method_2_code 23 = .ok (.getfield 15, 3) := by decide +kernel
theorem d_K_Shrinker_reduce_26 : decode prog_8_method_2_code 26 = .ok (.invokevirtual 21, 3) := by decide +kernel
theorem d_K_Shrinker_reduce_29 : decode prog_8_method_2_code 29 = .ok (.ifCond .ne 4, 3) := by decide +kernel
theorem d_K_Shrinker_reduce_33 : decode prog_8_method_2_code 33 = .ok (.aload_n 0, 1) := by decide +kernel
theorem d_K_Shrinker_reduce_34 : decode prog_8_method_2_code 34 = .ok (.getfield 18, 3) := by decide +kernel
theorem d_K_Shrinker_reduce_37 : decode prog_8_method_2_code 37 = .ok (.bipush 24, 2) := by decide +kernel
theorem d_K_Shrinker_reduce_39 : decode prog_8_method_2_code 39 = .ok (.if_icmp .ge 34, 3) := by decide +kernel
theorem d_K_Shrinker_reduce_73 : decode prog_8_method_2_code 73 = .ok (.return_, 1) := by decide +kernel
end
section
theorem d_K_Shrinker_reduce_42 : decode prog_8_method_2_code 42 = .ok (.aload_n 0, 1) := by decide +kernel
theorem d_K_Shrinker_reduce_43 : decode prog_8_method_2_code 43 = .ok (.aload_n 1, 1) := by decide +kernel
theorem d_K_Shrinker_reduce_44 : decode prog_8_method_2_code 44 = .ok (.iload_n 2, 1) := by decide +kernel
theorem d_K_Shrinker_reduce_45 : decode prog_8_method_2_code 45 = .ok (.invokevirtual 27, 3) := by decide +kernel
theorem d_K_Shrinker_reduce_48 : decode prog_8_method_2_code 48 = .ok (.ifCond .ne 12, 3) := by decide +kernel
theorem d_K_Shrinker_reduce_60 : decode prog_8_method_2_code 60 = .ok (.aload_n 0, 1) := by decide +kernel
theorem d_K_Shrinker_reduce_61 : decode prog_8_method_2_code 61 = .ok (.dup, 1) := by decide +kernel
theorem d_K_Shrinker_reduce_62 : decode prog_8_method_2_code 62 = .ok (.getfield 18, 3) := by decide +kernel
theorem d_K_Shrinker_reduce_65 : decode prog_8_method_2_code 65 = .ok (.iconst 1, 1) := by decide +kernel
theorem d_K_Shrinker_reduce_66 : decode prog_8_method_2_code 66 = .ok (.iadd, 1) := by decide +kernel
theorem d_K_Shrinker_reduce_67 : decode prog_8_method_2_code 67 = .ok (.putfield 18, 3) := by decide +kernel
theorem d_K_Shrinker_reduce_70 : decode prog_8_method_2_code 70 = .ok (.goto (-37), 3) := by decide +kernel
theorem d_K_Shrinker_reduce_51 : decode prog_8_method_2_code 51 = .ok (.aload_n 0, 1) := by decide +kernel
theorem d_K_Shrinker_reduce_52 : decode prog_8_method_2_code 52 = .ok (.aload_n 1, 1) := by decide +kernel
theorem d_K_Shrinker_reduce_53 : decode prog_8_method_2_code 53 = .ok (.iload_n 2, 1) := by decide +kernel
theorem d_K_Shrinker_reduce_54 : decode prog_8_method_2_code 54 = .ok (.invokevirtual 31, 3) := by decide +kernel
theorem d_K_Shrinker_reduce_57 : decode prog_8_method_2_code 57 = .ok (.ifCond .eq 16, 3) := by decide +kernel
theorem d_K_Shrinker_reduce_32 : decode prog_8_method_2_code 32 = .ok (.return_, 1) := by decide +kernel
theorem d_KitRunner_shrink_0 : decode prog_1_method_10_code 0 = .ok (.iload_n 1, 1) := by decide +kernel
theorem d_KitRunner_shrink_1 : decode prog_1_method_10_code 1 = .ok (.ifCond .lt 14, 3) := by decide +kernel
theorem d_KitRunner_shrink_15 : decode prog_1_method_10_code 15 = .ok (.ldc2_w 105, 3) := by decide +kernel
theorem d_KitRunner_shrink_18 : decode prog_1_method_10_code 18 = .ok (.lreturn, 1) := by decide +kernel
theorem d_KitRunner_shrink_4 : decode prog_1_method_10_code 4 = .ok (.iload_n 1, 1) := by decide +kernel
theorem d_KitRunner_shrink_5 : decode prog_1_method_10_code 5 = .ok (.aload_n 0, 1) := by decide +kernel
theorem d_KitRunner_shrink_6 : decode prog_1_method_10_code 6 = .ok (.getfield 40, 3) := by decide +kernel
theorem d_KitRunner_shrink_9 : decode prog_1_method_10_code 9 = .ok (.invokevirtual 131, 3) := by decide +kernel
theorem d_KitRunner_shrink_12 : decode prog_1_method_10_code 12 = .ok (.if_icmp .lt 7, 3) := by decide +kernel
theorem d_KitRunner_shrink_19 : decode prog_1_method_10_code 19 = .ok (.aload_n 0, 1) := by decide +kernel
theorem d_KitRunner_shrink_20 : decode prog_1_method_10_code 20 = .ok (.getfield 54, 3) := by decide +kernel
theorem d_KitRunner_shrink_23 : decode prog_1_method_10_code 23 = .ok (.aload_n 0, 1) := by decide +kernel
theorem d_KitRunner_shrink_24 : decode prog_1_method_10_code 24 = .ok (.getfield 10, 3) := by decide +kernel
theorem d_KitRunner_shrink_27 : decode prog_1_method_10_code 27 = .ok (.aload_n 0, 1) := by decide +kernel
theorem d_KitRunner_shrink_28 : decode prog_1_method_10_code 28 = .ok (.getfield 40, 3) := by decide +kernel
theorem d_KitRunner_shrink_31 : decode prog_1_method_10_code 31 = .ok (.iload_n 1, 1) := by decide +kernel
theorem d_KitRunner_shrink_32 : decode prog_1_method_10_code 32 = .ok (.invokevirtual 132, 3) := by decide +kernel
theorem d_KitRunner_shrink_35 : decode prog_1_method_10_code 35 = .ok (.aload_n 0, 1) := by decide +kernel
theorem d_KitRunner_shrink_36 : decode prog_1_method_10_code 36 = .ok (.getfield 40, 3) := by decide +kernel
theorem d_KitRunner_shrink_39 : decode prog_1_method_10_code 39 = .ok (.iload_n 1, 1) := by decide +kernel
theorem d_KitRunner_shrink_40 : decode prog_1_method_10_code 40 = .ok (.invokevirtual 139, 3) := by decide +kernel
theorem d_KitRunner_shrink_43 : decode prog_1_method_10_code 43 = .ok (.aload_n 0, 1) := by decide +kernel
theorem d_KitRunner_shrink_44 : decode prog_1_method_10_code 44 = .ok (.getfield 40, 3) := by decide +kernel
theorem d_KitRunner_shrink_47 : decode prog_1_method_10_code 47 = .ok (.iload_n 1, 1) := by decide +kernel
theorem d_KitRunner_shrink_48 : decode prog_1_method_10_code 48 = .ok (.invokevirtual 142, 3) := by decide +kernel
theorem d_KitRunner_shrink_51 : decode prog_1_method_10_code 51 = .ok (.invokevirtual 152, 3) := by decide +kernel
theorem d_KitRunner_shrink_54 : decode prog_1_method_10_code 54 = .ok (.iload_n 2, 1) := by decide +kernel
theorem d_KitRunner_shrink_55 : decode prog_1_method_10_code 55 = .ok (.tableswitch 52 0 2 #[25, 34, 43], 25) := by decide +kernel
theorem d_KitRunner_shrink_80 : decode prog_1_method_10_code 80 = .ok (.aload_n 0, 1) := by decide +kernel
theorem d_KitRunner_shrink_81 : decode prog_1_method_10_code 81 = .ok (.getfield 54, 3) := by decide +kernel
theorem d_KitRunner_shrink_84 : decode prog_1_method_10_code 84 = .ok (.invokevirtual 156, 3) := by decide +kernel
theorem d_KitRunner_shrink_87 : decode prog_1_method_10_code 87 = .ok (.i2l, 1) := by decide +kernel
theorem d_KitRunner_shrink_88 : decode prog_1_method_10_code 88 = .ok (.lreturn, 1) := by decide +kernel
theorem d_KitRunner_shrink_89 : decode prog_1_method_10_code 89 = .ok (.aload_n 0, 1) := by decide +kernel
theorem d_KitRunner_shrink_90 : decode prog_1_method_10_code 90 = .ok (.getfield 54, 3) := by decide +kernel
theorem d_KitRunner_shrink_93 : decode prog_1_method_10_code 93 = .ok (.invokevirtual 159, 3) := by decide +kernel
theorem d_KitRunner_shrink_96 : decode prog_1_method_10_code 96 = .ok (.i2l, 1) := by decide +kernel
theorem d_KitRunner_shrink_97 : decode prog_1_method_10_code 97 = .ok (.lreturn, 1) := by decide +kernel
theorem d_KitRunner_shrink_98 : decode prog_1_method_10_code 98 = .ok (.aload_n 0, 1) := by decide +kernel
theorem d_KitRunner_shrink_99 : decode prog_1_method_10_code 99 = .ok (.getfield 54, 3) := by decide +kernel
theorem d_KitRunner_shrink_102 : decode prog_1_method_10_code 102 = .ok (.invokevirtual 162, 3) := by decide +kernel
theorem d_KitRunner_shrink_105 : decode prog_1_method_10_code 105 = .ok (.i2l, 1) := by decide +kernel
theorem d_KitRunner_shrink_106 : decode prog_1_method_10_code 106 = .ok (.lreturn, 1) := by decide +kernel
theorem d_KitRunner_shrink_107 : decode prog_1_method_10_code 107 = .ok (.ldc2_w 105, 3) := by decide +kernel
theorem d_KitRunner_shrink_110 : decode prog_1_method_10_code 110 = .ok (.lreturn, 1) := by decide +kernel
end
section
/-! STATICS and literals, as every contract is given them. Texts: 0 .. 15 the names, 16 kit, 17 FAIL, 18 PASS. -/
def nTx : Nat := 19
def kTx (j : Nat) : List Int32 := ([[97, 100, 100], [115, 117, 98], [109, 117, 108], [100, 105, 118], [114, 101, 109], [115, 104, 108], [115, 104, 114], [117, 115, 104, 114], [98, 121, 116, 101], [99, 104, 97, 114], [97, 116], [99, 101, 108, 108], [115, 105, 122, 101], [99, 97, 115, 116], [116, 101, 120, 116], [99, 109, 112], [107, 105, 116], [70, 65, 73, 76], [80, 65, 83, 83]] : List (List Int32)).getD j []
def kChr (j i : Nat) : Int32 := (kTx j).getD i 0
def kOwn (j : Nat) : String := if j < 17 then "KitRunner$EntryPoints" else "KitRunner"
def kIdx (j : Nat) : Nat := ([7, 9, 11, 13, 15, 17, 19, 21, 23, 25, 27, 29, 31, 33, 35, 37, 45, 243, 245] : List Nat).getD j 0
def kStr (j : Nat) : String := (["add", "sub", "mul", "div", "rem", "shl", "shr", "ushr", "byte", "char", "at", "cell", "size", "cast", "text", "cmp", "kit", "FAIL", "PASS"] : List String).getD j ""
def kLat (j : Nat) : Int32 := ([0, 1, -1, 2, -2147483648, 2147483647, 3, 31, 32, -2, 128, 65536] : List Int32).getD j 0
def kCel (j : Nat) : Int32 := ([70, 80, 90] : List Int32).getD j 0
abbrev kTy (cI cJ cC : ClassId) : List (ClassId × FieldType) := [(cI, .int), (cJ, .long), (cC, .char)]
/-- addresses: of a literal, of its bytes; of LATTICE, of CELLS -/
def kNw (U : State) : Prop := va_Nw (.methodLinkNest "KitRunner$Machine" 45 ⟨"KitRunner", "isTrouble", "(J)Z"⟩ "KitRunner") U ∧ va_Nw (.methodLinkNest "KitRunner$Tally" 45 ⟨"KitRunner", "isTrouble", "(J)Z"⟩ "KitRunner") U ∧ va_Nw (.fieldLinkNest "KitRunner$Machine" 39 "KitRunner" "LATTICE" "[I" "KitRunner") U ∧ va_Nw (.fieldLinkNest "KitRunner$Shrinker" 34 "KitRunner" "LATTICE" "[I" "KitRunner") U
abbrev kSg : Type := (Nat → Nat) × (Nat → Nat) × Nat × Nat
def kSt (σ : kSg) (A : Nat → Prop) (U : State) (H : Heap) : Prop :=
  va_Z "KitRunner" "LATTICE" "[I" (.ref σ.2.2.1) A U H ∧ va_T .int σ.2.2.1 12 (fun j => .int (kLat j)) A U H ∧ va_Z "KitRunner$EntryPoints" "CELLS" "[I" (.ref σ.2.2.2) A U H ∧ va_T .int σ.2.2.2 3 (fun j => .int (kCel j)) A U H ∧ va_Z "java/lang/String" "COMPACT_STRINGS" "Z" (.int 1) A U H ∧
  (∀ j : Nat, j < nTx → va_O "java/lang/String" (σ.1 j) A U H ∧ va_OF "java/lang/String" "coder" "B" (.int 0) (σ.1 j) A U H ∧ va_OF "java/lang/String" "value" "[B" (.ref (σ.2.1 j)) (σ.1 j) A U H ∧ va_T .byte (σ.2.1 j) (kTx j).length (fun i => .int (kChr j i)) A U H) ∧
  (∀ j : Nat, j < nTx → vk_R (kOwn j) (kIdx j) (kStr j) (σ.1 j) U) ∧ va_Zq "jdk/internal/util/Preconditions" "SIOOBE_FORMATTER" "Ljava/util/function/BiFunction;" A U H ∧ kNw U
theorem kSt.same {σ : kSg} {A : Nat → Prop} {u U : State} {H : Heap} (hv : U.vm = u.vm) (h : kSt σ A u H) : kSt σ A U H := by
  have hvm : u.vm.Alike U.vm := by rw [hv]; exact Vm.Alike.refl _
  obtain ⟨h1, h2, h3, h4, h5, h6, h7, h8, h9⟩ := h
  exact ⟨h1.moved hvm, h2.moved hvm, h3.moved hvm, h4.moved hvm, h5.moved hvm, fun j hj => ⟨(h6 j hj).1.moved hvm, (h6 j hj).2.1.moved hvm, (h6 j hj).2.2.1.moved hvm, (h6 j hj).2.2.2.moved hvm⟩, fun j hj => vk_R.same hv (h7 j hj), h8.moved hvm, ⟨va_Nw.same rfl hv.symm h9.1, va_Nw.same rfl hv.symm h9.2.1, va_Nw.same rfl hv.symm h9.2.2.1, va_Nw.same rfl hv.symm h9.2.2.2⟩⟩
theorem kSt.warm {σ : kSg} {A : Nat → Prop} {s U : State} {H : Heap} (hW : s.WarmedH U.vm) (h : kSt σ A s H) : kSt σ A U H := by
  have hvm := hW.alike
  obtain ⟨h1, h2, h3, h4, h5, h6, h7, h8, h9⟩ := h
  exact ⟨h1.moved hvm, h2.moved hvm, h3.moved hvm, h4.moved hvm, h5.moved hvm, fun j hj => ⟨(h6 j hj).1.moved hvm, (h6 j hj).2.1.moved hvm, (h6 j hj).2.2.1.moved hvm, (h6 j hj).2.2.2.moved hvm⟩, fun j hj => vk_R.warm hW (h7 j hj), h8.moved hvm, ⟨va_Nw.warmM hW h9.1, va_Nw.warmM hW h9.2.1, va_Nw.warmF hW h9.2.2.1, va_Nw.warmF hW h9.2.2.2⟩⟩
theorem kSt.kept {σ : kSg} {A : Nat → Prop} {U : State} {H H1 : Heap} (h : kSt σ A U H) (hq : ∀ a : Nat, a < H.size → ¬ A a → H1[a]? = H[a]?) : kSt σ A U H1 := by
  obtain ⟨h1, h2, h3, h4, h5, h6, h7, h8, h9⟩ := h
  exact ⟨h1.kept hq, h2.kept hq, h3.kept hq, h4.kept hq, h5.kept hq, fun j hj => ⟨(h6 j hj).1.kept hq, (h6 j hj).2.1.kept hq, (h6 j hj).2.2.1.kept hq, (h6 j hj).2.2.2.kept hq⟩, h7, h8.kept hq, h9⟩
theorem kSt.narrow {σ : kSg} {A B : Nat → Prop} {U : State} {H : Heap} (h : kSt σ A U H) (hAB : ∀ q, B q → A q) : kSt σ B U H := by
  obtain ⟨h1, h2, h3, h4, h5, h6, h7, h8, h9⟩ := h
  exact ⟨h1.narrow hAB, h2.narrow hAB, h3.narrow hAB, h4.narrow hAB, h5.narrow hAB, fun j hj => ⟨(h6 j hj).1.narrow hAB, (h6 j hj).2.1.narrow hAB, (h6 j hj).2.2.1.narrow hAB, (h6 j hj).2.2.2.narrow hAB⟩, h7, h8.narrow hAB, h9⟩
/-! BASE: a uniform contract, its start, its ends, calls and arrays at Nat places. D: classes' numbers; tys: array classes; σ: addresses of statics and literals. -/
abbrev kRm (f c s L : Nat) : Room := { frames := f, cells := c, slots := s, locals := L }
def kb (b : Bool) : Int32 := if b = true then 1 else 0
theorem kb_t : kb true = 1 := rfl
theorem kb_f : kb false = 0 := rfl
theorem kb_0 {b : Bool} : kb b = 0 ↔ b = false := by cases b <;> decide
theorem kb_n {b : Bool} : ¬ kb b = 0 ↔ b = true := by cases b <;> decide
theorem kb_nar (b : Bool) : narrow .boolean (.int (kb b)) = .int (kb b) := by cases b <;> rfl
/-- what a contract starts from -/
abbrev kPre (D : va_G) (tys : List (ClassId × FieldType)) (σ : kSg) (wc : va_W) (av : List Value) (sz : Nat) : Array Value → State → Prop :=
  va_Pc av (fun U => U.heap.size = sz ∧ va_P D vwCl wc U.heap ∧ va_K D vwCl tys U ∧ va_D (fun _ => True) wc ∧ kSt σ (va_A wc sz) U U.heap)
/-- the world behind it -/
abbrev kB (D : va_G) (tys : List (ClassId × FieldType)) (A : Nat → Prop) (w1 : va_W) (t : State) : Prop := va_P D vwCl w1 t.heap ∧ va_K D vwCl tys t ∧ va_D A w1
/-- a contract -/
def kC (l : Launch) (y : MethodName) (ws : List Cond) (rm : Room) (D : va_G) (tys : List (ClassId × FieldType)) (σ : kSg) (wc : va_W) (av : List Value) (Qc : (Nat → Prop) → Array Value → State → Outcome → State → Prop) (mc ms : Nat) : Prop :=
  ∀ sz : Nat, Met l y ws rm (kPre D tys σ wc av sz) (Qc (va_A wc sz)) mc ms (va_A wc sz)
abbrev kQi {S : Type} (D : va_G) (tys : List (ClassId × FieldType)) (r0 : Int32) (w1 : S → va_W) (A : Nat → Prop) : Array Value → State → Outcome → State → Prop := va_Qi (fun r (_ : S) => r = r0) (fun u t => kB D tys A (w1 u) t) A
abbrev kQl {S : Type} (D : va_G) (tys : List (ClassId × FieldType)) (r0 : Int64) (w1 : S → va_W) (A : Nat → Prop) : Array Value → State → Outcome → State → Prop := va_Ql (fun r (_ : S) => r = r0) (fun u t => kB D tys A (w1 u) t) A
abbrev kQv {S : Type} (D : va_G) (tys : List (ClassId × FieldType)) (w1 : S → va_W) (A : Nat → Prop) : Array Value → State → Outcome → State → Prop := va_Qv (fun (_ : S) => True) (fun u t => kB D tys A (w1 u) t) A
abbrev kQr {S : Type} (D : va_G) (tys : List (ClassId × FieldType)) (r0 : Nat) (w1 : S → va_W) (A : Nat → Prop) : Array Value → State → Outcome → State → Prop := va_Qr (fun (_ : S) => True) (fun u a t => a = r0 ∧ kB D tys A (w1 u) t) A
section KR
variable {p : Program} {l : Launch} {e : Env} {R : Room} {s : State} {m : MethodId} {args : Array Value} {below : List Frame} {meth : Method} {c : Code} {H : Heap} {locs : List Loc} {cells slots : Nat} {Q : State → Prop}
variable {cc : ByteArray} {pc : Nat} {ls : Array Slot} {rest st0 : List Value} {D : va_G} {A : Nat → Prop} {a : Nat} {tys : List (ClassId × FieldType)} {ws wc wr : va_W} {σ : kSg} {mc ms : Nat}
/-- a contract's proof: what stands at the entry -/
theorem kr_met {y : MethodName} {wd wd' : List Cond} {rm : Room} {maxL : Nat} {ret : Option FieldType} {av : List Value} {Qc : (Nat → Prop) → Array Value → State → Outcome → State → Prop}
    (hy : plainName y.cls = true) (hw : wd = Cond.code y cc maxL ret :: wd') (hav : (lg_sl av).length ≤ maxL)
    (body : ∀ (p : Program) (e : Env) (s : State) (m : MethodId) (args : Array Value) (below : List Frame) (meth : Method) (c : Code) (A : Nat → Prop) (Q : State → Prop),
      Q = MQ below (Qc A) args s mc ms A → p.tables.exec = Jvm.exec → c.code = cc → meth.sig.returnType = ret → c.maxLocals = maxL → (∀ w ∈ wd, w.before args s = true) → s.vm.findClass y.cls = some m.cls → meth.locks = false → meth.name = y.name →
      (∀ q : Nat, s.heap.size ≤ q → A q) → va_P D vwCl wc s.heap → va_K D vwCl tys s → va_D A wc → kSt σ A s s.heap → ∀ ls : Array Slot, lv_has ls maxL (lv_args 0 av) → W p l e rm s m args below meth c s.heap [] 0 0 Q (F0 m 0 ls [])) :
    kC l y wd rm D tys σ wc av Qc mc ms := by
  intro sz
  refine Met.ofW (cc := cc) (maxL := maxL) (ret := ret) hy hw ?_
  intro p e s m args below meth c s₁ B hml hv
  obtain ⟨rfl, hsz, hP, hK, hD0, hSt⟩ := hv
  subst hsz
  have hl := lv_entry av (n := maxL) hav
  rw [lg_entry_eq]
  exact body p e s m _ below meth c (va_A wc s.heap.size) _ rfl B.exec B.bytes B.returns hml (atoms_spec (ws := wd) B.pre) (findClass_of_methodNamed B.named) B.notSynchronized (name_of_methodNamed B.named B.method).1 (fun q h => Or.inr h) hP hK hD0.self hSt _ hl
/-- what a callee starts from -/
theorem kr_pre {av : List Value} (hK : va_K D vwCl tys s) (hP : va_P D vwCl ws H) (hD : va_D A ws) (hS : va_S A s.heap H locs) (hA : ∀ q : Nat, s.heap.size ≤ q → A q) (hSt : kSt σ A s s.heap) (isC : List Nat) (hC : isC.map (fun i => ws[i]?) = wc.map some) (hn : va_nd isC = true) :
    FrameBlind (kPre D tys σ wc av H.size) ∧ ∀ U : State, U.heap = H → s.WarmedH U.vm → kPre D tys σ wc av H.size av.toArray U := by
  have hFc := va_free (wc := wc) hD hS hA isC hC
  have hDc := hD.sub (ws' := wc) isC hn hC
  have hPc : va_P D vwCl wc H := by
    intro k q hq
    have h1 : (wc.map some)[k]? = some (some q) := by rw [List.getElem?_map, hq]; rfl
    rw [← hC, List.getElem?_map] at h1
    cases h2 : isC[k]? with
    | none => rw [h2] at h1; cases h1
    | some i =>
      rw [h2] at h1
      exact hP i q (Option.some.inj h1)
  refine ⟨fun b U g mk q => ?_, fun U hU hW => ?_⟩
  · obtain ⟨q0, q1, qP, qK, qD, qS⟩ := q
    exact ⟨q0, q1, qP, va_K.moved (u := U) (U := U.calling g mk b) (Vm.Alike.refl U.vm) qK, qD, kSt.same (U := U.calling g mk b) rfl qS⟩
  · refine ⟨rfl, by rw [hU], by rw [hU]; exact hPc, va_K.moved hW.alike hK, hDc.weaken (fun _ _ _ _ => trivial), ?_⟩
    rw [hU]
    exact kSt.narrow (kSt.warm hW (kSt.kept hSt hS.2.1)) hFc
/-- behind a call that makes nothing -/
theorem kj_i {S : Type} {r0 : Int32} {w1 : S → va_W} {av : Array Value} (hr : va_Run p l e R s m args below meth c H locs cells slots 0 0 (F0 m pc ls st0) rest (kQi D tys r0 w1 (va_A wc H.size) av) (va_A wc H.size))
    (hP : va_P D vwCl ws H) (hD : va_D A ws) (hS : va_S A s.heap H locs) (hA : ∀ q : Nat, s.heap.size ≤ q → A q) (isC isR : List Nat) (hC : isC.map (fun i => ws[i]?) = wc.map some) (hR : isR.map (fun i => ws[i]?) = wr.map some) (hn : va_nd isR = true) (hdis : ∀ i ∈ isR, i ∉ isC)
    (kk : ∀ (u : S) (H1 : Heap) (locs1 : List Loc), va_P D vwCl (wr ++ w1 u) H1 → va_D A (wr ++ w1 u) → va_S A s.heap H1 locs1 → W p l e R s m args below meth c H1 locs1 cells slots Q (F0 m (pc + 3) ls (.int r0 :: rest))) : W p l e R s m args below meth c H locs cells slots Q (F0 m pc ls st0) := by
  have hFc := va_free (wc := wc) hD hS hA isC hC
  refine va_calli hr hS (fun q _ h => hFc q h) hFc (fun r u t H1 locs1 ht hvm hw hB hz1 hk1 hS1 => ?_)
  obtain ⟨hP1, hK1, hD1⟩ := hB
  rw [ht] at hP1
  obtain ⟨hP2, hD2⟩ := va_join (wr := wr) hP hD isC isR hC hR hn hdis hk1 hFc hP1 hD1
  subst hw
  exact kk u H1 locs1 hP2 hD2 hS1
theorem kj_l {S : Type} {r0 : Int64} {w1 : S → va_W} {av : Array Value} (hr : va_Run p l e R s m args below meth c H locs cells slots 0 0 (F0 m pc ls st0) rest (kQl D tys r0 w1 (va_A wc H.size) av) (va_A wc H.size))
    (hP : va_P D vwCl ws H) (hD : va_D A ws) (hS : va_S A s.heap H locs) (hA : ∀ q : Nat, s.heap.size ≤ q → A q) (isC isR : List Nat) (hC : isC.map (fun i => ws[i]?) = wc.map some) (hR : isR.map (fun i => ws[i]?) = wr.map some) (hn : va_nd isR = true) (hdis : ∀ i ∈ isR, i ∉ isC)
    (kk : ∀ (u : S) (H1 : Heap) (locs1 : List Loc), va_P D vwCl (wr ++ w1 u) H1 → va_D A (wr ++ w1 u) → va_S A s.heap H1 locs1 → W p l e R s m args below meth c H1 locs1 cells slots Q (F0 m (pc + 3) ls (.long r0 :: rest))) : W p l e R s m args below meth c H locs cells slots Q (F0 m pc ls st0) := by
  have hFc := va_free (wc := wc) hD hS hA isC hC
  refine va_calll hr hS (fun q _ h => hFc q h) hFc (fun r u t H1 locs1 ht hvm hw hB hz1 hk1 hS1 => ?_)
  obtain ⟨hP1, hK1, hD1⟩ := hB
  rw [ht] at hP1
  obtain ⟨hP2, hD2⟩ := va_join (wr := wr) hP hD isC isR hC hR hn hdis hk1 hFc hP1 hD1
  subst hw
  exact kk u H1 locs1 hP2 hD2 hS1
theorem kj_r {S : Type} {r0 : Nat} {w1 : S → va_W} {av : Array Value} (hr : va_Run p l e R s m args below meth c H locs cells slots 0 0 (F0 m pc ls st0) rest (kQr D tys r0 w1 (va_A wc H.size) av) (va_A wc H.size))
    (hP : va_P D vwCl ws H) (hD : va_D A ws) (hS : va_S A s.heap H locs) (hA : ∀ q : Nat, s.heap.size ≤ q → A q) (isC isR : List Nat) (hC : isC.map (fun i => ws[i]?) = wc.map some) (hR : isR.map (fun i => ws[i]?) = wr.map some) (hn : va_nd isR = true) (hdis : ∀ i ∈ isR, i ∉ isC)
    (kk : ∀ (u : S) (H1 : Heap) (locs1 : List Loc), va_P D vwCl (wr ++ w1 u) H1 → va_D A (wr ++ w1 u) → va_S A s.heap H1 locs1 → W p l e R s m args below meth c H1 locs1 cells slots Q (F0 m (pc + 3) ls (.ref r0 :: rest))) : W p l e R s m args below meth c H locs cells slots Q (F0 m pc ls st0) := by
  have hFc := va_free (wc := wc) hD hS hA isC hC
  refine va_callr hr hS (fun q _ h => hFc q h) hFc (fun u ra t H1 locs1 ht hvm hw hB hz1 hk1 hS1 => ?_)
  obtain ⟨hra, hP1, hK1, hD1⟩ := hB
  rw [ht] at hP1
  obtain ⟨hP2, hD2⟩ := va_join (wr := wr) hP hD isC isR hC hR hn hdis hk1 hFc hP1 hD1
  subst hra
  exact kk u H1 locs1 hP2 hD2 hS1
/-- behind a call without an answer; it may have made cells -/
theorem kj_v {S : Type} {w1 : S → va_W} {av : Array Value} (hr : va_Run p l e R s m args below meth c H locs cells slots mc ms (F0 m pc ls st0) rest (kQv D tys w1 (va_A wc H.size) av) (va_A wc H.size))
    (hP : va_P D vwCl ws H) (hD : va_D A ws) (hS : va_S A s.heap H locs) (hA : ∀ q : Nat, s.heap.size ≤ q → A q) (isC isR : List Nat) (hC : isC.map (fun i => ws[i]?) = wc.map some) (hR : isR.map (fun i => ws[i]?) = wr.map some) (hn : va_nd isR = true) (hdis : ∀ i ∈ isR, i ∉ isC)
    (kk : ∀ (u : S) (H1 : Heap) (locs1 : List Loc), va_P D vwCl (wr ++ w1 u) H1 → va_D A (wr ++ w1 u) → va_S A s.heap H1 locs1 → W p l e R s m args below meth c H1 locs1 (cells + mc) (slots + ms) Q (F0 m (pc + 3) ls rest)) : W p l e R s m args below meth c H locs cells slots Q (F0 m pc ls st0) := by
  have hFc := va_free (wc := wc) hD hS hA isC hC
  refine va_callv hr hS (fun q _ h => hFc q h) hFc (fun u t H1 locs1 ht hvm hw hB hz1 hk1 hS1 => ?_)
  obtain ⟨hP1, hK1, hD1⟩ := hB
  rw [ht] at hP1
  obtain ⟨hP2, hD2⟩ := va_join (wr := wr) hP hD isC isR hC hR hn hdis hk1 hFc hP1 hD1
  exact kk u H1 locs1 hP2 hD2 hS1
/-- the ends -/
theorem kr_iret {S : Type} {r0 v : Int32} {w1 : S → va_W} (hQ : Q = MQ below (kQi D tys r0 w1 A) args s cells slots A) (hexec : p.tables.exec = Jvm.exec) (hb : c.code = cc) (hr : meth.sig.returnType = some .int) (hlocks : meth.locks = false) (hK : va_K D vwCl tys s) (hP : va_P D vwCl ws H) (hD : va_D A ws) (hS : va_S A s.heap H locs) (er : v = r0) (u : S) (ew : w1 u = ws) (hdg : decode cc pc = .ok (.ireturn, 1)) :
    W p l e R s m args below meth c H locs cells slots Q (F0 m pc ls [.int v]) := by
  subst hQ; subst ew; subst er
  exact W.iret (v := v) hexec hb hr (fun t ht hW => ⟨⟨v, u, rfl, rfl, by rw [ht]; exact hP, va_K.moved hW.alike hK, hD⟩, hS.F ht⟩) hS.2.2 hdg
theorem kr_zret {S : Type} {r0 v : Int32} {w1 : S → va_W} {ty : FieldType} (hQ : Q = MQ below (kQi D tys r0 w1 A) args s cells slots A) (hexec : p.tables.exec = Jvm.exec) (hb : c.code = cc) (hr : meth.sig.returnType = some ty) (hlocks : meth.locks = false) (hK : va_K D vwCl tys s) (hP : va_P D vwCl ws H) (hD : va_D A ws) (hS : va_S A s.heap H locs) (er : v = r0) (hnar : narrow ty (.int v) = .int v) (u : S) (ew : w1 u = ws) (hdg : decode cc pc = .ok (.ireturn, 1)) :
    W p l e R s m args below meth c H locs cells slots Q (F0 m pc ls [.int v]) := by
  subst hQ; subst ew; subst er
  exact W.zret (v := v) hexec hb hr hnar (fun t ht hW => ⟨⟨v, u, rfl, rfl, by rw [ht]; exact hP, va_K.moved hW.alike hK, hD⟩, hS.F ht⟩) hS.2.2 hdg
theorem kr_lret {S : Type} {r0 v : Int64} {w1 : S → va_W} (hQ : Q = MQ below (kQl D tys r0 w1 A) args s cells slots A) (hexec : p.tables.exec = Jvm.exec) (hb : c.code = cc) (hr : meth.sig.returnType = some .long) (hlocks : meth.locks = false) (hK : va_K D vwCl tys s) (hP : va_P D vwCl ws H) (hD : va_D A ws) (hS : va_S A s.heap H locs) (er : v = r0) (u : S) (ew : w1 u = ws) (hdg : decode cc pc = .ok (.lreturn, 1)) :
    W p l e R s m args below meth c H locs cells slots Q (F0 m pc ls [.long v]) := by
  subst hQ; subst ew; subst er
  exact W.lret (v := v) hexec hb hr (fun t ht hW => ⟨⟨v, u, rfl, rfl, by rw [ht]; exact hP, va_K.moved hW.alike hK, hD⟩, hS.F ht⟩) hS.2.2 hdg
theorem kr_vret {S : Type} {w1 : S → va_W} (hQ : Q = MQ below (kQv D tys w1 A) args s cells slots A) (hexec : p.tables.exec = Jvm.exec) (hb : c.code = cc) (hr : meth.sig.returnType = none) (hlocks : meth.locks = false) (hK : va_K D vwCl tys s) (hP : va_P D vwCl ws H) (hD : va_D A ws) (hS : va_S A s.heap H locs) (u : S) (ew : w1 u = ws) (hdg : decode cc pc = .ok (.return_, 1)) :
    W p l e R s m args below meth c H locs cells slots Q (F0 m pc ls []) := by
  subst hQ; subst ew
  exact W.vret hexec hb hr (fun t ht hW => ⟨⟨u, rfl, trivial, by rw [ht]; exact hP, va_K.moved hW.alike hK, hD⟩, hS.F ht⟩) hS.2.2 hdg
theorem kr_aret {S : Type} {r0 v : Nat} {w1 : S → va_W} {rt : String} (hQ : Q = MQ below (kQr D tys r0 w1 A) args s cells slots A) (hexec : p.tables.exec = Jvm.exec) (hb : c.code = cc) (hr : meth.sig.returnType = some (.object rt)) (hlocks : meth.locks = false) (hK : va_K D vwCl tys s) (hP : va_P D vwCl ws H) (hD : va_D A ws) (hS : va_S A s.heap H locs) (er : v = r0) (u : S) (ew : w1 u = ws) (hdg : decode cc pc = .ok (.areturn, 1)) :
    W p l e R s m args below meth c H locs cells slots Q (F0 m pc ls [.ref v]) := by
  subst hQ; subst ew; subst er
  exact W.aret hexec hb hr (Or.inl ⟨_, rfl⟩) (Or.inr ⟨_, rfl⟩) (fun t ht hW => ⟨⟨u, v, rfl, trivial, rfl, by rw [ht]; exact hP, va_K.moved hW.alike hK, hD⟩, hS.F ht⟩) hS.2.2 hdg
/-- arrays at Nat places -/
theorem kr_iald (hexec : p.tables.exec = Jvm.exec) (hb : c.code = cc) (hK : va_K D vwCl tys s) (hP : va_P D vwCl ws H) (q0 t0 : Nat) {cA : ClassId} {n : Nat} {f : Nat → Int32} (ha : ws[q0]? = some (a, .inl (cA, n, .inl f))) (ht : tys[t0]? = some (cA, .int)) {k : Nat} (hk : k < n) (hn : n < 2 ^ 31) (hdg : decode cc pc = .ok (.iaload, 1))
    (kk : W p l e R s m args below meth c H locs cells slots Q (F0 m (pc + 1) ls (.int (f k) :: rest))) : W p l e R s m args below meth c H locs cells slots Q (F0 m pc ls (.int (nI k) :: .ref a :: rest)) := by
  refine va_iald hexec hb hK hP q0 t0 ha ht (vp_in_nI hk hn) hdg ?_
  rw [nI_clamp (Nat.lt_trans hk hn)]; exact kk
theorem kr_lald (hexec : p.tables.exec = Jvm.exec) (hb : c.code = cc) (hK : va_K D vwCl tys s) (hP : va_P D vwCl ws H) (q0 t0 : Nat) {cA : ClassId} {n : Nat} {f : Nat → Int64} (ha : ws[q0]? = some (a, .inl (cA, n, .inr (.inl f)))) (ht : tys[t0]? = some (cA, .long)) {k : Nat} (hk : k < n) (hn : n < 2 ^ 31) (hdg : decode cc pc = .ok (.laload, 1))
    (kk : W p l e R s m args below meth c H locs cells slots Q (F0 m (pc + 1) ls (.long (f k) :: rest))) : W p l e R s m args below meth c H locs cells slots Q (F0 m pc ls (.int (nI k) :: .ref a :: rest)) := by
  refine va_lald hexec hb hK hP q0 t0 ha ht (vp_in_nI hk hn) hdg ?_
  rw [nI_clamp (Nat.lt_trans hk hn)]; exact kk
theorem kr_cald (hexec : p.tables.exec = Jvm.exec) (hb : c.code = cc) (hK : va_K D vwCl tys s) (hP : va_P D vwCl ws H) (q0 t0 : Nat) {cA : ClassId} {n : Nat} {f : Nat → Int32} (ha : ws[q0]? = some (a, .inl (cA, n, .inl f))) (ht : tys[t0]? = some (cA, .char)) {k : Nat} (hk : k < n) (hn : n < 2 ^ 31) (hdg : decode cc pc = .ok (.caload, 1))
    (kk : W p l e R s m args below meth c H locs cells slots Q (F0 m (pc + 1) ls (.int (f k) :: rest))) : W p l e R s m args below meth c H locs cells slots Q (F0 m pc ls (.int (nI k) :: .ref a :: rest)) := by
  refine va_cald hexec hb hK hP q0 t0 ha ht (vp_in_nI hk hn) hdg ?_
  rw [nI_clamp (Nat.lt_trans hk hn)]; exact kk
theorem kr_iast (hexec : p.tables.exec = Jvm.exec) (hb : c.code = cc) (hK : va_K D vwCl tys s) (hP : va_P D vwCl ws H) (hD : va_D A ws) (hS : va_S A s.heap H locs) (q0 t0 : Nat) {cA : ClassId} {n : Nat} {f : Nat → Int32} (ha : ws[q0]? = some (a, .inl (cA, n, .inl f))) (ht : tys[t0]? = some (cA, .int)) {k : Nat} {x : Int32} (hk : k < n) (hn : n < 2 ^ 31) (hdg : decode cc pc = .ok (.iastore, 1))
    (kk : ∀ (H1 : Heap) (locs1 : List Loc), va_P D vwCl (ws.set q0 (a, .inl (cA, n, .inl (upd f k x)))) H1 → va_D A (ws.set q0 (a, .inl (cA, n, .inl (upd f k x)))) → va_S A s.heap H1 locs1 → W p l e R s m args below meth c H1 locs1 cells slots Q (F0 m (pc + 1) ls rest)) : W p l e R s m args below meth c H locs cells slots Q (F0 m pc ls (.int x :: .int (nI k) :: .ref a :: rest)) := by
  refine va_iast hexec hb hK hP hD hS q0 t0 ha ht (vp_in_nI hk hn) hdg ?_
  rw [nI_clamp (Nat.lt_trans hk hn)]; exact kk
theorem kr_last (hexec : p.tables.exec = Jvm.exec) (hb : c.code = cc) (hK : va_K D vwCl tys s) (hP : va_P D vwCl ws H) (hD : va_D A ws) (hS : va_S A s.heap H locs) (q0 t0 : Nat) {cA : ClassId} {n : Nat} {f : Nat → Int64} (ha : ws[q0]? = some (a, .inl (cA, n, .inr (.inl f)))) (ht : tys[t0]? = some (cA, .long)) {k : Nat} {x : Int64} (hk : k < n) (hn : n < 2 ^ 31) (hdg : decode cc pc = .ok (.lastore, 1))
    (kk : ∀ (H1 : Heap) (locs1 : List Loc), va_P D vwCl (ws.set q0 (a, .inl (cA, n, .inr (.inl (vp_updL f k x))))) H1 → va_D A (ws.set q0 (a, .inl (cA, n, .inr (.inl (vp_updL f k x))))) → va_S A s.heap H1 locs1 → W p l e R s m args below meth c H1 locs1 cells slots Q (F0 m (pc + 1) ls rest)) : W p l e R s m args below meth c H locs cells slots Q (F0 m pc ls (.long x :: .int (nI k) :: .ref a :: rest)) := by
  refine va_last hexec hb hK hP hD hS q0 t0 ha ht (vp_in_nI hk hn) hdg ?_
  rw [nI_clamp (Nat.lt_trans hk hn)]; exact kk
theorem kr_cast (hexec : p.tables.exec = Jvm.exec) (hb : c.code = cc) (hK : va_K D vwCl tys s) (hP : va_P D vwCl ws H) (hD : va_D A ws) (hS : va_S A s.heap H locs) (q0 t0 : Nat) {cA : ClassId} {n : Nat} {f : Nat → Int32} (ha : ws[q0]? = some (a, .inl (cA, n, .inl f))) (ht : tys[t0]? = some (cA, .char)) {k : Nat} {x : Int32} (hk : k < n) (hn : n < 2 ^ 31) (hx : vp_nar .char x = x) (hdg : decode cc pc = .ok (.castore, 1))
    (kk : ∀ (H1 : Heap) (locs1 : List Loc), va_P D vwCl (ws.set q0 (a, .inl (cA, n, .inl (upd f k x)))) H1 → va_D A (ws.set q0 (a, .inl (cA, n, .inl (upd f k x)))) → va_S A s.heap H1 locs1 → W p l e R s m args below meth c H1 locs1 cells slots Q (F0 m (pc + 1) ls rest)) : W p l e R s m args below meth c H locs cells slots Q (F0 m pc ls (.int x :: .int (nI k) :: .ref a :: rest)) := by
  refine va_cast hexec hb hK hP hD hS q0 t0 ha ht (vp_in_nI hk hn) hdg ?_
  rw [nI_clamp (Nat.lt_trans hk hn), hx]; exact kk
theorem kr_ti {t N : Nat} {g : Nat → Int32} (hexec : p.tables.exec = Jvm.exec) (hb : c.code = cc) (hT : va_T .int t N (fun j => .int (g j)) A s s.heap) (hS : va_S A s.heap H locs) {k : Nat} (hk : k < N) (hN : N < 2 ^ 31) (hdg : decode cc pc = .ok (.iaload, 1))
    (kk : W p l e R s m args below meth c H locs cells slots Q (F0 m (pc + 1) ls (.int (g k) :: rest))) : W p l e R s m args below meth c H locs cells slots Q (F0 m pc ls (.int (nI k) :: .ref t :: rest)) :=
  va_ti (v := .int (g k)) hexec hb hT hS (vp_in_nI hk hN) (by rw [nI_clamp (Nat.lt_trans hk hN)]) hdg kk
theorem kr_tb {t N : Nat} {g : Nat → Int32} (hexec : p.tables.exec = Jvm.exec) (hb : c.code = cc) (hT : va_T .byte t N (fun j => .int (g j)) A s s.heap) (hS : va_S A s.heap H locs) {k : Nat} (hk : k < N) (hN : N < 2 ^ 31) (hdg : decode cc pc = .ok (.baload, 1))
    (kk : W p l e R s m args below meth c H locs cells slots Q (F0 m (pc + 1) ls (.int (g k) :: rest))) : W p l e R s m args below meth c H locs cells slots Q (F0 m pc ls (.int (nI k) :: .ref t :: rest)) :=
  va_tb (v := .int (g k)) hexec hb hT hS (vp_in_nI hk hN) (by rw [nI_clamp (Nat.lt_trans hk hN)]) hdg kk
theorem kr_topi {x y : Int32} (h : x = y) (k : W p l e R s m args below meth c H locs cells slots Q (F0 m pc ls (.int y :: rest))) : W p l e R s m args below meth c H locs cells slots Q (F0 m pc ls (.int x :: rest)) := h ▸ k
theorem kr_topl {x y : Int64} (h : x = y) (k : W p l e R s m args below meth c H locs cells slots Q (F0 m pc ls (.long y :: rest))) : W p l e R s m args below meth c H locs cells slots Q (F0 m pc ls (.long x :: rest)) := h ▸ k
theorem kr_top2 {x y x2 y2 : Int32} (h : x = y) (h2 : x2 = y2) (k : W p l e R s m args below meth c H locs cells slots Q (F0 m pc ls (.int y :: .int y2 :: rest))) : W p l e R s m args below meth c H locs cells slots Q (F0 m pc ls (.int x :: .int x2 :: rest)) := by
  subst h; subst h2; exact k
/-- a new array of a known array class -/
theorem kr_newi (hexec : p.tables.exec = Jvm.exec) (hb : c.code = cc) (harr : (Cond.arrayClass .int).before args s = true) (hK : va_K D vwCl tys s) (hP : va_P D vwCl ws H) (hD : va_D A ws) (hS : va_S A s.heap H locs) (hA : ∀ q : Nat, s.heap.size ≤ q → A q) (t0 : Nat) {cA : ClassId} (ht : tys[t0]? = some (cA, .int))
    {n : Int32} {N : Nat} (hn : ¬ n < 0) (hN : n.toNatClampNeg = N) (hbytes : N * componentBytes .int ≤ 536870912) (hcells : cells + 1 ≤ R.cells) (hslots : slots + N ≤ R.slots) (hdg : decode cc pc = .ok (.newarray .int, 2))
    (kk : ∀ (q : Nat) (H1 : Heap), va_P D vwCl (ws ++ [(q, .inl (cA, N, .inl (fun _ => 0)))]) H1 → va_D A (ws ++ [(q, .inl (cA, N, .inl (fun _ => 0)))]) → va_S A s.heap H1 locs → W p l e R s m args below meth c H1 locs (cells + 1) (slots + N) Q (F0 m (pc + 2) ls (.ref q :: rest))) : W p l e R s m args below meth c H locs cells slots Q (F0 m pc ls (.int n :: rest)) := by
  refine va_newa (atype := .int) (ty := .int) (a0 := (N, .inl (fun _ => 0))) hexec hb harr rfl hK hP hD hS hA (fun _ => rfl) hn hN hbytes hcells hslots hdg (fun q cB H1 hK1 hP1 hD1 hS1 => ?_)
  have h1 : s.vm.findClass ("[" ++ FieldType.int.toString) = some cB := (hK1.2 tys.length (cB, .int) (by rw [List.getElem?_append_right (Nat.le_refl _)]; simp)).2
  have h2 : s.vm.findClass ("[" ++ FieldType.int.toString) = some cA := (hK.2 t0 _ ht).2
  have h3 : cB = cA := Option.some.inj (h1.symm.trans h2)
  subst h3
  exact kk q H1 hP1 hD1 hS1
theorem kr_newl (hexec : p.tables.exec = Jvm.exec) (hb : c.code = cc) (harr : (Cond.arrayClass .long).before args s = true) (hK : va_K D vwCl tys s) (hP : va_P D vwCl ws H) (hD : va_D A ws) (hS : va_S A s.heap H locs) (hA : ∀ q : Nat, s.heap.size ≤ q → A q) (t0 : Nat) {cA : ClassId} (ht : tys[t0]? = some (cA, .long))
    {n : Int32} {N : Nat} (hn : ¬ n < 0) (hN : n.toNatClampNeg = N) (hbytes : N * componentBytes .long ≤ 536870912) (hcells : cells + 1 ≤ R.cells) (hslots : slots + N ≤ R.slots) (hdg : decode cc pc = .ok (.newarray .long, 2))
    (kk : ∀ (q : Nat) (H1 : Heap), va_P D vwCl (ws ++ [(q, .inl (cA, N, .inr (.inl (fun _ => 0))))]) H1 → va_D A (ws ++ [(q, .inl (cA, N, .inr (.inl (fun _ => 0))))]) → va_S A s.heap H1 locs → W p l e R s m args below meth c H1 locs (cells + 1) (slots + N) Q (F0 m (pc + 2) ls (.ref q :: rest))) : W p l e R s m args below meth c H locs cells slots Q (F0 m pc ls (.int n :: rest)) := by
  refine va_newa (atype := .long) (ty := .long) (a0 := (N, .inr (.inl (fun _ => 0)))) hexec hb harr rfl hK hP hD hS hA (fun _ => rfl) hn hN hbytes hcells hslots hdg (fun q cB H1 hK1 hP1 hD1 hS1 => ?_)
  have h1 : s.vm.findClass ("[" ++ FieldType.long.toString) = some cB := (hK1.2 tys.length (cB, .long) (by rw [List.getElem?_append_right (Nat.le_refl _)]; simp)).2
  have h2 : s.vm.findClass ("[" ++ FieldType.long.toString) = some cA := (hK.2 t0 _ ht).2
  have h3 : cB = cA := Option.some.inj (h1.symm.trans h2)
  subst h3
  exact kk q H1 hP1 hD1 hS1
theorem kr_newc (hexec : p.tables.exec = Jvm.exec) (hb : c.code = cc) (harr : (Cond.arrayClass .char).before args s = true) (hK : va_K D vwCl tys s) (hP : va_P D vwCl ws H) (hD : va_D A ws) (hS : va_S A s.heap H locs) (hA : ∀ q : Nat, s.heap.size ≤ q → A q) (t0 : Nat) {cA : ClassId} (ht : tys[t0]? = some (cA, .char))
    {n : Int32} {N : Nat} (hn : ¬ n < 0) (hN : n.toNatClampNeg = N) (hbytes : N * componentBytes .char ≤ 536870912) (hcells : cells + 1 ≤ R.cells) (hslots : slots + N ≤ R.slots) (hdg : decode cc pc = .ok (.newarray .char, 2))
    (kk : ∀ (q : Nat) (H1 : Heap), va_P D vwCl (ws ++ [(q, .inl (cA, N, .inl (fun _ => 0)))]) H1 → va_D A (ws ++ [(q, .inl (cA, N, .inl (fun _ => 0)))]) → va_S A s.heap H1 locs → W p l e R s m args below meth c H1 locs (cells + 1) (slots + N) Q (F0 m (pc + 2) ls (.ref q :: rest))) : W p l e R s m args below meth c H locs cells slots Q (F0 m pc ls (.int n :: rest)) := by
  refine va_newa (atype := .char) (ty := .char) (a0 := (N, .inl (fun _ => 0))) hexec hb harr rfl hK hP hD hS hA (fun _ => rfl) hn hN hbytes hcells hslots hdg (fun q cB H1 hK1 hP1 hD1 hS1 => ?_)
  have h1 : s.vm.findClass ("[" ++ FieldType.char.toString) = some cB := (hK1.2 tys.length (cB, .char) (by rw [List.getElem?_append_right (Nat.le_refl _)]; simp)).2
  have h2 : s.vm.findClass ("[" ++ FieldType.char.toString) = some cA := (hK.2 t0 _ ht).2
  have h3 : cB = cA := Option.some.inj (h1.symm.trans h2)
  subst h3
  exact kk q H1 hP1 hD1 hS1
end KR
end
section
abbrev kMach : Type := (Nat → Int32) × (Nat → Int32) × (Nat → Int32) × Nat
abbrev wMach (cI cJ cC : ClassId) (h h_0 h_1 h_2 : Nat) (P : kMach) : va_W := [(h, .inr (1, [.ref h_0, .ref h_1, .ref h_2, .int (nI P.2.2.2)])), (h_0, .inl (cI, 4, .inl P.1)), (h_1, .inl (cI, 4, .inl P.2.1)), (h_2, .inl (cI, 4, .inl P.2.2.1))]
abbrev kExc : Type := (Nat → Int32) × (Nat → Int32) × Nat
abbrev wExc (cI cJ cC : ClassId) (h h_0 h_1 : Nat) (P : kExc) : va_W := [(h, .inr (2, [.ref h_0, .ref h_1, .int (nI P.2.2)])), (h_0, .inl (cI, 6, .inl P.1)), (h_1, .inl (cI, 6, .inl P.2.1))]
abbrev kPB : Type := (Nat → Int32) × (Nat → Int32) × (Nat → Int32) × Nat
abbrev wPB (cI cJ cC : ClassId) (h h_0 h_1 h_2 : Nat) (P : kPB) : va_W := [(h, .inr (3, [.ref h_0, .ref h_1, .ref h_2, .int (nI P.2.2.2)])), (h_0, .inl (cI, 16, .inl P.1)), (h_1, .inl (cI, 16, .inl P.2.1)), (h_2, .inl (cI, 12, .inl P.2.2.1))]
abbrev kTal : Type := (Nat → Int32) × (Nat → Int32) × (Nat → Int32) × Nat
abbrev wTal (cI cJ cC : ClassId) (h h_0 h_1 h_2 : Nat) (P : kTal) : va_W := [(h, .inr (4, [.ref h_0, .ref h_1, .ref h_2, .int (nI P.2.2.2)])), (h_0, .inl (cI, 16, .inl P.1)), (h_1, .inl (cI, 16, .inl P.2.1)), (h_2, .inl (cI, 16, .inl P.2.2.1))]
abbrev kFL : Type := (Nat → Int32) × (Nat → Int32) × (Nat → Int32) × (Nat → Int64) × (Nat → Int64) × Nat
abbrev wFL (cI cJ cC : ClassId) (h h_0 h_1 h_2 h_3 h_4 : Nat) (P : kFL) : va_W := [(h, .inr (5, [.ref h_0, .ref h_1, .ref h_2, .ref h_3, .ref h_4, .int (nI P.2.2.2.2.2)])), (h_0, .inl (cI, 12, .inl P.1)), (h_1, .inl (cI, 12, .inl P.2.1)), (h_2, .inl (cI, 12, .inl P.2.2.1)), (h_3, .inl (cJ, 12, .inr (.inl P.2.2.2.1))), (h_4, .inl (cJ, 12, .inr (.inl P.2.2.2.2.1)))]
abbrev kRep : Type := (Nat → Int32) × Nat
abbrev wRep (cI cJ cC : ClassId) (h h_0 : Nat) (P : kRep) : va_W := [(h, .inr (6, [.ref h_0, .int (nI P.2)])), (h_0, .inl (cC, 256, .inl P.1))]
abbrev kShr : Type := Nat × Nat × Nat
abbrev wShr (cI cJ cC : ClassId) (h : Nat) (P : kShr) : va_W := [(h, .inr (7, [.int (nI P.1), .int (nI P.2.1), .int (nI P.2.2)]))]
abbrev kKit : Type := kMach × kExc × kPB × kTal × kFL × kRep × kShr × Int32 × Nat
abbrev wKit (cI cJ cC : ClassId) (h h_0 h_0_0 h_0_1 h_0_2 h_1 h_1_0 h_1_1 h_2 h_2_0 h_2_1 h_2_2 h_3 h_3_0 h_3_1 h_3_2 h_4 h_4_0 h_4_1 h_4_2 h_4_3 h_4_4 h_5 h_5_0 h_6 : Nat) (P : kKit) : va_W := [(h, .inr (0, [.ref h_0, .ref h_1, .ref h_2, .ref h_3, .ref h_4, .ref h_5, .ref h_6, .int P.2.2.2.2.2.2.2.1, .int (nI P.2.2.2.2.2.2.2.2)])), (h_0, .inr (1, [.ref h_0_0, .ref h_0_1, .ref h_0_2, .int (nI P.1.2.2.2)])), (h_0_0, .inl (cI, 4, .inl P.1.1)), (h_0_1, .inl (cI, 4, .inl P.1.2.1)), (h_0_2, .inl (cI, 4, .inl P.1.2.2.1)), (h_1, .inr (2, [.ref h_1_0, .ref h_1_1, .int (nI P.2.1.2.2)])), (h_1_0, .inl (cI, 6, .inl P.2.1.1)), (h_1_1, .inl (cI, 6, .inl P.2.1.2.1)), (h_2, .inr (3, [.ref h_2_0, .ref h_2_1, .ref h_2_2, .int (nI P.2.2.1.2.2.2)])), (h_2_0, .inl (cI, 16, .inl P.2.2.1.1)), (h_2_1, .inl (cI, 16, .inl P.2.2.1.2.1)), (h_2_2, .inl (cI, 12, .inl P.2.2.1.2.2.1)), (h_3, .inr (4, [.ref h_3_0, .ref h_3_1, .ref h_3_2, .int (nI P.2.2.2.1.2.2.2)])), (h_3_0, .inl (cI, 16, .inl P.2.2.2.1.1)), (h_3_1, .inl (cI, 16, .inl P.2.2.2.1.2.1)), (h_3_2, .inl (cI, 16, .inl P.2.2.2.1.2.2.1)), (h_4, .inr (5, [.ref h_4_0, .ref h_4_1, .ref h_4_2, .ref h_4_3, .ref h_4_4, .int (nI P.2.2.2.2.1.2.2.2.2.2)])), (h_4_0, .inl (cI, 12, .inl P.2.2.2.2.1.1)), (h_4_1, .inl (cI, 12, .inl P.2.2.2.2.1.2.1)), (h_4_2, .inl (cI, 12, .inl P.2.2.2.2.1.2.2.1)), (h_4_3, .inl (cJ, 12, .inr (.inl P.2.2.2.2.1.2.2.2.1))), (h_4_4, .inl (cJ, 12, .inr (.inl P.2.2.2.2.1.2.2.2.2.1))), (h_5, .inr (6, [.ref h_5_0, .int (nI P.2.2.2.2.2.1.2)])), (h_5_0, .inl (cC, 256, .inl P.2.2.2.2.2.1.1)), (h_6, .inr (7, [.int (nI P.2.2.2.2.2.2.1.1), .int (nI P.2.2.2.2.2.2.1.2.1), .int (nI P.2.2.2.2.2.2.1.2.2)]))]
abbrev kVM : Type := kMach × Int32 × Nat
abbrev wVM (cI cJ cC : ClassId) (h h_0 h_0_0 h_0_1 h_0_2 h_1 h_2 h_3 h_4 h_5 h_6 : Nat) (P : kVM) : va_W := [(h, .inr (0, [.ref h_0, .ref h_1, .ref h_2, .ref h_3, .ref h_4, .ref h_5, .ref h_6, .int P.2.1, .int (nI P.2.2)])), (h_0, .inr (1, [.ref h_0_0, .ref h_0_1, .ref h_0_2, .int (nI P.1.2.2.2)])), (h_0_0, .inl (cI, 4, .inl P.1.1)), (h_0_1, .inl (cI, 4, .inl P.1.2.1)), (h_0_2, .inl (cI, 4, .inl P.1.2.2.1))]
abbrev kVX : Type := kExc × Int32 × Nat
abbrev wVX (cI cJ cC : ClassId) (h h_0 h_1 h_1_0 h_1_1 h_2 h_3 h_4 h_5 h_6 : Nat) (P : kVX) : va_W := [(h, .inr (0, [.ref h_0, .ref h_1, .ref h_2, .ref h_3, .ref h_4, .ref h_5, .ref h_6, .int P.2.1, .int (nI P.2.2)])), (h_1, .inr (2, [.ref h_1_0, .ref h_1_1, .int (nI P.1.2.2)])), (h_1_0, .inl (cI, 6, .inl P.1.1)), (h_1_1, .inl (cI, 6, .inl P.1.2.1))]
abbrev kVMX : Type := kMach × kExc × Int32 × Nat
abbrev wVMX (cI cJ cC : ClassId) (h h_0 h_0_0 h_0_1 h_0_2 h_1 h_1_0 h_1_1 h_2 h_3 h_4 h_5 h_6 : Nat) (P : kVMX) : va_W := [(h, .inr (0, [.ref h_0, .ref h_1, .ref h_2, .ref h_3, .ref h_4, .ref h_5, .ref h_6, .int P.2.2.1, .int (nI P.2.2.2)])), (h_0, .inr (1, [.ref h_0_0, .ref h_0_1, .ref h_0_2, .int (nI P.1.2.2.2)])), (h_0_0, .inl (cI, 4, .inl P.1.1)), (h_0_1, .inl (cI, 4, .inl P.1.2.1)), (h_0_2, .inl (cI, 4, .inl P.1.2.2.1)), (h_1, .inr (2, [.ref h_1_0, .ref h_1_1, .int (nI P.2.1.2.2)])), (h_1_0, .inl (cI, 6, .inl P.2.1.1)), (h_1_1, .inl (cI, 6, .inl P.2.1.2.1))]
abbrev kV0 : Type := Int32 × Nat
abbrev wV0 (cI cJ cC : ClassId) (h h_0 h_1 h_2 h_3 h_4 h_5 h_6 : Nat) (P : kV0) : va_W := [(h, .inr (0, [.ref h_0, .ref h_1, .ref h_2, .ref h_3, .ref h_4, .ref h_5, .ref h_6, .int P.1, .int (nI P.2)]))]
abbrev kVT : Type := kTal × Int32 × Nat
abbrev wVT (cI cJ cC : ClassId) (h h_0 h_1 h_2 h_3 h_3_0 h_3_1 h_3_2 h_4 h_5 h_6 : Nat) (P : kVT) : va_W := [(h, .inr (0, [.ref h_0, .ref h_1, .ref h_2, .ref h_3, .ref h_4, .ref h_5, .ref h_6, .int P.2.1, .int (nI P.2.2)])), (h_3, .inr (4, [.ref h_3_0, .ref h_3_1, .ref h_3_2, .int (nI P.1.2.2.2)])), (h_3_0, .inl (cI, 16, .inl P.1.1)), (h_3_1, .inl (cI, 16, .inl P.1.2.1)), (h_3_2, .inl (cI, 16, .inl P.1.2.2.1))]
abbrev kVR : Type := kRep × Int32 × Nat
abbrev wVR (cI cJ cC : ClassId) (h h_0 h_1 h_2 h_3 h_4 h_5 h_5_0 h_6 : Nat) (P : kVR) : va_W := [(h, .inr (0, [.ref h_0, .ref h_1, .ref h_2, .ref h_3, .ref h_4, .ref h_5, .ref h_6, .int P.2.1, .int (nI P.2.2)])), (h_5, .inr (6, [.ref h_5_0, .int (nI P.1.2)])), (h_5_0, .inl (cC, 256, .inl P.1.1))]
abbrev kVF : Type := kFL × Int32 × Nat
abbrev wVF (cI cJ cC : ClassId) (h h_0 h_1 h_2 h_3 h_4 h_4_0 h_4_1 h_4_2 h_4_3 h_4_4 h_5 h_6 : Nat) (P : kVF) : va_W := [(h, .inr (0, [.ref h_0, .ref h_1, .ref h_2, .ref h_3, .ref h_4, .ref h_5, .ref h_6, .int P.2.1, .int (nI P.2.2)])), (h_4, .inr (5, [.ref h_4_0, .ref h_4_1, .ref h_4_2, .ref h_4_3, .ref h_4_4, .int (nI P.1.2.2.2.2.2)])), (h_4_0, .inl (cI, 12, .inl P.1.1)), (h_4_1, .inl (cI, 12, .inl P.1.2.1)), (h_4_2, .inl (cI, 12, .inl P.1.2.2.1)), (h_4_3, .inl (cJ, 12, .inr (.inl P.1.2.2.2.1))), (h_4_4, .inl (cJ, 12, .inr (.inl P.1.2.2.2.2.1)))]
abbrev kVS : Type := kMach × kFL × kShr × Int32 × Nat
abbrev wVS (cI cJ cC : ClassId) (h h_0 h_0_0 h_0_1 h_0_2 h_1 h_2 h_3 h_4 h_4_0 h_4_1 h_4_2 h_4_3 h_4_4 h_5 h_6 : Nat) (P : kVS) : va_W := [(h, .inr (0, [.ref h_0, .ref h_1, .ref h_2, .ref h_3, .ref h_4, .ref h_5, .ref h_6, .int P.2.2.2.1, .int (nI P.2.2.2.2)])), (h_0, .inr (1, [.ref h_0_0, .ref h_0_1, .ref h_0_2, .int (nI P.1.2.2.2)])), (h_0_0, .inl (cI, 4, .inl P.1.1)), (h_0_1, .inl (cI, 4, .inl P.1.2.1)), (h_0_2, .inl (cI, 4, .inl P.1.2.2.1)), (h_4, .inr (5, [.ref h_4_0, .ref h_4_1, .ref h_4_2, .ref h_4_3, .ref h_4_4, .int (nI P.2.1.2.2.2.2.2)])), (h_4_0, .inl (cI, 12, .inl P.2.1.1)), (h_4_1, .inl (cI, 12, .inl P.2.1.2.1)), (h_4_2, .inl (cI, 12, .inl P.2.1.2.2.1)), (h_4_3, .inl (cJ, 12, .inr (.inl P.2.1.2.2.2.1))), (h_4_4, .inl (cJ, 12, .inr (.inl P.2.1.2.2.2.2.1))), (h_6, .inr (7, [.int (nI P.2.2.1.1), .int (nI P.2.2.1.2.1), .int (nI P.2.2.1.2.2)]))]
abbrev kVC : Type := kMach × kTal × kFL × Int32 × Nat
abbrev wVC (cI cJ cC : ClassId) (h h_0 h_0_0 h_0_1 h_0_2 h_1 h_2 h_3 h_3_0 h_3_1 h_3_2 h_4 h_4_0 h_4_1 h_4_2 h_4_3 h_4_4 h_5 h_6 : Nat) (P : kVC) : va_W := [(h, .inr (0, [.ref h_0, .ref h_1, .ref h_2, .ref h_3, .ref h_4, .ref h_5, .ref h_6, .int P.2.2.2.1, .int (nI P.2.2.2.2)])), (h_0, .inr (1, [.ref h_0_0, .ref h_0_1, .ref h_0_2, .int (nI P.1.2.2.2)])), (h_0_0, .inl (cI, 4, .inl P.1.1)), (h_0_1, .inl (cI, 4, .inl P.1.2.1)), (h_0_2, .inl (cI, 4, .inl P.1.2.2.1)), (h_3, .inr (4, [.ref h_3_0, .ref h_3_1, .ref h_3_2, .int (nI P.2.1.2.2.2)])), (h_3_0, .inl (cI, 16, .inl P.2.1.1)), (h_3_1, .inl (cI, 16, .inl P.2.1.2.1)), (h_3_2, .inl (cI, 16, .inl P.2.1.2.2.1)), (h_4, .inr (5, [.ref h_4_0, .ref h_4_1, .ref h_4_2, .ref h_4_3, .ref h_4_4, .int (nI P.2.2.1.2.2.2.2.2)])), (h_4_0, .inl (cI, 12, .inl P.2.2.1.1)), (h_4_1, .inl (cI, 12, .inl P.2.2.1.2.1)), (h_4_2, .inl (cI, 12, .inl P.2.2.1.2.2.1)), (h_4_3, .inl (cJ, 12, .inr (.inl P.2.2.1.2.2.2.1))), (h_4_4, .inl (cJ, 12, .inr (.inl P.2.2.1.2.2.2.2.1)))]
abbrev kVE : Type := kMach × kExc × kPB × kTal × kFL × Int32 × Nat
abbrev wVE (cI cJ cC : ClassId) (h h_0 h_0_0 h_0_1 h_0_2 h_1 h_1_0 h_1_1 h_2 h_2_0 h_2_1 h_2_2 h_3 h_3_0 h_3_1 h_3_2 h_4 h_4_0 h_4_1 h_4_2 h_4_3 h_4_4 h_5 h_6 : Nat) (P : kVE) : va_W := [(h, .inr (0, [.ref h_0, .ref h_1, .ref h_2, .ref h_3, .ref h_4, .ref h_5, .ref h_6, .int P.2.2.2.2.2.1, .int (nI P.2.2.2.2.2.2)])), (h_0, .inr (1, [.ref h_0_0, .ref h_0_1, .ref h_0_2, .int (nI P.1.2.2.2)])), (h_0_0, .inl (cI, 4, .inl P.1.1)), (h_0_1, .inl (cI, 4, .inl P.1.2.1)), (h_0_2, .inl (cI, 4, .inl P.1.2.2.1)), (h_1, .inr (2, [.ref h_1_0, .ref h_1_1, .int (nI P.2.1.2.2)])), (h_1_0, .inl (cI, 6, .inl P.2.1.1)), (h_1_1, .inl (cI, 6, .inl P.2.1.2.1)), (h_2, .inr (3, [.ref h_2_0, .ref h_2_1, .ref h_2_2, .int (nI P.2.2.1.2.2.2)])), (h_2_0, .inl (cI, 16, .inl P.2.2.1.1)), (h_2_1, .inl (cI, 16, .inl P.2.2.1.2.1)), (h_2_2, .inl (cI, 12, .inl P.2.2.1.2.2.1)), (h_3, .inr (4, [.ref h_3_0, .ref h_3_1, .ref h_3_2, .int (nI P.2.2.2.1.2.2.2)])), (h_3_0, .inl (cI, 16, .inl P.2.2.2.1.1)), (h_3_1, .inl (cI, 16, .inl P.2.2.2.1.2.1)), (h_3_2, .inl (cI, 16, .inl P.2.2.2.1.2.2.1)), (h_4, .inr (5, [.ref h_4_0, .ref h_4_1, .ref h_4_2, .ref h_4_3, .ref h_4_4, .int (nI P.2.2.2.2.1.2.2.2.2.2)])), (h_4_0, .inl (cI, 12, .inl P.2.2.2.2.1.1)), (h_4_1, .inl (cI, 12, .inl P.2.2.2.2.1.2.1)), (h_4_2, .inl (cI, 12, .inl P.2.2.2.2.1.2.2.1)), (h_4_3, .inl (cJ, 12, .inr (.inl P.2.2.2.2.1.2.2.2.1))), (h_4_4, .inl (cJ, 12, .inr (.inl P.2.2.2.2.1.2.2.2.2.1)))]
abbrev kVG : Type := kPB × kTal × kFL × kRep × Int32 × Nat
abbrev wVG (cI cJ cC : ClassId) (h h_0 h_1 h_2 h_2_0 h_2_1 h_2_2 h_3 h_3_0 h_3_1 h_3_2 h_4 h_4_0 h_4_1 h_4_2 h_4_3 h_4_4 h_5 h_5_0 h_6 : Nat) (P : kVG) : va_W := [(h, .inr (0, [.ref h_0, .ref h_1, .ref h_2, .ref h_3, .ref h_4, .ref h_5, .ref h_6, .int P.2.2.2.2.1, .int (nI P.2.2.2.2.2)])), (h_2, .inr (3, [.ref h_2_0, .ref h_2_1, .ref h_2_2, .int (nI P.1.2.2.2)])), (h_2_0, .inl (cI, 16, .inl P.1.1)), (h_2_1, .inl (cI, 16, .inl P.1.2.1)), (h_2_2, .inl (cI, 12, .inl P.1.2.2.1)), (h_3, .inr (4, [.ref h_3_0, .ref h_3_1, .ref h_3_2, .int (nI P.2.1.2.2.2)])), (h_3_0, .inl (cI, 16, .inl P.2.1.1)), (h_3_1, .inl (cI, 16, .inl P.2.1.2.1)), (h_3_2, .inl (cI, 16, .inl P.2.1.2.2.1)), (h_4, .inr (5, [.ref h_4_0, .ref h_4_1, .ref h_4_2, .ref h_4_3, .ref h_4_4, .int (nI P.2.2.1.2.2.2.2.2)])), (h_4_0, .inl (cI, 12, .inl P.2.2.1.1)), (h_4_1, .inl (cI, 12, .inl P.2.2.1.2.1)), (h_4_2, .inl (cI, 12, .inl P.2.2.1.2.2.1)), (h_4_3, .inl (cJ, 12, .inr (.inl P.2.2.1.2.2.2.1))), (h_4_4, .inl (cJ, 12, .inr (.inl P.2.2.1.2.2.2.2.1))), (h_5, .inr (6, [.ref h_5_0, .int (nI P.2.2.2.1.2)])), (h_5_0, .inl (cC, 256, .inl P.2.2.2.1.1))]
abbrev kVW : Type := kTal × kRep × Int32 × Nat
abbrev wVW (cI cJ cC : ClassId) (h h_0 h_1 h_2 h_3 h_3_0 h_3_1 h_3_2 h_4 h_5 h_5_0 h_6 : Nat) (P : kVW) : va_W := [(h, .inr (0, [.ref h_0, .ref h_1, .ref h_2, .ref h_3, .ref h_4, .ref h_5, .ref h_6, .int P.2.2.1, .int (nI P.2.2.2)])), (h_3, .inr (4, [.ref h_3_0, .ref h_3_1, .ref h_3_2, .int (nI P.1.2.2.2)])), (h_3_0, .inl (cI, 16, .inl P.1.1)), (h_3_1, .inl (cI, 16, .inl P.1.2.1)), (h_3_2, .inl (cI, 16, .inl P.1.2.2.1)), (h_5, .inr (6, [.ref h_5_0, .int (nI P.2.1.2)])), (h_5_0, .inl (cC, 256, .inl P.2.1.1))]
abbrev kVRun : Type := kMach × kExc × kPB × kTal × kFL × kRep × Int32 × Nat
abbrev wVRun (cI cJ cC : ClassId) (h h_0 h_0_0 h_0_1 h_0_2 h_1 h_1_0 h_1_1 h_2 h_2_0 h_2_1 h_2_2 h_3 h_3_0 h_3_1 h_3_2 h_4 h_4_0 h_4_1 h_4_2 h_4_3 h_4_4 h_5 h_5_0 h_6 : Nat) (P : kVRun) : va_W := [(h, .inr (0, [.ref h_0, .ref h_1, .ref h_2, .ref h_3, .ref h_4, .ref h_5, .ref h_6, .int P.2.2.2.2.2.2.1, .int (nI P.2.2.2.2.2.2.2)])), (h_0, .inr (1, [.ref h_0_0, .ref h_0_1, .ref h_0_2, .int (nI P.1.2.2.2)])), (h_0_0, .inl (cI, 4, .inl P.1.1)), (h_0_1, .inl (cI, 4, .inl P.1.2.1)), (h_0_2, .inl (cI, 4, .inl P.1.2.2.1)), (h_1, .inr (2, [.ref h_1_0, .ref h_1_1, .int (nI P.2.1.2.2)])), (h_1_0, .inl (cI, 6, .inl P.2.1.1)), (h_1_1, .inl (cI, 6, .inl P.2.1.2.1)), (h_2, .inr (3, [.ref h_2_0, .ref h_2_1, .ref h_2_2, .int (nI P.2.2.1.2.2.2)])), (h_2_0, .inl (cI, 16, .inl P.2.2.1.1)), (h_2_1, .inl (cI, 16, .inl P.2.2.1.2.1)), (h_2_2, .inl (cI, 12, .inl P.2.2.1.2.2.1)), (h_3, .inr (4, [.ref h_3_0, .ref h_3_1, .ref h_3_2, .int (nI P.2.2.2.1.2.2.2)])), (h_3_0, .inl (cI, 16, .inl P.2.2.2.1.1)), (h_3_1, .inl (cI, 16, .inl P.2.2.2.1.2.1)), (h_3_2, .inl (cI, 16, .inl P.2.2.2.1.2.2.1)), (h_4, .inr (5, [.ref h_4_0, .ref h_4_1, .ref h_4_2, .ref h_4_3, .ref h_4_4, .int (nI P.2.2.2.2.1.2.2.2.2.2)])), (h_4_0, .inl (cI, 12, .inl P.2.2.2.2.1.1)), (h_4_1, .inl (cI, 12, .inl P.2.2.2.2.1.2.1)), (h_4_2, .inl (cI, 12, .inl P.2.2.2.2.1.2.2.1)), (h_4_3, .inl (cJ, 12, .inr (.inl P.2.2.2.2.1.2.2.2.1))), (h_4_4, .inl (cJ, 12, .inr (.inl P.2.2.2.2.1.2.2.2.2.1))), (h_5, .inr (6, [.ref h_5_0, .int (nI P.2.2.2.2.2.1.2)])), (h_5_0, .inl (cC, 256, .inl P.2.2.2.2.2.1.1))]
abbrev kVCt : Type := kMach × kExc × kPB × kTal × kRep × Int32 × Nat
abbrev wVCt (cI cJ cC : ClassId) (h h_0 h_0_0 h_0_1 h_0_2 h_1 h_1_0 h_1_1 h_2 h_2_0 h_2_1 h_2_2 h_3 h_3_0 h_3_1 h_3_2 h_4 h_5 h_5_0 h_6 : Nat) (P : kVCt) : va_W := [(h, .inr (0, [.ref h_0, .ref h_1, .ref h_2, .ref h_3, .ref h_4, .ref h_5, .ref h_6, .int P.2.2.2.2.2.1, .int (nI P.2.2.2.2.2.2)])), (h_0, .inr (1, [.ref h_0_0, .ref h_0_1, .ref h_0_2, .int (nI P.1.2.2.2)])), (h_0_0, .inl (cI, 4, .inl P.1.1)), (h_0_1, .inl (cI, 4, .inl P.1.2.1)), (h_0_2, .inl (cI, 4, .inl P.1.2.2.1)), (h_1, .inr (2, [.ref h_1_0, .ref h_1_1, .int (nI P.2.1.2.2)])), (h_1_0, .inl (cI, 6, .inl P.2.1.1)), (h_1_1, .inl (cI, 6, .inl P.2.1.2.1)), (h_2, .inr (3, [.ref h_2_0, .ref h_2_1, .ref h_2_2, .int (nI P.2.2.1.2.2.2)])), (h_2_0, .inl (cI, 16, .inl P.2.2.1.1)), (h_2_1, .inl (cI, 16, .inl P.2.2.1.2.1)), (h_2_2, .inl (cI, 12, .inl P.2.2.1.2.2.1)), (h_3, .inr (4, [.ref h_3_0, .ref h_3_1, .ref h_3_2, .int (nI P.2.2.2.1.2.2.2)])), (h_3_0, .inl (cI, 16, .inl P.2.2.2.1.1)), (h_3_1, .inl (cI, 16, .inl P.2.2.2.1.2.1)), (h_3_2, .inl (cI, 16, .inl P.2.2.2.1.2.2.1)), (h_5, .inr (6, [.ref h_5_0, .int (nI P.2.2.2.2.1.2)])), (h_5_0, .inl (cC, 256, .inl P.2.2.2.2.1.1))]
/-! PURE: what the class's methods compute, in the order of its own tests. -/
def k_isEntry (x : Int32) : Bool := if x < 0 then false else if 16 ≤ x then false else true
def k_isTr (v : Int64) : Bool := if v < 10000000000 then false else true
def k_lsz (x : Int32) : Nat := if x = 1 then 3 else if x = 2 then 6 else 12
def k_size (a : Int32) : Int64 := if 0 ≤ a then (if a ≤ 64 then a.toInt64 else 64) else 30000000000
def k_cmp (a b : Int32) : Int32 := if b ≤ a then (if a = b then 0 else 1) else -1
def kOr (e a b : Int32) : Int64 :=
  if e = 0 then (a + b).toInt64 else if e = 1 then (a - b).toInt64 else if e = 2 then (a * b).toInt64
  else if e = 3 then (if b = 0 then 10000000000 else (a / b).toInt64)
  else if e = 4 then (if b = 0 then 10000000000 else (a - a / b * b).toInt64)
  else if e = 5 then (a <<< (b &&& 31)).toInt64 else if e = 6 then (a >>> (b &&& 31)).toInt64
  else if e = 7 then ((a.toUInt32 >>> (b.toUInt32 &&& Int32.toUInt32 31)).toInt32).toInt64
  else if e = 8 then (a.toInt8.toInt32).toInt64 else if e = 9 then ((a.toUInt32 % 65536).toInt32).toInt64
  else if e = 10 then (if a < 0 then 20000000000 else if a < 3 then (kChr 16 a.toNatClampNeg).toInt64 else 20000000000)
  else if e = 11 then (if b < 0 then 20000000000 else if b < 3 then (kCel b.toNatClampNeg).toInt64 else 20000000000)
  else if e = 12 then k_size a
  else if e = 13 then (if a = b then a.toInt64 else 40000000000)
  else if e = 14 then (if a ≤ b then 50000000000 else 4)
  else (k_cmp a b).toInt64
def k_app (so n a b : Int32) (f : Int64) : Bool :=
  if so = 0 then (if k_isTr f = true then false else if a = n then true else false)
  else if so = 1 then (if k_isTr f = true then false else if b = n then true else false)
  else if so = 2 then k_isTr f else if so = 3 then k_isTr f
  else (if k_isTr f = true then false else if f ≤ n.toInt64 then false else true)
def k_chg (so n : Int32) (f : Int64) : Int64 :=
  if so = 0 then (f.toInt32 + 1).toInt64 else if so = 1 then 10000000000 else if so = 2 then n.toInt64
  else if so = 3 then (if f = 50000000000 then 40000000000 else 50000000000) else f ^^^ 1
def k_mk (g : Int64) : Int32 := if k_isTr g = true then 4 <<< ((g / 10000000000).toInt32 &&& 31) else if 0 ≤ g then (if g = 0 then 2 else 4) else 1
def k_addFault (P : kMach) (e s n : Int32) : kMach × Bool := if P.2.2.2 < 4 then ((upd P.1 P.2.2.2 e, upd P.2.1 P.2.2.2 s, upd P.2.2.1 P.2.2.2 n, P.2.2.2 + 1), true) else (P, false)
def k_rmFaults (P : kMach) : kMach := (P.1, P.2.1, P.2.2.1, 0)
def k_giveL (P : kMach) (e a b : Int32) : Nat → Nat → Int64
  | 0, _ => kOr e a b
  | n + 1, i => if P.1 i = e then (if k_app (P.2.1 i) (P.2.2.1 i) a b (kOr e a b) = true then k_chg (P.2.1 i) (P.2.2.1 i) (kOr e a b) else k_giveL P e a b n (i + 1)) else k_giveL P e a b n (i + 1)
def k_give (P : kMach) (e a b : Int32) : Int64 := k_giveL P e a b P.2.2.2 0
def k_fails (P : kMach) (e : Int32) (pa pb : Nat) : Bool := if k_give P e (kLat pa) (kLat pb) = kOr e (kLat pa) (kLat pb) then false else true
def k_addExc (P : kExc) (e n : Int32) : kExc × Bool := if P.2.2 < 6 then ((upd P.1 P.2.2 e, upd P.2.1 P.2.2 n, P.2.2 + 1), true) else (P, false)
def k_rmExc (P : kExc) : kExc := (P.1, P.2.1, 0)
def k_leaveL (P : kExc) (e a b : Int32) : Nat → Nat → Bool
  | 0, _ => false
  | n + 1, i => if P.1 i = e then (if P.2.1 i = a then true else if P.2.1 i = b then true else k_leaveL P e a b n (i + 1)) else k_leaveL P e a b n (i + 1)
def k_leave (P : kExc) (e a b : Int32) : Bool := k_leaveL P e a b P.2.2 0
def k_mark (f : Nat → Int32) (h : Nat) (row pl : Nat) : (Nat → Int32) × Nat := if f row &&& (1 <<< (nI pl &&& 31)) = 0 then (upd f row (f row ||| (1 <<< (nI pl &&& 31))), h + 1) else (f, h)
def k_note (P : kPB) (e pa pb : Nat) : kPB × Bool :=
  ((((k_mark P.1 P.2.2.2 e pa).1, (k_mark P.2.1 (k_mark P.1 P.2.2.2 e pa).2 e pb).1, k_mark P.2.2.1 (k_mark P.2.1 (k_mark P.1 P.2.2.2 e pa).2 e pb).2 pa pb) : kPB),
    if nI (k_mark P.2.2.1 (k_mark P.2.1 (k_mark P.1 P.2.2.2 e pa).2 e pb).2 pa pb).2 ≤ nI P.2.2.2 then false else true)
def k_fgPB (_ : kPB) : kPB := (fun _ => 0, fun _ => 0, fun _ => 0, 0)
def k_noteLO (P : kTal) : kTal := (P.1, P.2.1, P.2.2.1, P.2.2.2 + 1)
def k_noteF (P : kTal) (e : Nat) : kTal := (P.1, upd P.2.1 e (P.2.1 e + 1), P.2.2.1, P.2.2.2)
def k_noteT (P : kTal) (e : Nat) (g : Int64) : kTal := (upd P.1 e (P.1 e + 1), P.2.1, upd P.2.2.1 e (P.2.2.1 e ||| k_mk g), P.2.2.2)
def k_fgTal (_ : kTal) : kTal := (fun _ => 0, fun _ => 0, fun _ => 0, 0)
def k_sumL (f : Nat → Int32) : Nat → Nat → Int32 → Int32
  | 0, _, a => a
  | n + 1, i, a => k_sumL f n (i + 1) (a + f i)
def k_sum (f : Nat → Int32) : Int32 := k_sumL f 16 0 0
def k_b1 (i : Int32) : Int32 := i - ((i.toUInt32 >>> ((1 : Int32).toUInt32 &&& Int32.toUInt32 31)).toInt32 &&& 1431655765)
def k_b2 (i : Int32) : Int32 := (i &&& 858993459) + ((i.toUInt32 >>> ((2 : Int32).toUInt32 &&& Int32.toUInt32 31)).toInt32 &&& 858993459)
def k_b3 (i : Int32) : Int32 := (i + (i.toUInt32 >>> ((4 : Int32).toUInt32 &&& Int32.toUInt32 31)).toInt32) &&& 252645135
def k_b4 (i : Int32) : Int32 := i + (i.toUInt32 >>> ((8 : Int32).toUInt32 &&& Int32.toUInt32 31)).toInt32
def k_b5 (i : Int32) : Int32 := i + (i.toUInt32 >>> ((16 : Int32).toUInt32 &&& Int32.toUInt32 31)).toInt32
def k_bitc (i : Int32) : Int32 := k_b5 (k_b4 (k_b3 (k_b2 (k_b1 i)))) &&& 63
def k_mallL (f : Nat → Int32) : Nat → Nat → Int32 → Int32
  | 0, _, a => a
  | n + 1, i, a => k_mallL f n (i + 1) (a + k_bitc (f i))
def k_mall (f : Nat → Int32) : Int32 := k_mallL f 16 0 0
def k_at (P : kRep) (i : Int32) : Int32 := if i < 0 then 0 else if i < nI P.2 then P.1 i.toNatClampNeg else 0
theorem ks_in {x : Int32} {n : Nat} (h0 : ¬ x < 0) (h : x < nI n) (hn : n < 2 ^ 31) : ∃ k : Nat, k < n ∧ x = nI k := by
  obtain ⟨j, hj, rfl⟩ := nI_of h0
  exact ⟨j, (nI_ltI hj hn).mp h, rfl⟩
def k_fgFL (P : kFL) : kFL := (P.1, P.2.1, P.2.2.1, P.2.2.2.1, P.2.2.2.2.1, 0)
def k_keep (P : kFL) (e pa pb : Int32) (fo gi : Int64) : kFL := if P.2.2.2.2.2 < 12 then (upd P.1 P.2.2.2.2.2 e, upd P.2.1 P.2.2.2.2.2 pa, upd P.2.2.1 P.2.2.2.2.2 pb, vp_updL P.2.2.2.1 P.2.2.2.2.2 fo, vp_updL P.2.2.2.2.1 P.2.2.2.2.2 gi, P.2.2.2.2.2 + 1) else P
def k_fgRep (P : kRep) : kRep := (P.1, 0)
def k_put (P : kRep) (c : Int32) : kRep := if 256 ≤ P.2 then P else (upd P.1 P.2 c, P.2 + 1)
def k0_Mach : kMach := (fun _ => 0, fun _ => 0, fun _ => 0, 0)
def k0_Exc : kExc := (fun _ => 0, fun _ => 0, 0)
def k0_PB : kPB := (fun _ => 0, fun _ => 0, fun _ => 0, 0)
def k0_Tal : kTal := (fun _ => 0, fun _ => 0, fun _ => 0, 0)
def k0_FL : kFL := (fun _ => 0, fun _ => 0, fun _ => 0, fun _ => 0, fun _ => 0, 0)
def k0_Rep : kRep := (fun _ => 0, 0)
def k0_Shr : kShr := (0, 0, 0)
def k0_Kit : kKit := (k0_Mach, k0_Exc, k0_PB, k0_Tal, k0_FL, k0_Rep, k0_Shr, 65535, 0)
theorem kf_step {i : Nat} {g : Nat → Int32} {v : Int32} (h : ∀ j : Nat, j < i → g j = v) : ∀ j : Nat, j < i + 1 → upd g i v j = v := by
  intro j hj
  unfold upd
  by_cases e : j = i
  · rw [if_pos e]
  · rw [if_neg e]; exact h j (by omega)
theorem kf_fill {D : va_G} {cl : List vw_C} {q n : Nat} {cA : ClassId} {g : Nat → Int32} {v : Int32} {H : Heap} (hP : va_P D cl [(q, .inl (cA, n, .inl g))] H) (h : ∀ j : Nat, j < n → g j = v) : va_P D cl [(q, .inl (cA, n, .inl (fun _ => v)))] H := by
  intro k x hx
  have h0 := hP 0 _ rfl
  have hk : k = 0 := by
    rcases Nat.eq_zero_or_pos k with e | e
    · exact e
    · rw [List.getElem?_eq_none (by simp; omega)] at hx; cases hx
  subst hk
  cases hx
  show H[q]? = some (arrV cA n (fun j => .int v))
  have h1 : H[q]? = some (arrV cA n (fun j => .int (g j))) := h0
  rw [h1]
  congr 1
  unfold arrV
  congr 1
  apply Array.ext
  · simp
  · intro i hi1 hi2
    simp at hi1 ⊢
    rw [h i hi1]
theorem kf_fillD {A : Nat → Prop} {q n : Nat} {cA : ClassId} {g : Nat → Int32} {v : Int32} (hD : va_D A [(q, .inl (cA, n, .inl g))]) : va_D A [(q, .inl (cA, n, .inl (fun _ => v)))] := by
  refine ⟨fun i j p q hp hq _ => ?_, fun k x hx => ?_⟩
  · have e1 : i = 0 := by
      rcases Nat.eq_zero_or_pos i with e | e
      · exact e
      · rw [List.getElem?_eq_none (by simp; omega)] at hp; cases hp
    have e2 : j = 0 := by
      rcases Nat.eq_zero_or_pos j with e | e
      · exact e
      · rw [List.getElem?_eq_none (by simp; omega)] at hq; cases hq
    rw [e1, e2]
  · have hk : k = 0 := by
      rcases Nat.eq_zero_or_pos k with e | e
      · exact e
      · rw [List.getElem?_eq_none (by simp; omega)] at hx; cases hx
    subst hk
    cases hx
    exact hD.2 0 (q, .inl (cA, n, .inl g)) rfl
/-- case splits over switches -/
theorem ks_gen (x : Int32) (hi : Nat) (hh : hi < 2 ^ 31) : (∃ k : Nat, k ≤ hi ∧ x = nI k) ∨ (x.toInt < 0 ∨ (hi : Int) < x.toInt) := by
  by_cases h0 : x.toInt < 0
  · exact Or.inr (Or.inl h0)
  by_cases h1 : (hi : Int) < x.toInt
  · exact Or.inr (Or.inr h1)
  · refine Or.inl ⟨x.toInt.toNat, by omega, Int32.toInt_inj.mp ?_⟩
    rw [nI_toInt (by omega)]
    omega
theorem ks_2 (x : Int32) : x = 0 ∨ x = 1 ∨ x = 2 ∨ (x.toInt < 0 ∨ 2 < x.toInt) := by
  rcases ks_gen x 2 (by decide) with ⟨k, hk, rfl⟩ | h
  · rcases (show k = 0 ∨ k = 1 ∨ k = 2 by omega) with rfl | rfl | rfl
    · exact Or.inl rfl
    · exact Or.inr (Or.inl rfl)
    · exact Or.inr (Or.inr (Or.inl rfl))
  · exact Or.inr (Or.inr (Or.inr (h)))
theorem kn_2 {x : Int32} (h : x.toInt < 0 ∨ 2 < x.toInt) : ¬ x = 0 ∧ ¬ x = 1 ∧ ¬ x = 2 := by
  refine ⟨?_, ?_, ?_⟩ <;> (rintro rfl; revert h; decide)
theorem ks_3 (x : Int32) : x = 0 ∨ x = 1 ∨ x = 2 ∨ x = 3 ∨ (x.toInt < 0 ∨ 3 < x.toInt) := by
  rcases ks_gen x 3 (by decide) with ⟨k, hk, rfl⟩ | h
  · rcases (show k = 0 ∨ k = 1 ∨ k = 2 ∨ k = 3 by omega) with rfl | rfl | rfl | rfl
    · exact Or.inl rfl
    · exact Or.inr (Or.inl rfl)
    · exact Or.inr (Or.inr (Or.inl rfl))
    · exact Or.inr (Or.inr (Or.inr (Or.inl rfl)))
  · exact Or.inr (Or.inr (Or.inr (Or.inr (h))))
theorem kn_3 {x : Int32} (h : x.toInt < 0 ∨ 3 < x.toInt) : ¬ x = 0 ∧ ¬ x = 1 ∧ ¬ x = 2 ∧ ¬ x = 3 := by
  refine ⟨?_, ?_, ?_, ?_⟩ <;> (rintro rfl; revert h; decide)
theorem ks_4 (x : Int32) : x = 0 ∨ x = 1 ∨ x = 2 ∨ x = 3 ∨ x = 4 ∨ (x.toInt < 0 ∨ 4 < x.toInt) := by
  rcases ks_gen x 4 (by decide) with ⟨k, hk, rfl⟩ | h
  · rcases (show k = 0 ∨ k = 1 ∨ k = 2 ∨ k = 3 ∨ k = 4 by omega) with rfl | rfl | rfl | rfl | rfl
    · exact Or.inl rfl
    · exact Or.inr (Or.inl rfl)
    · exact Or.inr (Or.inr (Or.inl rfl))
    · exact Or.inr (Or.inr (Or.inr (Or.inl rfl)))
    · exact Or.inr (Or.inr (Or.inr (Or.inr (Or.inl rfl))))
  · exact Or.inr (Or.inr (Or.inr (Or.inr (Or.inr (h)))))
theorem kn_4 {x : Int32} (h : x.toInt < 0 ∨ 4 < x.toInt) : ¬ x = 0 ∧ ¬ x = 1 ∧ ¬ x = 2 ∧ ¬ x = 3 ∧ ¬ x = 4 := by
  refine ⟨?_, ?_, ?_, ?_, ?_⟩ <;> (rintro rfl; revert h; decide)
theorem ks_9 (x : Int32) : x = 0 ∨ x = 1 ∨ x = 2 ∨ x = 3 ∨ x = 4 ∨ x = 5 ∨ x = 6 ∨ x = 7 ∨ x = 8 ∨ x = 9 ∨ (x.toInt < 0 ∨ 9 < x.toInt) := by
  rcases ks_gen x 9 (by decide) with ⟨k, hk, rfl⟩ | h
  · rcases (show k = 0 ∨ k = 1 ∨ k = 2 ∨ k = 3 ∨ k = 4 ∨ k = 5 ∨ k = 6 ∨ k = 7 ∨ k = 8 ∨ k = 9 by omega) with rfl | rfl | rfl | rfl | rfl | rfl | rfl | rfl | rfl | rfl
    · exact Or.inl rfl
    · exact Or.inr (Or.inl rfl)
    · exact Or.inr (Or.inr (Or.inl rfl))
    · exact Or.inr (Or.inr (Or.inr (Or.inl rfl)))
    · exact Or.inr (Or.inr (Or.inr (Or.inr (Or.inl rfl))))
    · exact Or.inr (Or.inr (Or.inr (Or.inr (Or.inr (Or.inl rfl)))))
    · exact Or.inr (Or.inr (Or.inr (Or.inr (Or.inr (Or.inr (Or.inl rfl))))))
    · exact Or.inr (Or.inr (Or.inr (Or.inr (Or.inr (Or.inr (Or.inr (Or.inl rfl)))))))
    · exact Or.inr (Or.inr (Or.inr (Or.inr (Or.inr (Or.inr (Or.inr (Or.inr (Or.inl rfl))))))))
    · exact Or.inr (Or.inr (Or.inr (Or.inr (Or.inr (Or.inr (Or.inr (Or.inr (Or.inr (Or.inl rfl)))))))))
  · exact Or.inr (Or.inr (Or.inr (Or.inr (Or.inr (Or.inr (Or.inr (Or.inr (Or.inr (Or.inr (h))))))))))
theorem kn_9 {x : Int32} (h : x.toInt < 0 ∨ 9 < x.toInt) : ¬ x = 0 ∧ ¬ x = 1 ∧ ¬ x = 2 ∧ ¬ x = 3 ∧ ¬ x = 4 ∧ ¬ x = 5 ∧ ¬ x = 6 ∧ ¬ x = 7 ∧ ¬ x = 8 ∧ ¬ x = 9 := by
  refine ⟨?_, ?_, ?_, ?_, ?_, ?_, ?_, ?_, ?_, ?_⟩ <;> (rintro rfl; revert h; decide)
theorem ks_14 (x : Int32) : x = 0 ∨ x = 1 ∨ x = 2 ∨ x = 3 ∨ x = 4 ∨ x = 5 ∨ x = 6 ∨ x = 7 ∨ x = 8 ∨ x = 9 ∨ x = 10 ∨ x = 11 ∨ x = 12 ∨ x = 13 ∨ x = 14 ∨ (x.toInt < 0 ∨ 14 < x.toInt) := by
  rcases ks_gen x 14 (by decide) with ⟨k, hk, rfl⟩ | h
  · rcases (show k = 0 ∨ k = 1 ∨ k = 2 ∨ k = 3 ∨ k = 4 ∨ k = 5 ∨ k = 6 ∨ k = 7 ∨ k = 8 ∨ k = 9 ∨ k = 10 ∨ k = 11 ∨ k = 12 ∨ k = 13 ∨ k = 14 by omega) with rfl | rfl | rfl | rfl | rfl | rfl | rfl | rfl | rfl | rfl | rfl | rfl | rfl | rfl | rfl
    · exact Or.inl rfl
    · exact Or.inr (Or.inl rfl)
    · exact Or.inr (Or.inr (Or.inl rfl))
    · exact Or.inr (Or.inr (Or.inr (Or.inl rfl)))
    · exact Or.inr (Or.inr (Or.inr (Or.inr (Or.inl rfl))))
    · exact Or.inr (Or.inr (Or.inr (Or.inr (Or.inr (Or.inl rfl)))))
    · exact Or.inr (Or.inr (Or.inr (Or.inr (Or.inr (Or.inr (Or.inl rfl))))))
    · exact Or.inr (Or.inr (Or.inr (Or.inr (Or.inr (Or.inr (Or.inr (Or.inl rfl)))))))
    · exact Or.inr (Or.inr (Or.inr (Or.inr (Or.inr (Or.inr (Or.inr (Or.inr (Or.inl rfl))))))))
    · exact Or.inr (Or.inr (Or.inr (Or.inr (Or.inr (Or.inr (Or.inr (Or.inr (Or.inr (Or.inl rfl)))))))))
    · exact Or.inr (Or.inr (Or.inr (Or.inr (Or.inr (Or.inr (Or.inr (Or.inr (Or.inr (Or.inr (Or.inl rfl))))))))))
    · exact Or.inr (Or.inr (Or.inr (Or.inr (Or.inr (Or.inr (Or.inr (Or.inr (Or.inr (Or.inr (Or.inr (Or.inl rfl)))))))))))
    · exact Or.inr (Or.inr (Or.inr (Or.inr (Or.inr (Or.inr (Or.inr (Or.inr (Or.inr (Or.inr (Or.inr (Or.inr (Or.inl rfl))))))))))))
    · exact Or.inr (Or.inr (Or.inr (Or.inr (Or.inr (Or.inr (Or.inr (Or.inr (Or.inr (Or.inr (Or.inr (Or.inr (Or.inr (Or.inl rfl)))))))))))))
    · exact Or.inr (Or.inr (Or.inr (Or.inr (Or.inr (Or.inr (Or.inr (Or.inr (Or.inr (Or.inr (Or.inr (Or.inr (Or.inr (Or.inr (Or.inl rfl))))))))))))))
  · exact Or.inr (Or.inr (Or.inr (Or.inr (Or.inr (Or.inr (Or.inr (Or.inr (Or.inr (Or.inr (Or.inr (Or.inr (Or.inr (Or.inr (Or.inr (h)))))))))))))))
theorem kn_14 {x : Int32} (h : x.toInt < 0 ∨ 14 < x.toInt) : ¬ x = 0 ∧ ¬ x = 1 ∧ ¬ x = 2 ∧ ¬ x = 3 ∧ ¬ x = 4 ∧ ¬ x = 5 ∧ ¬ x = 6 ∧ ¬ x = 7 ∧ ¬ x = 8 ∧ ¬ x = 9 ∧ ¬ x = 10 ∧ ¬ x = 11 ∧ ¬ x = 12 ∧ ¬ x = 13 ∧ ¬ x = 14 := by
  refine ⟨?_, ?_, ?_, ?_, ?_, ?_, ?_, ?_, ?_, ?_, ?_, ?_, ?_, ?_, ?_⟩ <;> (rintro rfl; revert h; decide)
end
section
/-! PURE 2: KitRunner's own methods, over views of its picture (the parts that a method reaches; then 'enabled' and 'runs'). -/
def k_fault (P : kVM) (e s n : Int32) : kVM × Int32 :=
  if k_isEntry e = true then (if s < 0 then (P, -1) else if s < 5 then (if (k_addFault P.1 e s n).2 = true then (((k_addFault P.1 e s n).1, P.2), nI (k_addFault P.1 e s n).1.2.2.2) else (((k_addFault P.1 e s n).1, P.2), -2)) else (P, -1)) else (P, -1)
def k_exclude (P : kVX) (e n : Int32) : kVX × Int32 :=
  if k_isEntry e = true then (if (k_addExc P.1 e n).2 = true then (((k_addExc P.1 e n).1, P.2), nI (k_addExc P.1 e n).1.2.2) else (((k_addExc P.1 e n).1, P.2), -2)) else (P, -1)
def k_clear (P : kVMX) (w : Int32) : kVMX × Int32 :=
  if w < 0 then (P, -1) else if w ≤ 2 then
    (if w = 1 then (if w = 0 then (P, 0) else ((P.1, k_rmExc P.2.1, P.2.2), 0))
     else (if w = 0 then ((k_rmFaults P.1, P.2), 0) else ((k_rmFaults P.1, k_rmExc P.2.1, P.2.2), 0)))
  else (P, -1)
def k_enable (P : kV0) (k : Int32) : kV0 × Int32 := if k < 0 then (P, -1) else if k ≤ 65535 then ((k, P.2), 0) else (P, -1)
def k_outcome (P : kVM) (e a b : Int32) (mc : Bool) : Int64 := if k_isEntry e = true then (if mc = true then k_give P.1 e a b else kOr e a b) else -1000000000000
def k_ledger (P : kVT) (e : Int32) : Int32 := if k_isEntry e = true then P.1.2.2.1 e.toNatClampNeg else -1
/-- run -/
def k_case (P : kVC) (e pa pb : Nat) : kVC :=
  if k_give P.1 (nI e) (kLat pa) (kLat pb) = kOr (nI e) (kLat pa) (kLat pb) then (P.1, k_noteT P.2.1 e (k_give P.1 (nI e) (kLat pa) (kLat pb)), P.2.2)
  else (P.1, k_noteF (k_noteT P.2.1 e (k_give P.1 (nI e) (kLat pa) (kLat pb))) e, k_keep P.2.2.1 (nI e) (nI pa) (nI pb) (kOr (nI e) (kLat pa) (kLat pb)) (k_give P.1 (nI e) (kLat pa) (kLat pb)), P.2.2.2)
def k_step (P : kVE) (e pa pb : Nat) (pr : Bool) : kVE :=
  if k_leave P.2.1 (nI e) (kLat pa) (kLat pb) = true then (P.1, P.2.1, P.2.2.1, k_noteLO P.2.2.2.1, P.2.2.2.2)
  else if (k_note P.2.2.1 e pa pb).2 = true then ((k_case (P.1, P.2.2.2) e pa pb).1, P.2.1, (k_note P.2.2.1 e pa pb).1, (k_case (P.1, P.2.2.2) e pa pb).2)
  else if pr = true then (P.1, P.2.1, (k_note P.2.2.1 e pa pb).1, P.2.2.2)
  else ((k_case (P.1, P.2.2.2) e pa pb).1, P.2.1, (k_note P.2.2.1 e pa pb).1, (k_case (P.1, P.2.2.2) e pa pb).2)
def k_inL (e pa : Nat) (pr : Bool) : Nat → Nat → kVE → kVE
  | 0, _, P => P
  | n + 1, j, P => k_inL e pa pr n (j + 1) (k_step P e pa j pr)
def k_outL (e sz : Nat) (pr : Bool) : Nat → Nat → kVE → kVE
  | 0, _, P => P
  | n + 1, i, P => k_outL e sz pr n (i + 1) (k_inL e i pr sz 0 P)
def k_runE (P : kVE) (e sz : Nat) (pr : Bool) : kVE := k_outL e sz pr sz 0 P
def k_okE (P : kVE) : Prop := P.1.2.2.2 ≤ 4 ∧ P.2.1.2.2 ≤ 6 ∧ P.2.2.2.2.1.2.2.2.2.2 ≤ 12
theorem k_keep_ok {P : kFL} {e pa pb : Int32} {fo gi : Int64} (h : P.2.2.2.2.2 ≤ 12) : (k_keep P e pa pb fo gi).2.2.2.2.2 ≤ 12 := by
  unfold k_keep
  split
  · dsimp only; omega
  · exact h
theorem k_case_ok {P : kVC} {e pa pb : Nat} (h : P.2.2.1.2.2.2.2.2 ≤ 12) : (k_case P e pa pb).1 = P.1 ∧ (k_case P e pa pb).2.2.1.2.2.2.2.2 ≤ 12 := by
  unfold k_case
  split
  · exact ⟨rfl, h⟩
  · exact ⟨rfl, k_keep_ok h⟩
theorem k_step_ok {P : kVE} {e pa pb : Nat} {pr : Bool} (h : k_okE P) : k_okE (k_step P e pa pb pr) := by
  obtain ⟨h1, h2, h3⟩ := h
  have hc := k_case_ok (P := (P.1, P.2.2.2)) (e := e) (pa := pa) (pb := pb) h3
  unfold k_step
  split
  · exact ⟨h1, h2, h3⟩
  · split
    · exact ⟨by dsimp only; rw [hc.1]; exact h1, h2, hc.2⟩
    · split
      · exact ⟨h1, h2, h3⟩
      · exact ⟨by dsimp only; rw [hc.1]; exact h1, h2, hc.2⟩
theorem k_inL_ok {e pa : Nat} {pr : Bool} : ∀ (n j : Nat) {P : kVE}, k_okE P → k_okE (k_inL e pa pr n j P)
  | 0, _, _, h => h
  | n + 1, j, _, h => k_inL_ok n (j + 1) (k_step_ok h)
theorem k_outL_ok {e sz : Nat} {pr : Bool} : ∀ (n j : Nat) {P : kVE}, k_okE P → k_okE (k_outL e sz pr n j P)
  | 0, _, _, h => h
  | n + 1, j, _, h => k_outL_ok n (j + 1) (k_inL_ok sz 0 h)
/-- shrinking -/
def k_mvA (P : kShr) (M : kMach) (e : Int32) : Nat → Nat → kShr × Bool
  | 0, _ => (P, false)
  | n + 1, i => if k_fails M e i P.2.1 = true then ((i, P.2), true) else k_mvA P M e n (i + 1)
def k_moveA (P : kShr) (M : kMach) (e : Int32) : kShr × Bool := k_mvA P M e P.1 0
def k_mvB (P : kShr) (M : kMach) (e : Int32) : Nat → Nat → kShr × Bool
  | 0, _ => (P, false)
  | n + 1, i => if k_fails M e P.1 i = true then ((P.1, i, P.2.2), true) else k_mvB P M e n (i + 1)
def k_moveB (P : kShr) (M : kMach) (e : Int32) : kShr × Bool := k_mvB P M e P.2.1 0
/-- texts: 0 .. 15 the names, 16 kit, 17 FAIL, 18 PASS -/
def k_nm (e : Int32) : Nat := if e = 0 then 0 else if e = 1 then 1 else if e = 2 then 2 else if e = 3 then 3 else if e = 4 then 4 else if e = 5 then 5 else if e = 6 then 6 else if e = 7 then 7 else if e = 8 then 8 else if e = 9 then 9 else if e = 10 then 10 else if e = 11 then 11 else if e = 12 then 12 else if e = 13 then 13 else if e = 14 then 14 else 15
theorem kTx_len (j : Nat) : (kTx j).length ≤ 5 := by
  by_cases hj : j < 19
  · have h2 : ∀ j, j < 19 → (kTx j).length ≤ 5 := by decide +kernel
    exact h2 j hj
  · have e : kTx j = [] := by
      unfold kTx
      rw [List.getD_eq_getElem?_getD, List.getElem?_eq_none (by simpa using Nat.not_lt.mp hj)]; rfl
    rw [e]; decide
theorem kChr_out {j i : Nat} (h : 5 ≤ i) : kChr j i = 0 := by
  unfold kChr
  rw [List.getD_eq_getElem?_getD, List.getElem?_eq_none (Nat.le_trans (kTx_len j) h)]; rfl
theorem kChr_far {j i : Nat} (h : 19 ≤ j) : kChr j i = 0 := by
  have e : kTx j = [] := by
    unfold kTx
    rw [List.getD_eq_getElem?_getD, List.getElem?_eq_none (by simpa using h)]; rfl
  unfold kChr
  rw [e]; rfl
theorem kChr_all (Pr : Int32 → Prop) (h0 : Pr 0) (h : ∀ j, j < 19 → ∀ i, i < 5 → Pr (kChr j i)) (j i : Nat) : Pr (kChr j i) := by
  by_cases hj : j < 19
  · by_cases hi : i < 5
    · exact h j hj i hi
    · rw [kChr_out (Nat.not_lt.mp hi)]; exact h0
  · rw [kChr_far (Nat.not_lt.mp hj)]; exact h0
theorem kChr_nar (j i : Nat) : vp_nar .char (kChr j i) = kChr j i := kChr_all (fun x => vp_nar .char x = x) (by decide +kernel) (by decide +kernel) j i
theorem kChr_nar2 (j i : Nat) : narrow .char (.int (kChr j i)) = .int (kChr j i) := kChr_all (fun x => narrow .char (.int x) = .int x) (by decide +kernel) (by decide +kernel) j i
theorem kChr_c (j i : Nat) : ((kChr j i &&& 255).toUInt32 % 65536).toInt32 = kChr j i := kChr_all (fun x => ((x &&& 255).toUInt32 % 65536).toInt32 = x) (by decide +kernel) (by decide +kernel) j i
def k_pkL (j : Nat) : Nat → Nat → Int64 → Int64
  | 0, _, a => a
  | n + 1, i, a => k_pkL j n (i + 1) (a <<< ((8 : Int32).toInt64 &&& 63) ||| (kChr j i).toInt64)
def k_pk (j : Nat) : Int64 := k_pkL j (kTx j).length 0 0
def k_sh (n : Nat) : Int32 := nI (8 * n) + (-8)
theorem k_sh_s (n : Nat) : k_sh (n + 1) + (-8) = k_sh n := by
  unfold k_sh
  rw [Nat.mul_add, ← nI_add, Int32.add_assoc (nI (8 * n)) (nI (8 * 1)) (-8), show nI (8 * 1) + -8 = 0 from by decide, Int32.add_zero]
def k_wzL (x : Int64) : Nat → Int64 → Int64
  | 0, a => a
  | n + 1, a => if (x.toUInt64 >>> ((k_sh (n + 1)).toInt64.toUInt64 &&& Int64.toUInt64 63)).toInt64 &&& 255 = 0 then k_wzL x n a else k_wzL x n (a <<< ((8 : Int32).toInt64 &&& 63) ||| ((x.toUInt64 >>> ((k_sh (n + 1)).toInt64.toUInt64 &&& Int64.toUInt64 63)).toInt64 &&& 255))
def k_wz (x : Int64) : Int64 := k_wzL x 8 0
def k_findL (x : Int64) : Nat → Nat → Int32
  | 0, _ => -1
  | n + 1, i => if k_pk (k_nm (nI i)) = x then nI i else k_findL x n (i + 1)
def k_find (x : Int64) : Int32 := k_findL (k_wz x) 16 0
theorem k_put_ok {P : kRep} {c : Int32} (h : P.2 ≤ 256) : (k_put P c).2 ≤ 256 := by
  unfold k_put
  split
  · exact h
  · dsimp only; omega
def k_ptL (j : Nat) : Nat → Nat → kRep → kRep
  | 0, _, P => P
  | n + 1, i, P => k_ptL j n (i + 1) (k_put P (kChr j i))
def k_pt (P : kRep) (j : Nat) : kRep := k_ptL j (kTx j).length 0 P
theorem k_isEntry_nat {x : Int32} (h : k_isEntry x = true) : ∃ k : Nat, k < 16 ∧ x = nI k := by
  unfold k_isEntry at h
  split at h
  · cases h
  · rename_i h0
    split at h
    · cases h
    · rename_i h1
      obtain ⟨j, hj, rfl⟩ := nI_of h0
      refine ⟨j, ?_, rfl⟩
      rcases Nat.lt_or_ge j 16 with q | q
      · exact q
      · exact absurd (nI_le (a := 16) (b := j) q hj) h1
theorem kin_nI {x : Int32} {n : Nat} (h : vp_in x n) (hn : n < 2 ^ 31) : x = nI x.toNatClampNeg ∧ x.toNatClampNeg < n := by
  obtain ⟨j, hj, rfl⟩ := vp_in_of h hn
  rw [nI_clamp (by omega)]
  exact ⟨rfl, hj⟩
def k_okF (P : kFL) : Prop := ∀ j : Nat, j < P.2.2.2.2.2 → vp_in (P.2.1 j) 12 ∧ vp_in (P.2.2.1 j) 12
def k_failure (P : kVF) (i w : Int32) : Int64 :=
  if i < 0 then -1000000000000 else if i < nI P.1.2.2.2.2.2 then
    (if w = 0 then (P.1.1 i.toNatClampNeg).toInt64 else if w = 1 then (kLat (P.1.2.1 i.toNatClampNeg).toNatClampNeg).toInt64 else if w = 2 then (kLat (P.1.2.2.1 i.toNatClampNeg).toNatClampNeg).toInt64
     else if w = 3 then P.1.2.2.2.1 i.toNatClampNeg else if w = 4 then P.1.2.2.2.2.1 i.toNatClampNeg else -1000000000000)
  else -1000000000000
/-- the view of count: Mach, Exc, PB, Tal, Rep, enabled, runs -/
def k_count (P : kVCt) (w : Int32) : Int32 :=
  if w = 0 then k_sum P.2.2.2.1.1 else if w = 1 then k_sum P.2.2.2.1.2.1 else if w = 2 then nI P.2.2.2.1.2.2.2 else if w = 3 then nI P.2.2.1.2.2.2 else if w = 4 then k_mall P.2.2.2.1.2.2.1
  else if w = 5 then nI P.2.2.2.2.1.2 else if w = 6 then (if k_sum P.2.2.2.1.2.1 ≤ 0 then 0 else 1) else if w = 7 then nI P.2.2.2.2.2.2 else if w = 8 then nI P.1.2.2.2 else if w = 9 then nI P.2.1.2.2 else -1
def k_dg (n u : Int32) : Int32 := ((48 + ((n / u) - (n / u) / 10 * 10)).toUInt32 % 65536).toInt32
def k_p100 (P : kRep) (n : Int32) : kRep := if 100 ≤ n then k_put P (k_dg n 100) else P
def k_p10 (P : kRep) (n : Int32) : kRep := if 10 ≤ n then k_put P (k_dg n 10) else P
def k_pn (P : kRep) (n : Int32) : kRep := k_put (k_p10 (k_p100 P n) n) (k_dg n 1)
theorem k_pn_ok {P : kRep} {n : Int32} (h : P.2 ≤ 256) : (k_pn P n).2 ≤ 256 := by
  unfold k_pn k_p10 k_p100
  apply k_put_ok
  split
  · apply k_put_ok
    split
    · exact k_put_ok h
    · exact h
  · split
    · exact k_put_ok h
    · exact h
theorem k_ptL_ok {j : Nat} : ∀ (n i : Nat) {P : kRep}, P.2 ≤ 256 → (k_ptL j n i P).2 ≤ 256
  | 0, _, _, h => h
  | n + 1, i, _, h => k_ptL_ok n (i + 1) (k_put_ok h)
theorem k_pt_ok {P : kRep} {j : Nat} (h : P.2 ≤ 256) : (k_pt P j).2 ≤ 256 := k_ptL_ok _ _ h
def k_line (T : kTal) (i : Nat) (R : kRep) : kRep := k_put (k_pn (k_put (k_pn (k_put (k_pt R (k_nm (nI i))) 32) (T.1 i)) 32) (T.2.1 i)) 10
theorem k_line_ok {T : kTal} {i : Nat} {R : kRep} (h : R.2 ≤ 256) : (k_line T i R).2 ≤ 256 := k_put_ok (k_pn_ok (k_put_ok (k_pn_ok (k_put_ok (k_pt_ok h)))))
def k_wrL (T : kTal) : Nat → Nat → kRep → kRep
  | 0, _, R => R
  | n + 1, i, R => if T.1 i ≤ 0 then k_wrL T n (i + 1) R else k_wrL T n (i + 1) (k_line T i R)
def k_wrE (T : kTal) (R : kRep) : kRep := if k_sum T.2.1 ≤ 0 then k_put (k_pt R 18) 10 else k_put (k_pt R 17) 10
def k_wr (P : kVW) : kVW := (P.1, k_wrE P.1 (k_wrL P.1 16 0 P.2.1), P.2.2)
theorem k_wrL_ok {T : kTal} : ∀ (n i : Nat) {R : kRep}, R.2 ≤ 256 → (k_wrL T n i R).2 ≤ 256
  | 0, _, _, h => h
  | n + 1, i, R, h => by
    unfold k_wrL
    split
    · exact k_wrL_ok n (i + 1) h
    · exact k_wrL_ok n (i + 1) (k_line_ok h)
theorem k_ite {c : Prop} [Decidable c] {a b n : Nat} (ha : a < n) (hb : b < n) : (if c then a else b) < n := by
  split
  · exact ha
  · exact hb
theorem k_nm_lt (e : Int32) : k_nm e < nTx := by
  unfold k_nm
  exact k_ite (by decide) (k_ite (by decide) (k_ite (by decide) (k_ite (by decide) (k_ite (by decide) (k_ite (by decide) (k_ite (by decide) (k_ite (by decide) (k_ite (by decide) (k_ite (by decide) (k_ite (by decide) (k_ite (by decide) (k_ite (by decide) (k_ite (by decide) (k_ite (by decide) (by decide)))))))))))))))
/-- run, whole -/
def k_fg (P : kVG) : kVG := (k_fgPB P.1, k_fgTal P.2.1, k_fgFL P.2.2.1, k_fgRep P.2.2.2.1, P.2.2.2.2)
def k_fgR (P : kVRun) : kVRun := (P.1, P.2.1, k_fg P.2.2)
def k_okR (X : kVRun) : Prop := k_okE (X.1, X.2.1, X.2.2.1, X.2.2.2.1, X.2.2.2.2.1, X.2.2.2.2.2.2) ∧ X.2.2.2.2.2.1.2 ≤ 256
theorem k_fgR_ok {P : kVRun} (h : k_okR P) : k_okR (k_fgR P) := ⟨⟨h.1.1, h.1.2.1, Nat.zero_le _⟩, Nat.zero_le _⟩
def k_rE (X : kVRun) (i sz : Nat) (pr : Bool) : kVE := k_runE (X.1, X.2.1, X.2.2.1, X.2.2.2.1, X.2.2.2.2.1, X.2.2.2.2.2.2) i sz pr
def k_rstep (X : kVRun) (i sz : Nat) (pr : Bool) : kVRun :=
  if X.2.2.2.2.2.2.1 >>> (nI i &&& 31) &&& 1 = 1 then ((k_rE X i sz pr).1, (k_rE X i sz pr).2.1, (k_rE X i sz pr).2.2.1, (k_rE X i sz pr).2.2.2.1, (k_rE X i sz pr).2.2.2.2.1, X.2.2.2.2.2.1, (k_rE X i sz pr).2.2.2.2.2) else X
theorem k_rstep_ok {X : kVRun} {i sz : Nat} {pr : Bool} (h : k_okR X) : k_okR (k_rstep X i sz pr) := by
  unfold k_rstep
  split
  · exact ⟨k_outL_ok (e := i) (sz := sz) (pr := pr) sz 0 h.1, h.2⟩
  · exact h
def k_runL (sz : Nat) (pr : Bool) : Nat → Nat → kVRun → kVRun
  | 0, _, X => X
  | n + 1, i, X => k_runL sz pr n (i + 1) (k_rstep X i sz pr)
def k_runZ (X : kVRun) : kVRun × Int32 :=
  ((X.1, X.2.1, X.2.2.1, (k_wr (X.2.2.2.1, X.2.2.2.2.2)).1, X.2.2.2.2.1, (k_wr (X.2.2.2.1, X.2.2.2.2.2)).2.1, (k_wr (X.2.2.2.1, X.2.2.2.2.2)).2.2.1, (k_wr (X.2.2.2.1, X.2.2.2.2.2)).2.2.2 + 1), k_sum (k_wr (X.2.2.2.1, X.2.2.2.2.2)).1.2.1)
def k_run (P : kVRun) (b : Int32) (pr : Bool) : kVRun × Int32 := if b < 1 then (P, -1) else if b ≤ 3 then k_runZ (k_runL (k_lsz b) pr 16 0 (k_fgR P)) else (P, -1)
theorem k_lsz_le (b : Int32) : k_lsz b ≤ 12 := by
  unfold k_lsz
  split
  · decide
  · split <;> decide
/-- shrinking, whole -/
theorem k_mvA_ok {P : kShr} {M : kMach} {e : Int32} : ∀ (n i : Nat), i + n = P.1 → P.1 < 12 → P.2.1 < 12 → (k_mvA P M e n i).1.1 < 12 ∧ (k_mvA P M e n i).1.2.1 < 12 ∧ (k_mvA P M e n i).1.2.2 = P.2.2
  | 0, _, _, h1, h2 => ⟨h1, h2, rfl⟩
  | n + 1, i, hi, h1, h2 => by
    unfold k_mvA
    split
    · exact ⟨by dsimp only; omega, h2, rfl⟩
    · exact k_mvA_ok n (i + 1) (by omega) h1 h2
theorem k_moveA_ok {P : kShr} {M : kMach} {e : Int32} (h1 : P.1 < 12) (h2 : P.2.1 < 12) : (k_moveA P M e).1.1 < 12 ∧ (k_moveA P M e).1.2.1 < 12 ∧ (k_moveA P M e).1.2.2 = P.2.2 := k_mvA_ok P.1 0 (by omega) h1 h2
theorem k_mvB_ok {P : kShr} {M : kMach} {e : Int32} : ∀ (n i : Nat), i + n = P.2.1 → P.1 < 12 → P.2.1 < 12 → (k_mvB P M e n i).1.1 < 12 ∧ (k_mvB P M e n i).1.2.1 < 12 ∧ (k_mvB P M e n i).1.2.2 = P.2.2
  | 0, _, _, h1, h2 => ⟨h1, h2, rfl⟩
  | n + 1, i, hi, h1, h2 => by
    unfold k_mvB
    split
    · exact ⟨h1, by dsimp only; omega, rfl⟩
    · exact k_mvB_ok n (i + 1) (by omega) h1 h2
theorem k_moveB_ok {P : kShr} {M : kMach} {e : Int32} (h1 : P.1 < 12) (h2 : P.2.1 < 12) : (k_moveB P M e).1.1 < 12 ∧ (k_moveB P M e).1.2.1 < 12 ∧ (k_moveB P M e).1.2.2 = P.2.2 := k_mvB_ok P.2.1 0 (by omega) h1 h2
def k_bump (P : kShr) : kShr := (P.1, P.2.1, P.2.2 + 1)
def k_redL (M : kMach) (e : Int32) : Nat → kShr → kShr
  | 0, P => P
  | n + 1, P => if (k_moveA P M e).2 = true then k_redL M e n (k_bump (k_moveA P M e).1) else if (k_moveB (k_moveA P M e).1 M e).2 = true then k_redL M e n (k_bump (k_moveB (k_moveA P M e).1 M e).1) else (k_moveB (k_moveA P M e).1 M e).1
def k_red (M : kMach) (e : Int32) (pa pb : Nat) : kShr := if k_fails M e pa pb = true then k_redL M e 24 (pa, pb, 0) else (pa, pb, 0)
theorem k_redL_ok {M : kMach} {e : Int32} : ∀ (n : Nat) {P : kShr}, P.1 < 12 → P.2.1 < 12 → (k_redL M e n P).1 < 12 ∧ (k_redL M e n P).2.1 < 12
  | 0, _, h1, h2 => ⟨h1, h2⟩
  | n + 1, P, h1, h2 => by
    have ha := k_moveA_ok (M := M) (e := e) h1 h2
    have hb := k_moveB_ok (M := M) (e := e) ha.1 ha.2.1
    unfold k_redL
    split
    · exact k_redL_ok n ha.1 ha.2.1
    · split
      · exact k_redL_ok n hb.1 hb.2.1
      · exact ⟨hb.1, hb.2.1⟩
theorem k_red_ok {M : kMach} {e : Int32} {pa pb : Nat} (h1 : pa < 12) (h2 : pb < 12) : (k_red M e pa pb).1 < 12 ∧ (k_red M e pa pb).2.1 < 12 := by
  unfold k_red
  split
  · exact k_redL_ok (P := (pa, pb, 0)) 24 h1 h2
  · exact ⟨h1, h2⟩
def k_shR (P : kVS) (i : Int32) : kShr := k_red P.1 (P.2.1.1 i.toNatClampNeg) (P.2.1.2.1 i.toNatClampNeg).toNatClampNeg (P.2.1.2.2.1 i.toNatClampNeg).toNatClampNeg
def k_shrink (P : kVS) (i w : Int32) : kVS × Int64 :=
  if i < 0 then (P, -1000000000000) else if i < nI P.2.1.2.2.2.2.2 then
    (if w = 0 then ((P.1, P.2.1, k_shR P i, P.2.2.2), (kLat (k_shR P i).1).toInt64) else if w = 1 then ((P.1, P.2.1, k_shR P i, P.2.2.2), (kLat (k_shR P i).2.1).toInt64) else if w = 2 then ((P.1, P.2.1, k_shR P i, P.2.2.2), (nI (k_shR P i).2.2).toInt64)
     else ((P.1, P.2.1, k_shR P i, P.2.2.2), -1000000000000))
  else (P, -1000000000000)
theorem k_sh_0 : k_sh 0 < 0 := by decide
theorem k_sh_p (n : Nat) (h : n < 8) : ¬ k_sh (n + 1) < 0 := by
  have : ∀ n, n < 8 → ¬ k_sh (n + 1) < 0 := by decide
  exact this n h
end
section
set_option maxHeartbeats 4000000 in
set_option maxRecDepth 100000 in
theorem c_Integer_compare (l : Launch) (dC : Nat → ClassId) (dI : Nat → Nat → Nat) (cI cJ cC : ClassId) (σ : kSg) (a0 : Int32) (b0 : Int32) : kC l y_Integer_compare ws_Integer_compare (kRm 0 0 0 0) (dC, dI) (kTy cI cJ cC) σ ([]) [.int a0, .int b0] (kQi (dC, dI) (kTy cI cJ cC) (k_cmp a0 b0) (fun _ : Unit => [])) 0 0 := by
  refine kr_met (cc := prog_13_method_40_code) (maxL := 2) (ret := (some .int)) (by decide) rfl (Nat.le_of_ble_eq_true rfl) ?_
  intro p e s m args below meth c A Q hQ hx hb hr hml hts hown hlocks hnm hA hP hK hD hSt ls hl
  have hS : va_S A s.heap s.heap [] := va_S.rf
  have hown : s.vm.findClass "java/lang/Integer" = some m.cls := hown
  have hl : lv_has ls 2 [(0, .int a0), (1, .int b0)] := hl
  have hP : va_P (dC, dI) vwCl [] s.heap := hP
  have hD : va_D A [] := hD
  refine lv_iload_n hx hb d_Integer_compare_0 rfl (lv_at hl 0 rfl) ?_
  refine lv_iload_n hx hb d_Integer_compare_1 rfl (lv_at hl 1 rfl) ?_
  refine lv_icmp_ge (tgt := 9) hx hb d_Integer_compare_2 (by decide) (fun c_1 => ?_) (fun c_1 => ?_)
  · skip
    refine lv_iload_n hx hb d_Integer_compare_9 rfl (lv_at hl 0 rfl) ?_
    refine lv_iload_n hx hb d_Integer_compare_10 rfl (lv_at hl 1 rfl) ?_
    refine lv_icmp_ne (tgt := 18) hx hb d_Integer_compare_11 (by decide) (fun c_2 => ?_) (fun c_2 => ?_)
    · skip
      refine lv_iconst (v := 1) hx hb d_Integer_compare_18 (by decide) ?_
      have hpost : k_cmp a0 b0 = 1 := by simp only [k_cmp, c_1, c_2, ↓reduceIte, Bool.false_eq_true, reduceCtorEq]
      have hP9 := hP.sub (ws' := []) [] rfl
      have hD9 := hD.sub (ws' := []) [] (by decide) rfl
      exact kr_iret (v := 1) hQ hx hb hr hlocks hK hP9 hD9 hS (by rw [hpost] <;> rfl) () rfl d_Integer_compare_19
    · skip
      refine lv_iconst (v := 0) hx hb d_Integer_compare_14 (by decide) ?_
      refine lv_goto (tgt := 19) hx hb d_Integer_compare_15 (by decide) ?_
      have hpost : k_cmp a0 b0 = 0 := by simp only [k_cmp, c_1, c_2, ↓reduceIte, Bool.false_eq_true, reduceCtorEq]
      have hP9 := hP.sub (ws' := []) [] rfl
      have hD9 := hD.sub (ws' := []) [] (by decide) rfl
      exact kr_iret (v := 0) hQ hx hb hr hlocks hK hP9 hD9 hS (by rw [hpost] <;> rfl) () rfl d_Integer_compare_19
  · skip
    refine lv_iconst (v := (-1)) hx hb d_Integer_compare_5 (by decide) ?_
    refine lv_goto (tgt := 19) hx hb d_Integer_compare_6 (by decide) ?_
    have hpost : k_cmp a0 b0 = -1 := by simp only [k_cmp, c_1, ↓reduceIte, Bool.false_eq_true, reduceCtorEq]
    have hP9 := hP.sub (ws' := []) [] rfl
    have hD9 := hD.sub (ws' := []) [] (by decide) rfl
    exact kr_iret (v := (-1)) hQ hx hb hr hlocks hK hP9 hD9 hS (by rw [hpost] <;> rfl) () rfl d_Integer_compare_19
set_option maxHeartbeats 4000000 in
set_option maxRecDepth 100000 in
theorem c_Integer_bitCount (l : Launch) (dC : Nat → ClassId) (dI : Nat → Nat → Nat) (cI cJ cC : ClassId) (σ : kSg) (i0 : Int32) : kC l y_Integer_bitCount ws_Integer_bitCount (kRm 0 0 0 0) (dC, dI) (kTy cI cJ cC) σ ([]) [.int i0] (kQi (dC, dI) (kTy cI cJ cC) (k_bitc i0) (fun _ : Unit => [])) 0 0 := by
  refine kr_met (cc := prog_13_method_49_code) (maxL := 1) (ret := (some .int)) (by decide) rfl (Nat.le_of_ble_eq_true rfl) ?_
  intro p e s m args below meth c A Q hQ hx hb hr hml hts hown hlocks hnm hA hP hK hD hSt ls hl
  have hS : va_S A s.heap s.heap [] := va_S.rf
  have hown : s.vm.findClass "java/lang/Integer" = some m.cls := hown
  have hl : lv_has ls 1 [(0, .int i0)] := hl
  have hP : va_P (dC, dI) vwCl [] s.heap := hP
  have hD : va_D A [] := hD
  have hk_265 := hts _ (List.mem_cons_of_mem _ wq_562)
  have hk_266 := hts _ (List.mem_cons_of_mem _ wq_563)
  have hk_267 := hts _ (List.mem_cons_of_mem _ wq_564)
  refine lv_iload_n hx hb d_Integer_bitCount_0 rfl (lv_at hl 0 rfl) ?_
  refine lv_iload_n hx hb d_Integer_bitCount_1 rfl (lv_at hl 0 rfl) ?_
  refine lv_iconst (v := 1) hx hb d_Integer_bitCount_2 (by decide) ?_
  refine lv_iushr hx hb d_Integer_bitCount_3 rfl ?_
  refine lv_ldcw (v := 1431655765) hx hb hown hk_265 d_Integer_bitCount_4 ?_
  refine lv_iand hx hb d_Integer_bitCount_7 ?_
  refine lv_isub hx hb d_Integer_bitCount_8 ?_
  refine lv_istore_n (lv' := [(0, .int (i0 - ((i0.toUInt32 >>> (1.toUInt32 &&& Int32.toUInt32 31)).toInt32 &&& 1431655765)))]) hx hb d_Integer_bitCount_9 rfl hl (by decide) rfl (fun ls hl => ?_)
  refine lv_iload_n hx hb d_Integer_bitCount_10 rfl (lv_at hl 0 rfl) ?_
  refine lv_ldcw (v := 858993459) hx hb hown hk_266 d_Integer_bitCount_11 ?_
  refine lv_iand hx hb d_Integer_bitCount_14 ?_
  refine lv_iload_n hx hb d_Integer_bitCount_15 rfl (lv_at hl 0 rfl) ?_
  refine lv_iconst (v := 2) hx hb d_Integer_bitCount_16 (by decide) ?_
  refine lv_iushr hx hb d_Integer_bitCount_17 rfl ?_
  refine lv_ldcw (v := 858993459) hx hb hown hk_266 d_Integer_bitCount_18 ?_
  refine lv_iand hx hb d_Integer_bitCount_21 ?_
  refine lv_iadd hx hb d_Integer_bitCount_22 ?_
  refine lv_istore_n (lv' := [(0, .int (((i0 - ((i0.toUInt32 >>> (1.toUInt32 &&& Int32.toUInt32 31)).toInt32 &&& 1431655765)) &&& 858993459) + (((i0 - ((i0.toUInt32 >>> (1.toUInt32 &&& Int32.toUInt32 31)).toInt32 &&& 1431655765)).toUInt32 >>> (2.toUInt32 &&& Int32.toUInt32 31)).toInt32 &&& 858993459)))]) hx hb d_Integer_bitCount_23 rfl hl (by decide) rfl (fun ls hl => ?_)
  refine lv_iload_n hx hb d_Integer_bitCount_24 rfl (lv_at hl 0 rfl) ?_
  refine lv_iload_n hx hb d_Integer_bitCount_25 rfl (lv_at hl 0 rfl) ?_
  refine lv_iconst (v := 4) hx hb d_Integer_bitCount_26 (by decide) ?_
  refine lv_iushr hx hb d_Integer_bitCount_27 rfl ?_
  refine lv_iadd hx hb d_Integer_bitCount_28 ?_
  refine lv_ldcw (v := 252645135) hx hb hown hk_267 d_Integer_bitCount_29 ?_
  refine lv_iand hx hb d_Integer_bitCount_32 ?_
  refine lv_istore_n (lv' := [(0, .int (((((i0 - ((i0.toUInt32 >>> (1.toUInt32 &&& Int32.toUInt32 31)).toInt32 &&& 1431655765)) &&& 858993459) + (((i0 - ((i0.toUInt32 >>> (1.toUInt32 &&& Int32.toUInt32 31)).toInt32 &&& 1431655765)).toUInt32 >>> (2.toUInt32 &&& Int32.toUInt32 31)).toInt32 &&& 858993459)) + ((((i0 - ((i0.toUInt32 >>> (1.toUInt32 &&& Int32.toUInt32 31)).toInt32 &&& 1431655765)) &&& 858993459) + (((i0 - ((i0.toUInt32 >>> (1.toUInt32 &&& Int32.toUInt32 31)).toInt32 &&& 1431655765)).toUInt32 >>> (2.toUInt32 &&& Int32.toUInt32 31)).toInt32 &&& 858993459)).toUInt32 >>> (4.toUInt32 &&& Int32.toUInt32 31)).toInt32) &&& 252645135))]) hx hb d_Integer_bitCount_33 rfl hl (by decide) rfl (fun ls hl => ?_)
  refine lv_iload_n hx hb d_Integer_bitCount_34 rfl (lv_at hl 0 rfl) ?_
  refine lv_iload_n hx hb d_Integer_bitCount_35 rfl (lv_at hl 0 rfl) ?_
  refine lv_bipush (v := 8) hx hb d_Integer_bitCount_36 (by decide) ?_
  refine lv_iushr hx hb d_Integer_bitCount_38 rfl ?_
  refine lv_iadd hx hb d_Integer_bitCount_39 ?_
  refine lv_istore_n (lv' := [(0, .int ((((((i0 - ((i0.toUInt32 >>> (1.toUInt32 &&& Int32.toUInt32 31)).toInt32 &&& 1431655765)) &&& 858993459) + (((i0 - ((i0.toUInt32 >>> (1.toUInt32 &&& Int32.toUInt32 31)).toInt32 &&& 1431655765)).toUInt32 >>> (2.toUInt32 &&& Int32.toUInt32 31)).toInt32 &&& 858993459)) + ((((i0 - ((i0.toUInt32 >>> (1.toUInt32 &&& Int32.toUInt32 31)).toInt32 &&& 1431655765)) &&& 858993459) + (((i0 - ((i0.toUInt32 >>> (1.toUInt32 &&& Int32.toUInt32 31)).toInt32 &&& 1431655765)).toUInt32 >>> (2.toUInt32 &&& Int32.toUInt32 31)).toInt32 &&& 858993459)).toUInt32 >>> (4.toUInt32 &&& Int32.toUInt32 31)).toInt32) &&& 252645135) + ((((((i0 - ((i0.toUInt32 >>> (1.toUInt32 &&& Int32.toUInt32 31)).toInt32 &&& 1431655765)) &&& 858993459) + (((i0 - ((i0.toUInt32 >>> (1.toUInt32 &&& Int32.toUInt32 31)).toInt32 &&& 1431655765)).toUInt32 >>> (2.toUInt32 &&& Int32.toUInt32 31)).toInt32 &&& 858993459)) + ((((i0 - ((i0.toUInt32 >>> (1.toUInt32 &&& Int32.toUInt32 31)).toInt32 &&& 1431655765)) &&& 858993459) + (((i0 - ((i0.toUInt32 >>> (1.toUInt32 &&& Int32.toUInt32 31)).toInt32 &&& 1431655765)).toUInt32 >>> (2.toUInt32 &&& Int32.toUInt32 31)).toInt32 &&& 858993459)).toUInt32 >>> (4.toUInt32 &&& Int32.toUInt32 31)).toInt32) &&& 252645135).toUInt32 >>> (8.toUInt32 &&& Int32.toUInt32 31)).toInt32))]) hx hb d_Integer_bitCount_40 rfl hl (by decide) rfl (fun ls hl => ?_)
  refine lv_iload_n hx hb d_Integer_bitCount_41 rfl (lv_at hl 0 rfl) ?_
  refine lv_iload_n hx hb d_Integer_bitCount_42 rfl (lv_at hl 0 rfl) ?_
  refine lv_bipush (v := 16) hx hb d_Integer_bitCount_43 (by decide) ?_
  refine lv_iushr hx hb d_Integer_bitCount_45 rfl ?_
  refine lv_iadd hx hb d_Integer_bitCount_46 ?_
  refine lv_istore_n (lv' := [(0, .int (((((((i0 - ((i0.toUInt32 >>> (1.toUInt32 &&& Int32.toUInt32 31)).toInt32 &&& 1431655765)) &&& 858993459) + (((i0 - ((i0.toUInt32 >>> (1.toUInt32 &&& Int32.toUInt32 31)).toInt32 &&& 1431655765)).toUInt32 >>> (2.toUInt32 &&& Int32.toUInt32 31)).toInt32 &&& 858993459)) + ((((i0 - ((i0.toUInt32 >>> (1.toUInt32 &&& Int32.toUInt32 31)).toInt32 &&& 1431655765)) &&& 858993459) + (((i0 - ((i0.toUInt32 >>> (1.toUInt32 &&& Int32.toUInt32 31)).toInt32 &&& 1431655765)).toUInt32 >>> (2.toUInt32 &&& Int32.toUInt32 31)).toInt32 &&& 858993459)).toUInt32 >>> (4.toUInt32 &&& Int32.toUInt32 31)).toInt32) &&& 252645135) + ((((((i0 - ((i0.toUInt32 >>> (1.toUInt32 &&& Int32.toUInt32 31)).toInt32 &&& 1431655765)) &&& 858993459) + (((i0 - ((i0.toUInt32 >>> (1.toUInt32 &&& Int32.toUInt32 31)).toInt32 &&& 1431655765)).toUInt32 >>> (2.toUInt32 &&& Int32.toUInt32 31)).toInt32 &&& 858993459)) + ((((i0 - ((i0.toUInt32 >>> (1.toUInt32 &&& Int32.toUInt32 31)).toInt32 &&& 1431655765)) &&& 858993459) + (((i0 - ((i0.toUInt32 >>> (1.toUInt32 &&& Int32.toUInt32 31)).toInt32 &&& 1431655765)).toUInt32 >>> (2.toUInt32 &&& Int32.toUInt32 31)).toInt32 &&& 858993459)).toUInt32 >>> (4.toUInt32 &&& Int32.toUInt32 31)).toInt32) &&& 252645135).toUInt32 >>> (8.toUInt32 &&& Int32.toUInt32 31)).toInt32) + (((((((i0 - ((i0.toUInt32 >>> (1.toUInt32 &&& Int32.toUInt32 31)).toInt32 &&& 1431655765)) &&& 858993459) + (((i0 - ((i0.toUInt32 >>> (1.toUInt32 &&& Int32.toUInt32 31)).toInt32 &&& 1431655765)).toUInt32 >>> (2.toUInt32 &&& Int32.toUInt32 31)).toInt32 &&& 858993459)) + ((((i0 - ((i0.toUInt32 >>> (1.toUInt32 &&& Int32.toUInt32 31)).toInt32 &&& 1431655765)) &&& 858993459) + (((i0 - ((i0.toUInt32 >>> (1.toUInt32 &&& Int32.toUInt32 31)).toInt32 &&& 1431655765)).toUInt32 >>> (2.toUInt32 &&& Int32.toUInt32 31)).toInt32 &&& 858993459)).toUInt32 >>> (4.toUInt32 &&& Int32.toUInt32 31)).toInt32) &&& 252645135) + ((((((i0 - ((i0.toUInt32 >>> (1.toUInt32 &&& Int32.toUInt32 31)).toInt32 &&& 1431655765)) &&& 858993459) + (((i0 - ((i0.toUInt32 >>> (1.toUInt32 &&& Int32.toUInt32 31)).toInt32 &&& 1431655765)).toUInt32 >>> (2.toUInt32 &&& Int32.toUInt32 31)).toInt32 &&& 858993459)) + ((((i0 - ((i0.toUInt32 >>> (1.toUInt32 &&& Int32.toUInt32 31)).toInt32 &&& 1431655765)) &&& 858993459) + (((i0 - ((i0.toUInt32 >>> (1.toUInt32 &&& Int32.toUInt32 31)).toInt32 &&& 1431655765)).toUInt32 >>> (2.toUInt32 &&& Int32.toUInt32 31)).toInt32 &&& 858993459)).toUInt32 >>> (4.toUInt32 &&& Int32.toUInt32 31)).toInt32) &&& 252645135).toUInt32 >>> (8.toUInt32 &&& Int32.toUInt32 31)).toInt32).toUInt32 >>> (16.toUInt32 &&& Int32.toUInt32 31)).toInt32))]) hx hb d_Integer_bitCount_47 rfl hl (by decide) rfl (fun ls hl => ?_)
  refine lv_iload_n hx hb d_Integer_bitCount_48 rfl (lv_at hl 0 rfl) ?_
  refine lv_bipush (v := 63) hx hb d_Integer_bitCount_49 (by decide) ?_
  refine lv_iand hx hb d_Integer_bitCount_51 ?_
  have hpost : k_bitc i0 = (((((((i0 - ((i0.toUInt32 >>> (1.toUInt32 &&& Int32.toUInt32 31)).toInt32 &&& 1431655765)) &&& 858993459) + (((i0 - ((i0.toUInt32 >>> (1.toUInt32 &&& Int32.toUInt32 31)).toInt32 &&& 1431655765)).toUInt32 >>> (2.toUInt32 &&& Int32.toUInt32 31)).toInt32 &&& 858993459)) + ((((i0 - ((i0.toUInt32 >>> (1.toUInt32 &&& Int32.toUInt32 31)).toInt32 &&& 1431655765)) &&& 858993459) + (((i0 - ((i0.toUInt32 >>> (1.toUInt32 &&& Int32.toUInt32 31)).toInt32 &&& 1431655765)).toUInt32 >>> (2.toUInt32 &&& Int32.toUInt32 31)).toInt32 &&& 858993459)).toUInt32 >>> (4.toUInt32 &&& Int32.toUInt32 31)).toInt32) &&& 252645135) + ((((((i0 - ((i0.toUInt32 >>> (1.toUInt32 &&& Int32.toUInt32 31)).toInt32 &&& 1431655765)) &&& 858993459) + (((i0 - ((i0.toUInt32 >>> (1.toUInt32 &&& Int32.toUInt32 31)).toInt32 &&& 1431655765)).toUInt32 >>> (2.toUInt32 &&& Int32.toUInt32 31)).toInt32 &&& 858993459)) + ((((i0 - ((i0.toUInt32 >>> (1.toUInt32 &&& Int32.toUInt32 31)).toInt32 &&& 1431655765)) &&& 858993459) + (((i0 - ((i0.toUInt32 >>> (1.toUInt32 &&& Int32.toUInt32 31)).toInt32 &&& 1431655765)).toUInt32 >>> (2.toUInt32 &&& Int32.toUInt32 31)).toInt32 &&& 858993459)).toUInt32 >>> (4.toUInt32 &&& Int32.toUInt32 31)).toInt32) &&& 252645135).toUInt32 >>> (8.toUInt32 &&& Int32.toUInt32 31)).toInt32) + (((((((i0 - ((i0.toUInt32 >>> (1.toUInt32 &&& Int32.toUInt32 31)).toInt32 &&& 1431655765)) &&& 858993459) + (((i0 - ((i0.toUInt32 >>> (1.toUInt32 &&& Int32.toUInt32 31)).toInt32 &&& 1431655765)).toUInt32 >>> (2.toUInt32 &&& Int32.toUInt32 31)).toInt32 &&& 858993459)) + ((((i0 - ((i0.toUInt32 >>> (1.toUInt32 &&& Int32.toUInt32 31)).toInt32 &&& 1431655765)) &&& 858993459) + (((i0 - ((i0.toUInt32 >>> (1.toUInt32 &&& Int32.toUInt32 31)).toInt32 &&& 1431655765)).toUInt32 >>> (2.toUInt32 &&& Int32.toUInt32 31)).toInt32 &&& 858993459)).toUInt32 >>> (4.toUInt32 &&& Int32.toUInt32 31)).toInt32) &&& 252645135) + ((((((i0 - ((i0.toUInt32 >>> (1.toUInt32 &&& Int32.toUInt32 31)).toInt32 &&& 1431655765)) &&& 858993459) + (((i0 - ((i0.toUInt32 >>> (1.toUInt32 &&& Int32.toUInt32 31)).toInt32 &&& 1431655765)).toUInt32 >>> (2.toUInt32 &&& Int32.toUInt32 31)).toInt32 &&& 858993459)) + ((((i0 - ((i0.toUInt32 >>> (1.toUInt32 &&& Int32.toUInt32 31)).toInt32 &&& 1431655765)) &&& 858993459) + (((i0 - ((i0.toUInt32 >>> (1.toUInt32 &&& Int32.toUInt32 31)).toInt32 &&& 1431655765)).toUInt32 >>> (2.toUInt32 &&& Int32.toUInt32 31)).toInt32 &&& 858993459)).toUInt32 >>> (4.toUInt32 &&& Int32.toUInt32 31)).toInt32) &&& 252645135).toUInt32 >>> (8.toUInt32 &&& Int32.toUInt32 31)).toInt32).toUInt32 >>> (16.toUInt32 &&& Int32.toUInt32 31)).toInt32) &&& 63 := rfl
  have hP9 := hP.sub (ws' := []) [] rfl
  have hD9 := hD.sub (ws' := []) [] (by decide) rfl
  exact kr_iret (v := ((((((((i0 - ((i0.toUInt32 >>> (1.toUInt32 &&& Int32.toUInt32 31)).toInt32 &&& 1431655765)) &&& 858993459) + (((i0 - ((i0.toUInt32 >>> (1.toUInt32 &&& Int32.toUInt32 31)).toInt32 &&& 1431655765)).toUInt32 >>> (2.toUInt32 &&& Int32.toUInt32 31)).toInt32 &&& 858993459)) + ((((i0 - ((i0.toUInt32 >>> (1.toUInt32 &&& Int32.toUInt32 31)).toInt32 &&& 1431655765)) &&& 858993459) + (((i0 - ((i0.toUInt32 >>> (1.toUInt32 &&& Int32.toUInt32 31)).toInt32 &&& 1431655765)).toUInt32 >>> (2.toUInt32 &&& Int32.toUInt32 31)).toInt32 &&& 858993459)).toUInt32 >>> (4.toUInt32 &&& Int32.toUInt32 31)).toInt32) &&& 252645135) + ((((((i0 - ((i0.toUInt32 >>> (1.toUInt32 &&& Int32.toUInt32 31)).toInt32 &&& 1431655765)) &&& 858993459) + (((i0 - ((i0.toUInt32 >>> (1.toUInt32 &&& Int32.toUInt32 31)).toInt32 &&& 1431655765)).toUInt32 >>> (2.toUInt32 &&& Int32.toUInt32 31)).toInt32 &&& 858993459)) + ((((i0 - ((i0.toUInt32 >>> (1.toUInt32 &&& Int32.toUInt32 31)).toInt32 &&& 1431655765)) &&& 858993459) + (((i0 - ((i0.toUInt32 >>> (1.toUInt32 &&& Int32.toUInt32 31)).toInt32 &&& 1431655765)).toUInt32 >>> (2.toUInt32 &&& Int32.toUInt32 31)).toInt32 &&& 858993459)).toUInt32 >>> (4.toUInt32 &&& Int32.toUInt32 31)).toInt32) &&& 252645135).toUInt32 >>> (8.toUInt32 &&& Int32.toUInt32 31)).toInt32) + (((((((i0 - ((i0.toUInt32 >>> (1.toUInt32 &&& Int32.toUInt32 31)).toInt32 &&& 1431655765)) &&& 858993459) + (((i0 - ((i0.toUInt32 >>> (1.toUInt32 &&& Int32.toUInt32 31)).toInt32 &&& 1431655765)).toUInt32 >>> (2.toUInt32 &&& Int32.toUInt32 31)).toInt32 &&& 858993459)) + ((((i0 - ((i0.toUInt32 >>> (1.toUInt32 &&& Int32.toUInt32 31)).toInt32 &&& 1431655765)) &&& 858993459) + (((i0 - ((i0.toUInt32 >>> (1.toUInt32 &&& Int32.toUInt32 31)).toInt32 &&& 1431655765)).toUInt32 >>> (2.toUInt32 &&& Int32.toUInt32 31)).toInt32 &&& 858993459)).toUInt32 >>> (4.toUInt32 &&& Int32.toUInt32 31)).toInt32) &&& 252645135) + ((((((i0 - ((i0.toUInt32 >>> (1.toUInt32 &&& Int32.toUInt32 31)).toInt32 &&& 1431655765)) &&& 858993459) + (((i0 - ((i0.toUInt32 >>> (1.toUInt32 &&& Int32.toUInt32 31)).toInt32 &&& 1431655765)).toUInt32 >>> (2.toUInt32 &&& Int32.toUInt32 31)).toInt32 &&& 858993459)) + ((((i0 - ((i0.toUInt32 >>> (1.toUInt32 &&& Int32.toUInt32 31)).toInt32 &&& 1431655765)) &&& 858993459) + (((i0 - ((i0.toUInt32 >>> (1.toUInt32 &&& Int32.toUInt32 31)).toInt32 &&& 1431655765)).toUInt32 >>> (2.toUInt32 &&& Int32.toUInt32 31)).toInt32 &&& 858993459)).toUInt32 >>> (4.toUInt32 &&& Int32.toUInt32 31)).toInt32) &&& 252645135).toUInt32 >>> (8.toUInt32 &&& Int32.toUInt32 31)).toInt32).toUInt32 >>> (16.toUInt32 &&& Int32.toUInt32 31)).toInt32) &&& 63)) hQ hx hb hr hlocks hK hP9 hD9 hS (by rw [hpost] <;> rfl) () rfl d_Integer_bitCount_52
set_option maxHeartbeats 4000000 in
set_option maxRecDepth 100000 in
theorem c_Arrays_fill (l : Launch) (dC : Nat → ClassId) (dI : Nat → Nat → Nat) (cI cJ cC : ClassId) (σ : kSg) (q0 : Nat) (nn : Nat) (f : Nat → Int32) (v0 : Int32) (hnn : nn < 2 ^ 31) : kC l y_Arrays_fill ws_Arrays_fill (kRm 0 0 0 0) (dC, dI) (kTy cI cJ cC) σ ([(q0, .inl (cI, nn, .inl f))]) [.ref q0, .int v0] (kQv (dC, dI) (kTy cI cJ cC) (fun _ : Unit => [(q0, .inl (cI, nn, .inl (fun _ => v0)))])) 0 0 := by
  refine kr_met (cc := prog_17_method_103_code) (maxL := 4) (ret := none) (by decide) rfl (Nat.le_of_ble_eq_true rfl) ?_
  intro p e s m args below meth c A Q hQ hx hb hr hml hts hown hlocks hnm hA hP hK hD hSt ls hl
  have hS : va_S A s.heap s.heap [] := va_S.rf
  have hown : s.vm.findClass "java/util/Arrays" = some m.cls := hown
  have hl : lv_has ls 4 [(0, .ref q0), (1, .int v0)] := hl
  have hP : va_P (dC, dI) vwCl [(q0, .inl (cI, nn, .inl f))] s.heap := hP
  have hD : va_D A [(q0, .inl (cI, nn, .inl f))] := hD
  refine lv_iconst (v := 0) hx hb d_Arrays_fill_0 (by decide) ?_
  refine lv_istore_n (lv' := [(2, .int 0), (0, .ref q0), (1, .int v0)]) hx hb d_Arrays_fill_1 rfl hl (by decide) rfl (fun ls hl => ?_)
  refine lv_aload_n hx hb d_Arrays_fill_2 rfl (lv_at hl 1 rfl) ?_
  refine va_alen (v := nI nn) hx hb hK hP 0 0 rfl rfl rfl d_Arrays_fill_3 ?_
  refine lv_istore_n (lv' := [(3, .int (nI nn)), (2, .int 0), (0, .ref q0), (1, .int v0)]) hx hb d_Arrays_fill_4 rfl hl (by decide) rfl (fun ls hl => ?_)
  have loop_5 : ∀ (n : Nat) (i : Nat) (g : Nat → Int32), i + n = nn → ∀ j : Nat, j < i → g j = v0 → ∀ (H : Heap) (locs : List Loc), va_P (dC, dI) vwCl [(q0, .inl (cI, nn, .inl g))] H → va_D A [(q0, .inl (cI, nn, .inl g))] → va_S A s.heap H locs → ∀ ls : Array Slot, lv_has ls 4 [(2, .int (nI i)), (3, .int (nI nn)), (0, .ref q0), (1, .int v0)] → W p l e (kRm 0 0 0 0) s m args below meth c H locs 0 0 Q (F0 m 5 ls []) := by
    intro n
    induction n with
    | zero =>
      intro i g hi hf H locs hP hD hS ls hl
      refine lv_iload_n hx hb d_Arrays_fill_5 rfl (lv_at hl 0 rfl) ?_
      refine lv_iload_n hx hb d_Arrays_fill_6 rfl (lv_at hl 1 rfl) ?_
      refine lv_icmp_ge (tgt := 20) hx hb d_Arrays_fill_7 (by decide) (fun c_1 => ?_) (fun c_1 => ?_)
      · skip
        have c_1 : nn ≤ i := (nI_leI (a := nn) (b := i) (by omega) (by omega)).mp c_1
        have hP := kf_fill (v := v0) hP (fun j h => hf j (by omega))
        have hD := kf_fillD (v := v0) hD
        have hP9 := hP.sub (ws' := [(q0, .inl (cI, nn, .inl (fun _ => v0)))]) [0] rfl
        have hD9 := hD.sub (ws' := [(q0, .inl (cI, nn, .inl (fun _ => v0)))]) [0] (by decide) rfl
        exact kr_vret hQ hx hb hr hlocks hK hP9 hD9 hS () rfl d_Arrays_fill_20
      · skip
        have c_1 : ¬ nn ≤ i := fun h9 => c_1 ((nI_leI (a := nn) (b := i) (by omega) (by omega)).mpr h9)
        exfalso; omega
    | succ n ih_5 =>
      intro i g hi hf H locs hP hD hS ls hl
      refine lv_iload_n hx hb d_Arrays_fill_5 rfl (lv_at hl 0 rfl) ?_
      refine lv_iload_n hx hb d_Arrays_fill_6 rfl (lv_at hl 1 rfl) ?_
      refine lv_icmp_ge (tgt := 20) hx hb d_Arrays_fill_7 (by decide) (fun c_2 => ?_) (fun c_2 => ?_)
      · skip
        have c_2 : nn ≤ i := (nI_leI (a := nn) (b := i) (by omega) (by omega)).mp c_2
        exfalso; omega
      · skip
        have c_2 : ¬ nn ≤ i := fun h9 => c_2 ((nI_leI (a := nn) (b := i) (by omega) (by omega)).mpr h9)
        refine lv_aload_n hx hb d_Arrays_fill_10 rfl (lv_at hl 2 rfl) ?_
        refine lv_iload_n hx hb d_Arrays_fill_11 rfl (lv_at hl 0 rfl) ?_
        refine lv_iload_n hx hb d_Arrays_fill_12 rfl (lv_at hl 3 rfl) ?_
        refine kr_iast (k := i) hx hb hK hP hD hS 0 0 rfl rfl (by omega) (by decide) d_Arrays_fill_13 (fun H locs hP hD hS => ?_)
        have hP : va_P (dC, dI) vwCl [(q0, .inl (cI, nn, .inl (upd g i v0)))] H := hP
        have hD : va_D A [(q0, .inl (cI, nn, .inl (upd g i v0)))] := hD
        refine lv_iinc (v := (nI (i + 1))) (lv' := [(2, .int (nI (i + 1))), (3, .int (nI nn)), (0, .ref q0), (1, .int v0)]) hx hb d_Arrays_fill_14 hl (k := 0) rfl (nI_1 i) (by decide) rfl (fun ls hl => ?_)
        refine lv_goto (tgt := 5) hx hb d_Arrays_fill_17 (by decide) ?_
        exact ih_5 (i + 1) (upd g i v0) (by omega) (kf_step hf) _ _ (hP.sub [0] rfl) (hD.sub [0] (by decide) rfl) hS ls (lv_sub hl [0, 1, 2, 3] rfl)
  exact loop_5 nn 0 f (by omega) (fun j h => absurd h (Nat.not_lt_zero j)) _ _ (hP.sub [0] rfl) (hD.sub [0] (by decide) rfl) hS ls (lv_sub hl [1, 0, 2, 3] rfl)
set_option maxHeartbeats 4000000 in
set_option maxRecDepth 100000 in
theorem c_String_coder (l : Launch) (dC : Nat → ClassId) (dI : Nat → Nat → Nat) (cI cJ cC : ClassId) (σ : kSg) (j0 : Nat) (hj : j0 < nTx) : kC l y_String_coder ws_String_coder (kRm 0 0 0 0) (dC, dI) (kTy cI cJ cC) σ ([]) [.ref (σ.1 j0)] (kQi (dC, dI) (kTy cI cJ cC) 0 (fun _ : Unit => [])) 0 0 := by
  refine kr_met (cc := prog_14_method_152_code) (maxL := 1) (ret := (some .byte)) (by decide) rfl (Nat.le_of_ble_eq_true rfl) ?_
  intro p e s m args below meth c A Q hQ hx hb hr hml hts hown hlocks hnm hA hP hK hD hSt ls hl
  have hS : va_S A s.heap s.heap [] := va_S.rf
  have hown : s.vm.findClass "java/lang/String" = some m.cls := hown
  have hl : lv_has ls 1 [(0, .ref (σ.1 j0))] := hl
  have hP : va_P (dC, dI) vwCl [] s.heap := hP
  have hD : va_D A [] := hD
  have hf_38 := hts _ (List.mem_cons_of_mem _ wq_265)
  have hf_15 := hts _ (List.mem_cons_of_mem _ wq_789)
  refine va_gets hx hb hSt.2.2.2.2.1 hS hown hf_38 (fun _ h9 => h9) d_String_coder_0 ?_
  refine lv_if_eq (tgt := 13) hx hb d_String_coder_3 (by decide) (fun c_1 => ?_) (fun c_1 => ?_)
  · skip
    exact absurd c_1 (by decide)
  · skip
    have c_1 : ¬ 1 = 0 := fun h9 => c_1 ((nI_eq (a := 1) (b := 0) (by omega) (by omega)).mpr h9)
    refine lv_aload_n hx hb d_String_coder_6 rfl (lv_at hl 0 rfl) ?_
    refine vk_getf hx hb (hSt.2.2.2.2.2.1 j0 (by first | decide | assumption)).2.1 hS hown hf_15 (fun _ h9 => h9) d_String_coder_7 ?_
    refine lv_goto (tgt := 14) hx hb d_String_coder_10 (by decide) ?_
    have hP9 := hP.sub (ws' := []) [] rfl
    have hD9 := hD.sub (ws' := []) [] (by decide) rfl
    exact kr_zret (v := 0) hQ hx hb hr hlocks hK hP9 hD9 hS rfl rfl () rfl d_String_coder_14
set_option maxHeartbeats 4000000 in
set_option maxRecDepth 100000 in
theorem c_String_isLatin1 (l : Launch) (dC : Nat → ClassId) (dI : Nat → Nat → Nat) (cI cJ cC : ClassId) (σ : kSg) (j0 : Nat) (hj : j0 < nTx) : kC l y_String_isLatin1 ws_String_isLatin1 (kRm 0 0 0 0) (dC, dI) (kTy cI cJ cC) σ ([]) [.ref (σ.1 j0)] (kQi (dC, dI) (kTy cI cJ cC) 1 (fun _ : Unit => [])) 0 0 := by
  refine kr_met (cc := prog_14_method_154_code) (maxL := 1) (ret := (some .boolean)) (by decide) rfl (Nat.le_of_ble_eq_true rfl) ?_
  intro p e s m args below meth c A Q hQ hx hb hr hml hts hown hlocks hnm hA hP hK hD hSt ls hl
  have hS : va_S A s.heap s.heap [] := va_S.rf
  have hown : s.vm.findClass "java/lang/String" = some m.cls := hown
  have hl : lv_has ls 1 [(0, .ref (σ.1 j0))] := hl
  have hP : va_P (dC, dI) vwCl [] s.heap := hP
  have hD : va_D A [] := hD
  have hf_38 := hts _ (List.mem_cons_of_mem _ wq_265)
  have hf_15 := hts _ (List.mem_cons_of_mem _ wq_789)
  refine va_gets hx hb hSt.2.2.2.2.1 hS hown hf_38 (fun _ h9 => h9) d_String_isLatin1_0 ?_
  refine lv_if_eq (tgt := 17) hx hb d_String_isLatin1_3 (by decide) (fun c_1 => ?_) (fun c_1 => ?_)
  · skip
    exact absurd c_1 (by decide)
  · skip
    have c_1 : ¬ 1 = 0 := fun h9 => c_1 ((nI_eq (a := 1) (b := 0) (by omega) (by omega)).mpr h9)
    refine lv_aload_n hx hb d_String_isLatin1_6 rfl (lv_at hl 0 rfl) ?_
    refine vk_getf hx hb (hSt.2.2.2.2.2.1 j0 (by first | decide | assumption)).2.1 hS hown hf_15 (fun _ h9 => h9) d_String_isLatin1_7 ?_
    refine lv_if_ne (tgt := 17) hx hb d_String_isLatin1_10 (by decide) (fun c_2 => ?_) (fun c_2 => ?_)
    · skip
      exact absurd c_2 (by decide)
    · skip
      have c_2 : 0 = 0 := (nI_eq (a := 0) (b := 0) (by omega) (by omega)).mp c_2
      refine lv_iconst (v := 1) hx hb d_String_isLatin1_13 (by decide) ?_
      refine lv_goto (tgt := 18) hx hb d_String_isLatin1_14 (by decide) ?_
      have hP9 := hP.sub (ws' := []) [] rfl
      have hD9 := hD.sub (ws' := []) [] (by decide) rfl
      exact kr_zret (v := 1) hQ hx hb hr hlocks hK hP9 hD9 hS rfl rfl () rfl d_String_isLatin1_18
set_option maxHeartbeats 4000000 in
set_option maxRecDepth 100000 in
theorem c_String_length (l : Launch) (dC : Nat → ClassId) (dI : Nat → Nat → Nat) (cI cJ cC : ClassId) (σ : kSg) (j0 : Nat) (hj : j0 < nTx) : kC l y_String_length ws_String_length (kRm 1 0 0 20) (dC, dI) (kTy cI cJ cC) σ ([]) [.ref (σ.1 j0)] (kQi (dC, dI) (kTy cI cJ cC) (nI (kTx j0).length) (fun _ : Unit => [])) 0 0 := by
  refine kr_met (cc := prog_14_method_54_code) (maxL := 1) (ret := (some .int)) (by decide) rfl (Nat.le_of_ble_eq_true rfl) ?_
  intro p e s m args below meth c A Q hQ hx hb hr hml hts hown hlocks hnm hA hP hK hD hSt ls hl
  have hS : va_S A s.heap s.heap [] := va_S.rf
  have hown : s.vm.findClass "java/lang/String" = some m.cls := hown
  have hl : lv_has ls 1 [(0, .ref (σ.1 j0))] := hl
  have hP : va_P (dC, dI) vwCl [] s.heap := hP
  have hD : va_D A [] := hD
  have hf_9 := hts _ (List.mem_cons_of_mem _ wq_788)
  have hini_String := hts _ (List.mem_cons_of_mem _ wq_11)
  have hm_335 := hts _ (List.mem_cons_of_mem _ wq_261)
  have hi_335 := hts _ (List.mem_cons_of_mem _ wq_262)
  have hv_335 := hts _ (List.mem_cons_of_mem _ wq_263)
  refine lv_aload_n hx hb d_String_length_0 rfl (lv_at hl 0 rfl) ?_
  refine vk_getf hx hb (hSt.2.2.2.2.2.1 j0 (by first | decide | assumption)).2.2.1 hS hown hf_9 (fun _ h9 => h9) d_String_length_1 ?_
  refine va_tlen (v := nI (kTx j0).length) hx hb (hSt.2.2.2.2.2.1 j0 (by first | decide | assumption)).2.2.2 hS rfl d_String_length_4 ?_
  refine lv_aload_n hx hb d_String_length_5 rfl (lv_at hl 0 rfl) ?_
  have hpre_1 := kr_pre (wc := []) (av := [.ref (σ.1 j0)]) hK hP hD hS hA hSt [] rfl (by decide)
  refine kj_i (wc := []) (wr := []) (va_runV (As := []) (rest := [.int (nI (kTx j0).length)]) ⟨hx, hb, hml, hown, hts⟩ (c_String_coder l dC dI cI cJ cC σ j0 (by first | decide | assumption) _) ⟨(callB_of 0 hts (kg wq_264) rfl rfl rfl hini_String hm_335 (by decide +kernel) ⟨Nat.le_of_ble_eq_true rfl, Nat.le_of_ble_eq_true rfl⟩), hi_335, hv_335⟩ ⟨hpre_1.1, (va_Orecv (hSt.2.2.2.2.2.1 j0 (by first | decide | assumption)).1 hS), hpre_1.2⟩ rfl rfl hl.1 rfl (lv_room (Nat.le_of_ble_eq_true rfl)) d_String_length_6 ⟨Nat.le_of_ble_eq_true rfl, Nat.le_of_ble_eq_true rfl⟩) hP hD hS hA [] [] rfl rfl (by decide) (by decide) (fun _ H locs hP hD hS => ?_)
  have hP : va_P (dC, dI) vwCl [] H := hP
  have hD : va_D A [] := hD
  refine lv_ishr hx hb d_String_length_9 ?_
  refine kr_topi (x := nI (kTx j0).length >>> (0 &&& 31)) (y := nI (kTx j0).length) (sb_shr0 _) ?_
  have hP9 := hP.sub (ws' := []) [] rfl
  have hD9 := hD.sub (ws' := []) [] (by decide) rfl
  exact kr_iret (v := (nI (kTx j0).length)) hQ hx hb hr hlocks hK hP9 hD9 hS rfl () rfl d_String_length_10
set_option maxHeartbeats 4000000 in
set_option maxRecDepth 100000 in
theorem c_Prec_checkIndex_r (l : Launch) (dC : Nat → ClassId) (dI : Nat → Nat → Nat) (cI cJ cC : ClassId) (σ : kSg) (i0 : Nat) (n0 : Nat) (fm : Nat) (hi : i0 < n0) (hn : n0 < 2 ^ 31) : kC l y_Preconditions_checkIndex ws_Preconditions_checkIndex (kRm 0 0 0 0) (dC, dI) (kTy cI cJ cC) σ ([]) [.int (nI i0), .int (nI n0), .ref fm] (kQi (dC, dI) (kTy cI cJ cC) (nI i0) (fun _ : Unit => [])) 0 0 := by
  refine kr_met (cc := prog_18_method_11_code) (maxL := 3) (ret := (some .int)) (by decide) rfl (Nat.le_of_ble_eq_true rfl) ?_
  intro p e s m args below meth c A Q hQ hx hb hr hml hts hown hlocks hnm hA hP hK hD hSt ls hl
  have hS : va_S A s.heap s.heap [] := va_S.rf
  have hown : s.vm.findClass "jdk/internal/util/Preconditions" = some m.cls := hown
  have hl : lv_has ls 3 [(0, .int (nI i0)), (1, .int (nI n0)), (2, .ref fm)] := hl
  have hP : va_P (dC, dI) vwCl [] s.heap := hP
  have hD : va_D A [] := hD
  refine lv_iload_n hx hb d_Preconditions_checkIndex_0 rfl (lv_at hl 0 rfl) ?_
  refine lv_if_lt (tgt := 9) hx hb d_Preconditions_checkIndex_1 (by decide) (fun c_1 => ?_) (fun c_1 => ?_)
  · skip
    have c_1 : i0 < 0 := (nI_ltI (a := i0) (b := 0) (by omega) (by omega)).mp c_1
    exfalso; omega
  · skip
    have c_1 : ¬ i0 < 0 := fun h9 => c_1 ((nI_ltI (a := i0) (b := 0) (by omega) (by omega)).mpr h9)
    refine lv_iload_n hx hb d_Preconditions_checkIndex_4 rfl (lv_at hl 0 rfl) ?_
    refine lv_iload_n hx hb d_Preconditions_checkIndex_5 rfl (lv_at hl 1 rfl) ?_
    refine lv_icmp_lt (tgt := 16) hx hb d_Preconditions_checkIndex_6 (by decide) (fun c_2 => ?_) (fun c_2 => ?_)
    · skip
      have c_2 : i0 < n0 := (nI_ltI (a := i0) (b := n0) (by omega) (by omega)).mp c_2
      refine lv_iload_n hx hb d_Preconditions_checkIndex_16 rfl (lv_at hl 0 rfl) ?_
      have hP9 := hP.sub (ws' := []) [] rfl
      have hD9 := hD.sub (ws' := []) [] (by decide) rfl
      exact kr_iret (v := (nI i0)) hQ hx hb hr hlocks hK hP9 hD9 hS rfl () rfl d_Preconditions_checkIndex_17
    · skip
      have c_2 : ¬ i0 < n0 := fun h9 => c_2 ((nI_ltI (a := i0) (b := n0) (by omega) (by omega)).mpr h9)
      exfalso; omega
set_option maxHeartbeats 4000000 in
set_option maxRecDepth 100000 in
theorem c_Prec_checkIndex_n (l : Launch) (dC : Nat → ClassId) (dI : Nat → Nat → Nat) (cI cJ cC : ClassId) (σ : kSg) (i0 : Nat) (n0 : Nat) (hi : i0 < n0) (hn : n0 < 2 ^ 31) : kC l y_Preconditions_checkIndex ws_Preconditions_checkIndex (kRm 0 0 0 0) (dC, dI) (kTy cI cJ cC) σ ([]) [.int (nI i0), .int (nI n0), .null] (kQi (dC, dI) (kTy cI cJ cC) (nI i0) (fun _ : Unit => [])) 0 0 := by
  refine kr_met (cc := prog_18_method_11_code) (maxL := 3) (ret := (some .int)) (by decide) rfl (Nat.le_of_ble_eq_true rfl) ?_
  intro p e s m args below meth c A Q hQ hx hb hr hml hts hown hlocks hnm hA hP hK hD hSt ls hl
  have hS : va_S A s.heap s.heap [] := va_S.rf
  have hown : s.vm.findClass "jdk/internal/util/Preconditions" = some m.cls := hown
  have hl : lv_has ls 3 [(0, .int (nI i0)), (1, .int (nI n0)), (2, .null)] := hl
  have hP : va_P (dC, dI) vwCl [] s.heap := hP
  have hD : va_D A [] := hD
  refine lv_iload_n hx hb d_Preconditions_checkIndex_0 rfl (lv_at hl 0 rfl) ?_
  refine lv_if_lt (tgt := 9) hx hb d_Preconditions_checkIndex_1 (by decide) (fun c_1 => ?_) (fun c_1 => ?_)
  · skip
    have c_1 : i0 < 0 := (nI_ltI (a := i0) (b := 0) (by omega) (by omega)).mp c_1
    exfalso; omega
  · skip
    have c_1 : ¬ i0 < 0 := fun h9 => c_1 ((nI_ltI (a := i0) (b := 0) (by omega) (by omega)).mpr h9)
    refine lv_iload_n hx hb d_Preconditions_checkIndex_4 rfl (lv_at hl 0 rfl) ?_
    refine lv_iload_n hx hb d_Preconditions_checkIndex_5 rfl (lv_at hl 1 rfl) ?_
    refine lv_icmp_lt (tgt := 16) hx hb d_Preconditions_checkIndex_6 (by decide) (fun c_2 => ?_) (fun c_2 => ?_)
    · skip
      have c_2 : i0 < n0 := (nI_ltI (a := i0) (b := n0) (by omega) (by omega)).mp c_2
      refine lv_iload_n hx hb d_Preconditions_checkIndex_16 rfl (lv_at hl 0 rfl) ?_
      have hP9 := hP.sub (ws' := []) [] rfl
      have hD9 := hD.sub (ws' := []) [] (by decide) rfl
      exact kr_iret (v := (nI i0)) hQ hx hb hr hlocks hK hP9 hD9 hS rfl () rfl d_Preconditions_checkIndex_17
    · skip
      have c_2 : ¬ i0 < n0 := fun h9 => c_2 ((nI_ltI (a := i0) (b := n0) (by omega) (by omega)).mpr h9)
      exfalso; omega
set_option maxHeartbeats 4000000 in
set_option maxRecDepth 100000 in
theorem c_String_checkIndex (l : Launch) (dC : Nat → ClassId) (dI : Nat → Nat → Nat) (cI cJ cC : ClassId) (σ : kSg) (i0 : Nat) (n0 : Nat) (hi : i0 < n0) (hn : n0 < 2 ^ 31) : kC l y_String_checkIndex ws_String_checkIndex (kRm 1 0 0 22) (dC, dI) (kTy cI cJ cC) σ ([]) [.int (nI i0), .int (nI n0)] (kQv (dC, dI) (kTy cI cJ cC) (fun _ : Unit => [])) 0 0 := by
  refine kr_met (cc := prog_14_method_155_code) (maxL := 2) (ret := none) (by decide) rfl (Nat.le_of_ble_eq_true rfl) ?_
  intro p e s m args below meth c A Q hQ hx hb hr hml hts hown hlocks hnm hA hP hK hD hSt ls hl
  have hS : va_S A s.heap s.heap [] := va_S.rf
  have hown : s.vm.findClass "java/lang/String" = some m.cls := hown
  have hl : lv_has ls 2 [(0, .int (nI i0)), (1, .int (nI n0))] := hl
  have hP : va_P (dC, dI) vwCl [] s.heap := hP
  have hD : va_D A [] := hD
  have hf_1053 := hts _ (List.mem_cons_of_mem _ wq_281)
  have hini_Preconditions := hts _ (List.mem_cons_of_mem _ wq_13)
  have hm_1059 := hts _ (List.mem_cons_of_mem _ wq_283)
  have hs_1059 := hts _ (List.mem_cons_of_mem _ wq_284)
  refine lv_iload_n hx hb d_String_checkIndex_0 rfl (lv_at hl 0 rfl) ?_
  refine lv_iload_n hx hb d_String_checkIndex_1 rfl (lv_at hl 1 rfl) ?_
  rcases hSt.2.2.2.2.2.2.2.1 with hz | ⟨fm, hz⟩
  · skip
    refine va_gets hx hb hz hS hown hf_1053 (fun _ h9 => h9) d_String_checkIndex_2 ?_
    have hpre_1 := kr_pre (wc := []) (av := [.int (nI i0), .int (nI n0), .null]) hK hP hD hS hA hSt [] rfl (by decide)
    refine kj_i (wc := []) (wr := []) (va_runS (As := [.int (nI i0), .int (nI n0), .null]) (rest := []) ⟨hx, hb, hml, hown, hts⟩ (c_Prec_checkIndex_n l dC dI cI cJ cC σ i0 n0 (by try dsimp only; first | assumption | omega) (by try dsimp only; first | assumption | omega) _) ⟨(callB_of 3 hts (kg wq_285) rfl rfl rfl hini_Preconditions hm_1059 (by decide +kernel) ⟨Nat.le_of_ble_eq_true rfl, Nat.le_of_ble_eq_true rfl⟩), hs_1059⟩ hpre_1 rfl rfl hl.1 rfl (lv_room (Nat.le_of_ble_eq_true rfl)) d_String_checkIndex_5 ⟨Nat.le_of_ble_eq_true rfl, Nat.le_of_ble_eq_true rfl⟩) hP hD hS hA [] [] rfl rfl (by decide) (by decide) (fun _ H locs hP hD hS => ?_)
    have hP : va_P (dC, dI) vwCl [] H := hP
    have hD : va_D A [] := hD
    refine lv_pop hx hb d_String_checkIndex_8 rfl ?_
    have hP9 := hP.sub (ws' := []) [] rfl
    have hD9 := hD.sub (ws' := []) [] (by decide) rfl
    exact kr_vret hQ hx hb hr hlocks hK hP9 hD9 hS () rfl d_String_checkIndex_9
  · skip
    refine va_gets hx hb hz hS hown hf_1053 (fun _ h9 => h9) d_String_checkIndex_2 ?_
    have hpre_2 := kr_pre (wc := []) (av := [.int (nI i0), .int (nI n0), .ref fm]) hK hP hD hS hA hSt [] rfl (by decide)
    refine kj_i (wc := []) (wr := []) (va_runS (As := [.int (nI i0), .int (nI n0), .ref fm]) (rest := []) ⟨hx, hb, hml, hown, hts⟩ (c_Prec_checkIndex_r l dC dI cI cJ cC σ i0 n0 fm (by try dsimp only; first | assumption | omega) (by try dsimp only; first | assumption | omega) _) ⟨(callB_of 3 hts (kg wq_285) rfl rfl rfl hini_Preconditions hm_1059 (by decide +kernel) ⟨Nat.le_of_ble_eq_true rfl, Nat.le_of_ble_eq_true rfl⟩), hs_1059⟩ hpre_2 rfl rfl hl.1 rfl (lv_room (Nat.le_of_ble_eq_true rfl)) d_String_checkIndex_5 ⟨Nat.le_of_ble_eq_true rfl, Nat.le_of_ble_eq_true rfl⟩) hP hD hS hA [] [] rfl rfl (by decide) (by decide) (fun _ H locs hP hD hS => ?_)
    have hP : va_P (dC, dI) vwCl [] H := hP
    have hD : va_D A [] := hD
    refine lv_pop hx hb d_String_checkIndex_8 rfl ?_
    have hP9 := hP.sub (ws' := []) [] rfl
    have hD9 := hD.sub (ws' := []) [] (by decide) rfl
    exact kr_vret hQ hx hb hr hlocks hK hP9 hD9 hS () rfl d_String_checkIndex_9
set_option maxHeartbeats 4000000 in
set_option maxRecDepth 100000 in
theorem c_Latin1_charAt (l : Launch) (dC : Nat → ClassId) (dI : Nat → Nat → Nat) (cI cJ cC : ClassId) (σ : kSg) (j0 : Nat) (k0 : Nat) (hj : j0 < nTx) (hk : k0 < (kTx j0).length) : kC l y_StringLatin1_charAt ws_StringLatin1_charAt (kRm 2 0 0 43) (dC, dI) (kTy cI cJ cC) σ ([]) [.ref (σ.2.1 j0), .int (nI k0)] (kQi (dC, dI) (kTy cI cJ cC) (kChr j0 k0) (fun _ : Unit => [])) 0 0 := by
  refine kr_met (cc := prog_15_method_2_code) (maxL := 2) (ret := (some .char)) (by decide) rfl (Nat.le_of_ble_eq_true rfl) ?_
  intro p e s m args below meth c A Q hQ hx hb hr hml hts hown hlocks hnm hA hP hK hD hSt ls hl
  have hS : va_S A s.heap s.heap [] := va_S.rf
  have hown : s.vm.findClass "java/lang/StringLatin1" = some m.cls := hown
  have hl : lv_has ls 2 [(0, .ref (σ.2.1 j0)), (1, .int (nI k0))] := hl
  have hP : va_P (dC, dI) vwCl [] s.heap := hP
  have hD : va_D A [] := hD
  have hini_String := hts _ (List.mem_cons_of_mem _ wq_11)
  have hm_9 := hts _ (List.mem_cons_of_mem _ wq_278)
  have hs_9 := hts _ (List.mem_cons_of_mem _ wq_279)
  have hlen := kTx_len j0
  refine lv_iload_n hx hb d_StringLatin1_charAt_0 rfl (lv_at hl 1 rfl) ?_
  refine lv_aload_n hx hb d_StringLatin1_charAt_1 rfl (lv_at hl 0 rfl) ?_
  refine va_tlen (v := nI (kTx j0).length) hx hb (hSt.2.2.2.2.2.1 j0 (by first | decide | assumption)).2.2.2 hS rfl d_StringLatin1_charAt_2 ?_
  have hpre_1 := kr_pre (wc := []) (av := [.int (nI k0), .int (nI (kTx j0).length)]) hK hP hD hS hA hSt [] rfl (by decide)
  refine kj_v (wc := []) (wr := []) (va_runS (As := [.int (nI k0), .int (nI (kTx j0).length)]) (rest := []) ⟨hx, hb, hml, hown, hts⟩ (c_String_checkIndex l dC dI cI cJ cC σ k0 (kTx j0).length (by try dsimp only; first | assumption | omega) (by try dsimp only; first | assumption | omega) _) ⟨(callB_of 2 hts (kg wq_280) rfl rfl rfl hini_String hm_9 (by decide +kernel) ⟨Nat.le_of_ble_eq_true rfl, Nat.le_of_ble_eq_true rfl⟩), hs_9⟩ hpre_1 rfl rfl hl.1 rfl (lv_room (Nat.le_of_ble_eq_true rfl)) d_StringLatin1_charAt_3 ⟨Nat.le_of_ble_eq_true rfl, Nat.le_of_ble_eq_true rfl⟩) hP hD hS hA [] [] rfl rfl (by decide) (by decide) (fun _ H locs hP hD hS => ?_)
  have hP : va_P (dC, dI) vwCl [] H := hP
  have hD : va_D A [] := hD
  refine lv_aload_n hx hb d_StringLatin1_charAt_6 rfl (lv_at hl 0 rfl) ?_
  refine lv_iload_n hx hb d_StringLatin1_charAt_7 rfl (lv_at hl 1 rfl) ?_
  refine kr_tb (k := k0) (g := kChr j0) hx hb (hSt.2.2.2.2.2.1 j0 (by first | decide | assumption)).2.2.2 hS (by omega) (by first | omega | decide) d_StringLatin1_charAt_8 ?_
  refine lv_sipush (v := 255) hx hb d_StringLatin1_charAt_9 (by decide) ?_
  refine lv_iand hx hb d_StringLatin1_charAt_12 ?_
  refine lv_i2c hx hb d_StringLatin1_charAt_13 rfl ?_
  refine kr_topi (x := ((kChr j0 k0 &&& 255).toUInt32 % 65536).toInt32) (y := kChr j0 k0) (kChr_c j0 k0) ?_
  have hP9 := hP.sub (ws' := []) [] rfl
  have hD9 := hD.sub (ws' := []) [] (by decide) rfl
  exact kr_zret (v := (kChr j0 k0)) hQ hx hb hr hlocks hK hP9 hD9 hS rfl (kChr_nar2 _ _) () rfl d_StringLatin1_charAt_14
set_option maxHeartbeats 4000000 in
set_option maxRecDepth 100000 in
theorem c_String_charAt (l : Launch) (dC : Nat → ClassId) (dI : Nat → Nat → Nat) (cI cJ cC : ClassId) (σ : kSg) (j0 : Nat) (k0 : Nat) (hj : j0 < nTx) (hk : k0 < (kTx j0).length) : kC l y_String_charAt ws_String_charAt (kRm 3 0 0 64) (dC, dI) (kTy cI cJ cC) σ ([]) [.ref (σ.1 j0), .int (nI k0)] (kQi (dC, dI) (kTy cI cJ cC) (kChr j0 k0) (fun _ : Unit => [])) 0 0 := by
  refine kr_met (cc := prog_14_method_56_code) (maxL := 2) (ret := (some .char)) (by decide) rfl (Nat.le_of_ble_eq_true rfl) ?_
  intro p e s m args below meth c A Q hQ hx hb hr hml hts hown hlocks hnm hA hP hK hD hSt ls hl
  have hS : va_S A s.heap s.heap [] := va_S.rf
  have hown : s.vm.findClass "java/lang/String" = some m.cls := hown
  have hl : lv_has ls 2 [(0, .ref (σ.1 j0)), (1, .int (nI k0))] := hl
  have hP : va_P (dC, dI) vwCl [] s.heap := hP
  have hD : va_D A [] := hD
  have hini_String := hts _ (List.mem_cons_of_mem _ wq_11)
  have hm_492 := hts _ (List.mem_cons_of_mem _ wq_271)
  have hi_492 := hts _ (List.mem_cons_of_mem _ wq_272)
  have hv_492 := hts _ (List.mem_cons_of_mem _ wq_273)
  have hf_9 := hts _ (List.mem_cons_of_mem _ wq_788)
  have hini_StringLatin1 := hts _ (List.mem_cons_of_mem _ wq_12)
  have hm_495 := hts _ (List.mem_cons_of_mem _ wq_275)
  have hs_495 := hts _ (List.mem_cons_of_mem _ wq_276)
  refine lv_aload_n hx hb d_String_charAt_0 rfl (lv_at hl 0 rfl) ?_
  have hpre_1 := kr_pre (wc := []) (av := [.ref (σ.1 j0)]) hK hP hD hS hA hSt [] rfl (by decide)
  refine kj_i (wc := []) (wr := []) (va_runV (As := []) (rest := []) ⟨hx, hb, hml, hown, hts⟩ (c_String_isLatin1 l dC dI cI cJ cC σ j0 (by first | decide | assumption) _) ⟨(callB_of 0 hts (kg wq_274) rfl rfl rfl hini_String hm_492 (by decide +kernel) ⟨Nat.le_of_ble_eq_true rfl, Nat.le_of_ble_eq_true rfl⟩), hi_492, hv_492⟩ ⟨hpre_1.1, (va_Orecv (hSt.2.2.2.2.2.1 j0 (by first | decide | assumption)).1 hS), hpre_1.2⟩ rfl rfl hl.1 rfl (lv_room (Nat.le_of_ble_eq_true rfl)) d_String_charAt_1 ⟨Nat.le_of_ble_eq_true rfl, Nat.le_of_ble_eq_true rfl⟩) hP hD hS hA [] [] rfl rfl (by decide) (by decide) (fun _ H locs hP hD hS => ?_)
  have hP : va_P (dC, dI) vwCl [] H := hP
  have hD : va_D A [] := hD
  refine lv_if_eq (tgt := 16) hx hb d_String_charAt_4 (by decide) (fun c_2 => ?_) (fun c_2 => ?_)
  · skip
    exact absurd c_2 (by decide)
  · skip
    have c_2 : ¬ 1 = 0 := fun h9 => c_2 ((nI_eq (a := 1) (b := 0) (by omega) (by omega)).mpr h9)
    refine lv_aload_n hx hb d_String_charAt_7 rfl (lv_at hl 0 rfl) ?_
    refine vk_getf hx hb (hSt.2.2.2.2.2.1 j0 (by first | decide | assumption)).2.2.1 hS hown hf_9 (fun _ h9 => h9) d_String_charAt_8 ?_
    refine lv_iload_n hx hb d_String_charAt_11 rfl (lv_at hl 1 rfl) ?_
    have hpre_3 := kr_pre (wc := []) (av := [.ref (σ.2.1 j0), .int (nI k0)]) hK hP hD hS hA hSt [] rfl (by decide)
    refine kj_i (wc := []) (wr := []) (va_runS (As := [.ref (σ.2.1 j0), .int (nI k0)]) (rest := []) ⟨hx, hb, hml, hown, hts⟩ (c_Latin1_charAt l dC dI cI cJ cC σ j0 k0 (by try dsimp only; first | assumption | omega) (by try dsimp only; first | assumption | omega) _) ⟨(callB_of 2 hts (kg wq_277) rfl rfl rfl hini_StringLatin1 hm_495 (by decide +kernel) ⟨Nat.le_of_ble_eq_true rfl, Nat.le_of_ble_eq_true rfl⟩), hs_495⟩ hpre_3 rfl rfl hl.1 rfl (lv_room (Nat.le_of_ble_eq_true rfl)) d_String_charAt_12 ⟨Nat.le_of_ble_eq_true rfl, Nat.le_of_ble_eq_true rfl⟩) hP hD hS hA [] [] rfl rfl (by decide) (by decide) (fun _ H locs hP hD hS => ?_)
    have hP : va_P (dC, dI) vwCl [] H := hP
    have hD : va_D A [] := hD
    have hP9 := hP.sub (ws' := []) [] rfl
    have hD9 := hD.sub (ws' := []) [] (by decide) rfl
    exact kr_zret (v := (kChr j0 k0)) hQ hx hb hr hlocks hK hP9 hD9 hS rfl (kChr_nar2 _ _) () rfl d_String_charAt_15
set_option maxHeartbeats 4000000 in
set_option maxRecDepth 100000 in
/-- isEntry(x) -/
theorem c_KitRunner_isEntry (l : Launch) (dC : Nat → ClassId) (dI : Nat → Nat → Nat) (cI cJ cC : ClassId) (σ : kSg) (x0 : Int32) : kC l y_KitRunner_isEntry ws_KitRunner_isEntry (kRm 0 0 0 0) (dC, dI) (kTy cI cJ cC) σ ([]) [.int x0] (kQi (dC, dI) (kTy cI cJ cC) (kb (k_isEntry x0)) (fun _ : Unit => [])) 0 0 := by
  refine kr_met (cc := prog_1_method_14_code) (maxL := 1) (ret := (some .boolean)) (by decide) rfl (Nat.le_of_ble_eq_true rfl) ?_
  intro p e s m args below meth c A Q hQ hx hb hr hml hts hown hlocks hnm hA hP hK hD hSt ls hl
  have hS : va_S A s.heap s.heap [] := va_S.rf
  have hown : s.vm.findClass "KitRunner" = some m.cls := hown
  have hl : lv_has ls 1 [(0, .int x0)] := hl
  have hP : va_P (dC, dI) vwCl [] s.heap := hP
  have hD : va_D A [] := hD
  refine lv_iload_n hx hb d_KitRunner_isEntry_0 rfl (lv_at hl 0 rfl) ?_
  refine lv_if_lt (tgt := 14) hx hb d_KitRunner_isEntry_1 (by decide) (fun c_1 => ?_) (fun c_1 => ?_)
  · skip
    refine lv_iconst (v := 0) hx hb d_KitRunner_isEntry_14 (by decide) ?_
    have hpost : k_isEntry x0 = false := by simp only [k_isEntry, c_1, ↓reduceIte, Bool.false_eq_true, reduceCtorEq]
    have hP9 := hP.sub (ws' := []) [] rfl
    have hD9 := hD.sub (ws' := []) [] (by decide) rfl
    exact kr_zret (v := 0) hQ hx hb hr hlocks hK hP9 hD9 hS (by rw [hpost] <;> rfl) rfl () rfl d_KitRunner_isEntry_15
  · skip
    refine lv_iload_n hx hb d_KitRunner_isEntry_4 rfl (lv_at hl 0 rfl) ?_
    refine lv_bipush (v := 16) hx hb d_KitRunner_isEntry_5 (by decide) ?_
    refine lv_icmp_ge (tgt := 14) hx hb d_KitRunner_isEntry_7 (by decide) (fun c_2 => ?_) (fun c_2 => ?_)
    · skip
      refine lv_iconst (v := 0) hx hb d_KitRunner_isEntry_14 (by decide) ?_
      have hpost : k_isEntry x0 = false := by simp only [k_isEntry, c_1, c_2, ↓reduceIte, Bool.false_eq_true, reduceCtorEq]
      have hP9 := hP.sub (ws' := []) [] rfl
      have hD9 := hD.sub (ws' := []) [] (by decide) rfl
      exact kr_zret (v := 0) hQ hx hb hr hlocks hK hP9 hD9 hS (by rw [hpost] <;> rfl) rfl () rfl d_KitRunner_isEntry_15
    · skip
      refine lv_iconst (v := 1) hx hb d_KitRunner_isEntry_10 (by decide) ?_
      refine lv_goto (tgt := 15) hx hb d_KitRunner_isEntry_11 (by decide) ?_
      have hpost : k_isEntry x0 = true := by simp only [k_isEntry, c_1, c_2, ↓reduceIte, Bool.false_eq_true, reduceCtorEq]
      have hP9 := hP.sub (ws' := []) [] rfl
      have hD9 := hD.sub (ws' := []) [] (by decide) rfl
      exact kr_zret (v := 1) hQ hx hb hr hlocks hK hP9 hD9 hS (by rw [hpost] <;> rfl) rfl () rfl d_KitRunner_isEntry_15
set_option maxHeartbeats 4000000 in
set_option maxRecDepth 100000 in
/-- isTrouble(f) -/
theorem c_KitRunner_isTrouble (l : Launch) (dC : Nat → ClassId) (dI : Nat → Nat → Nat) (cI cJ cC : ClassId) (σ : kSg) (f0 : Int64) : kC l y_KitRunner_isTrouble ws_KitRunner_isTrouble (kRm 0 0 0 0) (dC, dI) (kTy cI cJ cC) σ ([]) [.long f0] (kQi (dC, dI) (kTy cI cJ cC) (kb (k_isTr f0)) (fun _ : Unit => [])) 0 0 := by
  refine kr_met (cc := prog_1_method_15_code) (maxL := 2) (ret := (some .boolean)) (by decide) rfl (Nat.le_of_ble_eq_true rfl) ?_
  intro p e s m args below meth c A Q hQ hx hb hr hml hts hown hlocks hnm hA hP hK hD hSt ls hl
  have hS : va_S A s.heap s.heap [] := va_S.rf
  have hown : s.vm.findClass "KitRunner" = some m.cls := hown
  have hl : lv_has ls 2 [(0, .long f0)] := hl
  have hP : va_P (dC, dI) vwCl [] s.heap := hP
  have hD : va_D A [] := hD
  have hk_184 := hts _ (List.mem_cons_of_mem _ wq_342)
  refine lv_lload_n hx hb d_KitRunner_isTrouble_0 rfl (lv_at hl 0 rfl) ?_
  refine lv_ldc2 (v := 10000000000) hx hb hown hk_184 d_KitRunner_isTrouble_1 ?_
  refine W.lcmp hx hb d_KitRunner_isTrouble_4 ?_
  refine lv_if_lt (tgt := 12) hx hb d_KitRunner_isTrouble_5 (by decide) (fun c_1 => ?_) (fun c_1 => ?_)
  · skip
    have c_1 : f0 < (10000000000 : Int64) := (lg_cmp_lt f0 (10000000000 : Int64)).mp c_1
    refine lv_iconst (v := 0) hx hb d_KitRunner_isTrouble_12 (by decide) ?_
    have hpost : k_isTr f0 = false := by simp only [k_isTr, c_1, ↓reduceIte, Bool.false_eq_true, reduceCtorEq]
    have hP9 := hP.sub (ws' := []) [] rfl
    have hD9 := hD.sub (ws' := []) [] (by decide) rfl
    exact kr_zret (v := 0) hQ hx hb hr hlocks hK hP9 hD9 hS (by rw [hpost] <;> rfl) rfl () rfl d_KitRunner_isTrouble_13
  · skip
    have c_1 : ¬ f0 < (10000000000 : Int64) := fun h9 => c_1 ((lg_cmp_lt f0 (10000000000 : Int64)).mpr h9)
    refine lv_iconst (v := 1) hx hb d_KitRunner_isTrouble_8 (by decide) ?_
    refine lv_goto (tgt := 13) hx hb d_KitRunner_isTrouble_9 (by decide) ?_
    have hpost : k_isTr f0 = true := by simp only [k_isTr, c_1, ↓reduceIte, Bool.false_eq_true, reduceCtorEq]
    have hP9 := hP.sub (ws' := []) [] rfl
    have hD9 := hD.sub (ws' := []) [] (by decide) rfl
    exact kr_zret (v := 1) hQ hx hb hr hlocks hK hP9 hD9 hS (by rw [hpost] <;> rfl) rfl () rfl d_KitRunner_isTrouble_13
set_option maxHeartbeats 4000000 in
set_option maxRecDepth 100000 in
/-- latticeSize(bound) -/
theorem c_KitRunner_latticeSize (l : Launch) (dC : Nat → ClassId) (dI : Nat → Nat → Nat) (cI cJ cC : ClassId) (σ : kSg) (x0 : Int32) : kC l y_KitRunner_latticeSize ws_KitRunner_latticeSize (kRm 0 0 0 0) (dC, dI) (kTy cI cJ cC) σ ([]) [.int x0] (kQi (dC, dI) (kTy cI cJ cC) (nI (k_lsz x0)) (fun _ : Unit => [])) 0 0 := by
  refine kr_met (cc := prog_1_method_16_code) (maxL := 1) (ret := (some .int)) (by decide) rfl (Nat.le_of_ble_eq_true rfl) ?_
  intro p e s m args below meth c A Q hQ hx hb hr hml hts hown hlocks hnm hA hP hK hD hSt ls hl
  have hS : va_S A s.heap s.heap [] := va_S.rf
  have hown : s.vm.findClass "KitRunner" = some m.cls := hown
  have hl : lv_has ls 1 [(0, .int x0)] := hl
  have hP : va_P (dC, dI) vwCl [] s.heap := hP
  have hD : va_D A [] := hD
  refine lv_iload_n hx hb d_KitRunner_latticeSize_0 rfl (lv_at hl 0 rfl) ?_
  refine lv_iconst (v := 1) hx hb d_KitRunner_latticeSize_1 (by decide) ?_
  refine lv_icmp_ne (tgt := 9) hx hb d_KitRunner_latticeSize_2 (by decide) (fun c_1 => ?_) (fun c_1 => ?_)
  · skip
    refine lv_iload_n hx hb d_KitRunner_latticeSize_9 rfl (lv_at hl 0 rfl) ?_
    refine lv_iconst (v := 2) hx hb d_KitRunner_latticeSize_10 (by decide) ?_
    refine lv_icmp_ne (tgt := 19) hx hb d_KitRunner_latticeSize_11 (by decide) (fun c_2 => ?_) (fun c_2 => ?_)
    · skip
      refine lv_bipush (v := 12) hx hb d_KitRunner_latticeSize_19 (by decide) ?_
      have hpost : k_lsz x0 = 12 := by simp only [k_lsz, c_1, c_2, ↓reduceIte, Bool.false_eq_true, reduceCtorEq]
      have hP9 := hP.sub (ws' := []) [] rfl
      have hD9 := hD.sub (ws' := []) [] (by decide) rfl
      exact kr_iret (v := 12) hQ hx hb hr hlocks hK hP9 hD9 hS (by rw [hpost] <;> rfl) () rfl d_KitRunner_latticeSize_21
    · skip
      refine lv_bipush (v := 6) hx hb d_KitRunner_latticeSize_14 (by decide) ?_
      refine lv_goto (tgt := 21) hx hb d_KitRunner_latticeSize_16 (by decide) ?_
      have hpost : k_lsz x0 = 6 := by simp only [k_lsz, c_1, c_2, ↓reduceIte, Bool.false_eq_true, reduceCtorEq]
      have hP9 := hP.sub (ws' := []) [] rfl
      have hD9 := hD.sub (ws' := []) [] (by decide) rfl
      exact kr_iret (v := 6) hQ hx hb hr hlocks hK hP9 hD9 hS (by rw [hpost] <;> rfl) () rfl d_KitRunner_latticeSize_21
  · skip
    refine lv_iconst (v := 3) hx hb d_KitRunner_latticeSize_5 (by decide) ?_
    refine lv_goto (tgt := 21) hx hb d_KitRunner_latticeSize_6 (by decide) ?_
    have hpost : k_lsz x0 = 3 := by simp only [k_lsz, c_1, ↓reduceIte, Bool.false_eq_true, reduceCtorEq]
    have hP9 := hP.sub (ws' := []) [] rfl
    have hD9 := hD.sub (ws' := []) [] (by decide) rfl
    exact kr_iret (v := 3) hQ hx hb hr hlocks hK hP9 hD9 hS (by rw [hpost] <;> rfl) () rfl d_KitRunner_latticeSize_21
set_option maxHeartbeats 4000000 in
set_option maxRecDepth 100000 in
theorem c_EntryPoints_sizeOf (l : Launch) (dC : Nat → ClassId) (dI : Nat → Nat → Nat) (cI cJ cC : ClassId) (σ : kSg) (a0 : Int32) : kC l y_K_EntryPoints_sizeOf ws_K_EntryPoints_sizeOf (kRm 0 0 0 0) (dC, dI) (kTy cI cJ cC) σ ([]) [.int a0] (kQl (dC, dI) (kTy cI cJ cC) (k_size a0) (fun _ : Unit => [])) 0 0 := by
  refine kr_met (cc := prog_2_method_4_code) (maxL := 1) (ret := (some .long)) (by decide) rfl (Nat.le_of_ble_eq_true rfl) ?_
  intro p e s m args below meth c A Q hQ hx hb hr hml hts hown hlocks hnm hA hP hK hD hSt ls hl
  have hS : va_S A s.heap s.heap [] := va_S.rf
  have hown : s.vm.findClass "KitRunner$EntryPoints" = some m.cls := hown
  have hl : lv_has ls 1 [(0, .int a0)] := hl
  have hP : va_P (dC, dI) vwCl [] s.heap := hP
  have hD : va_D A [] := hD
  have hk_81 := hts _ (List.mem_cons_of_mem _ wq_329)
  have hk_79 := hts _ (List.mem_cons_of_mem _ wq_328)
  refine lv_iload_n hx hb d_K_EntryPoints_sizeOf_0 rfl (lv_at hl 0 rfl) ?_
  refine lv_if_ge (tgt := 8) hx hb d_K_EntryPoints_sizeOf_1 (by decide) (fun c_1 => ?_) (fun c_1 => ?_)
  · skip
    refine lv_iload_n hx hb d_K_EntryPoints_sizeOf_8 rfl (lv_at hl 0 rfl) ?_
    refine lv_bipush (v := 64) hx hb d_K_EntryPoints_sizeOf_9 (by decide) ?_
    refine lv_icmp_le (tgt := 20) hx hb d_K_EntryPoints_sizeOf_11 (by decide) (fun c_2 => ?_) (fun c_2 => ?_)
    · skip
      refine lv_iload_n hx hb d_K_EntryPoints_sizeOf_20 rfl (lv_at hl 0 rfl) ?_
      refine lv_i2l hx hb d_K_EntryPoints_sizeOf_21 rfl ?_
      have hpost : k_size a0 = a0.toInt64 := by simp only [k_size, c_1, c_2, ↓reduceIte, Bool.false_eq_true, reduceCtorEq]
      have hP9 := hP.sub (ws' := []) [] rfl
      have hD9 := hD.sub (ws' := []) [] (by decide) rfl
      exact kr_lret (v := a0.toInt64) hQ hx hb hr hlocks hK hP9 hD9 hS (by rw [hpost] <;> rfl) () rfl d_K_EntryPoints_sizeOf_22
    · skip
      refine lv_ldc2 (v := 64) hx hb hown hk_81 d_K_EntryPoints_sizeOf_14 ?_
      refine lv_goto (tgt := 22) hx hb d_K_EntryPoints_sizeOf_17 (by decide) ?_
      have hpost : k_size a0 = 64 := by simp only [k_size, c_1, c_2, ↓reduceIte, Bool.false_eq_true, reduceCtorEq]
      have hP9 := hP.sub (ws' := []) [] rfl
      have hD9 := hD.sub (ws' := []) [] (by decide) rfl
      exact kr_lret (v := 64) hQ hx hb hr hlocks hK hP9 hD9 hS (by rw [hpost] <;> rfl) () rfl d_K_EntryPoints_sizeOf_22
  · skip
    refine lv_ldc2 (v := 30000000000) hx hb hown hk_79 d_K_EntryPoints_sizeOf_4 ?_
    have hpost : k_size a0 = 30000000000 := by simp only [k_size, c_1, ↓reduceIte, Bool.false_eq_true, reduceCtorEq]
    have hP9 := hP.sub (ws' := []) [] rfl
    have hD9 := hD.sub (ws' := []) [] (by decide) rfl
    exact kr_lret (v := 30000000000) hQ hx hb hr hlocks hK hP9 hD9 hS (by rw [hpost] <;> rfl) () rfl d_K_EntryPoints_sizeOf_7
set_option maxHeartbeats 4000000 in
set_option maxRecDepth 100000 in
theorem c_Machine_changed (l : Launch) (dC : Nat → ClassId) (dI : Nat → Nat → Nat) (cI cJ cC : ClassId) (σ : kSg) (so0 : Int32) (n0 : Int32) (f0 : Int64) : kC l y_K_Machine_changed ws_K_Machine_changed (kRm 0 0 0 0) (dC, dI) (kTy cI cJ cC) σ ([]) [.int so0, .int n0, .long f0] (kQl (dC, dI) (kTy cI cJ cC) (k_chg so0 n0 f0) (fun _ : Unit => [])) 0 0 := by
  refine kr_met (cc := prog_5_method_8_code) (maxL := 4) (ret := (some .long)) (by decide) rfl (Nat.le_of_ble_eq_true rfl) ?_
  intro p e s m args below meth c A Q hQ hx hb hr hml hts hown hlocks hnm hA hP hK hD hSt ls hl
  have hS : va_S A s.heap s.heap [] := va_S.rf
  have hown : s.vm.findClass "KitRunner$Machine" = some m.cls := hown
  have hl : lv_has ls 4 [(0, .int so0), (1, .int n0), (2, .long f0)] := hl
  have hP : va_P (dC, dI) vwCl [] s.heap := hP
  have hD : va_D A [] := hD
  have hk_51 := hts _ (List.mem_cons_of_mem _ wq_346)
  have hk_53 := hts _ (List.mem_cons_of_mem _ wq_347)
  have hk_55 := hts _ (List.mem_cons_of_mem _ wq_348)
  refine lv_iload_n hx hb d_K_Machine_changed_0 rfl (lv_at hl 0 rfl) ?_
  rcases ks_3 so0 with c_1 | c_1 | c_1 | c_1 | c_1
  · skip
    refine lv_tableIn (tgt := 32) hx hb d_K_Machine_changed_1 (by rw [c_1]; decide) (by rw [c_1]; decide) (by rw [c_1]; rfl) (by decide) ?_
    refine lv_lload_n hx hb d_K_Machine_changed_32 rfl (lv_at hl 2 rfl) ?_
    refine lv_l2i hx hb d_K_Machine_changed_33 rfl ?_
    refine lv_iconst (v := 1) hx hb d_K_Machine_changed_34 (by decide) ?_
    refine lv_iadd hx hb d_K_Machine_changed_35 ?_
    refine lv_i2l hx hb d_K_Machine_changed_36 rfl ?_
    have hpost : k_chg so0 n0 f0 = (f0.toInt32 + 1).toInt64 := by simp only [k_chg, c_1, ↓reduceIte, Bool.false_eq_true, reduceCtorEq]
    have hP9 := hP.sub (ws' := []) [] rfl
    have hD9 := hD.sub (ws' := []) [] (by decide) rfl
    exact kr_lret (v := (f0.toInt32 + 1).toInt64) hQ hx hb hr hlocks hK hP9 hD9 hS (by rw [hpost] <;> rfl) () rfl d_K_Machine_changed_37
  · skip
    refine lv_tableIn (tgt := 38) hx hb d_K_Machine_changed_1 (by rw [c_1]; decide) (by rw [c_1]; decide) (by rw [c_1]; rfl) (by decide) ?_
    refine lv_ldc2 (v := 10000000000) hx hb hown hk_51 d_K_Machine_changed_38 ?_
    have hpost : k_chg so0 n0 f0 = 10000000000 := by simp only [k_chg, c_1, ↓reduceIte, Bool.false_eq_true, reduceCtorEq]
    have hP9 := hP.sub (ws' := []) [] rfl
    have hD9 := hD.sub (ws' := []) [] (by decide) rfl
    exact kr_lret (v := 10000000000) hQ hx hb hr hlocks hK hP9 hD9 hS (by rw [hpost] <;> rfl) () rfl d_K_Machine_changed_41
  · skip
    refine lv_tableIn (tgt := 42) hx hb d_K_Machine_changed_1 (by rw [c_1]; decide) (by rw [c_1]; decide) (by rw [c_1]; rfl) (by decide) ?_
    refine lv_iload_n hx hb d_K_Machine_changed_42 rfl (lv_at hl 1 rfl) ?_
    refine lv_i2l hx hb d_K_Machine_changed_43 rfl ?_
    have hpost : k_chg so0 n0 f0 = n0.toInt64 := by simp only [k_chg, c_1, ↓reduceIte, Bool.false_eq_true, reduceCtorEq]
    have hP9 := hP.sub (ws' := []) [] rfl
    have hD9 := hD.sub (ws' := []) [] (by decide) rfl
    exact kr_lret (v := n0.toInt64) hQ hx hb hr hlocks hK hP9 hD9 hS (by rw [hpost] <;> rfl) () rfl d_K_Machine_changed_44
  · skip
    refine lv_tableIn (tgt := 45) hx hb d_K_Machine_changed_1 (by rw [c_1]; decide) (by rw [c_1]; decide) (by rw [c_1]; rfl) (by decide) ?_
    refine lv_lload_n hx hb d_K_Machine_changed_45 rfl (lv_at hl 2 rfl) ?_
    refine lv_ldc2 (v := 50000000000) hx hb hown hk_53 d_K_Machine_changed_46 ?_
    refine W.lcmp hx hb d_K_Machine_changed_49 ?_
    refine lv_if_ne (tgt := 59) hx hb d_K_Machine_changed_50 (by decide) (fun c_2 => ?_) (fun c_2 => ?_)
    · skip
      have c_2 : ¬ f0 = (50000000000 : Int64) := fun h9 => c_2 ((lg_cmp_eq f0 (50000000000 : Int64)).mpr h9)
      refine lv_ldc2 (v := 50000000000) hx hb hown hk_53 d_K_Machine_changed_59 ?_
      have hpost : k_chg so0 n0 f0 = 50000000000 := by simp only [k_chg, c_1, c_2, ↓reduceIte, Bool.false_eq_true, reduceCtorEq]
      have hP9 := hP.sub (ws' := []) [] rfl
      have hD9 := hD.sub (ws' := []) [] (by decide) rfl
      exact kr_lret (v := 50000000000) hQ hx hb hr hlocks hK hP9 hD9 hS (by rw [hpost] <;> rfl) () rfl d_K_Machine_changed_62
    · skip
      have c_2 : f0 = (50000000000 : Int64) := (lg_cmp_eq f0 (50000000000 : Int64)).mp c_2
      refine lv_ldc2 (v := 40000000000) hx hb hown hk_55 d_K_Machine_changed_53 ?_
      refine lv_goto (tgt := 62) hx hb d_K_Machine_changed_56 (by decide) ?_
      have hpost : k_chg so0 n0 f0 = 40000000000 := by simp only [k_chg, c_1, c_2, ↓reduceIte, Bool.false_eq_true, reduceCtorEq]
      have hP9 := hP.sub (ws' := []) [] rfl
      have hD9 := hD.sub (ws' := []) [] (by decide) rfl
      exact kr_lret (v := 40000000000) hQ hx hb hr hlocks hK hP9 hD9 hS (by rw [hpost] <;> rfl) () rfl d_K_Machine_changed_62
  · skip
    refine lv_tableOut (tgt := 63) hx hb d_K_Machine_changed_1 c_1 (by decide) ?_
    have c_1 := kn_3 c_1
    refine lv_lload_n hx hb d_K_Machine_changed_63 rfl (lv_at hl 2 rfl) ?_
    refine lv_lconst (v := 1) hx hb d_K_Machine_changed_64 (by decide) ?_
    refine lv_lxor hx hb d_K_Machine_changed_65 ?_
    have hpost : k_chg so0 n0 f0 = f0 ^^^ 1 := by simp only [k_chg, c_1.1, c_1.2.1, c_1.2.2.1, c_1.2.2.2, ↓reduceIte, Bool.false_eq_true, reduceCtorEq]
    have hP9 := hP.sub (ws' := []) [] rfl
    have hD9 := hD.sub (ws' := []) [] (by decide) rfl
    exact kr_lret (v := (f0 ^^^ 1)) hQ hx hb hr hlocks hK hP9 hD9 hS (by rw [hpost] <;> rfl) () rfl d_K_Machine_changed_66
end
