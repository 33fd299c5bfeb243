/-! NAMES: the tables as one list of words (those that a callee may be given), the words by their places, methods, fields. Written by a program (wip/gen/real.py). -/
def wG : List Cond := lw_tbl.filter goodWord
theorem wG_tbl {w : Cond} (h : w ∈ wG) : w ∈ lw_tbl := (List.mem_filter.mp h).1
theorem wG_of (i : Nat) {w : Cond} (h : tables_1[i]? = some w) (hg : goodWord w = true) : w ∈ wG := List.mem_filter.mpr ⟨List.mem_append_right _ (List.mem_of_getElem? h), hg⟩
theorem wG_sel (i : Nat) {w : Cond} (h : (k2_sels lw_privs)[i]? = some w) (hg : goodWord w = true) : w ∈ wG := List.mem_filter.mpr ⟨List.mem_append_left _ (List.mem_of_getElem? h), hg⟩
theorem kg {c0 ck : Cond} (h : ck ∈ wG) : GoodIn (c0 :: wG) (ck :: wG) := fun w hw => by
  rcases List.mem_cons.mp hw with rfl | hw
  · exact ⟨List.mem_cons_of_mem _ h, good_of_word (List.mem_filter.mp h).2⟩
  · exact ⟨List.mem_cons_of_mem _ hw, good_of_word (List.mem_filter.mp hw).2⟩
theorem kgL {ck : Cond} (h : ck ∈ wG) : GoodIn lw_tbl (ck :: wG) := fun w hw => by
  rcases List.mem_cons.mp hw with rfl | hw
  · exact ⟨wG_tbl h, good_of_word (List.mem_filter.mp h).2⟩
  · exact ⟨wG_tbl hw, good_of_word (List.mem_filter.mp hw).2⟩
theorem wq_1 : (Jvm.Cond.initialized "KitRunner") ∈ wG := wG_of 1 (by decide +kernel) (by decide +kernel)
theorem wq_2 : (Jvm.Cond.initialized "KitRunner$Machine") ∈ wG := wG_of 2 (by decide +kernel) (by decide +kernel)
theorem wq_3 : (Jvm.Cond.initialized "KitRunner$Exclusions") ∈ wG := wG_of 3 (by decide +kernel) (by decide +kernel)
theorem wq_4 : (Jvm.Cond.initialized "KitRunner$PairBook") ∈ wG := wG_of 4 (by decide +kernel) (by decide +kernel)
theorem wq_5 : (Jvm.Cond.initialized "KitRunner$Tally") ∈ wG := wG_of 5 (by decide +kernel) (by decide +kernel)
theorem wq_6 : (Jvm.Cond.initialized "KitRunner$FailureList") ∈ wG := wG_of 6 (by decide +kernel) (by decide +kernel)
theorem wq_7 : (Jvm.Cond.initialized "KitRunner$Report") ∈ wG := wG_of 7 (by decide +kernel) (by decide +kernel)
theorem wq_8 : (Jvm.Cond.initialized "KitRunner$Shrinker") ∈ wG := wG_of 8 (by decide +kernel) (by decide +kernel)
theorem wq_9 : (Jvm.Cond.initialized "KitRunnerModel") ∈ wG := wG_of 9 (by decide +kernel) (by decide +kernel)
theorem wq_10 : (Jvm.Cond.initialized "KitRunner$EntryPoints") ∈ wG := wG_of 10 (by decide +kernel) (by decide +kernel)
theorem wq_11 : (Jvm.Cond.initialized "java/lang/String") ∈ wG := wG_of 11 (by decide +kernel) (by decide +kernel)
theorem wq_12 : (Jvm.Cond.initialized "java/lang/StringLatin1") ∈ wG := wG_of 12 (by decide +kernel) (by decide +kernel)
theorem wq_13 : (Jvm.Cond.initialized "jdk/internal/util/Preconditions") ∈ wG := wG_of 13 (by decide +kernel) (by decide +kernel)
theorem wq_15 : (Jvm.Cond.initialized "java/lang/Integer") ∈ wG := wG_of 15 (by decide +kernel) (by decide +kernel)
theorem wq_16 : (Jvm.Cond.initialized "java/util/Arrays") ∈ wG := wG_of 16 (by decide +kernel) (by decide +kernel)
theorem wq_22 : (Jvm.Cond.methodLink "KitRunner" (1 : Nat) ({ cls := "java/lang/Object", name := "<init>", desc := "()V" } : Jvm.MethodName)) ∈ wG := wG_of 22 (by decide +kernel) (by decide +kernel)
theorem wq_23 : (Jvm.Cond.instanceMethod ({ cls := "java/lang/Object", name := "<init>", desc := "()V" } : Jvm.MethodName)) ∈ wG := wG_of 23 (by decide +kernel) (by decide +kernel)
theorem wq_24 : (Jvm.Cond.code ({ cls := "java/lang/Object", name := "<init>", desc := "()V" } : Jvm.MethodName) object_method_1_code (1 : Nat) (Option.none : Option Jvm.ClassFile.FieldType)) ∈ wG := wG_of 24 (by decide +kernel) (by decide +kernel)
theorem wq_25 : (Jvm.Cond.classLink "KitRunner" (7 : Nat) "KitRunner$Machine") ∈ wG := wG_of 25 (by decide +kernel) (by decide +kernel)
theorem wq_26 : (Jvm.Cond.instantiable "KitRunner$Machine" (4 : Nat)) ∈ wG := wG_of 26 (by decide +kernel) (by decide +kernel)
theorem wq_27 : (Jvm.Cond.methodLink "KitRunner" (9 : Nat) ({ cls := "KitRunner$Machine", name := "<init>", desc := "()V" } : Jvm.MethodName)) ∈ wG := wG_of 27 (by decide +kernel) (by decide +kernel)
theorem wq_28 : (Jvm.Cond.instanceMethod ({ cls := "KitRunner$Machine", name := "<init>", desc := "()V" } : Jvm.MethodName)) ∈ wG := wG_of 28 (by decide +kernel) (by decide +kernel)
theorem wq_29 : (Jvm.Cond.code ({ cls := "KitRunner$Machine", name := "<init>", desc := "()V" } : Jvm.MethodName) prog_5_method_1_code (1 : Nat) (Option.none : Option Jvm.ClassFile.FieldType)) ∈ wG := wG_of 29 (by decide +kernel) (by decide +kernel)
theorem wq_30 : (Jvm.Cond.methodLink "KitRunner$Machine" (3 : Nat) ({ cls := "java/lang/Object", name := "<init>", desc := "()V" } : Jvm.MethodName)) ∈ wG := wG_of 30 (by decide +kernel) (by decide +kernel)
theorem wq_31 : (Jvm.Cond.fieldLink "KitRunner$Machine" (9 : Nat) "KitRunner$Machine" "entries" "[I") ∈ wG := wG_of 31 (by decide +kernel) (by decide +kernel)
theorem wq_32 : (Jvm.Cond.fieldLink "KitRunner$Machine" (15 : Nat) "KitRunner$Machine" "sorts" "[I") ∈ wG := wG_of 32 (by decide +kernel) (by decide +kernel)
theorem wq_33 : (Jvm.Cond.fieldLink "KitRunner$Machine" (18 : Nat) "KitRunner$Machine" "numbers" "[I") ∈ wG := wG_of 33 (by decide +kernel) (by decide +kernel)
theorem wq_34 : (Jvm.Cond.fieldLink "KitRunner$Machine" (21 : Nat) "KitRunner$Machine" "held" "I") ∈ wG := wG_of 34 (by decide +kernel) (by decide +kernel)
theorem wq_44 : (Jvm.Cond.arrayClass Jvm.ClassFile.FieldType.int) ∈ wG := wG_of 44 (by decide +kernel) (by decide +kernel)
theorem wq_45 : (Jvm.Cond.classLink "KitRunner" (16 : Nat) "KitRunner$Exclusions") ∈ wG := wG_of 45 (by decide +kernel) (by decide +kernel)
theorem wq_46 : (Jvm.Cond.instantiable "KitRunner$Exclusions" (3 : Nat)) ∈ wG := wG_of 46 (by decide +kernel) (by decide +kernel)
theorem wq_47 : (Jvm.Cond.methodLink "KitRunner" (18 : Nat) ({ cls := "KitRunner$Exclusions", name := "<init>", desc := "()V" } : Jvm.MethodName)) ∈ wG := wG_of 47 (by decide +kernel) (by decide +kernel)
theorem wq_48 : (Jvm.Cond.instanceMethod ({ cls := "KitRunner$Exclusions", name := "<init>", desc := "()V" } : Jvm.MethodName)) ∈ wG := wG_of 48 (by decide +kernel) (by decide +kernel)
theorem wq_49 : (Jvm.Cond.code ({ cls := "KitRunner$Exclusions", name := "<init>", desc := "()V" } : Jvm.MethodName) prog_3_method_1_code (1 : Nat) (Option.none : Option Jvm.ClassFile.FieldType)) ∈ wG := wG_of 49 (by decide +kernel) (by decide +kernel)
theorem wq_50 : (Jvm.Cond.methodLink "KitRunner$Exclusions" (3 : Nat) ({ cls := "java/lang/Object", name := "<init>", desc := "()V" } : Jvm.MethodName)) ∈ wG := wG_of 50 (by decide +kernel) (by decide +kernel)
theorem wq_51 : (Jvm.Cond.fieldLink "KitRunner$Exclusions" (9 : Nat) "KitRunner$Exclusions" "entries" "[I") ∈ wG := wG_of 51 (by decide +kernel) (by decide +kernel)
theorem wq_52 : (Jvm.Cond.fieldLink "KitRunner$Exclusions" (15 : Nat) "KitRunner$Exclusions" "numbers" "[I") ∈ wG := wG_of 52 (by decide +kernel) (by decide +kernel)
theorem wq_53 : (Jvm.Cond.fieldLink "KitRunner$Exclusions" (18 : Nat) "KitRunner$Exclusions" "held" "I") ∈ wG := wG_of 53 (by decide +kernel) (by decide +kernel)
theorem wq_61 : (Jvm.Cond.classLink "KitRunner" (23 : Nat) "KitRunner$PairBook") ∈ wG := wG_of 61 (by decide +kernel) (by decide +kernel)
theorem wq_62 : (Jvm.Cond.instantiable "KitRunner$PairBook" (4 : Nat)) ∈ wG := wG_of 62 (by decide +kernel) (by decide +kernel)
theorem wq_63 : (Jvm.Cond.methodLink "KitRunner" (25 : Nat) ({ cls := "KitRunner$PairBook", name := "<init>", desc := "()V" } : Jvm.MethodName)) ∈ wG := wG_of 63 (by decide +kernel) (by decide +kernel)
theorem wq_64 : (Jvm.Cond.instanceMethod ({ cls := "KitRunner$PairBook", name := "<init>", desc := "()V" } : Jvm.MethodName)) ∈ wG := wG_of 64 (by decide +kernel) (by decide +kernel)
theorem wq_65 : (Jvm.Cond.code ({ cls := "KitRunner$PairBook", name := "<init>", desc := "()V" } : Jvm.MethodName) prog_6_method_1_code (1 : Nat) (Option.none : Option Jvm.ClassFile.FieldType)) ∈ wG := wG_of 65 (by decide +kernel) (by decide +kernel)
theorem wq_66 : (Jvm.Cond.methodLink "KitRunner$PairBook" (3 : Nat) ({ cls := "java/lang/Object", name := "<init>", desc := "()V" } : Jvm.MethodName)) ∈ wG := wG_of 66 (by decide +kernel) (by decide +kernel)
theorem wq_67 : (Jvm.Cond.fieldLink "KitRunner$PairBook" (9 : Nat) "KitRunner$PairBook" "entryWithA" "[I") ∈ wG := wG_of 67 (by decide +kernel) (by decide +kernel)
theorem wq_68 : (Jvm.Cond.fieldLink "KitRunner$PairBook" (15 : Nat) "KitRunner$PairBook" "entryWithB" "[I") ∈ wG := wG_of 68 (by decide +kernel) (by decide +kernel)
theorem wq_69 : (Jvm.Cond.fieldLink "KitRunner$PairBook" (18 : Nat) "KitRunner$PairBook" "aWithB" "[I") ∈ wG := wG_of 69 (by decide +kernel) (by decide +kernel)
theorem wq_70 : (Jvm.Cond.fieldLink "KitRunner$PairBook" (21 : Nat) "KitRunner$PairBook" "held" "I") ∈ wG := wG_of 70 (by decide +kernel) (by decide +kernel)
theorem wq_80 : (Jvm.Cond.classLink "KitRunner" (30 : Nat) "KitRunner$Tally") ∈ wG := wG_of 80 (by decide +kernel) (by decide +kernel)
theorem wq_81 : (Jvm.Cond.instantiable "KitRunner$Tally" (4 : Nat)) ∈ wG := wG_of 81 (by decide +kernel) (by decide +kernel)
theorem wq_82 : (Jvm.Cond.methodLink "KitRunner" (32 : Nat) ({ cls := "KitRunner$Tally", name := "<init>", desc := "()V" } : Jvm.MethodName)) ∈ wG := wG_of 82 (by decide +kernel) (by decide +kernel)
theorem wq_83 : (Jvm.Cond.instanceMethod ({ cls := "KitRunner$Tally", name := "<init>", desc := "()V" } : Jvm.MethodName)) ∈ wG := wG_of 83 (by decide +kernel) (by decide +kernel)
theorem wq_84 : (Jvm.Cond.code ({ cls := "KitRunner$Tally", name := "<init>", desc := "()V" } : Jvm.MethodName) prog_9_method_1_code (1 : Nat) (Option.none : Option Jvm.ClassFile.FieldType)) ∈ wG := wG_of 84 (by decide +kernel) (by decide +kernel)
theorem wq_85 : (Jvm.Cond.methodLink "KitRunner$Tally" (3 : Nat) ({ cls := "java/lang/Object", name := "<init>", desc := "()V" } : Jvm.MethodName)) ∈ wG := wG_of 85 (by decide +kernel) (by decide +kernel)
theorem wq_86 : (Jvm.Cond.fieldLink "KitRunner$Tally" (9 : Nat) "KitRunner$Tally" "taken" "[I") ∈ wG := wG_of 86 (by decide +kernel) (by decide +kernel)
theorem wq_87 : (Jvm.Cond.fieldLink "KitRunner$Tally" (15 : Nat) "KitRunner$Tally" "failed" "[I") ∈ wG := wG_of 87 (by decide +kernel) (by decide +kernel)
theorem wq_88 : (Jvm.Cond.fieldLink "KitRunner$Tally" (18 : Nat) "KitRunner$Tally" "marks" "[I") ∈ wG := wG_of 88 (by decide +kernel) (by decide +kernel)
theorem wq_89 : (Jvm.Cond.fieldLink "KitRunner$Tally" (21 : Nat) "KitRunner$Tally" "leftOut" "I") ∈ wG := wG_of 89 (by decide +kernel) (by decide +kernel)
theorem wq_99 : (Jvm.Cond.classLink "KitRunner" (37 : Nat) "KitRunner$FailureList") ∈ wG := wG_of 99 (by decide +kernel) (by decide +kernel)
theorem wq_100 : (Jvm.Cond.instantiable "KitRunner$FailureList" (6 : Nat)) ∈ wG := wG_of 100 (by decide +kernel) (by decide +kernel)
theorem wq_101 : (Jvm.Cond.methodLink "KitRunner" (39 : Nat) ({ cls := "KitRunner$FailureList", name := "<init>", desc := "()V" } : Jvm.MethodName)) ∈ wG := wG_of 101 (by decide +kernel) (by decide +kernel)
theorem wq_102 : (Jvm.Cond.instanceMethod ({ cls := "KitRunner$FailureList", name := "<init>", desc := "()V" } : Jvm.MethodName)) ∈ wG := wG_of 102 (by decide +kernel) (by decide +kernel)
theorem wq_103 : (Jvm.Cond.code ({ cls := "KitRunner$FailureList", name := "<init>", desc := "()V" } : Jvm.MethodName) prog_4_method_1_code (1 : Nat) (Option.none : Option Jvm.ClassFile.FieldType)) ∈ wG := wG_of 103 (by decide +kernel) (by decide +kernel)
theorem wq_104 : (Jvm.Cond.methodLink "KitRunner$FailureList" (3 : Nat) ({ cls := "java/lang/Object", name := "<init>", desc := "()V" } : Jvm.MethodName)) ∈ wG := wG_of 104 (by decide +kernel) (by decide +kernel)
theorem wq_105 : (Jvm.Cond.fieldLink "KitRunner$FailureList" (9 : Nat) "KitRunner$FailureList" "entries" "[I") ∈ wG := wG_of 105 (by decide +kernel) (by decide +kernel)
theorem wq_106 : (Jvm.Cond.fieldLink "KitRunner$FailureList" (15 : Nat) "KitRunner$FailureList" "placesOfA" "[I") ∈ wG := wG_of 106 (by decide +kernel) (by decide +kernel)
theorem wq_107 : (Jvm.Cond.fieldLink "KitRunner$FailureList" (18 : Nat) "KitRunner$FailureList" "placesOfB" "[I") ∈ wG := wG_of 107 (by decide +kernel) (by decide +kernel)
theorem wq_108 : (Jvm.Cond.fieldLink "KitRunner$FailureList" (21 : Nat) "KitRunner$FailureList" "foretold" "[J") ∈ wG := wG_of 108 (by decide +kernel) (by decide +kernel)
theorem wq_109 : (Jvm.Cond.fieldLink "KitRunner$FailureList" (25 : Nat) "KitRunner$FailureList" "given" "[J") ∈ wG := wG_of 109 (by decide +kernel) (by decide +kernel)
theorem wq_110 : (Jvm.Cond.fieldLink "KitRunner$FailureList" (28 : Nat) "KitRunner$FailureList" "held" "I") ∈ wG := wG_of 110 (by decide +kernel) (by decide +kernel)
theorem wq_124 : (Jvm.Cond.arrayClass Jvm.ClassFile.FieldType.long) ∈ wG := wG_of 124 (by decide +kernel) (by decide +kernel)
theorem wq_125 : (Jvm.Cond.classLink "KitRunner" (44 : Nat) "KitRunner$Report") ∈ wG := wG_of 125 (by decide +kernel) (by decide +kernel)
theorem wq_126 : (Jvm.Cond.instantiable "KitRunner$Report" (2 : Nat)) ∈ wG := wG_of 126 (by decide +kernel) (by decide +kernel)
theorem wq_127 : (Jvm.Cond.methodLink "KitRunner" (46 : Nat) ({ cls := "KitRunner$Report", name := "<init>", desc := "()V" } : Jvm.MethodName)) ∈ wG := wG_of 127 (by decide +kernel) (by decide +kernel)
theorem wq_128 : (Jvm.Cond.instanceMethod ({ cls := "KitRunner$Report", name := "<init>", desc := "()V" } : Jvm.MethodName)) ∈ wG := wG_of 128 (by decide +kernel) (by decide +kernel)
theorem wq_129 : (Jvm.Cond.code ({ cls := "KitRunner$Report", name := "<init>", desc := "()V" } : Jvm.MethodName) prog_7_method_1_code (1 : Nat) (Option.none : Option Jvm.ClassFile.FieldType)) ∈ wG := wG_of 129 (by decide +kernel) (by decide +kernel)
theorem wq_130 : (Jvm.Cond.methodLink "KitRunner$Report" (3 : Nat) ({ cls := "java/lang/Object", name := "<init>", desc := "()V" } : Jvm.MethodName)) ∈ wG := wG_of 130 (by decide +kernel) (by decide +kernel)
theorem wq_131 : (Jvm.Cond.fieldLink "KitRunner$Report" (9 : Nat) "KitRunner$Report" "text" "[C") ∈ wG := wG_of 131 (by decide +kernel) (by decide +kernel)
theorem wq_132 : (Jvm.Cond.fieldLink "KitRunner$Report" (15 : Nat) "KitRunner$Report" "length" "I") ∈ wG := wG_of 132 (by decide +kernel) (by decide +kernel)
theorem wq_138 : (Jvm.Cond.arrayClass Jvm.ClassFile.FieldType.char) ∈ wG := wG_of 138 (by decide +kernel) (by decide +kernel)
theorem wq_139 : (Jvm.Cond.classLink "KitRunner" (51 : Nat) "KitRunner$Shrinker") ∈ wG := wG_of 139 (by decide +kernel) (by decide +kernel)
theorem wq_140 : (Jvm.Cond.instantiable "KitRunner$Shrinker" (3 : Nat)) ∈ wG := wG_of 140 (by decide +kernel) (by decide +kernel)
theorem wq_141 : (Jvm.Cond.methodLink "KitRunner" (53 : Nat) ({ cls := "KitRunner$Shrinker", name := "<init>", desc := "()V" } : Jvm.MethodName)) ∈ wG := wG_of 141 (by decide +kernel) (by decide +kernel)
theorem wq_142 : (Jvm.Cond.instanceMethod ({ cls := "KitRunner$Shrinker", name := "<init>", desc := "()V" } : Jvm.MethodName)) ∈ wG := wG_of 142 (by decide +kernel) (by decide +kernel)
theorem wq_143 : (Jvm.Cond.code ({ cls := "KitRunner$Shrinker", name := "<init>", desc := "()V" } : Jvm.MethodName) prog_8_method_1_code (1 : Nat) (Option.none : Option Jvm.ClassFile.FieldType)) ∈ wG := wG_of 143 (by decide +kernel) (by decide +kernel)
theorem wq_144 : (Jvm.Cond.methodLink "KitRunner$Shrinker" (3 : Nat) ({ cls := "java/lang/Object", name := "<init>", desc := "()V" } : Jvm.MethodName)) ∈ wG := wG_of 144 (by decide +kernel) (by decide +kernel)
theorem wq_145 : (Jvm.Cond.fieldLink "KitRunner$Shrinker" (9 : Nat) "KitRunner$Shrinker" "placeA" "I") ∈ wG := wG_of 145 (by decide +kernel) (by decide +kernel)
theorem wq_146 : (Jvm.Cond.fieldLink "KitRunner$Shrinker" (15 : Nat) "KitRunner$Shrinker" "placeB" "I") ∈ wG := wG_of 146 (by decide +kernel) (by decide +kernel)
theorem wq_147 : (Jvm.Cond.fieldLink "KitRunner$Shrinker" (18 : Nat) "KitRunner$Shrinker" "steps" "I") ∈ wG := wG_of 147 (by decide +kernel) (by decide +kernel)
theorem wq_155 : (Jvm.Cond.constant "KitRunner" (58 : Nat) (65535 : Int32)) ∈ wG := wG_of 155 (by decide +kernel) (by decide +kernel)
theorem wq_156 : (Jvm.Cond.fieldLink "KitRunner" (10 : Nat) "KitRunner" "machine" "LKitRunner$Machine;") ∈ wG := wG_of 156 (by decide +kernel) (by decide +kernel)
theorem wq_157 : (Jvm.Cond.fieldLink "KitRunner" (19 : Nat) "KitRunner" "exclusions" "LKitRunner$Exclusions;") ∈ wG := wG_of 157 (by decide +kernel) (by decide +kernel)
theorem wq_158 : (Jvm.Cond.fieldLink "KitRunner" (26 : Nat) "KitRunner" "pairBook" "LKitRunner$PairBook;") ∈ wG := wG_of 158 (by decide +kernel) (by decide +kernel)
theorem wq_159 : (Jvm.Cond.fieldLink "KitRunner" (33 : Nat) "KitRunner" "tally" "LKitRunner$Tally;") ∈ wG := wG_of 159 (by decide +kernel) (by decide +kernel)
theorem wq_160 : (Jvm.Cond.fieldLink "KitRunner" (40 : Nat) "KitRunner" "failures" "LKitRunner$FailureList;") ∈ wG := wG_of 160 (by decide +kernel) (by decide +kernel)
theorem wq_161 : (Jvm.Cond.fieldLink "KitRunner" (47 : Nat) "KitRunner" "report" "LKitRunner$Report;") ∈ wG := wG_of 161 (by decide +kernel) (by decide +kernel)
theorem wq_162 : (Jvm.Cond.fieldLink "KitRunner" (54 : Nat) "KitRunner" "shrinker" "LKitRunner$Shrinker;") ∈ wG := wG_of 162 (by decide +kernel) (by decide +kernel)
theorem wq_163 : (Jvm.Cond.fieldLink "KitRunner" (59 : Nat) "KitRunner" "enabled" "I") ∈ wG := wG_of 163 (by decide +kernel) (by decide +kernel)
theorem wq_164 : (Jvm.Cond.fieldLink "KitRunner" (63 : Nat) "KitRunner" "runs" "I") ∈ wG := wG_of 164 (by decide +kernel) (by decide +kernel)
theorem wq_188 : (Jvm.Cond.methodLink "KitRunner" (66 : Nat) ({ cls := "KitRunner", name := "isEntry", desc := "(I)Z" } : Jvm.MethodName)) ∈ wG := wG_of 188 (by decide +kernel) (by decide +kernel)
theorem wq_189 : (Jvm.Cond.static ({ cls := "KitRunner", name := "isEntry", desc := "(I)Z" } : Jvm.MethodName)) ∈ wG := wG_of 189 (by decide +kernel) (by decide +kernel)
theorem wq_190 : (Jvm.Cond.code ({ cls := "KitRunner", name := "isEntry", desc := "(I)Z" } : Jvm.MethodName) prog_1_method_14_code (1 : Nat) (Option.some Jvm.ClassFile.FieldType.boolean)) ∈ wG := wG_of 190 (by decide +kernel) (by decide +kernel)
theorem wq_191 : (Jvm.Cond.methodLink "KitRunner" (70 : Nat) ({ cls := "KitRunner$Machine", name := "addFault", desc := "(III)Z" } : Jvm.MethodName)) ∈ wG := wG_of 191 (by decide +kernel) (by decide +kernel)
theorem wq_192 : (Jvm.Cond.instanceMethod ({ cls := "KitRunner$Machine", name := "addFault", desc := "(III)Z" } : Jvm.MethodName)) ∈ wG := wG_of 192 (by decide +kernel) (by decide +kernel)
theorem wq_193 : (Jvm.Cond.selects "KitRunner$Machine" ({ cls := "KitRunner$Machine", name := "addFault", desc := "(III)Z" } : Jvm.MethodName) ({ cls := "KitRunner$Machine", name := "addFault", desc := "(III)Z" } : Jvm.MethodName)) ∈ wG := wG_of 193 (by decide +kernel) (by decide +kernel)
theorem wq_194 : (Jvm.Cond.code ({ cls := "KitRunner$Machine", name := "addFault", desc := "(III)Z" } : Jvm.MethodName) prog_5_method_2_code (4 : Nat) (Option.some Jvm.ClassFile.FieldType.boolean)) ∈ wG := wG_of 194 (by decide +kernel) (by decide +kernel)
theorem wq_195 : (Jvm.Cond.methodLink "KitRunner" (74 : Nat) ({ cls := "KitRunner$Machine", name := "faultsHeld", desc := "()I" } : Jvm.MethodName)) ∈ wG := wG_of 195 (by decide +kernel) (by decide +kernel)
theorem wq_196 : (Jvm.Cond.instanceMethod ({ cls := "KitRunner$Machine", name := "faultsHeld", desc := "()I" } : Jvm.MethodName)) ∈ wG := wG_of 196 (by decide +kernel) (by decide +kernel)
theorem wq_197 : (Jvm.Cond.selects "KitRunner$Machine" ({ cls := "KitRunner$Machine", name := "faultsHeld", desc := "()I" } : Jvm.MethodName) ({ cls := "KitRunner$Machine", name := "faultsHeld", desc := "()I" } : Jvm.MethodName)) ∈ wG := wG_of 197 (by decide +kernel) (by decide +kernel)
theorem wq_198 : (Jvm.Cond.code ({ cls := "KitRunner$Machine", name := "faultsHeld", desc := "()I" } : Jvm.MethodName) prog_5_method_4_code (1 : Nat) (Option.some Jvm.ClassFile.FieldType.int)) ∈ wG := wG_of 198 (by decide +kernel) (by decide +kernel)
theorem wq_203 : (Jvm.Cond.methodLink "KitRunner" (78 : Nat) ({ cls := "KitRunner$Exclusions", name := "add", desc := "(II)Z" } : Jvm.MethodName)) ∈ wG := wG_of 203 (by decide +kernel) (by decide +kernel)
theorem wq_204 : (Jvm.Cond.instanceMethod ({ cls := "KitRunner$Exclusions", name := "add", desc := "(II)Z" } : Jvm.MethodName)) ∈ wG := wG_of 204 (by decide +kernel) (by decide +kernel)
theorem wq_205 : (Jvm.Cond.selects "KitRunner$Exclusions" ({ cls := "KitRunner$Exclusions", name := "add", desc := "(II)Z" } : Jvm.MethodName) ({ cls := "KitRunner$Exclusions", name := "add", desc := "(II)Z" } : Jvm.MethodName)) ∈ wG := wG_of 205 (by decide +kernel) (by decide +kernel)
theorem wq_206 : (Jvm.Cond.code ({ cls := "KitRunner$Exclusions", name := "add", desc := "(II)Z" } : Jvm.MethodName) prog_3_method_2_code (3 : Nat) (Option.some Jvm.ClassFile.FieldType.boolean)) ∈ wG := wG_of 206 (by decide +kernel) (by decide +kernel)
theorem wq_207 : (Jvm.Cond.methodLink "KitRunner" (82 : Nat) ({ cls := "KitRunner$Exclusions", name := "held", desc := "()I" } : Jvm.MethodName)) ∈ wG := wG_of 207 (by decide +kernel) (by decide +kernel)
theorem wq_208 : (Jvm.Cond.instanceMethod ({ cls := "KitRunner$Exclusions", name := "held", desc := "()I" } : Jvm.MethodName)) ∈ wG := wG_of 208 (by decide +kernel) (by decide +kernel)
theorem wq_209 : (Jvm.Cond.selects "KitRunner$Exclusions" ({ cls := "KitRunner$Exclusions", name := "held", desc := "()I" } : Jvm.MethodName) ({ cls := "KitRunner$Exclusions", name := "held", desc := "()I" } : Jvm.MethodName)) ∈ wG := wG_of 209 (by decide +kernel) (by decide +kernel)
theorem wq_210 : (Jvm.Cond.code ({ cls := "KitRunner$Exclusions", name := "held", desc := "()I" } : Jvm.MethodName) prog_3_method_4_code (1 : Nat) (Option.some Jvm.ClassFile.FieldType.int)) ∈ wG := wG_of 210 (by decide +kernel) (by decide +kernel)
theorem wq_215 : (Jvm.Cond.methodLink "KitRunner" (85 : Nat) ({ cls := "KitRunner$Machine", name := "removeFaults", desc := "()V" } : Jvm.MethodName)) ∈ wG := wG_of 215 (by decide +kernel) (by decide +kernel)
theorem wq_216 : (Jvm.Cond.instanceMethod ({ cls := "KitRunner$Machine", name := "removeFaults", desc := "()V" } : Jvm.MethodName)) ∈ wG := wG_of 216 (by decide +kernel) (by decide +kernel)
theorem wq_217 : (Jvm.Cond.selects "KitRunner$Machine" ({ cls := "KitRunner$Machine", name := "removeFaults", desc := "()V" } : Jvm.MethodName) ({ cls := "KitRunner$Machine", name := "removeFaults", desc := "()V" } : Jvm.MethodName)) ∈ wG := wG_of 217 (by decide +kernel) (by decide +kernel)
theorem wq_218 : (Jvm.Cond.code ({ cls := "KitRunner$Machine", name := "removeFaults", desc := "()V" } : Jvm.MethodName) prog_5_method_3_code (1 : Nat) (Option.none : Option Jvm.ClassFile.FieldType)) ∈ wG := wG_of 218 (by decide +kernel) (by decide +kernel)
theorem wq_219 : (Jvm.Cond.methodLink "KitRunner" (88 : Nat) ({ cls := "KitRunner$Exclusions", name := "removeAll", desc := "()V" } : Jvm.MethodName)) ∈ wG := wG_of 219 (by decide +kernel) (by decide +kernel)
theorem wq_220 : (Jvm.Cond.instanceMethod ({ cls := "KitRunner$Exclusions", name := "removeAll", desc := "()V" } : Jvm.MethodName)) ∈ wG := wG_of 220 (by decide +kernel) (by decide +kernel)
theorem wq_221 : (Jvm.Cond.selects "KitRunner$Exclusions" ({ cls := "KitRunner$Exclusions", name := "removeAll", desc := "()V" } : Jvm.MethodName) ({ cls := "KitRunner$Exclusions", name := "removeAll", desc := "()V" } : Jvm.MethodName)) ∈ wG := wG_of 221 (by decide +kernel) (by decide +kernel)
theorem wq_222 : (Jvm.Cond.code ({ cls := "KitRunner$Exclusions", name := "removeAll", desc := "()V" } : Jvm.MethodName) prog_3_method_3_code (1 : Nat) (Option.none : Option Jvm.ClassFile.FieldType)) ∈ wG := wG_of 222 (by decide +kernel) (by decide +kernel)
theorem wq_231 : (Jvm.Cond.methodLink "KitRunner" (91 : Nat) ({ cls := "KitRunner", name := "withoutZeroBytes", desc := "(J)J" } : Jvm.MethodName)) ∈ wG := wG_of 231 (by decide +kernel) (by decide +kernel)
theorem wq_232 : (Jvm.Cond.static ({ cls := "KitRunner", name := "withoutZeroBytes", desc := "(J)J" } : Jvm.MethodName)) ∈ wG := wG_of 232 (by decide +kernel) (by decide +kernel)
theorem wq_233 : (Jvm.Cond.code ({ cls := "KitRunner", name := "withoutZeroBytes", desc := "(J)J" } : Jvm.MethodName) prog_1_method_17_code (7 : Nat) (Option.some Jvm.ClassFile.FieldType.long)) ∈ wG := wG_of 233 (by decide +kernel) (by decide +kernel)
theorem wq_234 : (Jvm.Cond.constantLong "KitRunner" (186 : Nat) (255 : Int64)) ∈ wG := wG_of 234 (by decide +kernel) (by decide +kernel)
theorem wq_235 : (Jvm.Cond.methodLink "KitRunner" (95 : Nat) ({ cls := "KitRunner$EntryPoints", name := "nameOf", desc := "(I)Ljava/lang/String;" } : Jvm.MethodName)) ∈ wG := wG_of 235 (by decide +kernel) (by decide +kernel)
theorem wq_236 : (Jvm.Cond.static ({ cls := "KitRunner$EntryPoints", name := "nameOf", desc := "(I)Ljava/lang/String;" } : Jvm.MethodName)) ∈ wG := wG_of 236 (by decide +kernel) (by decide +kernel)
theorem wq_237 : (Jvm.Cond.code ({ cls := "KitRunner$EntryPoints", name := "nameOf", desc := "(I)Ljava/lang/String;" } : Jvm.MethodName) prog_2_method_2_code (1 : Nat) (Option.some (Jvm.ClassFile.FieldType.object "java/lang/String"))) ∈ wG := wG_of 237 (by decide +kernel) (by decide +kernel)
theorem wq_254 : (Jvm.Cond.methodLink "KitRunner" (101 : Nat) ({ cls := "KitRunner", name := "packedText", desc := "(Ljava/lang/String;)J" } : Jvm.MethodName)) ∈ wG := wG_of 254 (by decide +kernel) (by decide +kernel)
theorem wq_255 : (Jvm.Cond.static ({ cls := "KitRunner", name := "packedText", desc := "(Ljava/lang/String;)J" } : Jvm.MethodName)) ∈ wG := wG_of 255 (by decide +kernel) (by decide +kernel)
theorem wq_256 : (Jvm.Cond.code ({ cls := "KitRunner", name := "packedText", desc := "(Ljava/lang/String;)J" } : Jvm.MethodName) prog_1_method_18_code (4 : Nat) (Option.some Jvm.ClassFile.FieldType.long)) ∈ wG := wG_of 256 (by decide +kernel) (by decide +kernel)
theorem wq_257 : (Jvm.Cond.methodLink "KitRunner" (188 : Nat) ({ cls := "java/lang/String", name := "length", desc := "()I" } : Jvm.MethodName)) ∈ wG := wG_of 257 (by decide +kernel) (by decide +kernel)
theorem wq_258 : (Jvm.Cond.instanceMethod ({ cls := "java/lang/String", name := "length", desc := "()I" } : Jvm.MethodName)) ∈ wG := wG_of 258 (by decide +kernel) (by decide +kernel)
theorem wq_259 : (Jvm.Cond.selects "java/lang/String" ({ cls := "java/lang/String", name := "length", desc := "()I" } : Jvm.MethodName) ({ cls := "java/lang/String", name := "length", desc := "()I" } : Jvm.MethodName)) ∈ wG := wG_of 259 (by decide +kernel) (by decide +kernel)
theorem wq_260 : (Jvm.Cond.code ({ cls := "java/lang/String", name := "length", desc := "()I" } : Jvm.MethodName) prog_14_method_54_code (1 : Nat) (Option.some Jvm.ClassFile.FieldType.int)) ∈ wG := wG_of 260 (by decide +kernel) (by decide +kernel)
theorem wq_261 : (Jvm.Cond.methodLink "java/lang/String" (335 : Nat) ({ cls := "java/lang/String", name := "coder", desc := "()B" } : Jvm.MethodName)) ∈ wG := wG_of 261 (by decide +kernel) (by decide +kernel)
theorem wq_262 : (Jvm.Cond.instanceMethod ({ cls := "java/lang/String", name := "coder", desc := "()B" } : Jvm.MethodName)) ∈ wG := wG_of 262 (by decide +kernel) (by decide +kernel)
theorem wq_263 : (Jvm.Cond.selects "java/lang/String" ({ cls := "java/lang/String", name := "coder", desc := "()B" } : Jvm.MethodName) ({ cls := "java/lang/String", name := "coder", desc := "()B" } : Jvm.MethodName)) ∈ wG := wG_of 263 (by decide +kernel) (by decide +kernel)
theorem wq_264 : (Jvm.Cond.code ({ cls := "java/lang/String", name := "coder", desc := "()B" } : Jvm.MethodName) prog_14_method_152_code (1 : Nat) (Option.some Jvm.ClassFile.FieldType.byte)) ∈ wG := wG_of 264 (by decide +kernel) (by decide +kernel)
theorem wq_265 : (Jvm.Cond.fieldLink "java/lang/String" (38 : Nat) "java/lang/String" "COMPACT_STRINGS" "Z") ∈ wG := wG_of 265 (by decide +kernel) (by decide +kernel)
theorem wq_267 : (Jvm.Cond.methodLink "KitRunner" (191 : Nat) ({ cls := "java/lang/String", name := "charAt", desc := "(I)C" } : Jvm.MethodName)) ∈ wG := wG_of 267 (by decide +kernel) (by decide +kernel)
theorem wq_268 : (Jvm.Cond.instanceMethod ({ cls := "java/lang/String", name := "charAt", desc := "(I)C" } : Jvm.MethodName)) ∈ wG := wG_of 268 (by decide +kernel) (by decide +kernel)
theorem wq_269 : (Jvm.Cond.selects "java/lang/String" ({ cls := "java/lang/String", name := "charAt", desc := "(I)C" } : Jvm.MethodName) ({ cls := "java/lang/String", name := "charAt", desc := "(I)C" } : Jvm.MethodName)) ∈ wG := wG_of 269 (by decide +kernel) (by decide +kernel)
theorem wq_270 : (Jvm.Cond.code ({ cls := "java/lang/String", name := "charAt", desc := "(I)C" } : Jvm.MethodName) prog_14_method_56_code (2 : Nat) (Option.some Jvm.ClassFile.FieldType.char)) ∈ wG := wG_of 270 (by decide +kernel) (by decide +kernel)
theorem wq_271 : (Jvm.Cond.methodLink "java/lang/String" (492 : Nat) ({ cls := "java/lang/String", name := "isLatin1", desc := "()Z" } : Jvm.MethodName)) ∈ wG := wG_of 271 (by decide +kernel) (by decide +kernel)
theorem wq_272 : (Jvm.Cond.instanceMethod ({ cls := "java/lang/String", name := "isLatin1", desc := "()Z" } : Jvm.MethodName)) ∈ wG := wG_of 272 (by decide +kernel) (by decide +kernel)
theorem wq_273 : (Jvm.Cond.selects "java/lang/String" ({ cls := "java/lang/String", name := "isLatin1", desc := "()Z" } : Jvm.MethodName) ({ cls := "java/lang/String", name := "isLatin1", desc := "()Z" } : Jvm.MethodName)) ∈ wG := wG_of 273 (by decide +kernel) (by decide +kernel)
theorem wq_274 : (Jvm.Cond.code ({ cls := "java/lang/String", name := "isLatin1", desc := "()Z" } : Jvm.MethodName) prog_14_method_154_code (1 : Nat) (Option.some Jvm.ClassFile.FieldType.boolean)) ∈ wG := wG_of 274 (by decide +kernel) (by decide +kernel)
theorem wq_275 : (Jvm.Cond.methodLink "java/lang/String" (495 : Nat) ({ cls := "java/lang/StringLatin1", name := "charAt", desc := "([BI)C" } : Jvm.MethodName)) ∈ wG := wG_of 275 (by decide +kernel) (by decide +kernel)
theorem wq_276 : (Jvm.Cond.static ({ cls := "java/lang/StringLatin1", name := "charAt", desc := "([BI)C" } : Jvm.MethodName)) ∈ wG := wG_of 276 (by decide +kernel) (by decide +kernel)
theorem wq_277 : (Jvm.Cond.code ({ cls := "java/lang/StringLatin1", name := "charAt", desc := "([BI)C" } : Jvm.MethodName) prog_15_method_2_code (2 : Nat) (Option.some Jvm.ClassFile.FieldType.char)) ∈ wG := wG_of 277 (by decide +kernel) (by decide +kernel)
theorem wq_278 : (Jvm.Cond.methodLink "java/lang/StringLatin1" (9 : Nat) ({ cls := "java/lang/String", name := "checkIndex", desc := "(II)V" } : Jvm.MethodName)) ∈ wG := wG_of 278 (by decide +kernel) (by decide +kernel)
theorem wq_279 : (Jvm.Cond.static ({ cls := "java/lang/String", name := "checkIndex", desc := "(II)V" } : Jvm.MethodName)) ∈ wG := wG_of 279 (by decide +kernel) (by decide +kernel)
theorem wq_280 : (Jvm.Cond.code ({ cls := "java/lang/String", name := "checkIndex", desc := "(II)V" } : Jvm.MethodName) prog_14_method_155_code (2 : Nat) (Option.none : Option Jvm.ClassFile.FieldType)) ∈ wG := wG_of 280 (by decide +kernel) (by decide +kernel)
theorem wq_281 : (Jvm.Cond.fieldLink "java/lang/String" (1053 : Nat) "jdk/internal/util/Preconditions" "SIOOBE_FORMATTER" "Ljava/util/function/BiFunction;") ∈ wG := wG_of 281 (by decide +kernel) (by decide +kernel)
theorem wq_283 : (Jvm.Cond.methodLink "java/lang/String" (1059 : Nat) ({ cls := "jdk/internal/util/Preconditions", name := "checkIndex", desc := "(IILjava/util/function/BiFunction;)I" } : Jvm.MethodName)) ∈ wG := wG_of 283 (by decide +kernel) (by decide +kernel)
theorem wq_284 : (Jvm.Cond.static ({ cls := "jdk/internal/util/Preconditions", name := "checkIndex", desc := "(IILjava/util/function/BiFunction;)I" } : Jvm.MethodName)) ∈ wG := wG_of 284 (by decide +kernel) (by decide +kernel)
theorem wq_285 : (Jvm.Cond.code ({ cls := "jdk/internal/util/Preconditions", name := "checkIndex", desc := "(IILjava/util/function/BiFunction;)I" } : Jvm.MethodName) prog_18_method_11_code (3 : Nat) (Option.some Jvm.ClassFile.FieldType.int)) ∈ wG := wG_of 285 (by decide +kernel) (by decide +kernel)
theorem wq_310 : (Jvm.Cond.constantLong "KitRunner" (105 : Nat) (-1000000000000 : Int64)) ∈ wG := wG_of 310 (by decide +kernel) (by decide +kernel)
theorem wq_311 : (Jvm.Cond.methodLink "KitRunner" (107 : Nat) ({ cls := "KitRunner$Machine", name := "give", desc := "(III)J" } : Jvm.MethodName)) ∈ wG := wG_of 311 (by decide +kernel) (by decide +kernel)
theorem wq_312 : (Jvm.Cond.instanceMethod ({ cls := "KitRunner$Machine", name := "give", desc := "(III)J" } : Jvm.MethodName)) ∈ wG := wG_of 312 (by decide +kernel) (by decide +kernel)
theorem wq_313 : (Jvm.Cond.selects "KitRunner$Machine" ({ cls := "KitRunner$Machine", name := "give", desc := "(III)J" } : Jvm.MethodName) ({ cls := "KitRunner$Machine", name := "give", desc := "(III)J" } : Jvm.MethodName)) ∈ wG := wG_of 313 (by decide +kernel) (by decide +kernel)
theorem wq_314 : (Jvm.Cond.code ({ cls := "KitRunner$Machine", name := "give", desc := "(III)J" } : Jvm.MethodName) prog_5_method_5_code (7 : Nat) (Option.some Jvm.ClassFile.FieldType.long)) ∈ wG := wG_of 314 (by decide +kernel) (by decide +kernel)
theorem wq_315 : (Jvm.Cond.methodLink "KitRunner$Machine" (25 : Nat) ({ cls := "KitRunner$EntryPoints", name := "foretell", desc := "(III)J" } : Jvm.MethodName)) ∈ wG := wG_of 315 (by decide +kernel) (by decide +kernel)
theorem wq_316 : (Jvm.Cond.static ({ cls := "KitRunner$EntryPoints", name := "foretell", desc := "(III)J" } : Jvm.MethodName)) ∈ wG := wG_of 316 (by decide +kernel) (by decide +kernel)
theorem wq_317 : (Jvm.Cond.code ({ cls := "KitRunner$EntryPoints", name := "foretell", desc := "(III)J" } : Jvm.MethodName) prog_2_method_3_code (3 : Nat) (Option.some Jvm.ClassFile.FieldType.long)) ∈ wG := wG_of 317 (by decide +kernel) (by decide +kernel)
theorem wq_318 : (Jvm.Cond.constantLong "KitRunner$EntryPoints" (41 : Nat) (10000000000 : Int64)) ∈ wG := wG_of 318 (by decide +kernel) (by decide +kernel)
theorem wq_320 : (Jvm.Cond.methodLink "KitRunner$EntryPoints" (47 : Nat) ({ cls := "java/lang/String", name := "length", desc := "()I" } : Jvm.MethodName)) ∈ wG := wG_of 320 (by decide +kernel) (by decide +kernel)
theorem wq_321 : (Jvm.Cond.constantLong "KitRunner$EntryPoints" (53 : Nat) (20000000000 : Int64)) ∈ wG := wG_of 321 (by decide +kernel) (by decide +kernel)
theorem wq_322 : (Jvm.Cond.methodLink "KitRunner$EntryPoints" (55 : Nat) ({ cls := "java/lang/String", name := "charAt", desc := "(I)C" } : Jvm.MethodName)) ∈ wG := wG_of 322 (by decide +kernel) (by decide +kernel)
theorem wq_323 : (Jvm.Cond.fieldLink "KitRunner$EntryPoints" (59 : Nat) "KitRunner$EntryPoints" "CELLS" "[I") ∈ wG := wG_of 323 (by decide +kernel) (by decide +kernel)
theorem wq_325 : (Jvm.Cond.methodLink "KitRunner$EntryPoints" (63 : Nat) ({ cls := "KitRunner$EntryPoints", name := "sizeOf", desc := "(I)J" } : Jvm.MethodName)) ∈ wG := wG_of 325 (by decide +kernel) (by decide +kernel)
theorem wq_326 : (Jvm.Cond.static ({ cls := "KitRunner$EntryPoints", name := "sizeOf", desc := "(I)J" } : Jvm.MethodName)) ∈ wG := wG_of 326 (by decide +kernel) (by decide +kernel)
theorem wq_327 : (Jvm.Cond.code ({ cls := "KitRunner$EntryPoints", name := "sizeOf", desc := "(I)J" } : Jvm.MethodName) prog_2_method_4_code (1 : Nat) (Option.some Jvm.ClassFile.FieldType.long)) ∈ wG := wG_of 327 (by decide +kernel) (by decide +kernel)
theorem wq_328 : (Jvm.Cond.constantLong "KitRunner$EntryPoints" (79 : Nat) (30000000000 : Int64)) ∈ wG := wG_of 328 (by decide +kernel) (by decide +kernel)
theorem wq_329 : (Jvm.Cond.constantLong "KitRunner$EntryPoints" (81 : Nat) (64 : Int64)) ∈ wG := wG_of 329 (by decide +kernel) (by decide +kernel)
theorem wq_330 : (Jvm.Cond.constantLong "KitRunner$EntryPoints" (67 : Nat) (40000000000 : Int64)) ∈ wG := wG_of 330 (by decide +kernel) (by decide +kernel)
theorem wq_331 : (Jvm.Cond.constantLong "KitRunner$EntryPoints" (69 : Nat) (4 : Int64)) ∈ wG := wG_of 331 (by decide +kernel) (by decide +kernel)
theorem wq_332 : (Jvm.Cond.constantLong "KitRunner$EntryPoints" (71 : Nat) (50000000000 : Int64)) ∈ wG := wG_of 332 (by decide +kernel) (by decide +kernel)
theorem wq_333 : (Jvm.Cond.methodLink "KitRunner$EntryPoints" (73 : Nat) ({ cls := "java/lang/Integer", name := "compare", desc := "(II)I" } : Jvm.MethodName)) ∈ wG := wG_of 333 (by decide +kernel) (by decide +kernel)
theorem wq_334 : (Jvm.Cond.static ({ cls := "java/lang/Integer", name := "compare", desc := "(II)I" } : Jvm.MethodName)) ∈ wG := wG_of 334 (by decide +kernel) (by decide +kernel)
theorem wq_335 : (Jvm.Cond.code ({ cls := "java/lang/Integer", name := "compare", desc := "(II)I" } : Jvm.MethodName) prog_13_method_40_code (2 : Nat) (Option.some Jvm.ClassFile.FieldType.int)) ∈ wG := wG_of 335 (by decide +kernel) (by decide +kernel)
theorem wq_336 : (Jvm.Cond.methodLink "KitRunner$Machine" (31 : Nat) ({ cls := "KitRunner$Machine", name := "applies", desc := "(IIIIJ)Z" } : Jvm.MethodName)) ∈ wG := wG_of 336 (by decide +kernel) (by decide +kernel)
theorem wq_337 : (Jvm.Cond.static ({ cls := "KitRunner$Machine", name := "applies", desc := "(IIIIJ)Z" } : Jvm.MethodName)) ∈ wG := wG_of 337 (by decide +kernel) (by decide +kernel)
theorem wq_338 : (Jvm.Cond.code ({ cls := "KitRunner$Machine", name := "applies", desc := "(IIIIJ)Z" } : Jvm.MethodName) prog_5_method_7_code (7 : Nat) (Option.some Jvm.ClassFile.FieldType.boolean)) ∈ wG := wG_of 338 (by decide +kernel) (by decide +kernel)
theorem wq_340 : (Jvm.Cond.static ({ cls := "KitRunner", name := "isTrouble", desc := "(J)Z" } : Jvm.MethodName)) ∈ wG := wG_of 340 (by decide +kernel) (by decide +kernel)
theorem wq_341 : (Jvm.Cond.code ({ cls := "KitRunner", name := "isTrouble", desc := "(J)Z" } : Jvm.MethodName) prog_1_method_15_code (2 : Nat) (Option.some Jvm.ClassFile.FieldType.boolean)) ∈ wG := wG_of 341 (by decide +kernel) (by decide +kernel)
theorem wq_342 : (Jvm.Cond.constantLong "KitRunner" (184 : Nat) (10000000000 : Int64)) ∈ wG := wG_of 342 (by decide +kernel) (by decide +kernel)
theorem wq_343 : (Jvm.Cond.methodLink "KitRunner$Machine" (35 : Nat) ({ cls := "KitRunner$Machine", name := "changed", desc := "(IIJ)J" } : Jvm.MethodName)) ∈ wG := wG_of 343 (by decide +kernel) (by decide +kernel)
theorem wq_344 : (Jvm.Cond.static ({ cls := "KitRunner$Machine", name := "changed", desc := "(IIJ)J" } : Jvm.MethodName)) ∈ wG := wG_of 344 (by decide +kernel) (by decide +kernel)
theorem wq_345 : (Jvm.Cond.code ({ cls := "KitRunner$Machine", name := "changed", desc := "(IIJ)J" } : Jvm.MethodName) prog_5_method_8_code (4 : Nat) (Option.some Jvm.ClassFile.FieldType.long)) ∈ wG := wG_of 345 (by decide +kernel) (by decide +kernel)
theorem wq_346 : (Jvm.Cond.constantLong "KitRunner$Machine" (51 : Nat) (10000000000 : Int64)) ∈ wG := wG_of 346 (by decide +kernel) (by decide +kernel)
theorem wq_347 : (Jvm.Cond.constantLong "KitRunner$Machine" (53 : Nat) (50000000000 : Int64)) ∈ wG := wG_of 347 (by decide +kernel) (by decide +kernel)
theorem wq_348 : (Jvm.Cond.constantLong "KitRunner$Machine" (55 : Nat) (40000000000 : Int64)) ∈ wG := wG_of 348 (by decide +kernel) (by decide +kernel)
theorem wq_349 : (Jvm.Cond.methodLink "KitRunner" (111 : Nat) ({ cls := "KitRunner$EntryPoints", name := "foretell", desc := "(III)J" } : Jvm.MethodName)) ∈ wG := wG_of 349 (by decide +kernel) (by decide +kernel)
theorem wq_354 : (Jvm.Cond.methodLink "KitRunner" (114 : Nat) ({ cls := "KitRunner", name := "forgetLatestRun", desc := "()V" } : Jvm.MethodName)) ∈ wG := wG_of 354 (by decide +kernel) (by decide +kernel)
theorem wq_356 : (Jvm.Cond.instanceMethod ({ cls := "KitRunner", name := "forgetLatestRun", desc := "()V" } : Jvm.MethodName)) ∈ wG := wG_of 356 (by decide +kernel) (by decide +kernel)
theorem wq_357 : (Jvm.Cond.code ({ cls := "KitRunner", name := "forgetLatestRun", desc := "()V" } : Jvm.MethodName) prog_1_method_19_code (1 : Nat) (Option.none : Option Jvm.ClassFile.FieldType)) ∈ wG := wG_of 357 (by decide +kernel) (by decide +kernel)
theorem wq_358 : (Jvm.Cond.methodLink "KitRunner" (195 : Nat) ({ cls := "KitRunner$PairBook", name := "forget", desc := "()V" } : Jvm.MethodName)) ∈ wG := wG_of 358 (by decide +kernel) (by decide +kernel)
theorem wq_359 : (Jvm.Cond.instanceMethod ({ cls := "KitRunner$PairBook", name := "forget", desc := "()V" } : Jvm.MethodName)) ∈ wG := wG_of 359 (by decide +kernel) (by decide +kernel)
theorem wq_360 : (Jvm.Cond.selects "KitRunner$PairBook" ({ cls := "KitRunner$PairBook", name := "forget", desc := "()V" } : Jvm.MethodName) ({ cls := "KitRunner$PairBook", name := "forget", desc := "()V" } : Jvm.MethodName)) ∈ wG := wG_of 360 (by decide +kernel) (by decide +kernel)
theorem wq_361 : (Jvm.Cond.code ({ cls := "KitRunner$PairBook", name := "forget", desc := "()V" } : Jvm.MethodName) prog_6_method_2_code (1 : Nat) (Option.none : Option Jvm.ClassFile.FieldType)) ∈ wG := wG_of 361 (by decide +kernel) (by decide +kernel)
theorem wq_362 : (Jvm.Cond.methodLink "KitRunner$PairBook" (25 : Nat) ({ cls := "java/util/Arrays", name := "fill", desc := "([II)V" } : Jvm.MethodName)) ∈ wG := wG_of 362 (by decide +kernel) (by decide +kernel)
theorem wq_363 : (Jvm.Cond.static ({ cls := "java/util/Arrays", name := "fill", desc := "([II)V" } : Jvm.MethodName)) ∈ wG := wG_of 363 (by decide +kernel) (by decide +kernel)
theorem wq_364 : (Jvm.Cond.code ({ cls := "java/util/Arrays", name := "fill", desc := "([II)V" } : Jvm.MethodName) prog_17_method_103_code (4 : Nat) (Option.none : Option Jvm.ClassFile.FieldType)) ∈ wG := wG_of 364 (by decide +kernel) (by decide +kernel)
theorem wq_365 : (Jvm.Cond.methodLink "KitRunner" (198 : Nat) ({ cls := "KitRunner$Tally", name := "forget", desc := "()V" } : Jvm.MethodName)) ∈ wG := wG_of 365 (by decide +kernel) (by decide +kernel)
theorem wq_366 : (Jvm.Cond.instanceMethod ({ cls := "KitRunner$Tally", name := "forget", desc := "()V" } : Jvm.MethodName)) ∈ wG := wG_of 366 (by decide +kernel) (by decide +kernel)
theorem wq_367 : (Jvm.Cond.selects "KitRunner$Tally" ({ cls := "KitRunner$Tally", name := "forget", desc := "()V" } : Jvm.MethodName) ({ cls := "KitRunner$Tally", name := "forget", desc := "()V" } : Jvm.MethodName)) ∈ wG := wG_of 367 (by decide +kernel) (by decide +kernel)
theorem wq_368 : (Jvm.Cond.code ({ cls := "KitRunner$Tally", name := "forget", desc := "()V" } : Jvm.MethodName) prog_9_method_2_code (1 : Nat) (Option.none : Option Jvm.ClassFile.FieldType)) ∈ wG := wG_of 368 (by decide +kernel) (by decide +kernel)
theorem wq_369 : (Jvm.Cond.methodLink "KitRunner$Tally" (25 : Nat) ({ cls := "java/util/Arrays", name := "fill", desc := "([II)V" } : Jvm.MethodName)) ∈ wG := wG_of 369 (by decide +kernel) (by decide +kernel)
theorem wq_370 : (Jvm.Cond.methodLink "KitRunner" (199 : Nat) ({ cls := "KitRunner$FailureList", name := "forget", desc := "()V" } : Jvm.MethodName)) ∈ wG := wG_of 370 (by decide +kernel) (by decide +kernel)
theorem wq_371 : (Jvm.Cond.instanceMethod ({ cls := "KitRunner$FailureList", name := "forget", desc := "()V" } : Jvm.MethodName)) ∈ wG := wG_of 371 (by decide +kernel) (by decide +kernel)
theorem wq_372 : (Jvm.Cond.selects "KitRunner$FailureList" ({ cls := "KitRunner$FailureList", name := "forget", desc := "()V" } : Jvm.MethodName) ({ cls := "KitRunner$FailureList", name := "forget", desc := "()V" } : Jvm.MethodName)) ∈ wG := wG_of 372 (by decide +kernel) (by decide +kernel)
theorem wq_373 : (Jvm.Cond.code ({ cls := "KitRunner$FailureList", name := "forget", desc := "()V" } : Jvm.MethodName) prog_4_method_2_code (1 : Nat) (Option.none : Option Jvm.ClassFile.FieldType)) ∈ wG := wG_of 373 (by decide +kernel) (by decide +kernel)
theorem wq_374 : (Jvm.Cond.methodLink "KitRunner" (200 : Nat) ({ cls := "KitRunner$Report", name := "forget", desc := "()V" } : Jvm.MethodName)) ∈ wG := wG_of 374 (by decide +kernel) (by decide +kernel)
theorem wq_375 : (Jvm.Cond.instanceMethod ({ cls := "KitRunner$Report", name := "forget", desc := "()V" } : Jvm.MethodName)) ∈ wG := wG_of 375 (by decide +kernel) (by decide +kernel)
theorem wq_376 : (Jvm.Cond.selects "KitRunner$Report" ({ cls := "KitRunner$Report", name := "forget", desc := "()V" } : Jvm.MethodName) ({ cls := "KitRunner$Report", name := "forget", desc := "()V" } : Jvm.MethodName)) ∈ wG := wG_of 376 (by decide +kernel) (by decide +kernel)
theorem wq_377 : (Jvm.Cond.code ({ cls := "KitRunner$Report", name := "forget", desc := "()V" } : Jvm.MethodName) prog_7_method_2_code (1 : Nat) (Option.none : Option Jvm.ClassFile.FieldType)) ∈ wG := wG_of 377 (by decide +kernel) (by decide +kernel)
theorem wq_378 : (Jvm.Cond.methodLink "KitRunner" (117 : Nat) ({ cls := "KitRunner", name := "latticeSize", desc := "(I)I" } : Jvm.MethodName)) ∈ wG := wG_of 378 (by decide +kernel) (by decide +kernel)
theorem wq_379 : (Jvm.Cond.static ({ cls := "KitRunner", name := "latticeSize", desc := "(I)I" } : Jvm.MethodName)) ∈ wG := wG_of 379 (by decide +kernel) (by decide +kernel)
theorem wq_380 : (Jvm.Cond.code ({ cls := "KitRunner", name := "latticeSize", desc := "(I)I" } : Jvm.MethodName) prog_1_method_16_code (1 : Nat) (Option.some Jvm.ClassFile.FieldType.int)) ∈ wG := wG_of 380 (by decide +kernel) (by decide +kernel)
theorem wq_381 : (Jvm.Cond.methodLink "KitRunner" (121 : Nat) ({ cls := "KitRunner", name := "runEntry", desc := "(IIZ)V" } : Jvm.MethodName)) ∈ wG := wG_of 381 (by decide +kernel) (by decide +kernel)
theorem wq_383 : (Jvm.Cond.instanceMethod ({ cls := "KitRunner", name := "runEntry", desc := "(IIZ)V" } : Jvm.MethodName)) ∈ wG := wG_of 383 (by decide +kernel) (by decide +kernel)
theorem wq_384 : (Jvm.Cond.code ({ cls := "KitRunner", name := "runEntry", desc := "(IIZ)V" } : Jvm.MethodName) prog_1_method_20_code (6 : Nat) (Option.none : Option Jvm.ClassFile.FieldType)) ∈ wG := wG_of 384 (by decide +kernel) (by decide +kernel)
theorem wq_385 : (Jvm.Cond.fieldLink "KitRunner" (135 : Nat) "KitRunner" "LATTICE" "[I") ∈ wG := wG_of 385 (by decide +kernel) (by decide +kernel)
theorem wq_387 : (Jvm.Cond.methodLink "KitRunner" (201 : Nat) ({ cls := "KitRunner$Exclusions", name := "leaveOut", desc := "(III)Z" } : Jvm.MethodName)) ∈ wG := wG_of 387 (by decide +kernel) (by decide +kernel)
theorem wq_388 : (Jvm.Cond.instanceMethod ({ cls := "KitRunner$Exclusions", name := "leaveOut", desc := "(III)Z" } : Jvm.MethodName)) ∈ wG := wG_of 388 (by decide +kernel) (by decide +kernel)
theorem wq_389 : (Jvm.Cond.selects "KitRunner$Exclusions" ({ cls := "KitRunner$Exclusions", name := "leaveOut", desc := "(III)Z" } : Jvm.MethodName) ({ cls := "KitRunner$Exclusions", name := "leaveOut", desc := "(III)Z" } : Jvm.MethodName)) ∈ wG := wG_of 389 (by decide +kernel) (by decide +kernel)
theorem wq_390 : (Jvm.Cond.code ({ cls := "KitRunner$Exclusions", name := "leaveOut", desc := "(III)Z" } : Jvm.MethodName) prog_3_method_5_code (5 : Nat) (Option.some Jvm.ClassFile.FieldType.boolean)) ∈ wG := wG_of 390 (by decide +kernel) (by decide +kernel)
theorem wq_391 : (Jvm.Cond.methodLink "KitRunner" (204 : Nat) ({ cls := "KitRunner$Tally", name := "noteLeftOut", desc := "()V" } : Jvm.MethodName)) ∈ wG := wG_of 391 (by decide +kernel) (by decide +kernel)
theorem wq_392 : (Jvm.Cond.instanceMethod ({ cls := "KitRunner$Tally", name := "noteLeftOut", desc := "()V" } : Jvm.MethodName)) ∈ wG := wG_of 392 (by decide +kernel) (by decide +kernel)
theorem wq_393 : (Jvm.Cond.selects "KitRunner$Tally" ({ cls := "KitRunner$Tally", name := "noteLeftOut", desc := "()V" } : Jvm.MethodName) ({ cls := "KitRunner$Tally", name := "noteLeftOut", desc := "()V" } : Jvm.MethodName)) ∈ wG := wG_of 393 (by decide +kernel) (by decide +kernel)
theorem wq_394 : (Jvm.Cond.code ({ cls := "KitRunner$Tally", name := "noteLeftOut", desc := "()V" } : Jvm.MethodName) prog_9_method_3_code (1 : Nat) (Option.none : Option Jvm.ClassFile.FieldType)) ∈ wG := wG_of 394 (by decide +kernel) (by decide +kernel)
theorem wq_395 : (Jvm.Cond.methodLink "KitRunner" (207 : Nat) ({ cls := "KitRunner$PairBook", name := "note", desc := "(III)Z" } : Jvm.MethodName)) ∈ wG := wG_of 395 (by decide +kernel) (by decide +kernel)
theorem wq_396 : (Jvm.Cond.instanceMethod ({ cls := "KitRunner$PairBook", name := "note", desc := "(III)Z" } : Jvm.MethodName)) ∈ wG := wG_of 396 (by decide +kernel) (by decide +kernel)
theorem wq_397 : (Jvm.Cond.selects "KitRunner$PairBook" ({ cls := "KitRunner$PairBook", name := "note", desc := "(III)Z" } : Jvm.MethodName) ({ cls := "KitRunner$PairBook", name := "note", desc := "(III)Z" } : Jvm.MethodName)) ∈ wG := wG_of 397 (by decide +kernel) (by decide +kernel)
theorem wq_398 : (Jvm.Cond.code ({ cls := "KitRunner$PairBook", name := "note", desc := "(III)Z" } : Jvm.MethodName) prog_6_method_4_code (5 : Nat) (Option.some Jvm.ClassFile.FieldType.boolean)) ∈ wG := wG_of 398 (by decide +kernel) (by decide +kernel)
theorem wq_399 : (Jvm.Cond.methodLink "KitRunner$PairBook" (31 : Nat) ({ cls := "KitRunner$PairBook", name := "mark", desc := "([III)V" } : Jvm.MethodName)) ∈ wG := wG_of 399 (by decide +kernel) (by decide +kernel)
theorem wq_401 : (Jvm.Cond.instanceMethod ({ cls := "KitRunner$PairBook", name := "mark", desc := "([III)V" } : Jvm.MethodName)) ∈ wG := wG_of 401 (by decide +kernel) (by decide +kernel)
theorem wq_402 : (Jvm.Cond.code ({ cls := "KitRunner$PairBook", name := "mark", desc := "([III)V" } : Jvm.MethodName) prog_6_method_5_code (5 : Nat) (Option.none : Option Jvm.ClassFile.FieldType)) ∈ wG := wG_of 402 (by decide +kernel) (by decide +kernel)
theorem wq_403 : (Jvm.Cond.methodLink "KitRunner" (210 : Nat) ({ cls := "KitRunner", name := "runCase", desc := "(III)V" } : Jvm.MethodName)) ∈ wG := wG_of 403 (by decide +kernel) (by decide +kernel)
theorem wq_405 : (Jvm.Cond.instanceMethod ({ cls := "KitRunner", name := "runCase", desc := "(III)V" } : Jvm.MethodName)) ∈ wG := wG_of 405 (by decide +kernel) (by decide +kernel)
theorem wq_406 : (Jvm.Cond.code ({ cls := "KitRunner", name := "runCase", desc := "(III)V" } : Jvm.MethodName) prog_1_method_21_code (8 : Nat) (Option.none : Option Jvm.ClassFile.FieldType)) ∈ wG := wG_of 406 (by decide +kernel) (by decide +kernel)
theorem wq_407 : (Jvm.Cond.methodLink "KitRunner" (214 : Nat) ({ cls := "KitRunner$Tally", name := "noteTaken", desc := "(IJ)V" } : Jvm.MethodName)) ∈ wG := wG_of 407 (by decide +kernel) (by decide +kernel)
theorem wq_408 : (Jvm.Cond.instanceMethod ({ cls := "KitRunner$Tally", name := "noteTaken", desc := "(IJ)V" } : Jvm.MethodName)) ∈ wG := wG_of 408 (by decide +kernel) (by decide +kernel)
theorem wq_409 : (Jvm.Cond.selects "KitRunner$Tally" ({ cls := "KitRunner$Tally", name := "noteTaken", desc := "(IJ)V" } : Jvm.MethodName) ({ cls := "KitRunner$Tally", name := "noteTaken", desc := "(IJ)V" } : Jvm.MethodName)) ∈ wG := wG_of 409 (by decide +kernel) (by decide +kernel)
theorem wq_410 : (Jvm.Cond.code ({ cls := "KitRunner$Tally", name := "noteTaken", desc := "(IJ)V" } : Jvm.MethodName) prog_9_method_4_code (4 : Nat) (Option.none : Option Jvm.ClassFile.FieldType)) ∈ wG := wG_of 410 (by decide +kernel) (by decide +kernel)
theorem wq_411 : (Jvm.Cond.methodLink "KitRunner$Tally" (31 : Nat) ({ cls := "KitRunner$Tally", name := "markOf", desc := "(J)I" } : Jvm.MethodName)) ∈ wG := wG_of 411 (by decide +kernel) (by decide +kernel)
theorem wq_412 : (Jvm.Cond.static ({ cls := "KitRunner$Tally", name := "markOf", desc := "(J)I" } : Jvm.MethodName)) ∈ wG := wG_of 412 (by decide +kernel) (by decide +kernel)
theorem wq_413 : (Jvm.Cond.code ({ cls := "KitRunner$Tally", name := "markOf", desc := "(J)I" } : Jvm.MethodName) prog_9_method_14_code (2 : Nat) (Option.some Jvm.ClassFile.FieldType.int)) ∈ wG := wG_of 413 (by decide +kernel) (by decide +kernel)
theorem wq_415 : (Jvm.Cond.constantLong "KitRunner$Tally" (49 : Nat) (10000000000 : Int64)) ∈ wG := wG_of 415 (by decide +kernel) (by decide +kernel)
theorem wq_416 : (Jvm.Cond.methodLink "KitRunner" (218 : Nat) ({ cls := "KitRunner$Tally", name := "noteFailed", desc := "(I)V" } : Jvm.MethodName)) ∈ wG := wG_of 416 (by decide +kernel) (by decide +kernel)
theorem wq_417 : (Jvm.Cond.instanceMethod ({ cls := "KitRunner$Tally", name := "noteFailed", desc := "(I)V" } : Jvm.MethodName)) ∈ wG := wG_of 417 (by decide +kernel) (by decide +kernel)
theorem wq_418 : (Jvm.Cond.selects "KitRunner$Tally" ({ cls := "KitRunner$Tally", name := "noteFailed", desc := "(I)V" } : Jvm.MethodName) ({ cls := "KitRunner$Tally", name := "noteFailed", desc := "(I)V" } : Jvm.MethodName)) ∈ wG := wG_of 418 (by decide +kernel) (by decide +kernel)
theorem wq_419 : (Jvm.Cond.code ({ cls := "KitRunner$Tally", name := "noteFailed", desc := "(I)V" } : Jvm.MethodName) prog_9_method_5_code (2 : Nat) (Option.none : Option Jvm.ClassFile.FieldType)) ∈ wG := wG_of 419 (by decide +kernel) (by decide +kernel)
theorem wq_420 : (Jvm.Cond.methodLink "KitRunner" (222 : Nat) ({ cls := "KitRunner$FailureList", name := "keep", desc := "(IIIJJ)V" } : Jvm.MethodName)) ∈ wG := wG_of 420 (by decide +kernel) (by decide +kernel)
theorem wq_421 : (Jvm.Cond.instanceMethod ({ cls := "KitRunner$FailureList", name := "keep", desc := "(IIIJJ)V" } : Jvm.MethodName)) ∈ wG := wG_of 421 (by decide +kernel) (by decide +kernel)
theorem wq_422 : (Jvm.Cond.selects "KitRunner$FailureList" ({ cls := "KitRunner$FailureList", name := "keep", desc := "(IIIJJ)V" } : Jvm.MethodName) ({ cls := "KitRunner$FailureList", name := "keep", desc := "(IIIJJ)V" } : Jvm.MethodName)) ∈ wG := wG_of 422 (by decide +kernel) (by decide +kernel)
theorem wq_423 : (Jvm.Cond.code ({ cls := "KitRunner$FailureList", name := "keep", desc := "(IIIJJ)V" } : Jvm.MethodName) prog_4_method_4_code (8 : Nat) (Option.none : Option Jvm.ClassFile.FieldType)) ∈ wG := wG_of 423 (by decide +kernel) (by decide +kernel)
theorem wq_424 : (Jvm.Cond.methodLink "KitRunner" (125 : Nat) ({ cls := "KitRunner", name := "writeReport", desc := "()V" } : Jvm.MethodName)) ∈ wG := wG_of 424 (by decide +kernel) (by decide +kernel)
theorem wq_426 : (Jvm.Cond.instanceMethod ({ cls := "KitRunner", name := "writeReport", desc := "()V" } : Jvm.MethodName)) ∈ wG := wG_of 426 (by decide +kernel) (by decide +kernel)
theorem wq_427 : (Jvm.Cond.code ({ cls := "KitRunner", name := "writeReport", desc := "()V" } : Jvm.MethodName) prog_1_method_22_code (2 : Nat) (Option.none : Option Jvm.ClassFile.FieldType)) ∈ wG := wG_of 427 (by decide +kernel) (by decide +kernel)
theorem wq_428 : (Jvm.Cond.methodLink "KitRunner" (226 : Nat) ({ cls := "KitRunner$Tally", name := "taken", desc := "(I)I" } : Jvm.MethodName)) ∈ wG := wG_of 428 (by decide +kernel) (by decide +kernel)
theorem wq_429 : (Jvm.Cond.instanceMethod ({ cls := "KitRunner$Tally", name := "taken", desc := "(I)I" } : Jvm.MethodName)) ∈ wG := wG_of 429 (by decide +kernel) (by decide +kernel)
theorem wq_430 : (Jvm.Cond.selects "KitRunner$Tally" ({ cls := "KitRunner$Tally", name := "taken", desc := "(I)I" } : Jvm.MethodName) ({ cls := "KitRunner$Tally", name := "taken", desc := "(I)I" } : Jvm.MethodName)) ∈ wG := wG_of 430 (by decide +kernel) (by decide +kernel)
theorem wq_431 : (Jvm.Cond.code ({ cls := "KitRunner$Tally", name := "taken", desc := "(I)I" } : Jvm.MethodName) prog_9_method_7_code (2 : Nat) (Option.some Jvm.ClassFile.FieldType.int)) ∈ wG := wG_of 431 (by decide +kernel) (by decide +kernel)
theorem wq_432 : (Jvm.Cond.methodLink "KitRunner" (229 : Nat) ({ cls := "KitRunner$Report", name := "putText", desc := "(Ljava/lang/String;)V" } : Jvm.MethodName)) ∈ wG := wG_of 432 (by decide +kernel) (by decide +kernel)
theorem wq_433 : (Jvm.Cond.instanceMethod ({ cls := "KitRunner$Report", name := "putText", desc := "(Ljava/lang/String;)V" } : Jvm.MethodName)) ∈ wG := wG_of 433 (by decide +kernel) (by decide +kernel)
theorem wq_434 : (Jvm.Cond.selects "KitRunner$Report" ({ cls := "KitRunner$Report", name := "putText", desc := "(Ljava/lang/String;)V" } : Jvm.MethodName) ({ cls := "KitRunner$Report", name := "putText", desc := "(Ljava/lang/String;)V" } : Jvm.MethodName)) ∈ wG := wG_of 434 (by decide +kernel) (by decide +kernel)
theorem wq_435 : (Jvm.Cond.code ({ cls := "KitRunner$Report", name := "putText", desc := "(Ljava/lang/String;)V" } : Jvm.MethodName) prog_7_method_6_code (3 : Nat) (Option.none : Option Jvm.ClassFile.FieldType)) ∈ wG := wG_of 435 (by decide +kernel) (by decide +kernel)
theorem wq_436 : (Jvm.Cond.methodLink "KitRunner$Report" (19 : Nat) ({ cls := "java/lang/String", name := "length", desc := "()I" } : Jvm.MethodName)) ∈ wG := wG_of 436 (by decide +kernel) (by decide +kernel)
theorem wq_437 : (Jvm.Cond.methodLink "KitRunner$Report" (24 : Nat) ({ cls := "java/lang/String", name := "charAt", desc := "(I)C" } : Jvm.MethodName)) ∈ wG := wG_of 437 (by decide +kernel) (by decide +kernel)
theorem wq_438 : (Jvm.Cond.methodLink "KitRunner$Report" (28 : Nat) ({ cls := "KitRunner$Report", name := "put", desc := "(C)V" } : Jvm.MethodName)) ∈ wG := wG_of 438 (by decide +kernel) (by decide +kernel)
theorem wq_439 : (Jvm.Cond.instanceMethod ({ cls := "KitRunner$Report", name := "put", desc := "(C)V" } : Jvm.MethodName)) ∈ wG := wG_of 439 (by decide +kernel) (by decide +kernel)
theorem wq_440 : (Jvm.Cond.selects "KitRunner$Report" ({ cls := "KitRunner$Report", name := "put", desc := "(C)V" } : Jvm.MethodName) ({ cls := "KitRunner$Report", name := "put", desc := "(C)V" } : Jvm.MethodName)) ∈ wG := wG_of 440 (by decide +kernel) (by decide +kernel)
theorem wq_441 : (Jvm.Cond.code ({ cls := "KitRunner$Report", name := "put", desc := "(C)V" } : Jvm.MethodName) prog_7_method_5_code (2 : Nat) (Option.none : Option Jvm.ClassFile.FieldType)) ∈ wG := wG_of 441 (by decide +kernel) (by decide +kernel)
theorem wq_442 : (Jvm.Cond.methodLink "KitRunner" (233 : Nat) ({ cls := "KitRunner$Report", name := "put", desc := "(C)V" } : Jvm.MethodName)) ∈ wG := wG_of 442 (by decide +kernel) (by decide +kernel)
theorem wq_443 : (Jvm.Cond.methodLink "KitRunner" (237 : Nat) ({ cls := "KitRunner$Report", name := "putNumber", desc := "(I)V" } : Jvm.MethodName)) ∈ wG := wG_of 443 (by decide +kernel) (by decide +kernel)
theorem wq_444 : (Jvm.Cond.instanceMethod ({ cls := "KitRunner$Report", name := "putNumber", desc := "(I)V" } : Jvm.MethodName)) ∈ wG := wG_of 444 (by decide +kernel) (by decide +kernel)
theorem wq_445 : (Jvm.Cond.selects "KitRunner$Report" ({ cls := "KitRunner$Report", name := "putNumber", desc := "(I)V" } : Jvm.MethodName) ({ cls := "KitRunner$Report", name := "putNumber", desc := "(I)V" } : Jvm.MethodName)) ∈ wG := wG_of 445 (by decide +kernel) (by decide +kernel)
theorem wq_446 : (Jvm.Cond.code ({ cls := "KitRunner$Report", name := "putNumber", desc := "(I)V" } : Jvm.MethodName) prog_7_method_7_code (3 : Nat) (Option.none : Option Jvm.ClassFile.FieldType)) ∈ wG := wG_of 446 (by decide +kernel) (by decide +kernel)
theorem wq_447 : (Jvm.Cond.methodLink "KitRunner" (240 : Nat) ({ cls := "KitRunner$Tally", name := "failed", desc := "(I)I" } : Jvm.MethodName)) ∈ wG := wG_of 447 (by decide +kernel) (by decide +kernel)
theorem wq_448 : (Jvm.Cond.instanceMethod ({ cls := "KitRunner$Tally", name := "failed", desc := "(I)I" } : Jvm.MethodName)) ∈ wG := wG_of 448 (by decide +kernel) (by decide +kernel)
theorem wq_449 : (Jvm.Cond.selects "KitRunner$Tally" ({ cls := "KitRunner$Tally", name := "failed", desc := "(I)I" } : Jvm.MethodName) ({ cls := "KitRunner$Tally", name := "failed", desc := "(I)I" } : Jvm.MethodName)) ∈ wG := wG_of 449 (by decide +kernel) (by decide +kernel)
theorem wq_450 : (Jvm.Cond.code ({ cls := "KitRunner$Tally", name := "failed", desc := "(I)I" } : Jvm.MethodName) prog_9_method_8_code (2 : Nat) (Option.some Jvm.ClassFile.FieldType.int)) ∈ wG := wG_of 450 (by decide +kernel) (by decide +kernel)
theorem wq_451 : (Jvm.Cond.methodLink "KitRunner" (128 : Nat) ({ cls := "KitRunner$Tally", name := "failedInAll", desc := "()I" } : Jvm.MethodName)) ∈ wG := wG_of 451 (by decide +kernel) (by decide +kernel)
theorem wq_452 : (Jvm.Cond.instanceMethod ({ cls := "KitRunner$Tally", name := "failedInAll", desc := "()I" } : Jvm.MethodName)) ∈ wG := wG_of 452 (by decide +kernel) (by decide +kernel)
theorem wq_453 : (Jvm.Cond.selects "KitRunner$Tally" ({ cls := "KitRunner$Tally", name := "failedInAll", desc := "()I" } : Jvm.MethodName) ({ cls := "KitRunner$Tally", name := "failedInAll", desc := "()I" } : Jvm.MethodName)) ∈ wG := wG_of 453 (by decide +kernel) (by decide +kernel)
theorem wq_454 : (Jvm.Cond.code ({ cls := "KitRunner$Tally", name := "failedInAll", desc := "()I" } : Jvm.MethodName) prog_9_method_11_code (1 : Nat) (Option.some Jvm.ClassFile.FieldType.int)) ∈ wG := wG_of 454 (by decide +kernel) (by decide +kernel)
theorem wq_455 : (Jvm.Cond.methodLink "KitRunner$Tally" (35 : Nat) ({ cls := "KitRunner$Tally", name := "sum", desc := "([I)I" } : Jvm.MethodName)) ∈ wG := wG_of 455 (by decide +kernel) (by decide +kernel)
theorem wq_456 : (Jvm.Cond.static ({ cls := "KitRunner$Tally", name := "sum", desc := "([I)I" } : Jvm.MethodName)) ∈ wG := wG_of 456 (by decide +kernel) (by decide +kernel)
theorem wq_457 : (Jvm.Cond.code ({ cls := "KitRunner$Tally", name := "sum", desc := "([I)I" } : Jvm.MethodName) prog_9_method_13_code (3 : Nat) (Option.some Jvm.ClassFile.FieldType.int)) ∈ wG := wG_of 457 (by decide +kernel) (by decide +kernel)
theorem wq_464 : (Jvm.Cond.methodLink "KitRunner" (131 : Nat) ({ cls := "KitRunner$FailureList", name := "held", desc := "()I" } : Jvm.MethodName)) ∈ wG := wG_of 464 (by decide +kernel) (by decide +kernel)
theorem wq_465 : (Jvm.Cond.instanceMethod ({ cls := "KitRunner$FailureList", name := "held", desc := "()I" } : Jvm.MethodName)) ∈ wG := wG_of 465 (by decide +kernel) (by decide +kernel)
theorem wq_466 : (Jvm.Cond.selects "KitRunner$FailureList" ({ cls := "KitRunner$FailureList", name := "held", desc := "()I" } : Jvm.MethodName) ({ cls := "KitRunner$FailureList", name := "held", desc := "()I" } : Jvm.MethodName)) ∈ wG := wG_of 466 (by decide +kernel) (by decide +kernel)
theorem wq_467 : (Jvm.Cond.code ({ cls := "KitRunner$FailureList", name := "held", desc := "()I" } : Jvm.MethodName) prog_4_method_3_code (1 : Nat) (Option.some Jvm.ClassFile.FieldType.int)) ∈ wG := wG_of 467 (by decide +kernel) (by decide +kernel)
theorem wq_468 : (Jvm.Cond.methodLink "KitRunner" (132 : Nat) ({ cls := "KitRunner$FailureList", name := "entry", desc := "(I)I" } : Jvm.MethodName)) ∈ wG := wG_of 468 (by decide +kernel) (by decide +kernel)
theorem wq_469 : (Jvm.Cond.instanceMethod ({ cls := "KitRunner$FailureList", name := "entry", desc := "(I)I" } : Jvm.MethodName)) ∈ wG := wG_of 469 (by decide +kernel) (by decide +kernel)
theorem wq_470 : (Jvm.Cond.selects "KitRunner$FailureList" ({ cls := "KitRunner$FailureList", name := "entry", desc := "(I)I" } : Jvm.MethodName) ({ cls := "KitRunner$FailureList", name := "entry", desc := "(I)I" } : Jvm.MethodName)) ∈ wG := wG_of 470 (by decide +kernel) (by decide +kernel)
theorem wq_471 : (Jvm.Cond.code ({ cls := "KitRunner$FailureList", name := "entry", desc := "(I)I" } : Jvm.MethodName) prog_4_method_5_code (2 : Nat) (Option.some Jvm.ClassFile.FieldType.int)) ∈ wG := wG_of 471 (by decide +kernel) (by decide +kernel)
theorem wq_472 : (Jvm.Cond.methodLink "KitRunner" (139 : Nat) ({ cls := "KitRunner$FailureList", name := "placeOfA", desc := "(I)I" } : Jvm.MethodName)) ∈ wG := wG_of 472 (by decide +kernel) (by decide +kernel)
theorem wq_473 : (Jvm.Cond.instanceMethod ({ cls := "KitRunner$FailureList", name := "placeOfA", desc := "(I)I" } : Jvm.MethodName)) ∈ wG := wG_of 473 (by decide +kernel) (by decide +kernel)
theorem wq_474 : (Jvm.Cond.selects "KitRunner$FailureList" ({ cls := "KitRunner$FailureList", name := "placeOfA", desc := "(I)I" } : Jvm.MethodName) ({ cls := "KitRunner$FailureList", name := "placeOfA", desc := "(I)I" } : Jvm.MethodName)) ∈ wG := wG_of 474 (by decide +kernel) (by decide +kernel)
theorem wq_475 : (Jvm.Cond.code ({ cls := "KitRunner$FailureList", name := "placeOfA", desc := "(I)I" } : Jvm.MethodName) prog_4_method_6_code (2 : Nat) (Option.some Jvm.ClassFile.FieldType.int)) ∈ wG := wG_of 475 (by decide +kernel) (by decide +kernel)
theorem wq_476 : (Jvm.Cond.methodLink "KitRunner" (142 : Nat) ({ cls := "KitRunner$FailureList", name := "placeOfB", desc := "(I)I" } : Jvm.MethodName)) ∈ wG := wG_of 476 (by decide +kernel) (by decide +kernel)
theorem wq_477 : (Jvm.Cond.instanceMethod ({ cls := "KitRunner$FailureList", name := "placeOfB", desc := "(I)I" } : Jvm.MethodName)) ∈ wG := wG_of 477 (by decide +kernel) (by decide +kernel)
theorem wq_478 : (Jvm.Cond.selects "KitRunner$FailureList" ({ cls := "KitRunner$FailureList", name := "placeOfB", desc := "(I)I" } : Jvm.MethodName) ({ cls := "KitRunner$FailureList", name := "placeOfB", desc := "(I)I" } : Jvm.MethodName)) ∈ wG := wG_of 478 (by decide +kernel) (by decide +kernel)
theorem wq_479 : (Jvm.Cond.code ({ cls := "KitRunner$FailureList", name := "placeOfB", desc := "(I)I" } : Jvm.MethodName) prog_4_method_7_code (2 : Nat) (Option.some Jvm.ClassFile.FieldType.int)) ∈ wG := wG_of 479 (by decide +kernel) (by decide +kernel)
theorem wq_480 : (Jvm.Cond.methodLink "KitRunner" (145 : Nat) ({ cls := "KitRunner$FailureList", name := "foretold", desc := "(I)J" } : Jvm.MethodName)) ∈ wG := wG_of 480 (by decide +kernel) (by decide +kernel)
theorem wq_481 : (Jvm.Cond.instanceMethod ({ cls := "KitRunner$FailureList", name := "foretold", desc := "(I)J" } : Jvm.MethodName)) ∈ wG := wG_of 481 (by decide +kernel) (by decide +kernel)
theorem wq_482 : (Jvm.Cond.selects "KitRunner$FailureList" ({ cls := "KitRunner$FailureList", name := "foretold", desc := "(I)J" } : Jvm.MethodName) ({ cls := "KitRunner$FailureList", name := "foretold", desc := "(I)J" } : Jvm.MethodName)) ∈ wG := wG_of 482 (by decide +kernel) (by decide +kernel)
theorem wq_483 : (Jvm.Cond.code ({ cls := "KitRunner$FailureList", name := "foretold", desc := "(I)J" } : Jvm.MethodName) prog_4_method_8_code (2 : Nat) (Option.some Jvm.ClassFile.FieldType.long)) ∈ wG := wG_of 483 (by decide +kernel) (by decide +kernel)
theorem wq_484 : (Jvm.Cond.methodLink "KitRunner" (149 : Nat) ({ cls := "KitRunner$FailureList", name := "given", desc := "(I)J" } : Jvm.MethodName)) ∈ wG := wG_of 484 (by decide +kernel) (by decide +kernel)
theorem wq_485 : (Jvm.Cond.instanceMethod ({ cls := "KitRunner$FailureList", name := "given", desc := "(I)J" } : Jvm.MethodName)) ∈ wG := wG_of 485 (by decide +kernel) (by decide +kernel)
theorem wq_486 : (Jvm.Cond.selects "KitRunner$FailureList" ({ cls := "KitRunner$FailureList", name := "given", desc := "(I)J" } : Jvm.MethodName) ({ cls := "KitRunner$FailureList", name := "given", desc := "(I)J" } : Jvm.MethodName)) ∈ wG := wG_of 486 (by decide +kernel) (by decide +kernel)
theorem wq_487 : (Jvm.Cond.code ({ cls := "KitRunner$FailureList", name := "given", desc := "(I)J" } : Jvm.MethodName) prog_4_method_9_code (2 : Nat) (Option.some Jvm.ClassFile.FieldType.long)) ∈ wG := wG_of 487 (by decide +kernel) (by decide +kernel)
theorem wq_492 : (Jvm.Cond.methodLink "KitRunner" (152 : Nat) ({ cls := "KitRunner$Shrinker", name := "reduce", desc := "(LKitRunner$Machine;III)V" } : Jvm.MethodName)) ∈ wG := wG_of 492 (by decide +kernel) (by decide +kernel)
theorem wq_493 : (Jvm.Cond.instanceMethod ({ cls := "KitRunner$Shrinker", name := "reduce", desc := "(LKitRunner$Machine;III)V" } : Jvm.MethodName)) ∈ wG := wG_of 493 (by decide +kernel) (by decide +kernel)
theorem wq_494 : (Jvm.Cond.selects "KitRunner$Shrinker" ({ cls := "KitRunner$Shrinker", name := "reduce", desc := "(LKitRunner$Machine;III)V" } : Jvm.MethodName) ({ cls := "KitRunner$Shrinker", name := "reduce", desc := "(LKitRunner$Machine;III)V" } : Jvm.MethodName)) ∈ wG := wG_of 494 (by decide +kernel) (by decide +kernel)
theorem wq_495 : (Jvm.Cond.code ({ cls := "KitRunner$Shrinker", name := "reduce", desc := "(LKitRunner$Machine;III)V" } : Jvm.MethodName) prog_8_method_2_code (5 : Nat) (Option.none : Option Jvm.ClassFile.FieldType)) ∈ wG := wG_of 495 (by decide +kernel) (by decide +kernel)
theorem wq_496 : (Jvm.Cond.methodLink "KitRunner$Shrinker" (21 : Nat) ({ cls := "KitRunner$Machine", name := "failsAt", desc := "(III)Z" } : Jvm.MethodName)) ∈ wG := wG_of 496 (by decide +kernel) (by decide +kernel)
theorem wq_497 : (Jvm.Cond.instanceMethod ({ cls := "KitRunner$Machine", name := "failsAt", desc := "(III)Z" } : Jvm.MethodName)) ∈ wG := wG_of 497 (by decide +kernel) (by decide +kernel)
theorem wq_498 : (Jvm.Cond.selects "KitRunner$Machine" ({ cls := "KitRunner$Machine", name := "failsAt", desc := "(III)Z" } : Jvm.MethodName) ({ cls := "KitRunner$Machine", name := "failsAt", desc := "(III)Z" } : Jvm.MethodName)) ∈ wG := wG_of 498 (by decide +kernel) (by decide +kernel)
theorem wq_499 : (Jvm.Cond.code ({ cls := "KitRunner$Machine", name := "failsAt", desc := "(III)Z" } : Jvm.MethodName) prog_5_method_6_code (6 : Nat) (Option.some Jvm.ClassFile.FieldType.boolean)) ∈ wG := wG_of 499 (by decide +kernel) (by decide +kernel)
theorem wq_501 : (Jvm.Cond.methodLink "KitRunner$Machine" (42 : Nat) ({ cls := "KitRunner$Machine", name := "give", desc := "(III)J" } : Jvm.MethodName)) ∈ wG := wG_of 501 (by decide +kernel) (by decide +kernel)
theorem wq_502 : (Jvm.Cond.methodLink "KitRunner$Shrinker" (27 : Nat) ({ cls := "KitRunner$Shrinker", name := "moveA", desc := "(LKitRunner$Machine;I)Z" } : Jvm.MethodName)) ∈ wG := wG_of 502 (by decide +kernel) (by decide +kernel)
theorem wq_504 : (Jvm.Cond.instanceMethod ({ cls := "KitRunner$Shrinker", name := "moveA", desc := "(LKitRunner$Machine;I)Z" } : Jvm.MethodName)) ∈ wG := wG_of 504 (by decide +kernel) (by decide +kernel)
theorem wq_505 : (Jvm.Cond.code ({ cls := "KitRunner$Shrinker", name := "moveA", desc := "(LKitRunner$Machine;I)Z" } : Jvm.MethodName) prog_8_method_6_code (4 : Nat) (Option.some Jvm.ClassFile.FieldType.boolean)) ∈ wG := wG_of 505 (by decide +kernel) (by decide +kernel)
theorem wq_506 : (Jvm.Cond.methodLink "KitRunner$Shrinker" (31 : Nat) ({ cls := "KitRunner$Shrinker", name := "moveB", desc := "(LKitRunner$Machine;I)Z" } : Jvm.MethodName)) ∈ wG := wG_of 506 (by decide +kernel) (by decide +kernel)
theorem wq_508 : (Jvm.Cond.instanceMethod ({ cls := "KitRunner$Shrinker", name := "moveB", desc := "(LKitRunner$Machine;I)Z" } : Jvm.MethodName)) ∈ wG := wG_of 508 (by decide +kernel) (by decide +kernel)
theorem wq_509 : (Jvm.Cond.code ({ cls := "KitRunner$Shrinker", name := "moveB", desc := "(LKitRunner$Machine;I)Z" } : Jvm.MethodName) prog_8_method_7_code (4 : Nat) (Option.some Jvm.ClassFile.FieldType.boolean)) ∈ wG := wG_of 509 (by decide +kernel) (by decide +kernel)
theorem wq_510 : (Jvm.Cond.methodLink "KitRunner" (156 : Nat) ({ cls := "KitRunner$Shrinker", name := "a", desc := "()I" } : Jvm.MethodName)) ∈ wG := wG_of 510 (by decide +kernel) (by decide +kernel)
theorem wq_511 : (Jvm.Cond.instanceMethod ({ cls := "KitRunner$Shrinker", name := "a", desc := "()I" } : Jvm.MethodName)) ∈ wG := wG_of 511 (by decide +kernel) (by decide +kernel)
theorem wq_512 : (Jvm.Cond.selects "KitRunner$Shrinker" ({ cls := "KitRunner$Shrinker", name := "a", desc := "()I" } : Jvm.MethodName) ({ cls := "KitRunner$Shrinker", name := "a", desc := "()I" } : Jvm.MethodName)) ∈ wG := wG_of 512 (by decide +kernel) (by decide +kernel)
theorem wq_513 : (Jvm.Cond.code ({ cls := "KitRunner$Shrinker", name := "a", desc := "()I" } : Jvm.MethodName) prog_8_method_3_code (1 : Nat) (Option.some Jvm.ClassFile.FieldType.int)) ∈ wG := wG_of 513 (by decide +kernel) (by decide +kernel)
theorem wq_515 : (Jvm.Cond.methodLink "KitRunner" (159 : Nat) ({ cls := "KitRunner$Shrinker", name := "b", desc := "()I" } : Jvm.MethodName)) ∈ wG := wG_of 515 (by decide +kernel) (by decide +kernel)
theorem wq_516 : (Jvm.Cond.instanceMethod ({ cls := "KitRunner$Shrinker", name := "b", desc := "()I" } : Jvm.MethodName)) ∈ wG := wG_of 516 (by decide +kernel) (by decide +kernel)
theorem wq_517 : (Jvm.Cond.selects "KitRunner$Shrinker" ({ cls := "KitRunner$Shrinker", name := "b", desc := "()I" } : Jvm.MethodName) ({ cls := "KitRunner$Shrinker", name := "b", desc := "()I" } : Jvm.MethodName)) ∈ wG := wG_of 517 (by decide +kernel) (by decide +kernel)
theorem wq_518 : (Jvm.Cond.code ({ cls := "KitRunner$Shrinker", name := "b", desc := "()I" } : Jvm.MethodName) prog_8_method_4_code (1 : Nat) (Option.some Jvm.ClassFile.FieldType.int)) ∈ wG := wG_of 518 (by decide +kernel) (by decide +kernel)
theorem wq_519 : (Jvm.Cond.methodLink "KitRunner" (162 : Nat) ({ cls := "KitRunner$Shrinker", name := "steps", desc := "()I" } : Jvm.MethodName)) ∈ wG := wG_of 519 (by decide +kernel) (by decide +kernel)
theorem wq_520 : (Jvm.Cond.instanceMethod ({ cls := "KitRunner$Shrinker", name := "steps", desc := "()I" } : Jvm.MethodName)) ∈ wG := wG_of 520 (by decide +kernel) (by decide +kernel)
theorem wq_521 : (Jvm.Cond.selects "KitRunner$Shrinker" ({ cls := "KitRunner$Shrinker", name := "steps", desc := "()I" } : Jvm.MethodName) ({ cls := "KitRunner$Shrinker", name := "steps", desc := "()I" } : Jvm.MethodName)) ∈ wG := wG_of 521 (by decide +kernel) (by decide +kernel)
theorem wq_522 : (Jvm.Cond.code ({ cls := "KitRunner$Shrinker", name := "steps", desc := "()I" } : Jvm.MethodName) prog_8_method_5_code (1 : Nat) (Option.some Jvm.ClassFile.FieldType.int)) ∈ wG := wG_of 522 (by decide +kernel) (by decide +kernel)
theorem wq_527 : (Jvm.Cond.methodLink "KitRunner" (165 : Nat) ({ cls := "KitRunner$Tally", name := "marks", desc := "(I)I" } : Jvm.MethodName)) ∈ wG := wG_of 527 (by decide +kernel) (by decide +kernel)
theorem wq_528 : (Jvm.Cond.instanceMethod ({ cls := "KitRunner$Tally", name := "marks", desc := "(I)I" } : Jvm.MethodName)) ∈ wG := wG_of 528 (by decide +kernel) (by decide +kernel)
theorem wq_529 : (Jvm.Cond.selects "KitRunner$Tally" ({ cls := "KitRunner$Tally", name := "marks", desc := "(I)I" } : Jvm.MethodName) ({ cls := "KitRunner$Tally", name := "marks", desc := "(I)I" } : Jvm.MethodName)) ∈ wG := wG_of 529 (by decide +kernel) (by decide +kernel)
theorem wq_530 : (Jvm.Cond.code ({ cls := "KitRunner$Tally", name := "marks", desc := "(I)I" } : Jvm.MethodName) prog_9_method_9_code (2 : Nat) (Option.some Jvm.ClassFile.FieldType.int)) ∈ wG := wG_of 530 (by decide +kernel) (by decide +kernel)
theorem wq_535 : (Jvm.Cond.methodLink "KitRunner" (168 : Nat) ({ cls := "KitRunner$Report", name := "at", desc := "(I)I" } : Jvm.MethodName)) ∈ wG := wG_of 535 (by decide +kernel) (by decide +kernel)
theorem wq_536 : (Jvm.Cond.instanceMethod ({ cls := "KitRunner$Report", name := "at", desc := "(I)I" } : Jvm.MethodName)) ∈ wG := wG_of 536 (by decide +kernel) (by decide +kernel)
theorem wq_537 : (Jvm.Cond.selects "KitRunner$Report" ({ cls := "KitRunner$Report", name := "at", desc := "(I)I" } : Jvm.MethodName) ({ cls := "KitRunner$Report", name := "at", desc := "(I)I" } : Jvm.MethodName)) ∈ wG := wG_of 537 (by decide +kernel) (by decide +kernel)
theorem wq_538 : (Jvm.Cond.code ({ cls := "KitRunner$Report", name := "at", desc := "(I)I" } : Jvm.MethodName) prog_7_method_4_code (2 : Nat) (Option.some Jvm.ClassFile.FieldType.int)) ∈ wG := wG_of 538 (by decide +kernel) (by decide +kernel)
theorem wq_543 : (Jvm.Cond.methodLink "KitRunner" (171 : Nat) ({ cls := "KitRunner$Tally", name := "takenInAll", desc := "()I" } : Jvm.MethodName)) ∈ wG := wG_of 543 (by decide +kernel) (by decide +kernel)
theorem wq_544 : (Jvm.Cond.instanceMethod ({ cls := "KitRunner$Tally", name := "takenInAll", desc := "()I" } : Jvm.MethodName)) ∈ wG := wG_of 544 (by decide +kernel) (by decide +kernel)
theorem wq_545 : (Jvm.Cond.selects "KitRunner$Tally" ({ cls := "KitRunner$Tally", name := "takenInAll", desc := "()I" } : Jvm.MethodName) ({ cls := "KitRunner$Tally", name := "takenInAll", desc := "()I" } : Jvm.MethodName)) ∈ wG := wG_of 545 (by decide +kernel) (by decide +kernel)
theorem wq_546 : (Jvm.Cond.code ({ cls := "KitRunner$Tally", name := "takenInAll", desc := "()I" } : Jvm.MethodName) prog_9_method_10_code (1 : Nat) (Option.some Jvm.ClassFile.FieldType.int)) ∈ wG := wG_of 546 (by decide +kernel) (by decide +kernel)
theorem wq_547 : (Jvm.Cond.methodLink "KitRunner" (174 : Nat) ({ cls := "KitRunner$Tally", name := "leftOut", desc := "()I" } : Jvm.MethodName)) ∈ wG := wG_of 547 (by decide +kernel) (by decide +kernel)
theorem wq_548 : (Jvm.Cond.instanceMethod ({ cls := "KitRunner$Tally", name := "leftOut", desc := "()I" } : Jvm.MethodName)) ∈ wG := wG_of 548 (by decide +kernel) (by decide +kernel)
theorem wq_549 : (Jvm.Cond.selects "KitRunner$Tally" ({ cls := "KitRunner$Tally", name := "leftOut", desc := "()I" } : Jvm.MethodName) ({ cls := "KitRunner$Tally", name := "leftOut", desc := "()I" } : Jvm.MethodName)) ∈ wG := wG_of 549 (by decide +kernel) (by decide +kernel)
theorem wq_550 : (Jvm.Cond.code ({ cls := "KitRunner$Tally", name := "leftOut", desc := "()I" } : Jvm.MethodName) prog_9_method_6_code (1 : Nat) (Option.some Jvm.ClassFile.FieldType.int)) ∈ wG := wG_of 550 (by decide +kernel) (by decide +kernel)
theorem wq_551 : (Jvm.Cond.methodLink "KitRunner" (177 : Nat) ({ cls := "KitRunner$PairBook", name := "held", desc := "()I" } : Jvm.MethodName)) ∈ wG := wG_of 551 (by decide +kernel) (by decide +kernel)
theorem wq_552 : (Jvm.Cond.instanceMethod ({ cls := "KitRunner$PairBook", name := "held", desc := "()I" } : Jvm.MethodName)) ∈ wG := wG_of 552 (by decide +kernel) (by decide +kernel)
theorem wq_553 : (Jvm.Cond.selects "KitRunner$PairBook" ({ cls := "KitRunner$PairBook", name := "held", desc := "()I" } : Jvm.MethodName) ({ cls := "KitRunner$PairBook", name := "held", desc := "()I" } : Jvm.MethodName)) ∈ wG := wG_of 553 (by decide +kernel) (by decide +kernel)
theorem wq_554 : (Jvm.Cond.code ({ cls := "KitRunner$PairBook", name := "held", desc := "()I" } : Jvm.MethodName) prog_6_method_3_code (1 : Nat) (Option.some Jvm.ClassFile.FieldType.int)) ∈ wG := wG_of 554 (by decide +kernel) (by decide +kernel)
theorem wq_555 : (Jvm.Cond.methodLink "KitRunner" (178 : Nat) ({ cls := "KitRunner$Tally", name := "marksInAll", desc := "()I" } : Jvm.MethodName)) ∈ wG := wG_of 555 (by decide +kernel) (by decide +kernel)
theorem wq_556 : (Jvm.Cond.instanceMethod ({ cls := "KitRunner$Tally", name := "marksInAll", desc := "()I" } : Jvm.MethodName)) ∈ wG := wG_of 556 (by decide +kernel) (by decide +kernel)
theorem wq_557 : (Jvm.Cond.selects "KitRunner$Tally" ({ cls := "KitRunner$Tally", name := "marksInAll", desc := "()I" } : Jvm.MethodName) ({ cls := "KitRunner$Tally", name := "marksInAll", desc := "()I" } : Jvm.MethodName)) ∈ wG := wG_of 557 (by decide +kernel) (by decide +kernel)
theorem wq_558 : (Jvm.Cond.code ({ cls := "KitRunner$Tally", name := "marksInAll", desc := "()I" } : Jvm.MethodName) prog_9_method_12_code (3 : Nat) (Option.some Jvm.ClassFile.FieldType.int)) ∈ wG := wG_of 558 (by decide +kernel) (by decide +kernel)
theorem wq_559 : (Jvm.Cond.methodLink "KitRunner$Tally" (39 : Nat) ({ cls := "java/lang/Integer", name := "bitCount", desc := "(I)I" } : Jvm.MethodName)) ∈ wG := wG_of 559 (by decide +kernel) (by decide +kernel)
theorem wq_560 : (Jvm.Cond.static ({ cls := "java/lang/Integer", name := "bitCount", desc := "(I)I" } : Jvm.MethodName)) ∈ wG := wG_of 560 (by decide +kernel) (by decide +kernel)
theorem wq_561 : (Jvm.Cond.code ({ cls := "java/lang/Integer", name := "bitCount", desc := "(I)I" } : Jvm.MethodName) prog_13_method_49_code (1 : Nat) (Option.some Jvm.ClassFile.FieldType.int)) ∈ wG := wG_of 561 (by decide +kernel) (by decide +kernel)
theorem wq_562 : (Jvm.Cond.constant "java/lang/Integer" (265 : Nat) (1431655765 : Int32)) ∈ wG := wG_of 562 (by decide +kernel) (by decide +kernel)
theorem wq_563 : (Jvm.Cond.constant "java/lang/Integer" (266 : Nat) (858993459 : Int32)) ∈ wG := wG_of 563 (by decide +kernel) (by decide +kernel)
theorem wq_564 : (Jvm.Cond.constant "java/lang/Integer" (267 : Nat) (252645135 : Int32)) ∈ wG := wG_of 564 (by decide +kernel) (by decide +kernel)
theorem wq_565 : (Jvm.Cond.methodLink "KitRunner" (181 : Nat) ({ cls := "KitRunner$Report", name := "length", desc := "()I" } : Jvm.MethodName)) ∈ wG := wG_of 565 (by decide +kernel) (by decide +kernel)
theorem wq_566 : (Jvm.Cond.instanceMethod ({ cls := "KitRunner$Report", name := "length", desc := "()I" } : Jvm.MethodName)) ∈ wG := wG_of 566 (by decide +kernel) (by decide +kernel)
theorem wq_567 : (Jvm.Cond.selects "KitRunner$Report" ({ cls := "KitRunner$Report", name := "length", desc := "()I" } : Jvm.MethodName) ({ cls := "KitRunner$Report", name := "length", desc := "()I" } : Jvm.MethodName)) ∈ wG := wG_of 567 (by decide +kernel) (by decide +kernel)
theorem wq_568 : (Jvm.Cond.code ({ cls := "KitRunner$Report", name := "length", desc := "()I" } : Jvm.MethodName) prog_7_method_3_code (1 : Nat) (Option.some Jvm.ClassFile.FieldType.int)) ∈ wG := wG_of 568 (by decide +kernel) (by decide +kernel)
theorem wq_574 : (Jvm.Cond.methodLink "KitRunnerModel" (1 : Nat) ({ cls := "java/lang/Object", name := "<init>", desc := "()V" } : Jvm.MethodName)) ∈ wG := wG_of 574 (by decide +kernel) (by decide +kernel)
theorem wq_575 : (Jvm.Cond.constant "KitRunnerModel" (25 : Nat) (65535 : Int32)) ∈ wG := wG_of 575 (by decide +kernel) (by decide +kernel)
theorem wq_576 : (Jvm.Cond.fieldLink "KitRunnerModel" (7 : Nat) "KitRunnerModel" "faultEntry" "[I") ∈ wG := wG_of 576 (by decide +kernel) (by decide +kernel)
theorem wq_577 : (Jvm.Cond.fieldLink "KitRunnerModel" (13 : Nat) "KitRunnerModel" "faultSort" "[I") ∈ wG := wG_of 577 (by decide +kernel) (by decide +kernel)
theorem wq_578 : (Jvm.Cond.fieldLink "KitRunnerModel" (16 : Nat) "KitRunnerModel" "faultNumber" "[I") ∈ wG := wG_of 578 (by decide +kernel) (by decide +kernel)
theorem wq_579 : (Jvm.Cond.fieldLink "KitRunnerModel" (19 : Nat) "KitRunnerModel" "outEntry" "[I") ∈ wG := wG_of 579 (by decide +kernel) (by decide +kernel)
theorem wq_580 : (Jvm.Cond.fieldLink "KitRunnerModel" (22 : Nat) "KitRunnerModel" "outNumber" "[I") ∈ wG := wG_of 580 (by decide +kernel) (by decide +kernel)
theorem wq_581 : (Jvm.Cond.fieldLink "KitRunnerModel" (98 : Nat) "KitRunnerModel" "faults" "I") ∈ wG := wG_of 581 (by decide +kernel) (by decide +kernel)
theorem wq_582 : (Jvm.Cond.fieldLink "KitRunnerModel" (101 : Nat) "KitRunnerModel" "outs" "I") ∈ wG := wG_of 582 (by decide +kernel) (by decide +kernel)
theorem wq_583 : (Jvm.Cond.fieldLink "KitRunnerModel" (26 : Nat) "KitRunnerModel" "enabled" "I") ∈ wG := wG_of 583 (by decide +kernel) (by decide +kernel)
theorem wq_584 : (Jvm.Cond.fieldLink "KitRunnerModel" (169 : Nat) "KitRunnerModel" "runs" "I") ∈ wG := wG_of 584 (by decide +kernel) (by decide +kernel)
theorem wq_585 : (Jvm.Cond.fieldLink "KitRunnerModel" (30 : Nat) "KitRunnerModel" "takenBy" "[I") ∈ wG := wG_of 585 (by decide +kernel) (by decide +kernel)
theorem wq_586 : (Jvm.Cond.fieldLink "KitRunnerModel" (33 : Nat) "KitRunnerModel" "failedBy" "[I") ∈ wG := wG_of 586 (by decide +kernel) (by decide +kernel)
theorem wq_587 : (Jvm.Cond.fieldLink "KitRunnerModel" (36 : Nat) "KitRunnerModel" "ledger" "[I") ∈ wG := wG_of 587 (by decide +kernel) (by decide +kernel)
theorem wq_588 : (Jvm.Cond.fieldLink "KitRunnerModel" (39 : Nat) "KitRunnerModel" "withA" "[Z") ∈ wG := wG_of 588 (by decide +kernel) (by decide +kernel)
theorem wq_589 : (Jvm.Cond.fieldLink "KitRunnerModel" (43 : Nat) "KitRunnerModel" "withB" "[Z") ∈ wG := wG_of 589 (by decide +kernel) (by decide +kernel)
theorem wq_590 : (Jvm.Cond.fieldLink "KitRunnerModel" (46 : Nat) "KitRunnerModel" "both" "[Z") ∈ wG := wG_of 590 (by decide +kernel) (by decide +kernel)
theorem wq_591 : (Jvm.Cond.fieldLink "KitRunnerModel" (152 : Nat) "KitRunnerModel" "taken" "I") ∈ wG := wG_of 591 (by decide +kernel) (by decide +kernel)
theorem wq_592 : (Jvm.Cond.fieldLink "KitRunnerModel" (155 : Nat) "KitRunnerModel" "failed" "I") ∈ wG := wG_of 592 (by decide +kernel) (by decide +kernel)
theorem wq_593 : (Jvm.Cond.fieldLink "KitRunnerModel" (158 : Nat) "KitRunnerModel" "left" "I") ∈ wG := wG_of 593 (by decide +kernel) (by decide +kernel)
theorem wq_594 : (Jvm.Cond.fieldLink "KitRunnerModel" (149 : Nat) "KitRunnerModel" "pairsSeen" "I") ∈ wG := wG_of 594 (by decide +kernel) (by decide +kernel)
theorem wq_595 : (Jvm.Cond.fieldLink "KitRunnerModel" (49 : Nat) "KitRunnerModel" "case3" "[I") ∈ wG := wG_of 595 (by decide +kernel) (by decide +kernel)
theorem wq_596 : (Jvm.Cond.fieldLink "KitRunnerModel" (52 : Nat) "KitRunnerModel" "told" "[J") ∈ wG := wG_of 596 (by decide +kernel) (by decide +kernel)
theorem wq_597 : (Jvm.Cond.fieldLink "KitRunnerModel" (56 : Nat) "KitRunnerModel" "report" "[I") ∈ wG := wG_of 597 (by decide +kernel) (by decide +kernel)
theorem wq_652 : (Jvm.Cond.arrayClass Jvm.ClassFile.FieldType.boolean) ∈ wG := wG_of 652 (by decide +kernel) (by decide +kernel)
theorem wq_657 : (Jvm.Cond.methodLink "KitRunnerModel" (94 : Nat) ({ cls := "KitRunnerModel", name := "in", desc := "(II)Z" } : Jvm.MethodName)) ∈ wG := wG_of 657 (by decide +kernel) (by decide +kernel)
theorem wq_658 : (Jvm.Cond.static ({ cls := "KitRunnerModel", name := "in", desc := "(II)Z" } : Jvm.MethodName)) ∈ wG := wG_of 658 (by decide +kernel) (by decide +kernel)
theorem wq_659 : (Jvm.Cond.code ({ cls := "KitRunnerModel", name := "in", desc := "(II)Z" } : Jvm.MethodName) prog_12_method_2_code (2 : Nat) (Option.some Jvm.ClassFile.FieldType.boolean)) ∈ wG := wG_of 659 (by decide +kernel) (by decide +kernel)
theorem wq_676 : (Jvm.Cond.constantLong "KitRunnerModel" (104 : Nat) (255 : Int64)) ∈ wG := wG_of 676 (by decide +kernel) (by decide +kernel)
theorem wq_677 : (Jvm.Cond.methodLink "KitRunnerModel" (106 : Nat) ({ cls := "KitRunnerModel", name := "name", desc := "(I)J" } : Jvm.MethodName)) ∈ wG := wG_of 677 (by decide +kernel) (by decide +kernel)
theorem wq_678 : (Jvm.Cond.static ({ cls := "KitRunnerModel", name := "name", desc := "(I)J" } : Jvm.MethodName)) ∈ wG := wG_of 678 (by decide +kernel) (by decide +kernel)
theorem wq_679 : (Jvm.Cond.code ({ cls := "KitRunnerModel", name := "name", desc := "(I)J" } : Jvm.MethodName) prog_12_method_4_code (1 : Nat) (Option.some Jvm.ClassFile.FieldType.long)) ∈ wG := wG_of 679 (by decide +kernel) (by decide +kernel)
theorem wq_680 : (Jvm.Cond.constantLong "KitRunnerModel" (62 : Nat) (6382692 : Int64)) ∈ wG := wG_of 680 (by decide +kernel) (by decide +kernel)
theorem wq_681 : (Jvm.Cond.constantLong "KitRunnerModel" (64 : Nat) (7566690 : Int64)) ∈ wG := wG_of 681 (by decide +kernel) (by decide +kernel)
theorem wq_682 : (Jvm.Cond.constantLong "KitRunnerModel" (66 : Nat) (7173484 : Int64)) ∈ wG := wG_of 682 (by decide +kernel) (by decide +kernel)
theorem wq_683 : (Jvm.Cond.constantLong "KitRunnerModel" (68 : Nat) (6580598 : Int64)) ∈ wG := wG_of 683 (by decide +kernel) (by decide +kernel)
theorem wq_684 : (Jvm.Cond.constantLong "KitRunnerModel" (70 : Nat) (7497069 : Int64)) ∈ wG := wG_of 684 (by decide +kernel) (by decide +kernel)
theorem wq_685 : (Jvm.Cond.constantLong "KitRunnerModel" (72 : Nat) (7563372 : Int64)) ∈ wG := wG_of 685 (by decide +kernel) (by decide +kernel)
theorem wq_686 : (Jvm.Cond.constantLong "KitRunnerModel" (74 : Nat) (7563378 : Int64)) ∈ wG := wG_of 686 (by decide +kernel) (by decide +kernel)
theorem wq_687 : (Jvm.Cond.constantLong "KitRunnerModel" (76 : Nat) (1970497650 : Int64)) ∈ wG := wG_of 687 (by decide +kernel) (by decide +kernel)
theorem wq_688 : (Jvm.Cond.constantLong "KitRunnerModel" (78 : Nat) (1652126821 : Int64)) ∈ wG := wG_of 688 (by decide +kernel) (by decide +kernel)
theorem wq_689 : (Jvm.Cond.constantLong "KitRunnerModel" (80 : Nat) (1667785074 : Int64)) ∈ wG := wG_of 689 (by decide +kernel) (by decide +kernel)
theorem wq_690 : (Jvm.Cond.constantLong "KitRunnerModel" (82 : Nat) (24948 : Int64)) ∈ wG := wG_of 690 (by decide +kernel) (by decide +kernel)
theorem wq_691 : (Jvm.Cond.constantLong "KitRunnerModel" (84 : Nat) (1667591276 : Int64)) ∈ wG := wG_of 691 (by decide +kernel) (by decide +kernel)
theorem wq_692 : (Jvm.Cond.constantLong "KitRunnerModel" (86 : Nat) (1936292453 : Int64)) ∈ wG := wG_of 692 (by decide +kernel) (by decide +kernel)
theorem wq_693 : (Jvm.Cond.constantLong "KitRunnerModel" (88 : Nat) (1667330932 : Int64)) ∈ wG := wG_of 693 (by decide +kernel) (by decide +kernel)
theorem wq_694 : (Jvm.Cond.constantLong "KitRunnerModel" (90 : Nat) (1952807028 : Int64)) ∈ wG := wG_of 694 (by decide +kernel) (by decide +kernel)
theorem wq_695 : (Jvm.Cond.constantLong "KitRunnerModel" (92 : Nat) (6516080 : Int64)) ∈ wG := wG_of 695 (by decide +kernel) (by decide +kernel)
theorem wq_700 : (Jvm.Cond.constantLong "KitRunnerModel" (140 : Nat) (-1000000000000 : Int64)) ∈ wG := wG_of 700 (by decide +kernel) (by decide +kernel)
theorem wq_701 : (Jvm.Cond.methodLink "KitRunnerModel" (142 : Nat) ({ cls := "KitRunnerModel", name := "given", desc := "(III)J" } : Jvm.MethodName)) ∈ wG := wG_of 701 (by decide +kernel) (by decide +kernel)
theorem wq_703 : (Jvm.Cond.instanceMethod ({ cls := "KitRunnerModel", name := "given", desc := "(III)J" } : Jvm.MethodName)) ∈ wG := wG_of 703 (by decide +kernel) (by decide +kernel)
theorem wq_704 : (Jvm.Cond.code ({ cls := "KitRunnerModel", name := "given", desc := "(III)J" } : Jvm.MethodName) prog_12_method_12_code (10 : Nat) (Option.some Jvm.ClassFile.FieldType.long)) ∈ wG := wG_of 704 (by decide +kernel) (by decide +kernel)
theorem wq_705 : (Jvm.Cond.methodLink "KitRunnerModel" (132 : Nat) ({ cls := "KitRunnerModel", name := "foretold", desc := "(III)J" } : Jvm.MethodName)) ∈ wG := wG_of 705 (by decide +kernel) (by decide +kernel)
theorem wq_706 : (Jvm.Cond.static ({ cls := "KitRunnerModel", name := "foretold", desc := "(III)J" } : Jvm.MethodName)) ∈ wG := wG_of 706 (by decide +kernel) (by decide +kernel)
theorem wq_707 : (Jvm.Cond.code ({ cls := "KitRunnerModel", name := "foretold", desc := "(III)J" } : Jvm.MethodName) prog_12_method_10_code (3 : Nat) (Option.some Jvm.ClassFile.FieldType.long)) ∈ wG := wG_of 707 (by decide +kernel) (by decide +kernel)
theorem wq_708 : (Jvm.Cond.constantLong "KitRunnerModel" (110 : Nat) (10000000000 : Int64)) ∈ wG := wG_of 708 (by decide +kernel) (by decide +kernel)
theorem wq_709 : (Jvm.Cond.constantLong "KitRunnerModel" (112 : Nat) (107 : Int64)) ∈ wG := wG_of 709 (by decide +kernel) (by decide +kernel)
theorem wq_710 : (Jvm.Cond.constantLong "KitRunnerModel" (114 : Nat) (105 : Int64)) ∈ wG := wG_of 710 (by decide +kernel) (by decide +kernel)
theorem wq_711 : (Jvm.Cond.constantLong "KitRunnerModel" (116 : Nat) (116 : Int64)) ∈ wG := wG_of 711 (by decide +kernel) (by decide +kernel)
theorem wq_712 : (Jvm.Cond.constantLong "KitRunnerModel" (118 : Nat) (20000000000 : Int64)) ∈ wG := wG_of 712 (by decide +kernel) (by decide +kernel)
theorem wq_713 : (Jvm.Cond.constantLong "KitRunnerModel" (120 : Nat) (30000000000 : Int64)) ∈ wG := wG_of 713 (by decide +kernel) (by decide +kernel)
theorem wq_714 : (Jvm.Cond.constantLong "KitRunnerModel" (122 : Nat) (64 : Int64)) ∈ wG := wG_of 714 (by decide +kernel) (by decide +kernel)
theorem wq_715 : (Jvm.Cond.constantLong "KitRunnerModel" (124 : Nat) (40000000000 : Int64)) ∈ wG := wG_of 715 (by decide +kernel) (by decide +kernel)
theorem wq_716 : (Jvm.Cond.constantLong "KitRunnerModel" (126 : Nat) (4 : Int64)) ∈ wG := wG_of 716 (by decide +kernel) (by decide +kernel)
theorem wq_717 : (Jvm.Cond.constantLong "KitRunnerModel" (128 : Nat) (50000000000 : Int64)) ∈ wG := wG_of 717 (by decide +kernel) (by decide +kernel)
theorem wq_718 : (Jvm.Cond.constantLong "KitRunnerModel" (130 : Nat) (-1 : Int64)) ∈ wG := wG_of 718 (by decide +kernel) (by decide +kernel)
theorem wq_719 : (Jvm.Cond.methodLink "KitRunnerModel" (136 : Nat) ({ cls := "KitRunnerModel", name := "trouble", desc := "(J)Z" } : Jvm.MethodName)) ∈ wG := wG_of 719 (by decide +kernel) (by decide +kernel)
theorem wq_720 : (Jvm.Cond.static ({ cls := "KitRunnerModel", name := "trouble", desc := "(J)Z" } : Jvm.MethodName)) ∈ wG := wG_of 720 (by decide +kernel) (by decide +kernel)
theorem wq_721 : (Jvm.Cond.code ({ cls := "KitRunnerModel", name := "trouble", desc := "(J)Z" } : Jvm.MethodName) prog_12_method_11_code (2 : Nat) (Option.some Jvm.ClassFile.FieldType.boolean)) ∈ wG := wG_of 721 (by decide +kernel) (by decide +kernel)
theorem wq_726 : (Jvm.Cond.methodLink "KitRunnerModel" (145 : Nat) ({ cls := "KitRunnerModel", name := "lattice", desc := "(I)I" } : Jvm.MethodName)) ∈ wG := wG_of 726 (by decide +kernel) (by decide +kernel)
theorem wq_727 : (Jvm.Cond.static ({ cls := "KitRunnerModel", name := "lattice", desc := "(I)I" } : Jvm.MethodName)) ∈ wG := wG_of 727 (by decide +kernel) (by decide +kernel)
theorem wq_728 : (Jvm.Cond.code ({ cls := "KitRunnerModel", name := "lattice", desc := "(I)I" } : Jvm.MethodName) prog_12_method_3_code (2 : Nat) (Option.some Jvm.ClassFile.FieldType.int)) ∈ wG := wG_of 728 (by decide +kernel) (by decide +kernel)
theorem wq_729 : (Jvm.Cond.constant "KitRunnerModel" (59 : Nat) (-2147483648 : Int32)) ∈ wG := wG_of 729 (by decide +kernel) (by decide +kernel)
theorem wq_730 : (Jvm.Cond.constant "KitRunnerModel" (60 : Nat) (2147483647 : Int32)) ∈ wG := wG_of 730 (by decide +kernel) (by decide +kernel)
theorem wq_731 : (Jvm.Cond.constant "KitRunnerModel" (61 : Nat) (65536 : Int32)) ∈ wG := wG_of 731 (by decide +kernel) (by decide +kernel)
theorem wq_732 : (Jvm.Cond.methodLink "KitRunnerModel" (161 : Nat) ({ cls := "KitRunnerModel", name := "excluded", desc := "(III)Z" } : Jvm.MethodName)) ∈ wG := wG_of 732 (by decide +kernel) (by decide +kernel)
theorem wq_734 : (Jvm.Cond.instanceMethod ({ cls := "KitRunnerModel", name := "excluded", desc := "(III)Z" } : Jvm.MethodName)) ∈ wG := wG_of 734 (by decide +kernel) (by decide +kernel)
theorem wq_735 : (Jvm.Cond.code ({ cls := "KitRunnerModel", name := "excluded", desc := "(III)Z" } : Jvm.MethodName) prog_12_method_14_code (5 : Nat) (Option.some Jvm.ClassFile.FieldType.boolean)) ∈ wG := wG_of 735 (by decide +kernel) (by decide +kernel)
theorem wq_736 : (Jvm.Cond.methodLink "KitRunnerModel" (165 : Nat) ({ cls := "KitRunnerModel", name := "take", desc := "(III)V" } : Jvm.MethodName)) ∈ wG := wG_of 736 (by decide +kernel) (by decide +kernel)
theorem wq_738 : (Jvm.Cond.instanceMethod ({ cls := "KitRunnerModel", name := "take", desc := "(III)V" } : Jvm.MethodName)) ∈ wG := wG_of 738 (by decide +kernel) (by decide +kernel)
theorem wq_739 : (Jvm.Cond.code ({ cls := "KitRunnerModel", name := "take", desc := "(III)V" } : Jvm.MethodName) prog_12_method_15_code (10 : Nat) (Option.none : Option Jvm.ClassFile.FieldType)) ∈ wG := wG_of 739 (by decide +kernel) (by decide +kernel)
theorem wq_767 : (Jvm.Cond.methodLink "KitRunnerModel" (207 : Nat) ({ cls := "KitRunnerModel", name := "write", desc := "()I" } : Jvm.MethodName)) ∈ wG := wG_of 767 (by decide +kernel) (by decide +kernel)
theorem wq_769 : (Jvm.Cond.instanceMethod ({ cls := "KitRunnerModel", name := "write", desc := "()I" } : Jvm.MethodName)) ∈ wG := wG_of 769 (by decide +kernel) (by decide +kernel)
theorem wq_770 : (Jvm.Cond.code ({ cls := "KitRunnerModel", name := "write", desc := "()I" } : Jvm.MethodName) prog_12_method_25_code (3 : Nat) (Option.some Jvm.ClassFile.FieldType.int)) ∈ wG := wG_of 770 (by decide +kernel) (by decide +kernel)
theorem wq_788 : (Jvm.Cond.fieldLink "java/lang/String" (9 : Nat) "java/lang/String" "value" "[B") ∈ wG := wG_of 788 (by decide +kernel) (by decide +kernel)
theorem wq_789 : (Jvm.Cond.fieldLink "java/lang/String" (15 : Nat) "java/lang/String" "coder" "B") ∈ wG := wG_of 789 (by decide +kernel) (by decide +kernel)
theorem sq_0 : Cond.selects "KitRunner" (⟨"KitRunner", "forgetLatestRun", "()V"⟩ : MethodName) (⟨"KitRunner", "forgetLatestRun", "()V"⟩ : MethodName) ∈ wG := wG_sel 0 (by decide +kernel) (by decide +kernel)
theorem sq_1 : Cond.selects "KitRunner" (⟨"KitRunner", "runEntry", "(IIZ)V"⟩ : MethodName) (⟨"KitRunner", "runEntry", "(IIZ)V"⟩ : MethodName) ∈ wG := wG_sel 1 (by decide +kernel) (by decide +kernel)
theorem sq_2 : Cond.selects "KitRunner$PairBook" (⟨"KitRunner$PairBook", "mark", "([III)V"⟩ : MethodName) (⟨"KitRunner$PairBook", "mark", "([III)V"⟩ : MethodName) ∈ wG := wG_sel 2 (by decide +kernel) (by decide +kernel)
theorem sq_3 : Cond.selects "KitRunner" (⟨"KitRunner", "runCase", "(III)V"⟩ : MethodName) (⟨"KitRunner", "runCase", "(III)V"⟩ : MethodName) ∈ wG := wG_sel 3 (by decide +kernel) (by decide +kernel)
theorem sq_4 : Cond.selects "KitRunner" (⟨"KitRunner", "writeReport", "()V"⟩ : MethodName) (⟨"KitRunner", "writeReport", "()V"⟩ : MethodName) ∈ wG := wG_sel 4 (by decide +kernel) (by decide +kernel)
theorem sq_5 : Cond.selects "KitRunner$Shrinker" (⟨"KitRunner$Shrinker", "moveA", "(LKitRunner$Machine;I)Z"⟩ : MethodName) (⟨"KitRunner$Shrinker", "moveA", "(LKitRunner$Machine;I)Z"⟩ : MethodName) ∈ wG := wG_sel 5 (by decide +kernel) (by decide +kernel)
theorem sq_6 : Cond.selects "KitRunner$Shrinker" (⟨"KitRunner$Shrinker", "moveB", "(LKitRunner$Machine;I)Z"⟩ : MethodName) (⟨"KitRunner$Shrinker", "moveB", "(LKitRunner$Machine;I)Z"⟩ : MethodName) ∈ wG := wG_sel 6 (by decide +kernel) (by decide +kernel)
theorem sq_7 : Cond.selects "KitRunnerModel" (⟨"KitRunnerModel", "given", "(III)J"⟩ : MethodName) (⟨"KitRunnerModel", "given", "(III)J"⟩ : MethodName) ∈ wG := wG_sel 7 (by decide +kernel) (by decide +kernel)
theorem sq_8 : Cond.selects "KitRunnerModel" (⟨"KitRunnerModel", "excluded", "(III)Z"⟩ : MethodName) (⟨"KitRunnerModel", "excluded", "(III)Z"⟩ : MethodName) ∈ wG := wG_sel 8 (by decide +kernel) (by decide +kernel)
theorem sq_9 : Cond.selects "KitRunnerModel" (⟨"KitRunnerModel", "take", "(III)V"⟩ : MethodName) (⟨"KitRunnerModel", "take", "(III)V"⟩ : MethodName) ∈ wG := wG_sel 9 (by decide +kernel) (by decide +kernel)
theorem sq_10 : Cond.selects "KitRunnerModel" (⟨"KitRunnerModel", "fails", "(III)Z"⟩ : MethodName) (⟨"KitRunnerModel", "fails", "(III)Z"⟩ : MethodName) ∈ wG := wG_sel 10 (by decide +kernel) (by decide +kernel)
theorem sq_11 : Cond.selects "KitRunnerModel" (⟨"KitRunnerModel", "step", "(I)Z"⟩ : MethodName) (⟨"KitRunnerModel", "step", "(I)Z"⟩ : MethodName) ∈ wG := wG_sel 11 (by decide +kernel) (by decide +kernel)
theorem sq_12 : Cond.selects "KitRunnerModel" (⟨"KitRunnerModel", "write", "()I"⟩ : MethodName) (⟨"KitRunnerModel", "write", "()I"⟩ : MethodName) ∈ wG := wG_sel 12 (by decide +kernel) (by decide +kernel)
theorem sq_13 : Cond.selects "KitRunnerModel" (⟨"KitRunnerModel", "put", "(IJ)I"⟩ : MethodName) (⟨"KitRunnerModel", "put", "(IJ)I"⟩ : MethodName) ∈ wG := wG_sel 13 (by decide +kernel) (by decide +kernel)
theorem sq_14 : Cond.selects "KitRunnerModel" (⟨"KitRunnerModel", "putNumber", "(II)I"⟩ : MethodName) (⟨"KitRunnerModel", "putNumber", "(II)I"⟩ : MethodName) ∈ wG := wG_sel 14 (by decide +kernel) (by decide +kernel)
def T_KitRunner : u_T := fun k => match k with
  | 0 => ("KitRunner", "machine", "LKitRunner$Machine;", true)
  | 1 => ("KitRunner", "exclusions", "LKitRunner$Exclusions;", true)
  | 2 => ("KitRunner", "pairBook", "LKitRunner$PairBook;", true)
  | 3 => ("KitRunner", "tally", "LKitRunner$Tally;", true)
  | 4 => ("KitRunner", "failures", "LKitRunner$FailureList;", true)
  | 5 => ("KitRunner", "report", "LKitRunner$Report;", true)
  | 6 => ("KitRunner", "shrinker", "LKitRunner$Shrinker;", true)
  | 7 => ("KitRunner", "enabled", "I", false)
  | _ => ("KitRunner", "runs", "I", false)
def ty_KitRunner : Nat → FieldType := fun k => match k with
  | 0 => .object "KitRunner$Machine"
  | 1 => .object "KitRunner$Exclusions"
  | 2 => .object "KitRunner$PairBook"
  | 3 => .object "KitRunner$Tally"
  | 4 => .object "KitRunner$FailureList"
  | 5 => .object "KitRunner$Report"
  | 6 => .object "KitRunner$Shrinker"
  | 7 => .int
  | _ => .int
theorem nm_KitRunner : ∀ a, a < 9 → ∀ b, b < 9 → a ≠ b → (T_KitRunner a).2.1 ≠ (T_KitRunner b).2.1 := by decide +kernel
theorem ty_KitRunner_ok : ∀ k, k < 9 → parseFieldDescriptor (T_KitRunner k).2.2.1 = some (ty_KitRunner k) := by decide +kernel
theorem in_KitRunner : ∀ w ∈ u_ws "KitRunner" T_KitRunner 9, w ∈ wG := by decide +kernel
def T_K_Machine : u_T := fun k => match k with
  | 0 => ("KitRunner$Machine", "entries", "[I", true)
  | 1 => ("KitRunner$Machine", "sorts", "[I", true)
  | 2 => ("KitRunner$Machine", "numbers", "[I", true)
  | _ => ("KitRunner$Machine", "held", "I", false)
def ty_K_Machine : Nat → FieldType := fun k => match k with
  | 0 => .array .int
  | 1 => .array .int
  | 2 => .array .int
  | _ => .int
theorem nm_K_Machine : ∀ a, a < 4 → ∀ b, b < 4 → a ≠ b → (T_K_Machine a).2.1 ≠ (T_K_Machine b).2.1 := by decide +kernel
theorem ty_K_Machine_ok : ∀ k, k < 4 → parseFieldDescriptor (T_K_Machine k).2.2.1 = some (ty_K_Machine k) := by decide +kernel
theorem in_K_Machine : ∀ w ∈ u_ws "KitRunner$Machine" T_K_Machine 4, w ∈ wG := by decide +kernel
def T_K_Exclusions : u_T := fun k => match k with
  | 0 => ("KitRunner$Exclusions", "entries", "[I", true)
  | 1 => ("KitRunner$Exclusions", "numbers", "[I", true)
  | _ => ("KitRunner$Exclusions", "held", "I", false)
def ty_K_Exclusions : Nat → FieldType := fun k => match k with
  | 0 => .array .int
  | 1 => .array .int
  | _ => .int
theorem nm_K_Exclusions : ∀ a, a < 3 → ∀ b, b < 3 → a ≠ b → (T_K_Exclusions a).2.1 ≠ (T_K_Exclusions b).2.1 := by decide +kernel
theorem ty_K_Exclusions_ok : ∀ k, k < 3 → parseFieldDescriptor (T_K_Exclusions k).2.2.1 = some (ty_K_Exclusions k) := by decide +kernel
theorem in_K_Exclusions : ∀ w ∈ u_ws "KitRunner$Exclusions" T_K_Exclusions 3, w ∈ wG := by decide +kernel
def T_K_PairBook : u_T := fun k => match k with
  | 0 => ("KitRunner$PairBook", "entryWithA", "[I", true)
  | 1 => ("KitRunner$PairBook", "entryWithB", "[I", true)
  | 2 => ("KitRunner$PairBook", "aWithB", "[I", true)
  | _ => ("KitRunner$PairBook", "held", "I", false)
def ty_K_PairBook : Nat → FieldType := fun k => match k with
  | 0 => .array .int
  | 1 => .array .int
  | 2 => .array .int
  | _ => .int
theorem nm_K_PairBook : ∀ a, a < 4 → ∀ b, b < 4 → a ≠ b → (T_K_PairBook a).2.1 ≠ (T_K_PairBook b).2.1 := by decide +kernel
theorem ty_K_PairBook_ok : ∀ k, k < 4 → parseFieldDescriptor (T_K_PairBook k).2.2.1 = some (ty_K_PairBook k) := by decide +kernel
theorem in_K_PairBook : ∀ w ∈ u_ws "KitRunner$PairBook" T_K_PairBook 4, w ∈ wG := by decide +kernel
def T_K_Tally : u_T := fun k => match k with
  | 0 => ("KitRunner$Tally", "taken", "[I", true)
  | 1 => ("KitRunner$Tally", "failed", "[I", true)
  | 2 => ("KitRunner$Tally", "marks", "[I", true)
  | _ => ("KitRunner$Tally", "leftOut", "I", false)
def ty_K_Tally : Nat → FieldType := fun k => match k with
  | 0 => .array .int
  | 1 => .array .int
  | 2 => .array .int
  | _ => .int
theorem nm_K_Tally : ∀ a, a < 4 → ∀ b, b < 4 → a ≠ b → (T_K_Tally a).2.1 ≠ (T_K_Tally b).2.1 := by decide +kernel
theorem ty_K_Tally_ok : ∀ k, k < 4 → parseFieldDescriptor (T_K_Tally k).2.2.1 = some (ty_K_Tally k) := by decide +kernel
theorem in_K_Tally : ∀ w ∈ u_ws "KitRunner$Tally" T_K_Tally 4, w ∈ wG := by decide +kernel
def T_K_FailureList : u_T := fun k => match k with
  | 0 => ("KitRunner$FailureList", "entries", "[I", true)
  | 1 => ("KitRunner$FailureList", "placesOfA", "[I", true)
  | 2 => ("KitRunner$FailureList", "placesOfB", "[I", true)
  | 3 => ("KitRunner$FailureList", "foretold", "[J", true)
  | 4 => ("KitRunner$FailureList", "given", "[J", true)
  | _ => ("KitRunner$FailureList", "held", "I", false)
def ty_K_FailureList : Nat → FieldType := fun k => match k with
  | 0 => .array .int
  | 1 => .array .int
  | 2 => .array .int
  | 3 => .array .long
  | 4 => .array .long
  | _ => .int
theorem nm_K_FailureList : ∀ a, a < 6 → ∀ b, b < 6 → a ≠ b → (T_K_FailureList a).2.1 ≠ (T_K_FailureList b).2.1 := by decide +kernel
theorem ty_K_FailureList_ok : ∀ k, k < 6 → parseFieldDescriptor (T_K_FailureList k).2.2.1 = some (ty_K_FailureList k) := by decide +kernel
theorem in_K_FailureList : ∀ w ∈ u_ws "KitRunner$FailureList" T_K_FailureList 6, w ∈ wG := by decide +kernel
def T_K_Report : u_T := fun k => match k with
  | 0 => ("KitRunner$Report", "text", "[C", true)
  | _ => ("KitRunner$Report", "length", "I", false)
def ty_K_Report : Nat → FieldType := fun k => match k with
  | 0 => .array .char
  | _ => .int
theorem nm_K_Report : ∀ a, a < 2 → ∀ b, b < 2 → a ≠ b → (T_K_Report a).2.1 ≠ (T_K_Report b).2.1 := by decide +kernel
theorem ty_K_Report_ok : ∀ k, k < 2 → parseFieldDescriptor (T_K_Report k).2.2.1 = some (ty_K_Report k) := by decide +kernel
theorem in_K_Report : ∀ w ∈ u_ws "KitRunner$Report" T_K_Report 2, w ∈ wG := by decide +kernel
def T_K_Shrinker : u_T := fun k => match k with
  | 0 => ("KitRunner$Shrinker", "placeA", "I", false)
  | 1 => ("KitRunner$Shrinker", "placeB", "I", false)
  | _ => ("KitRunner$Shrinker", "steps", "I", false)
def ty_K_Shrinker : Nat → FieldType := fun k => match k with
  | 0 => .int
  | 1 => .int
  | _ => .int
theorem nm_K_Shrinker : ∀ a, a < 3 → ∀ b, b < 3 → a ≠ b → (T_K_Shrinker a).2.1 ≠ (T_K_Shrinker b).2.1 := by decide +kernel
theorem ty_K_Shrinker_ok : ∀ k, k < 3 → parseFieldDescriptor (T_K_Shrinker k).2.2.1 = some (ty_K_Shrinker k) := by decide +kernel
theorem in_K_Shrinker : ∀ w ∈ u_ws "KitRunner$Shrinker" T_K_Shrinker 3, w ∈ wG := by decide +kernel
def T_RM : u_T := fun k => match k with
  | 0 => ("KitRunnerModel", "faultEntry", "[I", true)
  | 1 => ("KitRunnerModel", "faultSort", "[I", true)
  | 2 => ("KitRunnerModel", "faultNumber", "[I", true)
  | 3 => ("KitRunnerModel", "outEntry", "[I", true)
  | 4 => ("KitRunnerModel", "outNumber", "[I", true)
  | 5 => ("KitRunnerModel", "faults", "I", false)
  | 6 => ("KitRunnerModel", "outs", "I", false)
  | 7 => ("KitRunnerModel", "enabled", "I", false)
  | 8 => ("KitRunnerModel", "runs", "I", false)
  | 9 => ("KitRunnerModel", "takenBy", "[I", true)
  | 10 => ("KitRunnerModel", "failedBy", "[I", true)
  | 11 => ("KitRunnerModel", "ledger", "[I", true)
  | 12 => ("KitRunnerModel", "withA", "[Z", true)
  | 13 => ("KitRunnerModel", "withB", "[Z", true)
  | 14 => ("KitRunnerModel", "both", "[Z", true)
  | 15 => ("KitRunnerModel", "taken", "I", false)
  | 16 => ("KitRunnerModel", "failed", "I", false)
  | 17 => ("KitRunnerModel", "left", "I", false)
  | 18 => ("KitRunnerModel", "pairsSeen", "I", false)
  | 19 => ("KitRunnerModel", "case3", "[I", true)
  | 20 => ("KitRunnerModel", "told", "[J", true)
  | 21 => ("KitRunnerModel", "report", "[I", true)
  | 22 => ("KitRunnerModel", "shrunkA", "I", false)
  | 23 => ("KitRunnerModel", "shrunkB", "I", false)
  | _ => ("KitRunnerModel", "steps", "I", false)
def ty_RM : Nat → FieldType := fun k => match k with
  | 0 => .array .int
  | 1 => .array .int
  | 2 => .array .int
  | 3 => .array .int
  | 4 => .array .int
  | 5 => .int
  | 6 => .int
  | 7 => .int
  | 8 => .int
  | 9 => .array .int
  | 10 => .array .int
  | 11 => .array .int
  | 12 => .array .boolean
  | 13 => .array .boolean
  | 14 => .array .boolean
  | 15 => .int
  | 16 => .int
  | 17 => .int
  | 18 => .int
  | 19 => .array .int
  | 20 => .array .long
  | 21 => .array .int
  | 22 => .int
  | 23 => .int
  | _ => .int
theorem nm_RM : ∀ a, a < 25 → ∀ b, b < 25 → a ≠ b → (T_RM a).2.1 ≠ (T_RM b).2.1 := by decide +kernel
theorem ty_RM_ok : ∀ k, k < 25 → parseFieldDescriptor (T_RM k).2.2.1 = some (ty_RM k) := by decide +kernel
theorem in_RM : ∀ w ∈ u_ws "KitRunnerModel" T_RM 25, w ∈ wG := by decide +kernel
abbrev vwCl : List vw_C := [("KitRunner", T_KitRunner, 9), ("KitRunner$Machine", T_K_Machine, 4), ("KitRunner$Exclusions", T_K_Exclusions, 3), ("KitRunner$PairBook", T_K_PairBook, 4), ("KitRunner$Tally", T_K_Tally, 4), ("KitRunner$FailureList", T_K_FailureList, 6), ("KitRunner$Report", T_K_Report, 2), ("KitRunner$Shrinker", T_K_Shrinker, 3), ("KitRunnerModel", T_RM, 25)]
abbrev y_Integer_compare : MethodName := ⟨"java/lang/Integer", "compare", "(II)I"⟩
abbrev ws_Integer_compare : List Cond := Cond.code y_Integer_compare prog_13_method_40_code 2 (some .int) :: wG
abbrev y_Integer_bitCount : MethodName := ⟨"java/lang/Integer", "bitCount", "(I)I"⟩
abbrev ws_Integer_bitCount : List Cond := Cond.code y_Integer_bitCount prog_13_method_49_code 1 (some .int) :: wG
abbrev y_Arrays_fill : MethodName := ⟨"java/util/Arrays", "fill", "([II)V"⟩
abbrev ws_Arrays_fill : List Cond := Cond.code y_Arrays_fill prog_17_method_103_code 4 none :: wG
abbrev y_String_coder : MethodName := ⟨"java/lang/String", "coder", "()B"⟩
abbrev ws_String_coder : List Cond := Cond.code y_String_coder prog_14_method_152_code 1 (some .byte) :: wG
abbrev y_String_isLatin1 : MethodName := ⟨"java/lang/String", "isLatin1", "()Z"⟩
abbrev ws_String_isLatin1 : List Cond := Cond.code y_String_isLatin1 prog_14_method_154_code 1 (some .boolean) :: wG
abbrev y_String_length : MethodName := ⟨"java/lang/String", "length", "()I"⟩
abbrev ws_String_length : List Cond := Cond.code y_String_length prog_14_method_54_code 1 (some .int) :: wG
abbrev y_Preconditions_checkIndex : MethodName := ⟨"jdk/internal/util/Preconditions", "checkIndex", "(IILjava/util/function/BiFunction;)I"⟩
abbrev ws_Preconditions_checkIndex : List Cond := Cond.code y_Preconditions_checkIndex prog_18_method_11_code 3 (some .int) :: wG
abbrev y_String_checkIndex : MethodName := ⟨"java/lang/String", "checkIndex", "(II)V"⟩
abbrev ws_String_checkIndex : List Cond := Cond.code y_String_checkIndex prog_14_method_155_code 2 none :: wG
abbrev y_StringLatin1_charAt : MethodName := ⟨"java/lang/StringLatin1", "charAt", "([BI)C"⟩
abbrev ws_StringLatin1_charAt : List Cond := Cond.code y_StringLatin1_charAt prog_15_method_2_code 2 (some .char) :: wG
abbrev y_String_charAt : MethodName := ⟨"java/lang/String", "charAt", "(I)C"⟩
abbrev ws_String_charAt : List Cond := Cond.code y_String_charAt prog_14_method_56_code 2 (some .char) :: wG
abbrev y_KitRunner_isEntry : MethodName := ⟨"KitRunner", "isEntry", "(I)Z"⟩
abbrev ws_KitRunner_isEntry : List Cond := Cond.code y_KitRunner_isEntry prog_1_method_14_code 1 (some .boolean) :: wG
abbrev y_KitRunner_isTrouble : MethodName := ⟨"KitRunner", "isTrouble", "(J)Z"⟩
abbrev ws_KitRunner_isTrouble : List Cond := Cond.code y_KitRunner_isTrouble prog_1_method_15_code 2 (some .boolean) :: wG
abbrev y_KitRunner_latticeSize : MethodName := ⟨"KitRunner", "latticeSize", "(I)I"⟩
abbrev ws_KitRunner_latticeSize : List Cond := Cond.code y_KitRunner_latticeSize prog_1_method_16_code 1 (some .int) :: wG
abbrev y_K_EntryPoints_sizeOf : MethodName := ⟨"KitRunner$EntryPoints", "sizeOf", "(I)J"⟩
abbrev ws_K_EntryPoints_sizeOf : List Cond := Cond.code y_K_EntryPoints_sizeOf prog_2_method_4_code 1 (some .long) :: wG
abbrev y_K_Machine_changed : MethodName := ⟨"KitRunner$Machine", "changed", "(IIJ)J"⟩
abbrev ws_K_Machine_changed : List Cond := Cond.code y_K_Machine_changed prog_5_method_8_code 4 (some .long) :: wG
abbrev y_K_Machine_applies : MethodName := ⟨"KitRunner$Machine", "applies", "(IIIIJ)Z"⟩
abbrev ws_K_Machine_applies : List Cond := Cond.code y_K_Machine_applies prog_5_method_7_code 7 (some .boolean) :: wG
abbrev y_K_Tally_markOf : MethodName := ⟨"KitRunner$Tally", "markOf", "(J)I"⟩
abbrev ws_K_Tally_markOf : List Cond := Cond.code y_K_Tally_markOf prog_9_method_14_code 2 (some .int) :: wG
abbrev y_K_Machine_addFault : MethodName := ⟨"KitRunner$Machine", "addFault", "(III)Z"⟩
abbrev ws_K_Machine_addFault : List Cond := Cond.code y_K_Machine_addFault prog_5_method_2_code 4 (some .boolean) :: wG
abbrev y_K_Machine_removeFaults : MethodName := ⟨"KitRunner$Machine", "removeFaults", "()V"⟩
abbrev ws_K_Machine_removeFaults : List Cond := Cond.code y_K_Machine_removeFaults prog_5_method_3_code 1 none :: wG
abbrev y_K_Machine_faultsHeld : MethodName := ⟨"KitRunner$Machine", "faultsHeld", "()I"⟩
abbrev ws_K_Machine_faultsHeld : List Cond := Cond.code y_K_Machine_faultsHeld prog_5_method_4_code 1 (some .int) :: wG
abbrev y_K_Exclusions_add : MethodName := ⟨"KitRunner$Exclusions", "add", "(II)Z"⟩
abbrev ws_K_Exclusions_add : List Cond := Cond.code y_K_Exclusions_add prog_3_method_2_code 3 (some .boolean) :: wG
abbrev y_K_Exclusions_removeAll : MethodName := ⟨"KitRunner$Exclusions", "removeAll", "()V"⟩
abbrev ws_K_Exclusions_removeAll : List Cond := Cond.code y_K_Exclusions_removeAll prog_3_method_3_code 1 none :: wG
abbrev y_K_Exclusions_held : MethodName := ⟨"KitRunner$Exclusions", "held", "()I"⟩
abbrev ws_K_Exclusions_held : List Cond := Cond.code y_K_Exclusions_held prog_3_method_4_code 1 (some .int) :: wG
abbrev y_K_Exclusions_leaveOut : MethodName := ⟨"KitRunner$Exclusions", "leaveOut", "(III)Z"⟩
abbrev ws_K_Exclusions_leaveOut : List Cond := Cond.code y_K_Exclusions_leaveOut prog_3_method_5_code 5 (some .boolean) :: wG
abbrev y_K_Tally_taken : MethodName := ⟨"KitRunner$Tally", "taken", "(I)I"⟩
abbrev ws_K_Tally_taken : List Cond := Cond.code y_K_Tally_taken prog_9_method_7_code 2 (some .int) :: wG
abbrev y_K_Tally_failed : MethodName := ⟨"KitRunner$Tally", "failed", "(I)I"⟩
abbrev ws_K_Tally_failed : List Cond := Cond.code y_K_Tally_failed prog_9_method_8_code 2 (some .int) :: wG
abbrev y_K_Tally_marks : MethodName := ⟨"KitRunner$Tally", "marks", "(I)I"⟩
abbrev ws_K_Tally_marks : List Cond := Cond.code y_K_Tally_marks prog_9_method_9_code 2 (some .int) :: wG
abbrev y_K_Tally_leftOut : MethodName := ⟨"KitRunner$Tally", "leftOut", "()I"⟩
abbrev ws_K_Tally_leftOut : List Cond := Cond.code y_K_Tally_leftOut prog_9_method_6_code 1 (some .int) :: wG
abbrev y_K_Tally_noteLeftOut : MethodName := ⟨"KitRunner$Tally", "noteLeftOut", "()V"⟩
abbrev ws_K_Tally_noteLeftOut : List Cond := Cond.code y_K_Tally_noteLeftOut prog_9_method_3_code 1 none :: wG
abbrev y_K_Tally_noteFailed : MethodName := ⟨"KitRunner$Tally", "noteFailed", "(I)V"⟩
abbrev ws_K_Tally_noteFailed : List Cond := Cond.code y_K_Tally_noteFailed prog_9_method_5_code 2 none :: wG
abbrev y_K_Tally_noteTaken : MethodName := ⟨"KitRunner$Tally", "noteTaken", "(IJ)V"⟩
abbrev ws_K_Tally_noteTaken : List Cond := Cond.code y_K_Tally_noteTaken prog_9_method_4_code 4 none :: wG
abbrev y_K_FailureList_forget : MethodName := ⟨"KitRunner$FailureList", "forget", "()V"⟩
abbrev ws_K_FailureList_forget : List Cond := Cond.code y_K_FailureList_forget prog_4_method_2_code 1 none :: wG
abbrev y_K_FailureList_held : MethodName := ⟨"KitRunner$FailureList", "held", "()I"⟩
abbrev ws_K_FailureList_held : List Cond := Cond.code y_K_FailureList_held prog_4_method_3_code 1 (some .int) :: wG
abbrev y_K_FailureList_entry : MethodName := ⟨"KitRunner$FailureList", "entry", "(I)I"⟩
abbrev ws_K_FailureList_entry : List Cond := Cond.code y_K_FailureList_entry prog_4_method_5_code 2 (some .int) :: wG
abbrev y_K_FailureList_placeOfA : MethodName := ⟨"KitRunner$FailureList", "placeOfA", "(I)I"⟩
abbrev ws_K_FailureList_placeOfA : List Cond := Cond.code y_K_FailureList_placeOfA prog_4_method_6_code 2 (some .int) :: wG
abbrev y_K_FailureList_placeOfB : MethodName := ⟨"KitRunner$FailureList", "placeOfB", "(I)I"⟩
abbrev ws_K_FailureList_placeOfB : List Cond := Cond.code y_K_FailureList_placeOfB prog_4_method_7_code 2 (some .int) :: wG
abbrev y_K_FailureList_foretold : MethodName := ⟨"KitRunner$FailureList", "foretold", "(I)J"⟩
abbrev ws_K_FailureList_foretold : List Cond := Cond.code y_K_FailureList_foretold prog_4_method_8_code 2 (some .long) :: wG
abbrev y_K_FailureList_given : MethodName := ⟨"KitRunner$FailureList", "given", "(I)J"⟩
abbrev ws_K_FailureList_given : List Cond := Cond.code y_K_FailureList_given prog_4_method_9_code 2 (some .long) :: wG
abbrev y_K_FailureList_keep : MethodName := ⟨"KitRunner$FailureList", "keep", "(IIIJJ)V"⟩
abbrev ws_K_FailureList_keep : List Cond := Cond.code y_K_FailureList_keep prog_4_method_4_code 8 none :: wG
abbrev y_K_Report_forget : MethodName := ⟨"KitRunner$Report", "forget", "()V"⟩
abbrev ws_K_Report_forget : List Cond := Cond.code y_K_Report_forget prog_7_method_2_code 1 none :: wG
abbrev y_K_Report_length : MethodName := ⟨"KitRunner$Report", "length", "()I"⟩
abbrev ws_K_Report_length : List Cond := Cond.code y_K_Report_length prog_7_method_3_code 1 (some .int) :: wG
abbrev y_K_Report_put : MethodName := ⟨"KitRunner$Report", "put", "(C)V"⟩
abbrev ws_K_Report_put : List Cond := Cond.code y_K_Report_put prog_7_method_5_code 2 none :: wG
abbrev y_K_Shrinker_steps : MethodName := ⟨"KitRunner$Shrinker", "steps", "()I"⟩
abbrev ws_K_Shrinker_steps : List Cond := Cond.code y_K_Shrinker_steps prog_8_method_5_code 1 (some .int) :: wG
abbrev y_K_Shrinker_a : MethodName := ⟨"KitRunner$Shrinker", "a", "()I"⟩
abbrev ws_K_Shrinker_a : List Cond := Cond.code y_K_Shrinker_a prog_8_method_3_code 1 (some .int) :: wG
abbrev y_K_Shrinker_b : MethodName := ⟨"KitRunner$Shrinker", "b", "()I"⟩
abbrev ws_K_Shrinker_b : List Cond := Cond.code y_K_Shrinker_b prog_8_method_4_code 1 (some .int) :: wG
abbrev y_K_PairBook_held : MethodName := ⟨"KitRunner$PairBook", "held", "()I"⟩
abbrev ws_K_PairBook_held : List Cond := Cond.code y_K_PairBook_held prog_6_method_3_code 1 (some .int) :: wG
abbrev y_K_EntryPoints_foretell : MethodName := ⟨"KitRunner$EntryPoints", "foretell", "(III)J"⟩
abbrev ws_K_EntryPoints_foretell : List Cond := Cond.code y_K_EntryPoints_foretell prog_2_method_3_code 3 (some .long) :: wG
abbrev y_K_Machine_give : MethodName := ⟨"KitRunner$Machine", "give", "(III)J"⟩
abbrev ws_K_Machine_give : List Cond := Cond.code y_K_Machine_give prog_5_method_5_code 7 (some .long) :: wG
abbrev y_K_Machine_failsAt : MethodName := ⟨"KitRunner$Machine", "failsAt", "(III)Z"⟩
abbrev ws_K_Machine_failsAt : List Cond := Cond.code y_K_Machine_failsAt prog_5_method_6_code 6 (some .boolean) :: wG
abbrev y_K_Tally_sum : MethodName := ⟨"KitRunner$Tally", "sum", "([I)I"⟩
abbrev ws_K_Tally_sum : List Cond := Cond.code y_K_Tally_sum prog_9_method_13_code 3 (some .int) :: wG
abbrev y_K_Tally_takenInAll : MethodName := ⟨"KitRunner$Tally", "takenInAll", "()I"⟩
abbrev ws_K_Tally_takenInAll : List Cond := Cond.code y_K_Tally_takenInAll prog_9_method_10_code 1 (some .int) :: wG
abbrev y_K_Tally_failedInAll : MethodName := ⟨"KitRunner$Tally", "failedInAll", "()I"⟩
abbrev ws_K_Tally_failedInAll : List Cond := Cond.code y_K_Tally_failedInAll prog_9_method_11_code 1 (some .int) :: wG
abbrev y_K_Tally_marksInAll : MethodName := ⟨"KitRunner$Tally", "marksInAll", "()I"⟩
abbrev ws_K_Tally_marksInAll : List Cond := Cond.code y_K_Tally_marksInAll prog_9_method_12_code 3 (some .int) :: wG
abbrev y_K_PairBook_mark : MethodName := ⟨"KitRunner$PairBook", "mark", "([III)V"⟩
abbrev ws_K_PairBook_mark : List Cond := Cond.code y_K_PairBook_mark prog_6_method_5_code 5 none :: wG
abbrev y_K_PairBook_note : MethodName := ⟨"KitRunner$PairBook", "note", "(III)Z"⟩
abbrev ws_K_PairBook_note : List Cond := Cond.code y_K_PairBook_note prog_6_method_4_code 5 (some .boolean) :: wG
abbrev y_K_PairBook_forget : MethodName := ⟨"KitRunner$PairBook", "forget", "()V"⟩
abbrev ws_K_PairBook_forget : List Cond := Cond.code y_K_PairBook_forget prog_6_method_2_code 1 none :: wG
abbrev y_K_Tally_forget : MethodName := ⟨"KitRunner$Tally", "forget", "()V"⟩
abbrev ws_K_Tally_forget : List Cond := Cond.code y_K_Tally_forget prog_9_method_2_code 1 none :: wG
abbrev y_K_Report_at : MethodName := ⟨"KitRunner$Report", "at", "(I)I"⟩
abbrev ws_K_Report_at : List Cond := Cond.code y_K_Report_at prog_7_method_4_code 2 (some .int) :: wG
abbrev y_K_Machine_init : MethodName := ⟨"KitRunner$Machine", "<init>", "()V"⟩
abbrev ws_K_Machine_init : List Cond := Cond.code y_K_Machine_init prog_5_method_1_code 1 none :: wG
abbrev y_K_Exclusions_init : MethodName := ⟨"KitRunner$Exclusions", "<init>", "()V"⟩
abbrev ws_K_Exclusions_init : List Cond := Cond.code y_K_Exclusions_init prog_3_method_1_code 1 none :: wG
abbrev y_K_PairBook_init : MethodName := ⟨"KitRunner$PairBook", "<init>", "()V"⟩
abbrev ws_K_PairBook_init : List Cond := Cond.code y_K_PairBook_init prog_6_method_1_code 1 none :: wG
abbrev y_K_Tally_init : MethodName := ⟨"KitRunner$Tally", "<init>", "()V"⟩
abbrev ws_K_Tally_init : List Cond := Cond.code y_K_Tally_init prog_9_method_1_code 1 none :: wG
abbrev y_K_FailureList_init : MethodName := ⟨"KitRunner$FailureList", "<init>", "()V"⟩
abbrev ws_K_FailureList_init : List Cond := Cond.code y_K_FailureList_init prog_4_method_1_code 1 none :: wG
abbrev y_K_Report_init : MethodName := ⟨"KitRunner$Report", "<init>", "()V"⟩
abbrev ws_K_Report_init : List Cond := Cond.code y_K_Report_init prog_7_method_1_code 1 none :: wG
abbrev y_K_Shrinker_init : MethodName := ⟨"KitRunner$Shrinker", "<init>", "()V"⟩
abbrev ws_K_Shrinker_init : List Cond := Cond.code y_K_Shrinker_init prog_8_method_1_code 1 none :: wG
abbrev y_KitRunner_init : MethodName := ⟨"KitRunner", "<init>", "()V"⟩
abbrev ws_KitRunner_init : List Cond := Cond.code y_KitRunner_init prog_1_method_1_code 1 none :: wG
abbrev y_KitRunner_fault : MethodName := ⟨"KitRunner", "fault", "(III)I"⟩
abbrev ws_KitRunner_fault : List Cond := Cond.code y_KitRunner_fault prog_1_method_2_code 4 (some .int) :: wG
abbrev y_KitRunner_exclude : MethodName := ⟨"KitRunner", "exclude", "(II)I"⟩
abbrev ws_KitRunner_exclude : List Cond := Cond.code y_KitRunner_exclude prog_1_method_3_code 3 (some .int) :: wG
abbrev y_KitRunner_clear : MethodName := ⟨"KitRunner", "clear", "(I)I"⟩
abbrev ws_KitRunner_clear : List Cond := Cond.code y_KitRunner_clear prog_1_method_4_code 2 (some .int) :: wG
abbrev y_KitRunner_enable : MethodName := ⟨"KitRunner", "enable", "(I)I"⟩
abbrev ws_KitRunner_enable : List Cond := Cond.code y_KitRunner_enable prog_1_method_5_code 2 (some .int) :: wG
abbrev y_KitRunner_outcome : MethodName := ⟨"KitRunner", "outcome", "(IIIZ)J"⟩
abbrev ws_KitRunner_outcome : List Cond := Cond.code y_KitRunner_outcome prog_1_method_7_code 5 (some .long) :: wG
abbrev y_KitRunner_letter : MethodName := ⟨"KitRunner", "letter", "(I)I"⟩
abbrev ws_KitRunner_letter : List Cond := Cond.code y_KitRunner_letter prog_1_method_12_code 2 (some .int) :: wG
abbrev y_KitRunner_runCase : MethodName := ⟨"KitRunner", "runCase", "(III)V"⟩
abbrev ws_KitRunner_runCase : List Cond := Cond.code y_KitRunner_runCase prog_1_method_21_code 8 none :: wG
abbrev y_KitRunner_runEntry : MethodName := ⟨"KitRunner", "runEntry", "(IIZ)V"⟩
abbrev ws_KitRunner_runEntry : List Cond := Cond.code y_KitRunner_runEntry prog_1_method_20_code 6 none :: wG
abbrev y_KitRunner_forgetLatestRun : MethodName := ⟨"KitRunner", "forgetLatestRun", "()V"⟩
abbrev ws_KitRunner_forgetLatestRun : List Cond := Cond.code y_KitRunner_forgetLatestRun prog_1_method_19_code 1 none :: wG
abbrev y_K_Shrinker_moveA : MethodName := ⟨"KitRunner$Shrinker", "moveA", "(LKitRunner$Machine;I)Z"⟩
abbrev ws_K_Shrinker_moveA : List Cond := Cond.code y_K_Shrinker_moveA prog_8_method_6_code 4 (some .boolean) :: wG
abbrev y_K_Shrinker_moveB : MethodName := ⟨"KitRunner$Shrinker", "moveB", "(LKitRunner$Machine;I)Z"⟩
abbrev ws_K_Shrinker_moveB : List Cond := Cond.code y_K_Shrinker_moveB prog_8_method_7_code 4 (some .boolean) :: wG
abbrev y_K_EntryPoints_nameOf : MethodName := ⟨"KitRunner$EntryPoints", "nameOf", "(I)Ljava/lang/String;"⟩
abbrev ws_K_EntryPoints_nameOf : List Cond := Cond.code y_K_EntryPoints_nameOf prog_2_method_2_code 1 (some (.object "java/lang/String")) :: wG
abbrev y_KitRunner_packedText : MethodName := ⟨"KitRunner", "packedText", "(Ljava/lang/String;)J"⟩
abbrev ws_KitRunner_packedText : List Cond := Cond.code y_KitRunner_packedText prog_1_method_18_code 4 (some .long) :: wG
abbrev y_KitRunner_withoutZeroBytes : MethodName := ⟨"KitRunner", "withoutZeroBytes", "(J)J"⟩
abbrev ws_KitRunner_withoutZeroBytes : List Cond := Cond.code y_KitRunner_withoutZeroBytes prog_1_method_17_code 7 (some .long) :: wG
abbrev y_KitRunner_find : MethodName := ⟨"KitRunner", "find", "(J)I"⟩
abbrev ws_KitRunner_find : List Cond := Cond.code y_KitRunner_find prog_1_method_6_code 6 (some .int) :: wG
abbrev y_K_Report_putText : MethodName := ⟨"KitRunner$Report", "putText", "(Ljava/lang/String;)V"⟩
abbrev ws_K_Report_putText : List Cond := Cond.code y_K_Report_putText prog_7_method_6_code 3 none :: wG
abbrev y_K_Report_putNumber : MethodName := ⟨"KitRunner$Report", "putNumber", "(I)V"⟩
abbrev ws_K_Report_putNumber : List Cond := Cond.code y_K_Report_putNumber prog_7_method_7_code 3 none :: wG
abbrev y_KitRunner_ledger : MethodName := ⟨"KitRunner", "ledger", "(I)I"⟩
abbrev ws_KitRunner_ledger : List Cond := Cond.code y_KitRunner_ledger prog_1_method_11_code 2 (some .int) :: wG
abbrev y_KitRunner_failure : MethodName := ⟨"KitRunner", "failure", "(II)J"⟩
abbrev ws_KitRunner_failure : List Cond := Cond.code y_KitRunner_failure prog_1_method_9_code 3 (some .long) :: wG
abbrev y_KitRunner_count : MethodName := ⟨"KitRunner", "count", "(I)I"⟩
abbrev ws_KitRunner_count : List Cond := Cond.code y_KitRunner_count prog_1_method_13_code 2 (some .int) :: wG
abbrev y_KitRunner_writeReport : MethodName := ⟨"KitRunner", "writeReport", "()V"⟩
abbrev ws_KitRunner_writeReport : List Cond := Cond.code y_KitRunner_writeReport prog_1_method_22_code 2 none :: wG
abbrev y_KitRunner_run : MethodName := ⟨"KitRunner", "run", "(IZ)I"⟩
abbrev ws_KitRunner_run : List Cond := Cond.code y_KitRunner_run prog_1_method_8_code 4 (some .int) :: wG
abbrev y_K_Shrinker_reduce : MethodName := ⟨"KitRunner$Shrinker", "reduce", "(LKitRunner$Machine;III)V"⟩
abbrev ws_K_Shrinker_reduce : List Cond := Cond.code y_K_Shrinker_reduce prog_8_method_2_code 5 none :: wG
abbrev y_KitRunner_shrink : MethodName := ⟨"KitRunner", "shrink", "(II)J"⟩
abbrev ws_KitRunner_shrink : List Cond := Cond.code y_KitRunner_shrink prog_1_method_10_code 3 (some .long) :: wG
abbrev y_RM_init : MethodName := ⟨"KitRunnerModel", "<init>", "()V"⟩
abbrev ws_RM_init : List Cond := Cond.code y_RM_init prog_12_method_1_code 1 none :: wG
abbrev y_RM_in : MethodName := ⟨"KitRunnerModel", "in", "(II)Z"⟩
abbrev ws_RM_in : List Cond := Cond.code y_RM_in prog_12_method_2_code 2 (some .boolean) :: wG
abbrev y_RM_lattice : MethodName := ⟨"KitRunnerModel", "lattice", "(I)I"⟩
abbrev ws_RM_lattice : List Cond := Cond.code y_RM_lattice prog_12_method_3_code 2 (some .int) :: wG
abbrev y_RM_name : MethodName := ⟨"KitRunnerModel", "name", "(I)J"⟩
abbrev ws_RM_name : List Cond := Cond.code y_RM_name prog_12_method_4_code 1 (some .long) :: wG
abbrev y_RM_foretold : MethodName := ⟨"KitRunnerModel", "foretold", "(III)J"⟩
abbrev ws_RM_foretold : List Cond := Cond.code y_RM_foretold prog_12_method_10_code 3 (some .long) :: wG
abbrev y_RM_trouble : MethodName := ⟨"KitRunnerModel", "trouble", "(J)Z"⟩
abbrev ws_RM_trouble : List Cond := Cond.code y_RM_trouble prog_12_method_11_code 2 (some .boolean) :: wG
abbrev y_RM_given : MethodName := ⟨"KitRunnerModel", "given", "(III)J"⟩
abbrev ws_RM_given : List Cond := Cond.code y_RM_given prog_12_method_12_code 10 (some .long) :: wG
abbrev y_RM_excluded : MethodName := ⟨"KitRunnerModel", "excluded", "(III)Z"⟩
abbrev ws_RM_excluded : List Cond := Cond.code y_RM_excluded prog_12_method_14_code 5 (some .boolean) :: wG
abbrev y_RM_outcome : MethodName := ⟨"KitRunnerModel", "outcome", "(IIIZ)J"⟩
abbrev ws_RM_outcome : List Cond := Cond.code y_RM_outcome prog_12_method_13_code 5 (some .long) :: wG
abbrev y_RM_fault : MethodName := ⟨"KitRunnerModel", "fault", "(III)I"⟩
abbrev ws_RM_fault : List Cond := Cond.code y_RM_fault prog_12_method_5_code 4 (some .int) :: wG
abbrev y_RM_exclude : MethodName := ⟨"KitRunnerModel", "exclude", "(II)I"⟩
abbrev ws_RM_exclude : List Cond := Cond.code y_RM_exclude prog_12_method_6_code 3 (some .int) :: wG
abbrev y_RM_clear : MethodName := ⟨"KitRunnerModel", "clear", "(I)I"⟩
abbrev ws_RM_clear : List Cond := Cond.code y_RM_clear prog_12_method_7_code 2 (some .int) :: wG
abbrev y_RM_enable : MethodName := ⟨"KitRunnerModel", "enable", "(I)I"⟩
abbrev ws_RM_enable : List Cond := Cond.code y_RM_enable prog_12_method_8_code 2 (some .int) :: wG
abbrev y_RM_failure : MethodName := ⟨"KitRunnerModel", "failure", "(II)J"⟩
abbrev ws_RM_failure : List Cond := Cond.code y_RM_failure prog_12_method_17_code 3 (some .long) :: wG
abbrev y_RM_shrink : MethodName := ⟨"KitRunnerModel", "shrink", "(II)J"⟩
abbrev ws_RM_shrink : List Cond := Cond.code y_RM_shrink prog_12_method_21_code 5 (some .long) :: wG
abbrev y_RM_ledger : MethodName := ⟨"KitRunnerModel", "ledger", "(I)I"⟩
abbrev ws_RM_ledger : List Cond := Cond.code y_RM_ledger prog_12_method_22_code 2 (some .int) :: wG
abbrev y_RM_write : MethodName := ⟨"KitRunnerModel", "write", "()I"⟩
abbrev ws_RM_write : List Cond := Cond.code y_RM_write prog_12_method_25_code 3 (some .int) :: wG
abbrev y_RM_letter : MethodName := ⟨"KitRunnerModel", "letter", "(I)I"⟩
abbrev ws_RM_letter : List Cond := Cond.code y_RM_letter prog_12_method_26_code 3 (some .int) :: wG
abbrev y_RM_count : MethodName := ⟨"KitRunnerModel", "count", "(I)I"⟩
abbrev ws_RM_count : List Cond := Cond.code y_RM_count prog_12_method_27_code 5 (some .int) :: wG
abbrev y_RM_find : MethodName := ⟨"KitRunnerModel", "find", "(J)I"⟩
abbrev ws_RM_find : List Cond := Cond.code y_RM_find prog_12_method_9_code 8 (some .int) :: wG
abbrev y_RM_take : MethodName := ⟨"KitRunnerModel", "take", "(III)V"⟩
abbrev ws_RM_take : List Cond := Cond.code y_RM_take prog_12_method_15_code 10 none :: wG
abbrev y_RM_run : MethodName := ⟨"KitRunnerModel", "run", "(IZ)I"⟩
abbrev ws_RM_run : List Cond := Cond.code y_RM_run prog_12_method_16_code 8 (some .int) :: wG
