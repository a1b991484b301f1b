/-! words of the tables by their places, what each callee needs -/
theorem i_lt {a b : Int32} (h : ¬ b ≤ a) : a < b := by simp only [Int32.lt_iff_toInt_lt, Int32.le_iff_toInt_le] at *; omega
theorem i_nlt {a b : Int32} (h : b ≤ a) : ¬ a < b := by simp only [Int32.lt_iff_toInt_lt, Int32.le_iff_toInt_le] at *; omega
theorem i_le {a b : Int32} (h : ¬ b < a) : a ≤ b := by simp only [Int32.lt_iff_toInt_lt, Int32.le_iff_toInt_le] at *; omega
theorem i_nle {a b : Int32} (h : b < a) : ¬ a ≤ b := by simp only [Int32.lt_iff_toInt_lt, Int32.le_iff_toInt_le] at *; omega
set_option maxRecDepth 100000 in
theorem q0 : (Jvm.Cond.initialized "QualitativeSimulatorLaw") ∈ lw_all := lw_in (lw_t1 (List.mem_of_getElem? (i := 0) rfl)) rfl
set_option maxRecDepth 100000 in
theorem q1 : (Jvm.Cond.initialized "QualitativeSimulator") ∈ lw_all := lw_in (lw_t1 (List.mem_of_getElem? (i := 1) rfl)) rfl
set_option maxRecDepth 100000 in
theorem q2 : (Jvm.Cond.initialized "QualitativeSimulator$Model") ∈ lw_all := lw_in (lw_t1 (List.mem_of_getElem? (i := 2) rfl)) rfl
set_option maxRecDepth 100000 in
theorem q3 : (Jvm.Cond.initialized "QualitativeSimulator$Graph") ∈ lw_all := lw_in (lw_t1 (List.mem_of_getElem? (i := 3) rfl)) rfl
set_option maxRecDepth 100000 in
theorem q4 : (Jvm.Cond.initialized "QualitativeSimulator$Search") ∈ lw_all := lw_in (lw_t1 (List.mem_of_getElem? (i := 4) rfl)) rfl
set_option maxRecDepth 100000 in
theorem q5 : (Jvm.Cond.initialized "QualitativeSimulatorModel") ∈ lw_all := lw_in (lw_t1 (List.mem_of_getElem? (i := 5) rfl)) rfl
set_option maxRecDepth 100000 in
theorem q9 : (Jvm.Cond.initialized "java/lang/IllegalArgumentException") ∈ lw_all := lw_in (lw_t1 (List.mem_of_getElem? (i := 9) rfl)) rfl
set_option maxRecDepth 100000 in
theorem q10 : (Jvm.Cond.initialized "java/lang/IllegalStateException") ∈ lw_all := lw_in (lw_t1 (List.mem_of_getElem? (i := 10) rfl)) rfl
set_option maxRecDepth 100000 in
theorem q11 : (Jvm.Cond.initialized "java/lang/IndexOutOfBoundsException") ∈ lw_all := lw_in (lw_t1 (List.mem_of_getElem? (i := 11) rfl)) rfl
set_option maxRecDepth 100000 in
theorem q13 : (Jvm.Cond.initialized "java/util/Arrays") ∈ lw_all := lw_in (lw_t1 (List.mem_of_getElem? (i := 13) rfl)) rfl
set_option maxRecDepth 100000 in
theorem q16 : (Jvm.Cond.classLink "QualitativeSimulatorLaw" (8 : Nat) "QualitativeSimulator") ∈ lw_all := lw_in (lw_t1 (List.mem_of_getElem? (i := 16) rfl)) rfl
set_option maxRecDepth 100000 in
theorem q17 : (Jvm.Cond.instantiable "QualitativeSimulator" (4 : Nat)) ∈ lw_all := lw_in (lw_t1 (List.mem_of_getElem? (i := 17) rfl)) rfl
set_option maxRecDepth 100000 in
theorem q18 : (Jvm.Cond.methodLink "QualitativeSimulatorLaw" (81 : Nat) ({ cls := "QualitativeSimulator", name := "<init>", desc := "()V" } : Jvm.MethodName)) ∈ lw_all := lw_in (lw_t1 (List.mem_of_getElem? (i := 18) rfl)) rfl
set_option maxRecDepth 100000 in
theorem q19 : (Jvm.Cond.instanceMethod ({ cls := "QualitativeSimulator", name := "<init>", desc := "()V" } : Jvm.MethodName)) ∈ lw_all := lw_in (lw_t1 (List.mem_of_getElem? (i := 19) rfl)) rfl
set_option maxRecDepth 100000 in
theorem q20 : (Jvm.Cond.code ({ cls := "QualitativeSimulator", name := "<init>", desc := "()V" } : Jvm.MethodName) prog_1_method_1_code (1 : Nat) (Option.none : Option Jvm.ClassFile.FieldType)) ∈ lw_all := lw_in (lw_t1 (List.mem_of_getElem? (i := 20) rfl)) rfl
set_option maxRecDepth 100000 in
theorem q21 : (Jvm.Cond.methodLink "QualitativeSimulator" (1 : Nat) ({ cls := "java/lang/Object", name := "<init>", desc := "()V" } : Jvm.MethodName)) ∈ lw_all := lw_in (lw_t1 (List.mem_of_getElem? (i := 21) rfl)) rfl
set_option maxRecDepth 100000 in
theorem q22 : (Jvm.Cond.instanceMethod ({ cls := "java/lang/Object", name := "<init>", desc := "()V" } : Jvm.MethodName)) ∈ lw_all := lw_in (lw_t1 (List.mem_of_getElem? (i := 22) rfl)) rfl
set_option maxRecDepth 100000 in
theorem q23 : (Jvm.Cond.code ({ cls := "java/lang/Object", name := "<init>", desc := "()V" } : Jvm.MethodName) object_method_1_code (1 : Nat) (Option.none : Option Jvm.ClassFile.FieldType)) ∈ lw_all := lw_in (lw_t1 (List.mem_of_getElem? (i := 23) rfl)) rfl
set_option maxRecDepth 100000 in
theorem q24 : (Jvm.Cond.classLink "QualitativeSimulator" (7 : Nat) "QualitativeSimulator$Model") ∈ lw_all := lw_in (lw_t1 (List.mem_of_getElem? (i := 24) rfl)) rfl
set_option maxRecDepth 100000 in
theorem q25 : (Jvm.Cond.instantiable "QualitativeSimulator$Model" (13 : Nat)) ∈ lw_all := lw_in (lw_t1 (List.mem_of_getElem? (i := 25) rfl)) rfl
set_option maxRecDepth 100000 in
theorem q27 : (Jvm.Cond.instanceMethod ({ cls := "QualitativeSimulator$Model", name := "<init>", desc := "()V" } : Jvm.MethodName)) ∈ lw_all := lw_in (lw_t1 (List.mem_of_getElem? (i := 27) rfl)) rfl
set_option maxRecDepth 100000 in
theorem q28 : (Jvm.Cond.code ({ cls := "QualitativeSimulator$Model", name := "<init>", desc := "()V" } : Jvm.MethodName) prog_3_method_1_code (1 : Nat) (Option.none : Option Jvm.ClassFile.FieldType)) ∈ lw_all := lw_in (lw_t1 (List.mem_of_getElem? (i := 28) rfl)) rfl
set_option maxRecDepth 100000 in
theorem q29 : (Jvm.Cond.methodLink "QualitativeSimulator$Model" (3 : Nat) ({ cls := "java/lang/Object", name := "<init>", desc := "()V" } : Jvm.MethodName)) ∈ lw_all := lw_in (lw_t1 (List.mem_of_getElem? (i := 29) rfl)) rfl
set_option maxRecDepth 100000 in
theorem q30 : (Jvm.Cond.fieldLink "QualitativeSimulator$Model" (9 : Nat) "QualitativeSimulator$Model" "variables" "I") ∈ lw_all := lw_in (lw_t1 (List.mem_of_getElem? (i := 30) rfl)) rfl
set_option maxRecDepth 100000 in
theorem q31 : (Jvm.Cond.fieldLink "QualitativeSimulator" (45 : Nat) "QualitativeSimulator$Model" "variables" "I") ∈ lw_all := lw_in (lw_t1 (List.mem_of_getElem? (i := 31) rfl)) rfl
set_option maxRecDepth 100000 in
theorem q32 : (Jvm.Cond.fieldLink "QualitativeSimulator$Search" (57 : Nat) "QualitativeSimulator$Model" "variables" "I") ∈ lw_all := lw_in (lw_t1 (List.mem_of_getElem? (i := 32) rfl)) rfl
set_option maxRecDepth 100000 in
theorem q33 : (Jvm.Cond.fieldLink "QualitativeSimulator$Model" (15 : Nat) "QualitativeSimulator$Model" "landmarks" "[I") ∈ lw_all := lw_in (lw_t1 (List.mem_of_getElem? (i := 33) rfl)) rfl
set_option maxRecDepth 100000 in
theorem q35 : (Jvm.Cond.fieldLink "QualitativeSimulator$Model" (19 : Nat) "QualitativeSimulator$Model" "zeros" "[I") ∈ lw_all := lw_in (lw_t1 (List.mem_of_getElem? (i := 35) rfl)) rfl
set_option maxRecDepth 100000 in
theorem q37 : (Jvm.Cond.fieldLink "QualitativeSimulator$Model" (22 : Nat) "QualitativeSimulator$Model" "givenValues" "[I") ∈ lw_all := lw_in (lw_t1 (List.mem_of_getElem? (i := 37) rfl)) rfl
set_option maxRecDepth 100000 in
theorem q39 : (Jvm.Cond.fieldLink "QualitativeSimulator$Model" (25 : Nat) "QualitativeSimulator$Model" "givenDirections" "[I") ∈ lw_all := lw_in (lw_t1 (List.mem_of_getElem? (i := 39) rfl)) rfl
set_option maxRecDepth 100000 in
theorem q41 : (Jvm.Cond.fieldLink "QualitativeSimulator$Model" (28 : Nat) "QualitativeSimulator$Model" "below" "[I") ∈ lw_all := lw_in (lw_t1 (List.mem_of_getElem? (i := 41) rfl)) rfl
set_option maxRecDepth 100000 in
theorem q42 : (Jvm.Cond.fieldLink "QualitativeSimulator$Model" (31 : Nat) "QualitativeSimulator$Model" "within" "[I") ∈ lw_all := lw_in (lw_t1 (List.mem_of_getElem? (i := 42) rfl)) rfl
set_option maxRecDepth 100000 in
theorem q43 : (Jvm.Cond.fieldLink "QualitativeSimulator$Model" (34 : Nat) "QualitativeSimulator$Model" "above" "[I") ∈ lw_all := lw_in (lw_t1 (List.mem_of_getElem? (i := 43) rfl)) rfl
set_option maxRecDepth 100000 in
theorem q44 : (Jvm.Cond.fieldLink "QualitativeSimulator$Model" (37 : Nat) "QualitativeSimulator$Model" "constraints" "I") ∈ lw_all := lw_in (lw_t1 (List.mem_of_getElem? (i := 44) rfl)) rfl
set_option maxRecDepth 100000 in
theorem q45 : (Jvm.Cond.fieldLink "QualitativeSimulator" (64 : Nat) "QualitativeSimulator$Model" "constraints" "I") ∈ lw_all := lw_in (lw_t1 (List.mem_of_getElem? (i := 45) rfl)) rfl
set_option maxRecDepth 100000 in
theorem q46 : (Jvm.Cond.fieldLink "QualitativeSimulator$Search" (87 : Nat) "QualitativeSimulator$Model" "constraints" "I") ∈ lw_all := lw_in (lw_t1 (List.mem_of_getElem? (i := 46) rfl)) rfl
set_option maxRecDepth 100000 in
theorem q47 : (Jvm.Cond.fieldLink "QualitativeSimulator$Model" (40 : Nat) "QualitativeSimulator$Model" "kinds" "[I") ∈ lw_all := lw_in (lw_t1 (List.mem_of_getElem? (i := 47) rfl)) rfl
set_option maxRecDepth 100000 in
theorem q50 : (Jvm.Cond.fieldLink "QualitativeSimulator$Model" (43 : Nat) "QualitativeSimulator$Model" "xs" "[I") ∈ lw_all := lw_in (lw_t1 (List.mem_of_getElem? (i := 50) rfl)) rfl
set_option maxRecDepth 100000 in
theorem q52 : (Jvm.Cond.fieldLink "QualitativeSimulator$Model" (46 : Nat) "QualitativeSimulator$Model" "ys" "[I") ∈ lw_all := lw_in (lw_t1 (List.mem_of_getElem? (i := 52) rfl)) rfl
set_option maxRecDepth 100000 in
theorem q54 : (Jvm.Cond.fieldLink "QualitativeSimulator$Model" (49 : Nat) "QualitativeSimulator$Model" "zs" "[I") ∈ lw_all := lw_in (lw_t1 (List.mem_of_getElem? (i := 54) rfl)) rfl
set_option maxRecDepth 100000 in
theorem q56 : (Jvm.Cond.lays "QualitativeSimulator$Model" "QualitativeSimulator$Model" "variables" "I") ∈ lw_all := lw_in (lw_t1 (List.mem_of_getElem? (i := 56) rfl)) rfl
set_option maxRecDepth 100000 in
theorem q58 : (Jvm.Cond.laysFinal "QualitativeSimulator$Model" "QualitativeSimulator$Model" "landmarks" "[I") ∈ lw_all := lw_in (lw_t1 (List.mem_of_getElem? (i := 58) rfl)) rfl
set_option maxRecDepth 100000 in
theorem q60 : (Jvm.Cond.laysFinal "QualitativeSimulator$Model" "QualitativeSimulator$Model" "zeros" "[I") ∈ lw_all := lw_in (lw_t1 (List.mem_of_getElem? (i := 60) rfl)) rfl
set_option maxRecDepth 100000 in
theorem q62 : (Jvm.Cond.laysFinal "QualitativeSimulator$Model" "QualitativeSimulator$Model" "givenValues" "[I") ∈ lw_all := lw_in (lw_t1 (List.mem_of_getElem? (i := 62) rfl)) rfl
set_option maxRecDepth 100000 in
theorem q64 : (Jvm.Cond.laysFinal "QualitativeSimulator$Model" "QualitativeSimulator$Model" "givenDirections" "[I") ∈ lw_all := lw_in (lw_t1 (List.mem_of_getElem? (i := 64) rfl)) rfl
set_option maxRecDepth 100000 in
theorem q66 : (Jvm.Cond.laysFinal "QualitativeSimulator$Model" "QualitativeSimulator$Model" "below" "[I") ∈ lw_all := lw_in (lw_t1 (List.mem_of_getElem? (i := 66) rfl)) rfl
set_option maxRecDepth 100000 in
theorem q68 : (Jvm.Cond.laysFinal "QualitativeSimulator$Model" "QualitativeSimulator$Model" "within" "[I") ∈ lw_all := lw_in (lw_t1 (List.mem_of_getElem? (i := 68) rfl)) rfl
set_option maxRecDepth 100000 in
theorem q70 : (Jvm.Cond.laysFinal "QualitativeSimulator$Model" "QualitativeSimulator$Model" "above" "[I") ∈ lw_all := lw_in (lw_t1 (List.mem_of_getElem? (i := 70) rfl)) rfl
set_option maxRecDepth 100000 in
theorem q72 : (Jvm.Cond.lays "QualitativeSimulator$Model" "QualitativeSimulator$Model" "constraints" "I") ∈ lw_all := lw_in (lw_t1 (List.mem_of_getElem? (i := 72) rfl)) rfl
set_option maxRecDepth 100000 in
theorem q74 : (Jvm.Cond.laysFinal "QualitativeSimulator$Model" "QualitativeSimulator$Model" "kinds" "[I") ∈ lw_all := lw_in (lw_t1 (List.mem_of_getElem? (i := 74) rfl)) rfl
set_option maxRecDepth 100000 in
theorem q76 : (Jvm.Cond.laysFinal "QualitativeSimulator$Model" "QualitativeSimulator$Model" "xs" "[I") ∈ lw_all := lw_in (lw_t1 (List.mem_of_getElem? (i := 76) rfl)) rfl
set_option maxRecDepth 100000 in
theorem q78 : (Jvm.Cond.laysFinal "QualitativeSimulator$Model" "QualitativeSimulator$Model" "ys" "[I") ∈ lw_all := lw_in (lw_t1 (List.mem_of_getElem? (i := 78) rfl)) rfl
set_option maxRecDepth 100000 in
theorem q80 : (Jvm.Cond.laysFinal "QualitativeSimulator$Model" "QualitativeSimulator$Model" "zs" "[I") ∈ lw_all := lw_in (lw_t1 (List.mem_of_getElem? (i := 80) rfl)) rfl
set_option maxRecDepth 100000 in
theorem q83 : (Jvm.Cond.arrayClass Jvm.ClassFile.FieldType.int) ∈ lw_all := lw_in (lw_t1 (List.mem_of_getElem? (i := 83) rfl)) rfl
set_option maxRecDepth 100000 in
theorem q84 : (Jvm.Cond.classLink "QualitativeSimulator" (16 : Nat) "QualitativeSimulator$Graph") ∈ lw_all := lw_in (lw_t1 (List.mem_of_getElem? (i := 84) rfl)) rfl
set_option maxRecDepth 100000 in
theorem q85 : (Jvm.Cond.instantiable "QualitativeSimulator$Graph" (13 : Nat)) ∈ lw_all := lw_in (lw_t1 (List.mem_of_getElem? (i := 85) rfl)) rfl
set_option maxRecDepth 100000 in
theorem q87 : (Jvm.Cond.instanceMethod ({ cls := "QualitativeSimulator$Graph", name := "<init>", desc := "()V" } : Jvm.MethodName)) ∈ lw_all := lw_in (lw_t1 (List.mem_of_getElem? (i := 87) rfl)) rfl
set_option maxRecDepth 100000 in
theorem q88 : (Jvm.Cond.code ({ cls := "QualitativeSimulator$Graph", name := "<init>", desc := "()V" } : Jvm.MethodName) prog_2_method_1_code (1 : Nat) (Option.none : Option Jvm.ClassFile.FieldType)) ∈ lw_all := lw_in (lw_t1 (List.mem_of_getElem? (i := 88) rfl)) rfl
set_option maxRecDepth 100000 in
theorem q89 : (Jvm.Cond.methodLink "QualitativeSimulator$Graph" (3 : Nat) ({ cls := "java/lang/Object", name := "<init>", desc := "()V" } : Jvm.MethodName)) ∈ lw_all := lw_in (lw_t1 (List.mem_of_getElem? (i := 89) rfl)) rfl
set_option maxRecDepth 100000 in
theorem q90 : (Jvm.Cond.fieldLink "QualitativeSimulator$Graph" (9 : Nat) "QualitativeSimulator$Graph" "count" "I") ∈ lw_all := lw_in (lw_t1 (List.mem_of_getElem? (i := 90) rfl)) rfl
set_option maxRecDepth 100000 in
theorem q91 : (Jvm.Cond.fieldLink "QualitativeSimulator$Search" (32 : Nat) "QualitativeSimulator$Graph" "count" "I") ∈ lw_all := lw_in (lw_t1 (List.mem_of_getElem? (i := 91) rfl)) rfl
set_option maxRecDepth 100000 in
theorem q92 : (Jvm.Cond.fieldLink "QualitativeSimulator" (92 : Nat) "QualitativeSimulator$Graph" "count" "I") ∈ lw_all := lw_in (lw_t1 (List.mem_of_getElem? (i := 92) rfl)) rfl
set_option maxRecDepth 100000 in
theorem q93 : (Jvm.Cond.fieldLink "QualitativeSimulator$Graph" (15 : Nat) "QualitativeSimulator$Graph" "firsts" "I") ∈ lw_all := lw_in (lw_t1 (List.mem_of_getElem? (i := 93) rfl)) rfl
set_option maxRecDepth 100000 in
theorem q94 : (Jvm.Cond.fieldLink "QualitativeSimulator$Search" (51 : Nat) "QualitativeSimulator$Graph" "firsts" "I") ∈ lw_all := lw_in (lw_t1 (List.mem_of_getElem? (i := 94) rfl)) rfl
set_option maxRecDepth 100000 in
theorem q96 : (Jvm.Cond.fieldLink "QualitativeSimulator$Graph" (18 : Nat) "QualitativeSimulator$Graph" "complete" "Z") ∈ lw_all := lw_in (lw_t1 (List.mem_of_getElem? (i := 96) rfl)) rfl
set_option maxRecDepth 100000 in
theorem q97 : (Jvm.Cond.fieldLink "QualitativeSimulator$Search" (35 : Nat) "QualitativeSimulator$Graph" "complete" "Z") ∈ lw_all := lw_in (lw_t1 (List.mem_of_getElem? (i := 97) rfl)) rfl
set_option maxRecDepth 100000 in
theorem q99 : (Jvm.Cond.fieldLink "QualitativeSimulator$Graph" (22 : Nat) "QualitativeSimulator$Graph" "keys" "[I") ∈ lw_all := lw_in (lw_t1 (List.mem_of_getElem? (i := 99) rfl)) rfl
set_option maxRecDepth 100000 in
theorem q100 : (Jvm.Cond.fieldLink "QualitativeSimulator$Search" (70 : Nat) "QualitativeSimulator$Graph" "keys" "[I") ∈ lw_all := lw_in (lw_t1 (List.mem_of_getElem? (i := 100) rfl)) rfl
set_option maxRecDepth 100000 in
theorem q102 : (Jvm.Cond.fieldLink "QualitativeSimulator$Graph" (26 : Nat) "QualitativeSimulator$Graph" "instants" "[Z") ∈ lw_all := lw_in (lw_t1 (List.mem_of_getElem? (i := 102) rfl)) rfl
set_option maxRecDepth 100000 in
theorem q103 : (Jvm.Cond.fieldLink "QualitativeSimulator$Search" (66 : Nat) "QualitativeSimulator$Graph" "instants" "[Z") ∈ lw_all := lw_in (lw_t1 (List.mem_of_getElem? (i := 103) rfl)) rfl
set_option maxRecDepth 100000 in
theorem q105 : (Jvm.Cond.fieldLink "QualitativeSimulator$Graph" (30 : Nat) "QualitativeSimulator$Graph" "distances" "[I") ∈ lw_all := lw_in (lw_t1 (List.mem_of_getElem? (i := 105) rfl)) rfl
set_option maxRecDepth 100000 in
theorem q107 : (Jvm.Cond.fieldLink "QualitativeSimulator$Graph" (33 : Nat) "QualitativeSimulator$Graph" "slots" "[I") ∈ lw_all := lw_in (lw_t1 (List.mem_of_getElem? (i := 107) rfl)) rfl
set_option maxRecDepth 100000 in
theorem q108 : (Jvm.Cond.fieldLink "QualitativeSimulator$Graph" (36 : Nat) "QualitativeSimulator$Graph" "starts" "[I") ∈ lw_all := lw_in (lw_t1 (List.mem_of_getElem? (i := 108) rfl)) rfl
set_option maxRecDepth 100000 in
theorem q110 : (Jvm.Cond.fieldLink "QualitativeSimulator$Graph" (39 : Nat) "QualitativeSimulator$Graph" "links" "[I") ∈ lw_all := lw_in (lw_t1 (List.mem_of_getElem? (i := 110) rfl)) rfl
set_option maxRecDepth 100000 in
theorem q112 : (Jvm.Cond.fieldLink "QualitativeSimulator$Graph" (42 : Nat) "QualitativeSimulator$Graph" "linksInAll" "I") ∈ lw_all := lw_in (lw_t1 (List.mem_of_getElem? (i := 112) rfl)) rfl
set_option maxRecDepth 100000 in
theorem q113 : (Jvm.Cond.fieldLink "QualitativeSimulator$Graph" (45 : Nat) "QualitativeSimulator$Graph" "waysNow" "[J") ∈ lw_all := lw_in (lw_t1 (List.mem_of_getElem? (i := 113) rfl)) rfl
set_option maxRecDepth 100000 in
theorem q114 : (Jvm.Cond.fieldLink "QualitativeSimulator$Graph" (49 : Nat) "QualitativeSimulator$Graph" "waysBefore" "[J") ∈ lw_all := lw_in (lw_t1 (List.mem_of_getElem? (i := 114) rfl)) rfl
set_option maxRecDepth 100000 in
theorem q115 : (Jvm.Cond.fieldLink "QualitativeSimulator$Graph" (52 : Nat) "QualitativeSimulator$Graph" "runsOut" "[Z") ∈ lw_all := lw_in (lw_t1 (List.mem_of_getElem? (i := 115) rfl)) rfl
set_option maxRecDepth 100000 in
theorem q116 : (Jvm.Cond.lays "QualitativeSimulator$Graph" "QualitativeSimulator$Graph" "count" "I") ∈ lw_all := lw_in (lw_t1 (List.mem_of_getElem? (i := 116) rfl)) rfl
set_option maxRecDepth 100000 in
theorem q118 : (Jvm.Cond.lays "QualitativeSimulator$Graph" "QualitativeSimulator$Graph" "firsts" "I") ∈ lw_all := lw_in (lw_t1 (List.mem_of_getElem? (i := 118) rfl)) rfl
set_option maxRecDepth 100000 in
theorem q120 : (Jvm.Cond.lays "QualitativeSimulator$Graph" "QualitativeSimulator$Graph" "complete" "Z") ∈ lw_all := lw_in (lw_t1 (List.mem_of_getElem? (i := 120) rfl)) rfl
set_option maxRecDepth 100000 in
theorem q122 : (Jvm.Cond.laysFinal "QualitativeSimulator$Graph" "QualitativeSimulator$Graph" "keys" "[I") ∈ lw_all := lw_in (lw_t1 (List.mem_of_getElem? (i := 122) rfl)) rfl
set_option maxRecDepth 100000 in
theorem q124 : (Jvm.Cond.laysFinal "QualitativeSimulator$Graph" "QualitativeSimulator$Graph" "instants" "[Z") ∈ lw_all := lw_in (lw_t1 (List.mem_of_getElem? (i := 124) rfl)) rfl
set_option maxRecDepth 100000 in
theorem q126 : (Jvm.Cond.laysFinal "QualitativeSimulator$Graph" "QualitativeSimulator$Graph" "distances" "[I") ∈ lw_all := lw_in (lw_t1 (List.mem_of_getElem? (i := 126) rfl)) rfl
set_option maxRecDepth 100000 in
theorem q128 : (Jvm.Cond.laysFinal "QualitativeSimulator$Graph" "QualitativeSimulator$Graph" "slots" "[I") ∈ lw_all := lw_in (lw_t1 (List.mem_of_getElem? (i := 128) rfl)) rfl
set_option maxRecDepth 100000 in
theorem q130 : (Jvm.Cond.laysFinal "QualitativeSimulator$Graph" "QualitativeSimulator$Graph" "starts" "[I") ∈ lw_all := lw_in (lw_t1 (List.mem_of_getElem? (i := 130) rfl)) rfl
set_option maxRecDepth 100000 in
theorem q132 : (Jvm.Cond.lays "QualitativeSimulator$Graph" "QualitativeSimulator$Graph" "links" "[I") ∈ lw_all := lw_in (lw_t1 (List.mem_of_getElem? (i := 132) rfl)) rfl
set_option maxRecDepth 100000 in
theorem q134 : (Jvm.Cond.lays "QualitativeSimulator$Graph" "QualitativeSimulator$Graph" "linksInAll" "I") ∈ lw_all := lw_in (lw_t1 (List.mem_of_getElem? (i := 134) rfl)) rfl
set_option maxRecDepth 100000 in
theorem q136 : (Jvm.Cond.laysFinal "QualitativeSimulator$Graph" "QualitativeSimulator$Graph" "waysNow" "[J") ∈ lw_all := lw_in (lw_t1 (List.mem_of_getElem? (i := 136) rfl)) rfl
set_option maxRecDepth 100000 in
theorem q138 : (Jvm.Cond.laysFinal "QualitativeSimulator$Graph" "QualitativeSimulator$Graph" "waysBefore" "[J") ∈ lw_all := lw_in (lw_t1 (List.mem_of_getElem? (i := 138) rfl)) rfl
set_option maxRecDepth 100000 in
theorem q140 : (Jvm.Cond.laysFinal "QualitativeSimulator$Graph" "QualitativeSimulator$Graph" "runsOut" "[Z") ∈ lw_all := lw_in (lw_t1 (List.mem_of_getElem? (i := 140) rfl)) rfl
set_option maxRecDepth 100000 in
theorem q143 : (Jvm.Cond.arrayClass Jvm.ClassFile.FieldType.boolean) ∈ lw_all := lw_in (lw_t1 (List.mem_of_getElem? (i := 143) rfl)) rfl
set_option maxRecDepth 100000 in
theorem q144 : (Jvm.Cond.arrayClass Jvm.ClassFile.FieldType.long) ∈ lw_all := lw_in (lw_t1 (List.mem_of_getElem? (i := 144) rfl)) rfl
set_option maxRecDepth 100000 in
theorem q145 : (Jvm.Cond.classLink "QualitativeSimulator" (23 : Nat) "QualitativeSimulator$Search") ∈ lw_all := lw_in (lw_t1 (List.mem_of_getElem? (i := 145) rfl)) rfl
set_option maxRecDepth 100000 in
theorem q146 : (Jvm.Cond.instantiable "QualitativeSimulator$Search" (4 : Nat)) ∈ lw_all := lw_in (lw_t1 (List.mem_of_getElem? (i := 146) rfl)) rfl
set_option maxRecDepth 100000 in
theorem q147 : (Jvm.Cond.methodLink "QualitativeSimulator" (25 : Nat) ({ cls := "QualitativeSimulator$Search", name := "<init>", desc := "(LQualitativeSimulator$Model;LQualitativeSimulator$Graph;)V" } : Jvm.MethodName)) ∈ lw_all := lw_in (lw_t1 (List.mem_of_getElem? (i := 147) rfl)) rfl
set_option maxRecDepth 100000 in
theorem q148 : (Jvm.Cond.instanceMethod ({ cls := "QualitativeSimulator$Search", name := "<init>", desc := "(LQualitativeSimulator$Model;LQualitativeSimulator$Graph;)V" } : Jvm.MethodName)) ∈ lw_all := lw_in (lw_t1 (List.mem_of_getElem? (i := 148) rfl)) rfl
set_option maxRecDepth 100000 in
theorem q149 : (Jvm.Cond.code ({ cls := "QualitativeSimulator$Search", name := "<init>", desc := "(LQualitativeSimulator$Model;LQualitativeSimulator$Graph;)V" } : Jvm.MethodName) prog_4_method_1_code (3 : Nat) (Option.none : Option Jvm.ClassFile.FieldType)) ∈ lw_all := lw_in (lw_t1 (List.mem_of_getElem? (i := 149) rfl)) rfl
set_option maxRecDepth 100000 in
theorem q150 : (Jvm.Cond.methodLink "QualitativeSimulator$Search" (3 : Nat) ({ cls := "java/lang/Object", name := "<init>", desc := "()V" } : Jvm.MethodName)) ∈ lw_all := lw_in (lw_t1 (List.mem_of_getElem? (i := 150) rfl)) rfl
set_option maxRecDepth 100000 in
theorem q151 : (Jvm.Cond.fieldLink "QualitativeSimulator$Search" (19 : Nat) "QualitativeSimulator$Search" "model" "LQualitativeSimulator$Model;") ∈ lw_all := lw_in (lw_t1 (List.mem_of_getElem? (i := 151) rfl)) rfl
set_option maxRecDepth 100000 in
theorem q152 : (Jvm.Cond.fieldLink "QualitativeSimulator$Search" (23 : Nat) "QualitativeSimulator$Search" "graph" "LQualitativeSimulator$Graph;") ∈ lw_all := lw_in (lw_t1 (List.mem_of_getElem? (i := 152) rfl)) rfl
set_option maxRecDepth 100000 in
theorem q153 : (Jvm.Cond.fieldLink "QualitativeSimulator$Search" (9 : Nat) "QualitativeSimulator$Search" "possible" "[I") ∈ lw_all := lw_in (lw_t1 (List.mem_of_getElem? (i := 153) rfl)) rfl
set_option maxRecDepth 100000 in
theorem q154 : (Jvm.Cond.fieldLink "QualitativeSimulator$Search" (15 : Nat) "QualitativeSimulator$Search" "source" "I") ∈ lw_all := lw_in (lw_t1 (List.mem_of_getElem? (i := 154) rfl)) rfl
set_option maxRecDepth 100000 in
theorem q155 : (Jvm.Cond.laysFinal "QualitativeSimulator$Search" "QualitativeSimulator$Search" "model" "LQualitativeSimulator$Model;") ∈ lw_all := lw_in (lw_t1 (List.mem_of_getElem? (i := 155) rfl)) rfl
set_option maxRecDepth 100000 in
theorem q157 : (Jvm.Cond.laysFinal "QualitativeSimulator$Search" "QualitativeSimulator$Search" "graph" "LQualitativeSimulator$Graph;") ∈ lw_all := lw_in (lw_t1 (List.mem_of_getElem? (i := 157) rfl)) rfl
set_option maxRecDepth 100000 in
theorem q159 : (Jvm.Cond.laysFinal "QualitativeSimulator$Search" "QualitativeSimulator$Search" "possible" "[I") ∈ lw_all := lw_in (lw_t1 (List.mem_of_getElem? (i := 159) rfl)) rfl
set_option maxRecDepth 100000 in
theorem q161 : (Jvm.Cond.lays "QualitativeSimulator$Search" "QualitativeSimulator$Search" "source" "I") ∈ lw_all := lw_in (lw_t1 (List.mem_of_getElem? (i := 161) rfl)) rfl
set_option maxRecDepth 100000 in
theorem q164 : (Jvm.Cond.fieldLink "QualitativeSimulator" (10 : Nat) "QualitativeSimulator" "model" "LQualitativeSimulator$Model;") ∈ lw_all := lw_in (lw_t1 (List.mem_of_getElem? (i := 164) rfl)) rfl
set_option maxRecDepth 100000 in
theorem q165 : (Jvm.Cond.fieldLink "QualitativeSimulator" (19 : Nat) "QualitativeSimulator" "graph" "LQualitativeSimulator$Graph;") ∈ lw_all := lw_in (lw_t1 (List.mem_of_getElem? (i := 165) rfl)) rfl
set_option maxRecDepth 100000 in
theorem q166 : (Jvm.Cond.fieldLink "QualitativeSimulator" (28 : Nat) "QualitativeSimulator" "search" "LQualitativeSimulator$Search;") ∈ lw_all := lw_in (lw_t1 (List.mem_of_getElem? (i := 166) rfl)) rfl
set_option maxRecDepth 100000 in
theorem q167 : (Jvm.Cond.fieldLink "QualitativeSimulator" (32 : Nat) "QualitativeSimulator" "explored" "Z") ∈ lw_all := lw_in (lw_t1 (List.mem_of_getElem? (i := 167) rfl)) rfl
set_option maxRecDepth 100000 in
theorem q168 : (Jvm.Cond.laysFinal "QualitativeSimulator" "QualitativeSimulator" "model" "LQualitativeSimulator$Model;") ∈ lw_all := lw_in (lw_t1 (List.mem_of_getElem? (i := 168) rfl)) rfl
set_option maxRecDepth 100000 in
theorem q170 : (Jvm.Cond.laysFinal "QualitativeSimulator" "QualitativeSimulator" "graph" "LQualitativeSimulator$Graph;") ∈ lw_all := lw_in (lw_t1 (List.mem_of_getElem? (i := 170) rfl)) rfl
set_option maxRecDepth 100000 in
theorem q172 : (Jvm.Cond.laysFinal "QualitativeSimulator" "QualitativeSimulator" "search" "LQualitativeSimulator$Search;") ∈ lw_all := lw_in (lw_t1 (List.mem_of_getElem? (i := 172) rfl)) rfl
set_option maxRecDepth 100000 in
theorem q174 : (Jvm.Cond.lays "QualitativeSimulator" "QualitativeSimulator" "explored" "Z") ∈ lw_all := lw_in (lw_t1 (List.mem_of_getElem? (i := 174) rfl)) rfl
set_option maxRecDepth 100000 in
theorem q177 : (Jvm.Cond.methodLink "QualitativeSimulatorLaw" (106 : Nat) ({ cls := "QualitativeSimulator", name := "open", desc := "()I" } : Jvm.MethodName)) ∈ lw_all := lw_in (lw_t1 (List.mem_of_getElem? (i := 177) rfl)) rfl
set_option maxRecDepth 100000 in
theorem q178 : (Jvm.Cond.instanceMethod ({ cls := "QualitativeSimulator", name := "open", desc := "()I" } : Jvm.MethodName)) ∈ lw_all := lw_in (lw_t1 (List.mem_of_getElem? (i := 178) rfl)) rfl
set_option maxRecDepth 100000 in
theorem q179 : (Jvm.Cond.selects "QualitativeSimulator" ({ cls := "QualitativeSimulator", name := "open", desc := "()I" } : Jvm.MethodName) ({ cls := "QualitativeSimulator", name := "open", desc := "()I" } : Jvm.MethodName)) ∈ lw_all := lw_in (lw_t1 (List.mem_of_getElem? (i := 179) rfl)) rfl
set_option maxRecDepth 100000 in
theorem q180 : (Jvm.Cond.code ({ cls := "QualitativeSimulator", name := "open", desc := "()I" } : Jvm.MethodName) prog_1_method_6_code (3 : Nat) (Option.some Jvm.ClassFile.FieldType.int)) ∈ lw_all := lw_in (lw_t1 (List.mem_of_getElem? (i := 180) rfl)) rfl
set_option maxRecDepth 100000 in
theorem q185 : (Jvm.Cond.methodLink "QualitativeSimulatorLaw" (110 : Nat) ({ cls := "QualitativeSimulator", name := "variableCount", desc := "()I" } : Jvm.MethodName)) ∈ lw_all := lw_in (lw_t1 (List.mem_of_getElem? (i := 185) rfl)) rfl
set_option maxRecDepth 100000 in
theorem q186 : (Jvm.Cond.instanceMethod ({ cls := "QualitativeSimulator", name := "variableCount", desc := "()I" } : Jvm.MethodName)) ∈ lw_all := lw_in (lw_t1 (List.mem_of_getElem? (i := 186) rfl)) rfl
set_option maxRecDepth 100000 in
theorem q187 : (Jvm.Cond.selects "QualitativeSimulator" ({ cls := "QualitativeSimulator", name := "variableCount", desc := "()I" } : Jvm.MethodName) ({ cls := "QualitativeSimulator", name := "variableCount", desc := "()I" } : Jvm.MethodName)) ∈ lw_all := lw_in (lw_t1 (List.mem_of_getElem? (i := 187) rfl)) rfl
set_option maxRecDepth 100000 in
theorem q188 : (Jvm.Cond.code ({ cls := "QualitativeSimulator", name := "variableCount", desc := "()I" } : Jvm.MethodName) prog_1_method_7_code (1 : Nat) (Option.some Jvm.ClassFile.FieldType.int)) ∈ lw_all := lw_in (lw_t1 (List.mem_of_getElem? (i := 188) rfl)) rfl
set_option maxRecDepth 100000 in
theorem q189 : (Jvm.Cond.methodLink "QualitativeSimulatorLaw" (117 : Nat) ({ cls := "QualitativeSimulator", name := "explore", desc := "()I" } : Jvm.MethodName)) ∈ lw_all := lw_in (lw_t1 (List.mem_of_getElem? (i := 189) rfl)) rfl
set_option maxRecDepth 100000 in
theorem q190 : (Jvm.Cond.instanceMethod ({ cls := "QualitativeSimulator", name := "explore", desc := "()I" } : Jvm.MethodName)) ∈ lw_all := lw_in (lw_t1 (List.mem_of_getElem? (i := 190) rfl)) rfl
set_option maxRecDepth 100000 in
theorem q191 : (Jvm.Cond.selects "QualitativeSimulator" ({ cls := "QualitativeSimulator", name := "explore", desc := "()I" } : Jvm.MethodName) ({ cls := "QualitativeSimulator", name := "explore", desc := "()I" } : Jvm.MethodName)) ∈ lw_all := lw_in (lw_t1 (List.mem_of_getElem? (i := 191) rfl)) rfl
set_option maxRecDepth 100000 in
theorem q192 : (Jvm.Cond.code ({ cls := "QualitativeSimulator", name := "explore", desc := "()I" } : Jvm.MethodName) prog_1_method_9_code (1 : Nat) (Option.some Jvm.ClassFile.FieldType.int)) ∈ lw_all := lw_in (lw_t1 (List.mem_of_getElem? (i := 192) rfl)) rfl
set_option maxRecDepth 100000 in
theorem q193 : (Jvm.Cond.methodLink "QualitativeSimulator" (89 : Nat) ({ cls := "QualitativeSimulator$Search", name := "exploreAll", desc := "()V" } : Jvm.MethodName)) ∈ lw_all := lw_in (lw_t1 (List.mem_of_getElem? (i := 193) rfl)) rfl
set_option maxRecDepth 100000 in
theorem q194 : (Jvm.Cond.instanceMethod ({ cls := "QualitativeSimulator$Search", name := "exploreAll", desc := "()V" } : Jvm.MethodName)) ∈ lw_all := lw_in (lw_t1 (List.mem_of_getElem? (i := 194) rfl)) rfl
set_option maxRecDepth 100000 in
theorem q195 : (Jvm.Cond.selects "QualitativeSimulator$Search" ({ cls := "QualitativeSimulator$Search", name := "exploreAll", desc := "()V" } : Jvm.MethodName) ({ cls := "QualitativeSimulator$Search", name := "exploreAll", desc := "()V" } : Jvm.MethodName)) ∈ lw_all := lw_in (lw_t1 (List.mem_of_getElem? (i := 195) rfl)) rfl
set_option maxRecDepth 100000 in
theorem q196 : (Jvm.Cond.code ({ cls := "QualitativeSimulator$Search", name := "exploreAll", desc := "()V" } : Jvm.MethodName) prog_4_method_2_code (2 : Nat) (Option.none : Option Jvm.ClassFile.FieldType)) ∈ lw_all := lw_in (lw_t1 (List.mem_of_getElem? (i := 196) rfl)) rfl
set_option maxRecDepth 100000 in
theorem q197 : (Jvm.Cond.methodLink "QualitativeSimulator$Search" (27 : Nat) ({ cls := "QualitativeSimulator$Graph", name := "clear", desc := "()V" } : Jvm.MethodName)) ∈ lw_all := lw_in (lw_t1 (List.mem_of_getElem? (i := 197) rfl)) rfl
set_option maxRecDepth 100000 in
theorem q198 : (Jvm.Cond.instanceMethod ({ cls := "QualitativeSimulator$Graph", name := "clear", desc := "()V" } : Jvm.MethodName)) ∈ lw_all := lw_in (lw_t1 (List.mem_of_getElem? (i := 198) rfl)) rfl
set_option maxRecDepth 100000 in
theorem q199 : (Jvm.Cond.selects "QualitativeSimulator$Graph" ({ cls := "QualitativeSimulator$Graph", name := "clear", desc := "()V" } : Jvm.MethodName) ({ cls := "QualitativeSimulator$Graph", name := "clear", desc := "()V" } : Jvm.MethodName)) ∈ lw_all := lw_in (lw_t1 (List.mem_of_getElem? (i := 199) rfl)) rfl
set_option maxRecDepth 100000 in
theorem q200 : (Jvm.Cond.code ({ cls := "QualitativeSimulator$Graph", name := "clear", desc := "()V" } : Jvm.MethodName) prog_2_method_2_code (1 : Nat) (Option.none : Option Jvm.ClassFile.FieldType)) ∈ lw_all := lw_in (lw_t1 (List.mem_of_getElem? (i := 200) rfl)) rfl
set_option maxRecDepth 100000 in
theorem q201 : (Jvm.Cond.methodLink "QualitativeSimulator$Graph" (55 : Nat) ({ cls := "java/util/Arrays", name := "fill", desc := "([II)V" } : Jvm.MethodName)) ∈ lw_all := lw_in (lw_t1 (List.mem_of_getElem? (i := 201) rfl)) rfl
set_option maxRecDepth 100000 in
theorem q202 : (Jvm.Cond.static ({ cls := "java/util/Arrays", name := "fill", desc := "([II)V" } : Jvm.MethodName)) ∈ lw_all := lw_in (lw_t1 (List.mem_of_getElem? (i := 202) rfl)) rfl
set_option maxRecDepth 100000 in
theorem q203 : (Jvm.Cond.code ({ cls := "java/util/Arrays", name := "fill", desc := "([II)V" } : Jvm.MethodName) prog_18_method_103_code (4 : Nat) (Option.none : Option Jvm.ClassFile.FieldType)) ∈ lw_all := lw_in (lw_t1 (List.mem_of_getElem? (i := 203) rfl)) rfl
set_option maxRecDepth 100000 in
theorem q204 : (Jvm.Cond.methodLink "QualitativeSimulator$Search" (39 : Nat) ({ cls := "QualitativeSimulator$Search", name := "setToFollowing", desc := "(I)V" } : Jvm.MethodName)) ∈ lw_all := lw_in (lw_t1 (List.mem_of_getElem? (i := 204) rfl)) rfl
set_option maxRecDepth 100000 in
theorem q206 : (Jvm.Cond.instanceMethod ({ cls := "QualitativeSimulator$Search", name := "setToFollowing", desc := "(I)V" } : Jvm.MethodName)) ∈ lw_all := lw_in (lw_t1 (List.mem_of_getElem? (i := 206) rfl)) rfl
set_option maxRecDepth 100000 in
theorem q207 : (Jvm.Cond.code ({ cls := "QualitativeSimulator$Search", name := "setToFollowing", desc := "(I)V" } : Jvm.MethodName) prog_4_method_3_code (3 : Nat) (Option.none : Option Jvm.ClassFile.FieldType)) ∈ lw_all := lw_in (lw_t1 (List.mem_of_getElem? (i := 207) rfl)) rfl
set_option maxRecDepth 100000 in
theorem q213 : (Jvm.Cond.static ({ cls := "QualitativeSimulator", name := "codeOf", desc := "(II)I" } : Jvm.MethodName)) ∈ lw_all := lw_in (lw_t1 (List.mem_of_getElem? (i := 213) rfl)) rfl
set_option maxRecDepth 100000 in
theorem q214 : (Jvm.Cond.code ({ cls := "QualitativeSimulator", name := "codeOf", desc := "(II)I" } : Jvm.MethodName) prog_1_method_31_code (2 : Nat) (Option.some Jvm.ClassFile.FieldType.int)) ∈ lw_all := lw_in (lw_t1 (List.mem_of_getElem? (i := 214) rfl)) rfl
set_option maxRecDepth 100000 in
theorem q230 : (Jvm.Cond.methodLink "QualitativeSimulator$Model" (52 : Nat) ({ cls := "QualitativeSimulator$Model", name := "greatestValue", desc := "(I)I" } : Jvm.MethodName)) ∈ lw_all := lw_in (lw_t1 (List.mem_of_getElem? (i := 230) rfl)) rfl
set_option maxRecDepth 100000 in
theorem q231 : (Jvm.Cond.instanceMethod ({ cls := "QualitativeSimulator$Model", name := "greatestValue", desc := "(I)I" } : Jvm.MethodName)) ∈ lw_all := lw_in (lw_t1 (List.mem_of_getElem? (i := 231) rfl)) rfl
set_option maxRecDepth 100000 in
theorem q232 : (Jvm.Cond.selects "QualitativeSimulator$Model" ({ cls := "QualitativeSimulator$Model", name := "greatestValue", desc := "(I)I" } : Jvm.MethodName) ({ cls := "QualitativeSimulator$Model", name := "greatestValue", desc := "(I)I" } : Jvm.MethodName)) ∈ lw_all := lw_in (lw_t1 (List.mem_of_getElem? (i := 232) rfl)) rfl
set_option maxRecDepth 100000 in
theorem q233 : (Jvm.Cond.code ({ cls := "QualitativeSimulator$Model", name := "greatestValue", desc := "(I)I" } : Jvm.MethodName) prog_3_method_5_code (2 : Nat) (Option.some Jvm.ClassFile.FieldType.int)) ∈ lw_all := lw_in (lw_t1 (List.mem_of_getElem? (i := 233) rfl)) rfl
set_option maxRecDepth 100000 in
theorem q238 : (Jvm.Cond.methodLink "QualitativeSimulator$Search" (43 : Nat) ({ cls := "QualitativeSimulator$Search", name := "narrowUntilStable", desc := "()Z" } : Jvm.MethodName)) ∈ lw_all := lw_in (lw_t1 (List.mem_of_getElem? (i := 238) rfl)) rfl
set_option maxRecDepth 100000 in
theorem q240 : (Jvm.Cond.instanceMethod ({ cls := "QualitativeSimulator$Search", name := "narrowUntilStable", desc := "()Z" } : Jvm.MethodName)) ∈ lw_all := lw_in (lw_t2 (List.mem_of_getElem? (i := 0) rfl)) rfl
set_option maxRecDepth 100000 in
theorem q241 : (Jvm.Cond.code ({ cls := "QualitativeSimulator$Search", name := "narrowUntilStable", desc := "()Z" } : Jvm.MethodName) prog_4_method_4_code (4 : Nat) (Option.some Jvm.ClassFile.FieldType.boolean)) ∈ lw_all := lw_in (lw_t2 (List.mem_of_getElem? (i := 1) rfl)) rfl
set_option maxRecDepth 100000 in
theorem q242 : (Jvm.Cond.methodLink "QualitativeSimulator$Search" (83 : Nat) ({ cls := "QualitativeSimulator$Search", name := "codesLeft", desc := "()I" } : Jvm.MethodName)) ∈ lw_all := lw_in (lw_t2 (List.mem_of_getElem? (i := 2) rfl)) rfl
set_option maxRecDepth 100000 in
theorem q244 : (Jvm.Cond.instanceMethod ({ cls := "QualitativeSimulator$Search", name := "codesLeft", desc := "()I" } : Jvm.MethodName)) ∈ lw_all := lw_in (lw_t2 (List.mem_of_getElem? (i := 4) rfl)) rfl
set_option maxRecDepth 100000 in
theorem q245 : (Jvm.Cond.code ({ cls := "QualitativeSimulator$Search", name := "codesLeft", desc := "()I" } : Jvm.MethodName) prog_4_method_5_code (3 : Nat) (Option.some Jvm.ClassFile.FieldType.int)) ∈ lw_all := lw_in (lw_t2 (List.mem_of_getElem? (i := 5) rfl)) rfl
set_option maxRecDepth 100000 in
theorem q310 : (Jvm.Cond.methodLink "QualitativeSimulator$Search" (47 : Nat) ({ cls := "QualitativeSimulator$Search", name := "bindFrom", desc := "(II)V" } : Jvm.MethodName)) ∈ lw_all := lw_in (lw_t2 (List.mem_of_getElem? (i := 70) rfl)) rfl
set_option maxRecDepth 100000 in
theorem q312 : (Jvm.Cond.instanceMethod ({ cls := "QualitativeSimulator$Search", name := "bindFrom", desc := "(II)V" } : Jvm.MethodName)) ∈ lw_all := lw_in (lw_t2 (List.mem_of_getElem? (i := 72) rfl)) rfl
set_option maxRecDepth 100000 in
theorem q313 : (Jvm.Cond.code ({ cls := "QualitativeSimulator$Search", name := "bindFrom", desc := "(II)V" } : Jvm.MethodName) prog_4_method_6_code (5 : Nat) (Option.none : Option Jvm.ClassFile.FieldType)) ∈ lw_all := lw_in (lw_t2 (List.mem_of_getElem? (i := 73) rfl)) rfl
set_option maxRecDepth 100000 in
theorem q314 : (Jvm.Cond.methodLink "QualitativeSimulator$Search" (99 : Nat) ({ cls := "QualitativeSimulator$Graph", name := "meet", desc := "(II)V" } : Jvm.MethodName)) ∈ lw_all := lw_in (lw_t2 (List.mem_of_getElem? (i := 74) rfl)) rfl
set_option maxRecDepth 100000 in
theorem q315 : (Jvm.Cond.instanceMethod ({ cls := "QualitativeSimulator$Graph", name := "meet", desc := "(II)V" } : Jvm.MethodName)) ∈ lw_all := lw_in (lw_t2 (List.mem_of_getElem? (i := 75) rfl)) rfl
set_option maxRecDepth 100000 in
theorem q316 : (Jvm.Cond.selects "QualitativeSimulator$Graph" ({ cls := "QualitativeSimulator$Graph", name := "meet", desc := "(II)V" } : Jvm.MethodName) ({ cls := "QualitativeSimulator$Graph", name := "meet", desc := "(II)V" } : Jvm.MethodName)) ∈ lw_all := lw_in (lw_t2 (List.mem_of_getElem? (i := 76) rfl)) rfl
set_option maxRecDepth 100000 in
theorem q317 : (Jvm.Cond.code ({ cls := "QualitativeSimulator$Graph", name := "meet", desc := "(II)V" } : Jvm.MethodName) prog_2_method_3_code (7 : Nat) (Option.none : Option Jvm.ClassFile.FieldType)) ∈ lw_all := lw_in (lw_t2 (List.mem_of_getElem? (i := 77) rfl)) rfl
set_option maxRecDepth 100000 in
theorem q318 : (Jvm.Cond.constant "QualitativeSimulator$Graph" (61 : Nat) (-1640531535 : Int32)) ∈ lw_all := lw_in (lw_t2 (List.mem_of_getElem? (i := 78) rfl)) rfl
set_option maxRecDepth 100000 in
theorem q319 : (Jvm.Cond.methodLink "QualitativeSimulator$Graph" (62 : Nat) ({ cls := "QualitativeSimulator$Graph", name := "append", desc := "(IZII)V" } : Jvm.MethodName)) ∈ lw_all := lw_in (lw_t2 (List.mem_of_getElem? (i := 79) rfl)) rfl
set_option maxRecDepth 100000 in
theorem q321 : (Jvm.Cond.instanceMethod ({ cls := "QualitativeSimulator$Graph", name := "append", desc := "(IZII)V" } : Jvm.MethodName)) ∈ lw_all := lw_in (lw_t2 (List.mem_of_getElem? (i := 81) rfl)) rfl
set_option maxRecDepth 100000 in
theorem q322 : (Jvm.Cond.code ({ cls := "QualitativeSimulator$Graph", name := "append", desc := "(IZII)V" } : Jvm.MethodName) prog_2_method_4_code (5 : Nat) (Option.none : Option Jvm.ClassFile.FieldType)) ∈ lw_all := lw_in (lw_t2 (List.mem_of_getElem? (i := 82) rfl)) rfl
set_option maxRecDepth 100000 in
theorem q331 : (Jvm.Cond.methodLink "QualitativeSimulator$Search" (54 : Nat) ({ cls := "QualitativeSimulator$Search", name := "linkAll", desc := "()V" } : Jvm.MethodName)) ∈ lw_all := lw_in (lw_t2 (List.mem_of_getElem? (i := 91) rfl)) rfl
set_option maxRecDepth 100000 in
theorem q333 : (Jvm.Cond.instanceMethod ({ cls := "QualitativeSimulator$Search", name := "linkAll", desc := "()V" } : Jvm.MethodName)) ∈ lw_all := lw_in (lw_t2 (List.mem_of_getElem? (i := 93) rfl)) rfl
set_option maxRecDepth 100000 in
theorem q334 : (Jvm.Cond.code ({ cls := "QualitativeSimulator$Search", name := "linkAll", desc := "()V" } : Jvm.MethodName) prog_4_method_20_code (3 : Nat) (Option.none : Option Jvm.ClassFile.FieldType)) ∈ lw_all := lw_in (lw_t2 (List.mem_of_getElem? (i := 94) rfl)) rfl
set_option maxRecDepth 100000 in
theorem q335 : (Jvm.Cond.methodLink "QualitativeSimulator$Search" (166 : Nat) ({ cls := "QualitativeSimulator$Graph", name := "beginLinks", desc := "(I)V" } : Jvm.MethodName)) ∈ lw_all := lw_in (lw_t2 (List.mem_of_getElem? (i := 95) rfl)) rfl
set_option maxRecDepth 100000 in
theorem q336 : (Jvm.Cond.instanceMethod ({ cls := "QualitativeSimulator$Graph", name := "beginLinks", desc := "(I)V" } : Jvm.MethodName)) ∈ lw_all := lw_in (lw_t2 (List.mem_of_getElem? (i := 96) rfl)) rfl
set_option maxRecDepth 100000 in
theorem q337 : (Jvm.Cond.selects "QualitativeSimulator$Graph" ({ cls := "QualitativeSimulator$Graph", name := "beginLinks", desc := "(I)V" } : Jvm.MethodName) ({ cls := "QualitativeSimulator$Graph", name := "beginLinks", desc := "(I)V" } : Jvm.MethodName)) ∈ lw_all := lw_in (lw_t2 (List.mem_of_getElem? (i := 97) rfl)) rfl
set_option maxRecDepth 100000 in
theorem q338 : (Jvm.Cond.code ({ cls := "QualitativeSimulator$Graph", name := "beginLinks", desc := "(I)V" } : Jvm.MethodName) prog_2_method_5_code (2 : Nat) (Option.none : Option Jvm.ClassFile.FieldType)) ∈ lw_all := lw_in (lw_t2 (List.mem_of_getElem? (i := 98) rfl)) rfl
set_option maxRecDepth 100000 in
theorem q355 : (Jvm.Cond.methodLink "QualitativeSimulator$Search" (169 : Nat) ({ cls := "QualitativeSimulator$Search", name := "canFollow", desc := "(II)Z" } : Jvm.MethodName)) ∈ lw_all := lw_in (lw_t2 (List.mem_of_getElem? (i := 115) rfl)) rfl
set_option maxRecDepth 100000 in
theorem q357 : (Jvm.Cond.instanceMethod ({ cls := "QualitativeSimulator$Search", name := "canFollow", desc := "(II)Z" } : Jvm.MethodName)) ∈ lw_all := lw_in (lw_t2 (List.mem_of_getElem? (i := 117) rfl)) rfl
set_option maxRecDepth 100000 in
theorem q358 : (Jvm.Cond.code ({ cls := "QualitativeSimulator$Search", name := "canFollow", desc := "(II)Z" } : Jvm.MethodName) prog_4_method_21_code (5 : Nat) (Option.some Jvm.ClassFile.FieldType.boolean)) ∈ lw_all := lw_in (lw_t2 (List.mem_of_getElem? (i := 118) rfl)) rfl
set_option maxRecDepth 100000 in
theorem q359 : (Jvm.Cond.methodLink "QualitativeSimulator$Search" (172 : Nat) ({ cls := "QualitativeSimulator$Graph", name := "link", desc := "(I)V" } : Jvm.MethodName)) ∈ lw_all := lw_in (lw_t2 (List.mem_of_getElem? (i := 119) rfl)) rfl
set_option maxRecDepth 100000 in
theorem q360 : (Jvm.Cond.instanceMethod ({ cls := "QualitativeSimulator$Graph", name := "link", desc := "(I)V" } : Jvm.MethodName)) ∈ lw_all := lw_in (lw_t2 (List.mem_of_getElem? (i := 120) rfl)) rfl
set_option maxRecDepth 100000 in
theorem q361 : (Jvm.Cond.selects "QualitativeSimulator$Graph" ({ cls := "QualitativeSimulator$Graph", name := "link", desc := "(I)V" } : Jvm.MethodName) ({ cls := "QualitativeSimulator$Graph", name := "link", desc := "(I)V" } : Jvm.MethodName)) ∈ lw_all := lw_in (lw_t2 (List.mem_of_getElem? (i := 121) rfl)) rfl
set_option maxRecDepth 100000 in
theorem q362 : (Jvm.Cond.code ({ cls := "QualitativeSimulator$Graph", name := "link", desc := "(I)V" } : Jvm.MethodName) prog_2_method_6_code (2 : Nat) (Option.none : Option Jvm.ClassFile.FieldType)) ∈ lw_all := lw_in (lw_t2 (List.mem_of_getElem? (i := 122) rfl)) rfl
set_option maxRecDepth 100000 in
theorem q363 : (Jvm.Cond.methodLink "QualitativeSimulator$Search" (175 : Nat) ({ cls := "QualitativeSimulator$Graph", name := "endLinks", desc := "()V" } : Jvm.MethodName)) ∈ lw_all := lw_in (lw_t2 (List.mem_of_getElem? (i := 123) rfl)) rfl
set_option maxRecDepth 100000 in
theorem q364 : (Jvm.Cond.instanceMethod ({ cls := "QualitativeSimulator$Graph", name := "endLinks", desc := "()V" } : Jvm.MethodName)) ∈ lw_all := lw_in (lw_t2 (List.mem_of_getElem? (i := 124) rfl)) rfl
set_option maxRecDepth 100000 in
theorem q365 : (Jvm.Cond.selects "QualitativeSimulator$Graph" ({ cls := "QualitativeSimulator$Graph", name := "endLinks", desc := "()V" } : Jvm.MethodName) ({ cls := "QualitativeSimulator$Graph", name := "endLinks", desc := "()V" } : Jvm.MethodName)) ∈ lw_all := lw_in (lw_t2 (List.mem_of_getElem? (i := 125) rfl)) rfl
set_option maxRecDepth 100000 in
theorem q366 : (Jvm.Cond.code ({ cls := "QualitativeSimulator$Graph", name := "endLinks", desc := "()V" } : Jvm.MethodName) prog_2_method_7_code (1 : Nat) (Option.none : Option Jvm.ClassFile.FieldType)) ∈ lw_all := lw_in (lw_t2 (List.mem_of_getElem? (i := 126) rfl)) rfl
set_option maxRecDepth 100000 in
theorem q367 : (Jvm.Cond.methodLink "QualitativeSimulatorLaw" (121 : Nat) ({ cls := "QualitativeSimulator", name := "isExplored", desc := "()Z" } : Jvm.MethodName)) ∈ lw_all := lw_in (lw_t2 (List.mem_of_getElem? (i := 127) rfl)) rfl
set_option maxRecDepth 100000 in
theorem q368 : (Jvm.Cond.instanceMethod ({ cls := "QualitativeSimulator", name := "isExplored", desc := "()Z" } : Jvm.MethodName)) ∈ lw_all := lw_in (lw_t2 (List.mem_of_getElem? (i := 128) rfl)) rfl
set_option maxRecDepth 100000 in
theorem q369 : (Jvm.Cond.selects "QualitativeSimulator" ({ cls := "QualitativeSimulator", name := "isExplored", desc := "()Z" } : Jvm.MethodName) ({ cls := "QualitativeSimulator", name := "isExplored", desc := "()Z" } : Jvm.MethodName)) ∈ lw_all := lw_in (lw_t2 (List.mem_of_getElem? (i := 129) rfl)) rfl
set_option maxRecDepth 100000 in
theorem q370 : (Jvm.Cond.code ({ cls := "QualitativeSimulator", name := "isExplored", desc := "()Z" } : Jvm.MethodName) prog_1_method_10_code (1 : Nat) (Option.some Jvm.ClassFile.FieldType.boolean)) ∈ lw_all := lw_in (lw_t2 (List.mem_of_getElem? (i := 130) rfl)) rfl
set_option maxRecDepth 100000 in
theorem q371 : (Jvm.Cond.methodLink "QualitativeSimulatorLaw" (169 : Nat) ({ cls := "QualitativeSimulator", name := "digest", desc := "()J" } : Jvm.MethodName)) ∈ lw_all := lw_in (lw_t2 (List.mem_of_getElem? (i := 131) rfl)) rfl
set_option maxRecDepth 100000 in
theorem q372 : (Jvm.Cond.instanceMethod ({ cls := "QualitativeSimulator", name := "digest", desc := "()J" } : Jvm.MethodName)) ∈ lw_all := lw_in (lw_t2 (List.mem_of_getElem? (i := 132) rfl)) rfl
set_option maxRecDepth 100000 in
theorem q373 : (Jvm.Cond.selects "QualitativeSimulator" ({ cls := "QualitativeSimulator", name := "digest", desc := "()J" } : Jvm.MethodName) ({ cls := "QualitativeSimulator", name := "digest", desc := "()J" } : Jvm.MethodName)) ∈ lw_all := lw_in (lw_t2 (List.mem_of_getElem? (i := 133) rfl)) rfl
set_option maxRecDepth 100000 in
theorem q374 : (Jvm.Cond.code ({ cls := "QualitativeSimulator", name := "digest", desc := "()J" } : Jvm.MethodName) prog_1_method_25_code (4 : Nat) (Option.some Jvm.ClassFile.FieldType.long)) ∈ lw_all := lw_in (lw_t2 (List.mem_of_getElem? (i := 134) rfl)) rfl
set_option maxRecDepth 100000 in
theorem q375 : (Jvm.Cond.constantLong "QualitativeSimulator" (155 : Nat) (131 : Int64)) ∈ lw_all := lw_in (lw_t2 (List.mem_of_getElem? (i := 135) rfl)) rfl
set_option maxRecDepth 100000 in
theorem q376 : (Jvm.Cond.constantLong "QualitativeSimulator" (157 : Nat) (31 : Int64)) ∈ lw_all := lw_in (lw_t2 (List.mem_of_getElem? (i := 136) rfl)) rfl
set_option maxRecDepth 100000 in
theorem q388 : (Jvm.Cond.methodLink "QualitativeSimulatorLaw" (85 : Nat) ({ cls := "QualitativeSimulatorLaw", name := "addVariable", desc := "(LQualitativeSimulator;II[J)I" } : Jvm.MethodName)) ∈ lw_all := lw_in (lw_t2 (List.mem_of_getElem? (i := 148) rfl)) rfl
set_option maxRecDepth 100000 in
theorem q389 : (Jvm.Cond.static ({ cls := "QualitativeSimulatorLaw", name := "addVariable", desc := "(LQualitativeSimulator;II[J)I" } : Jvm.MethodName)) ∈ lw_all := lw_in (lw_t2 (List.mem_of_getElem? (i := 149) rfl)) rfl
set_option maxRecDepth 100000 in
theorem q390 : (Jvm.Cond.codeWith ({ cls := "QualitativeSimulatorLaw", name := "addVariable", desc := "(LQualitativeSimulator;II[J)I" } : Jvm.MethodName) method_3_code (5 : Nat) (Option.some Jvm.ClassFile.FieldType.int) [((0 : Nat), (10 : Nat), (13 : Nat), (13 : Nat)), ((0 : Nat), (10 : Nat), (17 : Nat), (15 : Nat))]) ∈ lw_all := lw_in (lw_t2 (List.mem_of_getElem? (i := 150) rfl)) rfl
set_option maxRecDepth 100000 in
theorem q391 : (Jvm.Cond.classLink "QualitativeSimulatorLaw" (13 : Nat) "java/lang/IllegalArgumentException") ∈ lw_all := lw_in (lw_t2 (List.mem_of_getElem? (i := 151) rfl)) rfl
set_option maxRecDepth 100000 in
theorem q392 : (Jvm.Cond.classLink "QualitativeSimulatorLaw" (15 : Nat) "java/lang/IllegalStateException") ∈ lw_all := lw_in (lw_t2 (List.mem_of_getElem? (i := 152) rfl)) rfl
set_option maxRecDepth 100000 in
theorem q393 : (Jvm.Cond.methodLink "QualitativeSimulatorLaw" (7 : Nat) ({ cls := "QualitativeSimulator", name := "addVariable", desc := "(II)I" } : Jvm.MethodName)) ∈ lw_all := lw_in (lw_t2 (List.mem_of_getElem? (i := 153) rfl)) rfl
set_option maxRecDepth 100000 in
theorem q394 : (Jvm.Cond.instanceMethod ({ cls := "QualitativeSimulator", name := "addVariable", desc := "(II)I" } : Jvm.MethodName)) ∈ lw_all := lw_in (lw_t2 (List.mem_of_getElem? (i := 154) rfl)) rfl
set_option maxRecDepth 100000 in
theorem q395 : (Jvm.Cond.selects "QualitativeSimulator" ({ cls := "QualitativeSimulator", name := "addVariable", desc := "(II)I" } : Jvm.MethodName) ({ cls := "QualitativeSimulator", name := "addVariable", desc := "(II)I" } : Jvm.MethodName)) ∈ lw_all := lw_in (lw_t2 (List.mem_of_getElem? (i := 155) rfl)) rfl
set_option maxRecDepth 100000 in
theorem q396 : (Jvm.Cond.code ({ cls := "QualitativeSimulator", name := "addVariable", desc := "(II)I" } : Jvm.MethodName) prog_1_method_2_code (3 : Nat) (Option.some Jvm.ClassFile.FieldType.int)) ∈ lw_all := lw_in (lw_t2 (List.mem_of_getElem? (i := 156) rfl)) rfl
set_option maxRecDepth 100000 in
theorem q397 : (Jvm.Cond.classLink "QualitativeSimulator" (36 : Nat) "java/lang/IllegalArgumentException") ∈ lw_all := lw_in (lw_t2 (List.mem_of_getElem? (i := 157) rfl)) rfl
set_option maxRecDepth 100000 in
theorem q466 : (Jvm.Cond.classLink "QualitativeSimulator" (49 : Nat) "java/lang/IllegalStateException") ∈ lw_all := lw_in (lw_t2 (List.mem_of_getElem? (i := 226) rfl)) rfl
set_option maxRecDepth 100000 in
theorem q482 : (Jvm.Cond.methodLink "QualitativeSimulator" (54 : Nat) ({ cls := "QualitativeSimulator$Model", name := "appendVariable", desc := "(II)I" } : Jvm.MethodName)) ∈ lw_all := lw_in (lw_t3 (List.mem_of_getElem? (i := 2) rfl)) rfl
set_option maxRecDepth 100000 in
theorem q483 : (Jvm.Cond.instanceMethod ({ cls := "QualitativeSimulator$Model", name := "appendVariable", desc := "(II)I" } : Jvm.MethodName)) ∈ lw_all := lw_in (lw_t3 (List.mem_of_getElem? (i := 3) rfl)) rfl
set_option maxRecDepth 100000 in
theorem q484 : (Jvm.Cond.selects "QualitativeSimulator$Model" ({ cls := "QualitativeSimulator$Model", name := "appendVariable", desc := "(II)I" } : Jvm.MethodName) ({ cls := "QualitativeSimulator$Model", name := "appendVariable", desc := "(II)I" } : Jvm.MethodName)) ∈ lw_all := lw_in (lw_t3 (List.mem_of_getElem? (i := 4) rfl)) rfl
set_option maxRecDepth 100000 in
theorem q485 : (Jvm.Cond.code ({ cls := "QualitativeSimulator$Model", name := "appendVariable", desc := "(II)I" } : Jvm.MethodName) prog_3_method_2_code (5 : Nat) (Option.some Jvm.ClassFile.FieldType.int)) ∈ lw_all := lw_in (lw_t3 (List.mem_of_getElem? (i := 5) rfl)) rfl
set_option maxRecDepth 100000 in
theorem q486 : (Jvm.Cond.methodLink "QualitativeSimulatorLaw" (94 : Nat) ({ cls := "QualitativeSimulatorLaw", name := "addConstraint", desc := "(LQualitativeSimulator;IIII[J)I" } : Jvm.MethodName)) ∈ lw_all := lw_in (lw_t3 (List.mem_of_getElem? (i := 6) rfl)) rfl
set_option maxRecDepth 100000 in
theorem q487 : (Jvm.Cond.static ({ cls := "QualitativeSimulatorLaw", name := "addConstraint", desc := "(LQualitativeSimulator;IIII[J)I" } : Jvm.MethodName)) ∈ lw_all := lw_in (lw_t3 (List.mem_of_getElem? (i := 7) rfl)) rfl
set_option maxRecDepth 100000 in
theorem q488 : (Jvm.Cond.codeWith ({ cls := "QualitativeSimulatorLaw", name := "addConstraint", desc := "(LQualitativeSimulator;IIII[J)I" } : Jvm.MethodName) method_4_code (7 : Nat) (Option.some Jvm.ClassFile.FieldType.int) [((0 : Nat), (14 : Nat), (17 : Nat), (13 : Nat)), ((0 : Nat), (14 : Nat), (21 : Nat), (21 : Nat)), ((0 : Nat), (14 : Nat), (25 : Nat), (15 : Nat))]) ∈ lw_all := lw_in (lw_t3 (List.mem_of_getElem? (i := 8) rfl)) rfl
set_option maxRecDepth 100000 in
theorem q489 : (Jvm.Cond.classLink "QualitativeSimulatorLaw" (21 : Nat) "java/lang/IndexOutOfBoundsException") ∈ lw_all := lw_in (lw_t3 (List.mem_of_getElem? (i := 9) rfl)) rfl
set_option maxRecDepth 100000 in
theorem q490 : (Jvm.Cond.methodLink "QualitativeSimulatorLaw" (17 : Nat) ({ cls := "QualitativeSimulator", name := "addConstraint", desc := "(IIII)I" } : Jvm.MethodName)) ∈ lw_all := lw_in (lw_t3 (List.mem_of_getElem? (i := 10) rfl)) rfl
set_option maxRecDepth 100000 in
theorem q491 : (Jvm.Cond.instanceMethod ({ cls := "QualitativeSimulator", name := "addConstraint", desc := "(IIII)I" } : Jvm.MethodName)) ∈ lw_all := lw_in (lw_t3 (List.mem_of_getElem? (i := 11) rfl)) rfl
set_option maxRecDepth 100000 in
theorem q492 : (Jvm.Cond.selects "QualitativeSimulator" ({ cls := "QualitativeSimulator", name := "addConstraint", desc := "(IIII)I" } : Jvm.MethodName) ({ cls := "QualitativeSimulator", name := "addConstraint", desc := "(IIII)I" } : Jvm.MethodName)) ∈ lw_all := lw_in (lw_t3 (List.mem_of_getElem? (i := 12) rfl)) rfl
set_option maxRecDepth 100000 in
theorem q493 : (Jvm.Cond.code ({ cls := "QualitativeSimulator", name := "addConstraint", desc := "(IIII)I" } : Jvm.MethodName) prog_1_method_3_code (7 : Nat) (Option.some Jvm.ClassFile.FieldType.int)) ∈ lw_all := lw_in (lw_t3 (List.mem_of_getElem? (i := 13) rfl)) rfl
set_option maxRecDepth 100000 in
theorem q495 : (Jvm.Cond.methodLink "QualitativeSimulator" (60 : Nat) ({ cls := "QualitativeSimulator", name := "requireVariable", desc := "(I)V" } : Jvm.MethodName)) ∈ lw_all := lw_in (lw_t3 (List.mem_of_getElem? (i := 15) rfl)) rfl
set_option maxRecDepth 100000 in
theorem q497 : (Jvm.Cond.instanceMethod ({ cls := "QualitativeSimulator", name := "requireVariable", desc := "(I)V" } : Jvm.MethodName)) ∈ lw_all := lw_in (lw_t3 (List.mem_of_getElem? (i := 17) rfl)) rfl
set_option maxRecDepth 100000 in
theorem q498 : (Jvm.Cond.code ({ cls := "QualitativeSimulator", name := "requireVariable", desc := "(I)V" } : Jvm.MethodName) prog_1_method_29_code (2 : Nat) (Option.none : Option Jvm.ClassFile.FieldType)) ∈ lw_all := lw_in (lw_t3 (List.mem_of_getElem? (i := 18) rfl)) rfl
set_option maxRecDepth 100000 in
theorem q499 : (Jvm.Cond.classLink "QualitativeSimulator" (127 : Nat) "java/lang/IndexOutOfBoundsException") ∈ lw_all := lw_in (lw_t3 (List.mem_of_getElem? (i := 19) rfl)) rfl
set_option maxRecDepth 100000 in
theorem q520 : (Jvm.Cond.methodLink "QualitativeSimulatorLaw" (98 : Nat) ({ cls := "QualitativeSimulatorLaw", name := "dropConstraint", desc := "(LQualitativeSimulator;[J)I" } : Jvm.MethodName)) ∈ lw_all := lw_in (lw_t3 (List.mem_of_getElem? (i := 40) rfl)) rfl
set_option maxRecDepth 100000 in
theorem q521 : (Jvm.Cond.static ({ cls := "QualitativeSimulatorLaw", name := "dropConstraint", desc := "(LQualitativeSimulator;[J)I" } : Jvm.MethodName)) ∈ lw_all := lw_in (lw_t3 (List.mem_of_getElem? (i := 41) rfl)) rfl
set_option maxRecDepth 100000 in
theorem q522 : (Jvm.Cond.codeWith ({ cls := "QualitativeSimulatorLaw", name := "dropConstraint", desc := "(LQualitativeSimulator;[J)I" } : Jvm.MethodName) method_5_code (3 : Nat) (Option.some Jvm.ClassFile.FieldType.int) [((0 : Nat), (8 : Nat), (11 : Nat), (15 : Nat))]) ∈ lw_all := lw_in (lw_t3 (List.mem_of_getElem? (i := 42) rfl)) rfl
set_option maxRecDepth 100000 in
theorem q523 : (Jvm.Cond.methodLink "QualitativeSimulatorLaw" (23 : Nat) ({ cls := "QualitativeSimulator", name := "dropConstraint", desc := "()I" } : Jvm.MethodName)) ∈ lw_all := lw_in (lw_t3 (List.mem_of_getElem? (i := 43) rfl)) rfl
set_option maxRecDepth 100000 in
theorem q524 : (Jvm.Cond.instanceMethod ({ cls := "QualitativeSimulator", name := "dropConstraint", desc := "()I" } : Jvm.MethodName)) ∈ lw_all := lw_in (lw_t3 (List.mem_of_getElem? (i := 44) rfl)) rfl
set_option maxRecDepth 100000 in
theorem q525 : (Jvm.Cond.selects "QualitativeSimulator" ({ cls := "QualitativeSimulator", name := "dropConstraint", desc := "()I" } : Jvm.MethodName) ({ cls := "QualitativeSimulator", name := "dropConstraint", desc := "()I" } : Jvm.MethodName)) ∈ lw_all := lw_in (lw_t3 (List.mem_of_getElem? (i := 45) rfl)) rfl
set_option maxRecDepth 100000 in
theorem q526 : (Jvm.Cond.code ({ cls := "QualitativeSimulator", name := "dropConstraint", desc := "()I" } : Jvm.MethodName) prog_1_method_4_code (1 : Nat) (Option.some Jvm.ClassFile.FieldType.int)) ∈ lw_all := lw_in (lw_t3 (List.mem_of_getElem? (i := 46) rfl)) rfl
set_option maxRecDepth 100000 in
theorem q528 : (Jvm.Cond.methodLink "QualitativeSimulatorLaw" (102 : Nat) ({ cls := "QualitativeSimulatorLaw", name := "give", desc := "(LQualitativeSimulator;III[J)I" } : Jvm.MethodName)) ∈ lw_all := lw_in (lw_t3 (List.mem_of_getElem? (i := 48) rfl)) rfl
set_option maxRecDepth 100000 in
theorem q529 : (Jvm.Cond.static ({ cls := "QualitativeSimulatorLaw", name := "give", desc := "(LQualitativeSimulator;III[J)I" } : Jvm.MethodName)) ∈ lw_all := lw_in (lw_t3 (List.mem_of_getElem? (i := 49) rfl)) rfl
set_option maxRecDepth 100000 in
theorem q530 : (Jvm.Cond.codeWith ({ cls := "QualitativeSimulatorLaw", name := "give", desc := "(LQualitativeSimulator;III[J)I" } : Jvm.MethodName) method_6_code (6 : Nat) (Option.some Jvm.ClassFile.FieldType.int) [((0 : Nat), (19 : Nat), (22 : Nat), (21 : Nat)), ((0 : Nat), (19 : Nat), (26 : Nat), (13 : Nat))]) ∈ lw_all := lw_in (lw_t3 (List.mem_of_getElem? (i := 50) rfl)) rfl
set_option maxRecDepth 100000 in
theorem q531 : (Jvm.Cond.methodLink "QualitativeSimulatorLaw" (27 : Nat) ({ cls := "QualitativeSimulator", name := "give", desc := "(III)Z" } : Jvm.MethodName)) ∈ lw_all := lw_in (lw_t3 (List.mem_of_getElem? (i := 51) rfl)) rfl
set_option maxRecDepth 100000 in
theorem q532 : (Jvm.Cond.instanceMethod ({ cls := "QualitativeSimulator", name := "give", desc := "(III)Z" } : Jvm.MethodName)) ∈ lw_all := lw_in (lw_t3 (List.mem_of_getElem? (i := 52) rfl)) rfl
set_option maxRecDepth 100000 in
theorem q533 : (Jvm.Cond.selects "QualitativeSimulator" ({ cls := "QualitativeSimulator", name := "give", desc := "(III)Z" } : Jvm.MethodName) ({ cls := "QualitativeSimulator", name := "give", desc := "(III)Z" } : Jvm.MethodName)) ∈ lw_all := lw_in (lw_t3 (List.mem_of_getElem? (i := 53) rfl)) rfl
set_option maxRecDepth 100000 in
theorem q534 : (Jvm.Cond.code ({ cls := "QualitativeSimulator", name := "give", desc := "(III)Z" } : Jvm.MethodName) prog_1_method_5_code (4 : Nat) (Option.some Jvm.ClassFile.FieldType.boolean)) ∈ lw_all := lw_in (lw_t3 (List.mem_of_getElem? (i := 54) rfl)) rfl
set_option maxRecDepth 100000 in
theorem q542 : (Jvm.Cond.methodLink "QualitativeSimulatorLaw" (114 : Nat) ({ cls := "QualitativeSimulatorLaw", name := "sign", desc := "(LQualitativeSimulator;II[J)I" } : Jvm.MethodName)) ∈ lw_all := lw_in (lw_t3 (List.mem_of_getElem? (i := 62) rfl)) rfl
set_option maxRecDepth 100000 in
theorem q543 : (Jvm.Cond.static ({ cls := "QualitativeSimulatorLaw", name := "sign", desc := "(LQualitativeSimulator;II[J)I" } : Jvm.MethodName)) ∈ lw_all := lw_in (lw_t3 (List.mem_of_getElem? (i := 63) rfl)) rfl
set_option maxRecDepth 100000 in
theorem q544 : (Jvm.Cond.codeWith ({ cls := "QualitativeSimulatorLaw", name := "sign", desc := "(LQualitativeSimulator;II[J)I" } : Jvm.MethodName) method_7_code (5 : Nat) (Option.some Jvm.ClassFile.FieldType.int) [((0 : Nat), (10 : Nat), (13 : Nat), (21 : Nat)), ((0 : Nat), (10 : Nat), (17 : Nat), (13 : Nat))]) ∈ lw_all := lw_in (lw_t3 (List.mem_of_getElem? (i := 64) rfl)) rfl
set_option maxRecDepth 100000 in
theorem q545 : (Jvm.Cond.methodLink "QualitativeSimulatorLaw" (31 : Nat) ({ cls := "QualitativeSimulator", name := "sign", desc := "(II)I" } : Jvm.MethodName)) ∈ lw_all := lw_in (lw_t3 (List.mem_of_getElem? (i := 65) rfl)) rfl
set_option maxRecDepth 100000 in
theorem q546 : (Jvm.Cond.instanceMethod ({ cls := "QualitativeSimulator", name := "sign", desc := "(II)I" } : Jvm.MethodName)) ∈ lw_all := lw_in (lw_t3 (List.mem_of_getElem? (i := 66) rfl)) rfl
set_option maxRecDepth 100000 in
theorem q547 : (Jvm.Cond.selects "QualitativeSimulator" ({ cls := "QualitativeSimulator", name := "sign", desc := "(II)I" } : Jvm.MethodName) ({ cls := "QualitativeSimulator", name := "sign", desc := "(II)I" } : Jvm.MethodName)) ∈ lw_all := lw_in (lw_t3 (List.mem_of_getElem? (i := 67) rfl)) rfl
set_option maxRecDepth 100000 in
theorem q548 : (Jvm.Cond.code ({ cls := "QualitativeSimulator", name := "sign", desc := "(II)I" } : Jvm.MethodName) prog_1_method_8_code (4 : Nat) (Option.some Jvm.ClassFile.FieldType.int)) ∈ lw_all := lw_in (lw_t3 (List.mem_of_getElem? (i := 68) rfl)) rfl
set_option maxRecDepth 100000 in
theorem q549 : (Jvm.Cond.methodLink "QualitativeSimulatorLaw" (125 : Nat) ({ cls := "QualitativeSimulatorLaw", name := "isComplete", desc := "(LQualitativeSimulator;[J)I" } : Jvm.MethodName)) ∈ lw_all := lw_in (lw_t3 (List.mem_of_getElem? (i := 69) rfl)) rfl
set_option maxRecDepth 100000 in
theorem q550 : (Jvm.Cond.static ({ cls := "QualitativeSimulatorLaw", name := "isComplete", desc := "(LQualitativeSimulator;[J)I" } : Jvm.MethodName)) ∈ lw_all := lw_in (lw_t3 (List.mem_of_getElem? (i := 70) rfl)) rfl
set_option maxRecDepth 100000 in
theorem q551 : (Jvm.Cond.codeWith ({ cls := "QualitativeSimulatorLaw", name := "isComplete", desc := "(LQualitativeSimulator;[J)I" } : Jvm.MethodName) method_8_code (3 : Nat) (Option.some Jvm.ClassFile.FieldType.int) [((0 : Nat), (15 : Nat), (18 : Nat), (15 : Nat))]) ∈ lw_all := lw_in (lw_t3 (List.mem_of_getElem? (i := 71) rfl)) rfl
set_option maxRecDepth 100000 in
theorem q552 : (Jvm.Cond.methodLink "QualitativeSimulatorLaw" (34 : Nat) ({ cls := "QualitativeSimulator", name := "isComplete", desc := "()Z" } : Jvm.MethodName)) ∈ lw_all := lw_in (lw_t3 (List.mem_of_getElem? (i := 72) rfl)) rfl
set_option maxRecDepth 100000 in
theorem q553 : (Jvm.Cond.instanceMethod ({ cls := "QualitativeSimulator", name := "isComplete", desc := "()Z" } : Jvm.MethodName)) ∈ lw_all := lw_in (lw_t3 (List.mem_of_getElem? (i := 73) rfl)) rfl
set_option maxRecDepth 100000 in
theorem q554 : (Jvm.Cond.selects "QualitativeSimulator" ({ cls := "QualitativeSimulator", name := "isComplete", desc := "()Z" } : Jvm.MethodName) ({ cls := "QualitativeSimulator", name := "isComplete", desc := "()Z" } : Jvm.MethodName)) ∈ lw_all := lw_in (lw_t3 (List.mem_of_getElem? (i := 74) rfl)) rfl
set_option maxRecDepth 100000 in
theorem q555 : (Jvm.Cond.code ({ cls := "QualitativeSimulator", name := "isComplete", desc := "()Z" } : Jvm.MethodName) prog_1_method_11_code (1 : Nat) (Option.some Jvm.ClassFile.FieldType.boolean)) ∈ lw_all := lw_in (lw_t3 (List.mem_of_getElem? (i := 75) rfl)) rfl
set_option maxRecDepth 100000 in
theorem q556 : (Jvm.Cond.methodLink "QualitativeSimulator" (95 : Nat) ({ cls := "QualitativeSimulator", name := "requireExploration", desc := "()V" } : Jvm.MethodName)) ∈ lw_all := lw_in (lw_t3 (List.mem_of_getElem? (i := 76) rfl)) rfl
set_option maxRecDepth 100000 in
theorem q558 : (Jvm.Cond.instanceMethod ({ cls := "QualitativeSimulator", name := "requireExploration", desc := "()V" } : Jvm.MethodName)) ∈ lw_all := lw_in (lw_t3 (List.mem_of_getElem? (i := 78) rfl)) rfl
set_option maxRecDepth 100000 in
theorem q559 : (Jvm.Cond.code ({ cls := "QualitativeSimulator", name := "requireExploration", desc := "()V" } : Jvm.MethodName) prog_1_method_27_code (1 : Nat) (Option.none : Option Jvm.ClassFile.FieldType)) ∈ lw_all := lw_in (lw_t3 (List.mem_of_getElem? (i := 79) rfl)) rfl
set_option maxRecDepth 100000 in
theorem q561 : (Jvm.Cond.methodLink "QualitativeSimulatorLaw" (128 : Nat) ({ cls := "QualitativeSimulatorLaw", name := "firstCount", desc := "(LQualitativeSimulator;[J)I" } : Jvm.MethodName)) ∈ lw_all := lw_in (lw_t3 (List.mem_of_getElem? (i := 81) rfl)) rfl
set_option maxRecDepth 100000 in
theorem q562 : (Jvm.Cond.static ({ cls := "QualitativeSimulatorLaw", name := "firstCount", desc := "(LQualitativeSimulator;[J)I" } : Jvm.MethodName)) ∈ lw_all := lw_in (lw_t3 (List.mem_of_getElem? (i := 82) rfl)) rfl
set_option maxRecDepth 100000 in
theorem q563 : (Jvm.Cond.codeWith ({ cls := "QualitativeSimulatorLaw", name := "firstCount", desc := "(LQualitativeSimulator;[J)I" } : Jvm.MethodName) method_9_code (3 : Nat) (Option.some Jvm.ClassFile.FieldType.int) [((0 : Nat), (8 : Nat), (11 : Nat), (15 : Nat))]) ∈ lw_all := lw_in (lw_t3 (List.mem_of_getElem? (i := 83) rfl)) rfl
set_option maxRecDepth 100000 in
theorem q564 : (Jvm.Cond.methodLink "QualitativeSimulatorLaw" (38 : Nat) ({ cls := "QualitativeSimulator", name := "firstCount", desc := "()I" } : Jvm.MethodName)) ∈ lw_all := lw_in (lw_t3 (List.mem_of_getElem? (i := 84) rfl)) rfl
set_option maxRecDepth 100000 in
theorem q565 : (Jvm.Cond.instanceMethod ({ cls := "QualitativeSimulator", name := "firstCount", desc := "()I" } : Jvm.MethodName)) ∈ lw_all := lw_in (lw_t3 (List.mem_of_getElem? (i := 85) rfl)) rfl
set_option maxRecDepth 100000 in
theorem q566 : (Jvm.Cond.selects "QualitativeSimulator" ({ cls := "QualitativeSimulator", name := "firstCount", desc := "()I" } : Jvm.MethodName) ({ cls := "QualitativeSimulator", name := "firstCount", desc := "()I" } : Jvm.MethodName)) ∈ lw_all := lw_in (lw_t3 (List.mem_of_getElem? (i := 86) rfl)) rfl
set_option maxRecDepth 100000 in
theorem q567 : (Jvm.Cond.code ({ cls := "QualitativeSimulator", name := "firstCount", desc := "()I" } : Jvm.MethodName) prog_1_method_12_code (1 : Nat) (Option.some Jvm.ClassFile.FieldType.int)) ∈ lw_all := lw_in (lw_t3 (List.mem_of_getElem? (i := 87) rfl)) rfl
set_option maxRecDepth 100000 in
theorem q568 : (Jvm.Cond.methodLink "QualitativeSimulatorLaw" (131 : Nat) ({ cls := "QualitativeSimulatorLaw", name := "value", desc := "(LQualitativeSimulator;II[J)I" } : Jvm.MethodName)) ∈ lw_all := lw_in (lw_t3 (List.mem_of_getElem? (i := 88) rfl)) rfl
set_option maxRecDepth 100000 in
theorem q569 : (Jvm.Cond.static ({ cls := "QualitativeSimulatorLaw", name := "value", desc := "(LQualitativeSimulator;II[J)I" } : Jvm.MethodName)) ∈ lw_all := lw_in (lw_t3 (List.mem_of_getElem? (i := 89) rfl)) rfl
set_option maxRecDepth 100000 in
theorem q570 : (Jvm.Cond.codeWith ({ cls := "QualitativeSimulatorLaw", name := "value", desc := "(LQualitativeSimulator;II[J)I" } : Jvm.MethodName) method_10_code (5 : Nat) (Option.some Jvm.ClassFile.FieldType.int) [((0 : Nat), (10 : Nat), (13 : Nat), (15 : Nat)), ((0 : Nat), (10 : Nat), (17 : Nat), (21 : Nat))]) ∈ lw_all := lw_in (lw_t3 (List.mem_of_getElem? (i := 90) rfl)) rfl
set_option maxRecDepth 100000 in
theorem q571 : (Jvm.Cond.methodLink "QualitativeSimulatorLaw" (41 : Nat) ({ cls := "QualitativeSimulator", name := "value", desc := "(II)I" } : Jvm.MethodName)) ∈ lw_all := lw_in (lw_t3 (List.mem_of_getElem? (i := 91) rfl)) rfl
set_option maxRecDepth 100000 in
theorem q572 : (Jvm.Cond.instanceMethod ({ cls := "QualitativeSimulator", name := "value", desc := "(II)I" } : Jvm.MethodName)) ∈ lw_all := lw_in (lw_t3 (List.mem_of_getElem? (i := 92) rfl)) rfl
set_option maxRecDepth 100000 in
theorem q573 : (Jvm.Cond.selects "QualitativeSimulator" ({ cls := "QualitativeSimulator", name := "value", desc := "(II)I" } : Jvm.MethodName) ({ cls := "QualitativeSimulator", name := "value", desc := "(II)I" } : Jvm.MethodName)) ∈ lw_all := lw_in (lw_t3 (List.mem_of_getElem? (i := 93) rfl)) rfl
set_option maxRecDepth 100000 in
theorem q574 : (Jvm.Cond.code ({ cls := "QualitativeSimulator", name := "value", desc := "(II)I" } : Jvm.MethodName) prog_1_method_13_code (3 : Nat) (Option.some Jvm.ClassFile.FieldType.int)) ∈ lw_all := lw_in (lw_t3 (List.mem_of_getElem? (i := 94) rfl)) rfl
set_option maxRecDepth 100000 in
theorem q580 : (Jvm.Cond.methodLink "QualitativeSimulatorLaw" (134 : Nat) ({ cls := "QualitativeSimulatorLaw", name := "direction", desc := "(LQualitativeSimulator;II[J)I" } : Jvm.MethodName)) ∈ lw_all := lw_in (lw_t3 (List.mem_of_getElem? (i := 100) rfl)) rfl
set_option maxRecDepth 100000 in
theorem q581 : (Jvm.Cond.static ({ cls := "QualitativeSimulatorLaw", name := "direction", desc := "(LQualitativeSimulator;II[J)I" } : Jvm.MethodName)) ∈ lw_all := lw_in (lw_t3 (List.mem_of_getElem? (i := 101) rfl)) rfl
set_option maxRecDepth 100000 in
theorem q582 : (Jvm.Cond.codeWith ({ cls := "QualitativeSimulatorLaw", name := "direction", desc := "(LQualitativeSimulator;II[J)I" } : Jvm.MethodName) method_11_code (5 : Nat) (Option.some Jvm.ClassFile.FieldType.int) [((0 : Nat), (10 : Nat), (13 : Nat), (15 : Nat)), ((0 : Nat), (10 : Nat), (17 : Nat), (21 : Nat))]) ∈ lw_all := lw_in (lw_t3 (List.mem_of_getElem? (i := 102) rfl)) rfl
set_option maxRecDepth 100000 in
theorem q583 : (Jvm.Cond.methodLink "QualitativeSimulatorLaw" (44 : Nat) ({ cls := "QualitativeSimulator", name := "direction", desc := "(II)I" } : Jvm.MethodName)) ∈ lw_all := lw_in (lw_t3 (List.mem_of_getElem? (i := 103) rfl)) rfl
set_option maxRecDepth 100000 in
theorem q584 : (Jvm.Cond.instanceMethod ({ cls := "QualitativeSimulator", name := "direction", desc := "(II)I" } : Jvm.MethodName)) ∈ lw_all := lw_in (lw_t3 (List.mem_of_getElem? (i := 104) rfl)) rfl
set_option maxRecDepth 100000 in
theorem q585 : (Jvm.Cond.selects "QualitativeSimulator" ({ cls := "QualitativeSimulator", name := "direction", desc := "(II)I" } : Jvm.MethodName) ({ cls := "QualitativeSimulator", name := "direction", desc := "(II)I" } : Jvm.MethodName)) ∈ lw_all := lw_in (lw_t3 (List.mem_of_getElem? (i := 105) rfl)) rfl
set_option maxRecDepth 100000 in
theorem q586 : (Jvm.Cond.code ({ cls := "QualitativeSimulator", name := "direction", desc := "(II)I" } : Jvm.MethodName) prog_1_method_14_code (3 : Nat) (Option.some Jvm.ClassFile.FieldType.int)) ∈ lw_all := lw_in (lw_t3 (List.mem_of_getElem? (i := 106) rfl)) rfl
set_option maxRecDepth 100000 in
theorem q587 : (Jvm.Cond.methodLink "QualitativeSimulatorLaw" (137 : Nat) ({ cls := "QualitativeSimulatorLaw", name := "isInstant", desc := "(LQualitativeSimulator;I[J)I" } : Jvm.MethodName)) ∈ lw_all := lw_in (lw_t3 (List.mem_of_getElem? (i := 107) rfl)) rfl
set_option maxRecDepth 100000 in
theorem q588 : (Jvm.Cond.static ({ cls := "QualitativeSimulatorLaw", name := "isInstant", desc := "(LQualitativeSimulator;I[J)I" } : Jvm.MethodName)) ∈ lw_all := lw_in (lw_t3 (List.mem_of_getElem? (i := 108) rfl)) rfl
set_option maxRecDepth 100000 in
theorem q589 : (Jvm.Cond.codeWith ({ cls := "QualitativeSimulatorLaw", name := "isInstant", desc := "(LQualitativeSimulator;I[J)I" } : Jvm.MethodName) method_12_code (4 : Nat) (Option.some Jvm.ClassFile.FieldType.int) [((0 : Nat), (16 : Nat), (19 : Nat), (15 : Nat)), ((0 : Nat), (16 : Nat), (22 : Nat), (21 : Nat))]) ∈ lw_all := lw_in (lw_t3 (List.mem_of_getElem? (i := 109) rfl)) rfl
set_option maxRecDepth 100000 in
theorem q590 : (Jvm.Cond.methodLink "QualitativeSimulatorLaw" (47 : Nat) ({ cls := "QualitativeSimulator", name := "isInstant", desc := "(I)Z" } : Jvm.MethodName)) ∈ lw_all := lw_in (lw_t3 (List.mem_of_getElem? (i := 110) rfl)) rfl
set_option maxRecDepth 100000 in
theorem q591 : (Jvm.Cond.instanceMethod ({ cls := "QualitativeSimulator", name := "isInstant", desc := "(I)Z" } : Jvm.MethodName)) ∈ lw_all := lw_in (lw_t3 (List.mem_of_getElem? (i := 111) rfl)) rfl
set_option maxRecDepth 100000 in
theorem q592 : (Jvm.Cond.selects "QualitativeSimulator" ({ cls := "QualitativeSimulator", name := "isInstant", desc := "(I)Z" } : Jvm.MethodName) ({ cls := "QualitativeSimulator", name := "isInstant", desc := "(I)Z" } : Jvm.MethodName)) ∈ lw_all := lw_in (lw_t3 (List.mem_of_getElem? (i := 112) rfl)) rfl
set_option maxRecDepth 100000 in
theorem q593 : (Jvm.Cond.code ({ cls := "QualitativeSimulator", name := "isInstant", desc := "(I)Z" } : Jvm.MethodName) prog_1_method_15_code (2 : Nat) (Option.some Jvm.ClassFile.FieldType.boolean)) ∈ lw_all := lw_in (lw_t3 (List.mem_of_getElem? (i := 113) rfl)) rfl
set_option maxRecDepth 100000 in
theorem q594 : (Jvm.Cond.methodLink "QualitativeSimulatorLaw" (141 : Nat) ({ cls := "QualitativeSimulatorLaw", name := "successorCount", desc := "(LQualitativeSimulator;I[J)I" } : Jvm.MethodName)) ∈ lw_all := lw_in (lw_t3 (List.mem_of_getElem? (i := 114) rfl)) rfl
set_option maxRecDepth 100000 in
theorem q595 : (Jvm.Cond.static ({ cls := "QualitativeSimulatorLaw", name := "successorCount", desc := "(LQualitativeSimulator;I[J)I" } : Jvm.MethodName)) ∈ lw_all := lw_in (lw_t3 (List.mem_of_getElem? (i := 115) rfl)) rfl
set_option maxRecDepth 100000 in
theorem q596 : (Jvm.Cond.codeWith ({ cls := "QualitativeSimulatorLaw", name := "successorCount", desc := "(LQualitativeSimulator;I[J)I" } : Jvm.MethodName) method_13_code (4 : Nat) (Option.some Jvm.ClassFile.FieldType.int) [((0 : Nat), (9 : Nat), (12 : Nat), (15 : Nat)), ((0 : Nat), (9 : Nat), (15 : Nat), (21 : Nat))]) ∈ lw_all := lw_in (lw_t3 (List.mem_of_getElem? (i := 116) rfl)) rfl
set_option maxRecDepth 100000 in
theorem q597 : (Jvm.Cond.methodLink "QualitativeSimulatorLaw" (51 : Nat) ({ cls := "QualitativeSimulator", name := "successorCount", desc := "(I)I" } : Jvm.MethodName)) ∈ lw_all := lw_in (lw_t3 (List.mem_of_getElem? (i := 117) rfl)) rfl
set_option maxRecDepth 100000 in
theorem q598 : (Jvm.Cond.instanceMethod ({ cls := "QualitativeSimulator", name := "successorCount", desc := "(I)I" } : Jvm.MethodName)) ∈ lw_all := lw_in (lw_t3 (List.mem_of_getElem? (i := 118) rfl)) rfl
set_option maxRecDepth 100000 in
theorem q599 : (Jvm.Cond.selects "QualitativeSimulator" ({ cls := "QualitativeSimulator", name := "successorCount", desc := "(I)I" } : Jvm.MethodName) ({ cls := "QualitativeSimulator", name := "successorCount", desc := "(I)I" } : Jvm.MethodName)) ∈ lw_all := lw_in (lw_t3 (List.mem_of_getElem? (i := 119) rfl)) rfl
set_option maxRecDepth 100000 in
theorem q600 : (Jvm.Cond.code ({ cls := "QualitativeSimulator", name := "successorCount", desc := "(I)I" } : Jvm.MethodName) prog_1_method_16_code (2 : Nat) (Option.some Jvm.ClassFile.FieldType.int)) ∈ lw_all := lw_in (lw_t3 (List.mem_of_getElem? (i := 120) rfl)) rfl
set_option maxRecDepth 100000 in
theorem q601 : (Jvm.Cond.methodLink "QualitativeSimulatorLaw" (144 : Nat) ({ cls := "QualitativeSimulatorLaw", name := "successor", desc := "(LQualitativeSimulator;II[J)I" } : Jvm.MethodName)) ∈ lw_all := lw_in (lw_t3 (List.mem_of_getElem? (i := 121) rfl)) rfl
set_option maxRecDepth 100000 in
theorem q602 : (Jvm.Cond.static ({ cls := "QualitativeSimulatorLaw", name := "successor", desc := "(LQualitativeSimulator;II[J)I" } : Jvm.MethodName)) ∈ lw_all := lw_in (lw_t3 (List.mem_of_getElem? (i := 122) rfl)) rfl
set_option maxRecDepth 100000 in
theorem q603 : (Jvm.Cond.codeWith ({ cls := "QualitativeSimulatorLaw", name := "successor", desc := "(LQualitativeSimulator;II[J)I" } : Jvm.MethodName) method_14_code (5 : Nat) (Option.some Jvm.ClassFile.FieldType.int) [((0 : Nat), (10 : Nat), (13 : Nat), (15 : Nat)), ((0 : Nat), (10 : Nat), (17 : Nat), (21 : Nat))]) ∈ lw_all := lw_in (lw_t3 (List.mem_of_getElem? (i := 123) rfl)) rfl
set_option maxRecDepth 100000 in
theorem q604 : (Jvm.Cond.methodLink "QualitativeSimulatorLaw" (55 : Nat) ({ cls := "QualitativeSimulator", name := "successor", desc := "(II)I" } : Jvm.MethodName)) ∈ lw_all := lw_in (lw_t3 (List.mem_of_getElem? (i := 124) rfl)) rfl
set_option maxRecDepth 100000 in
theorem q605 : (Jvm.Cond.instanceMethod ({ cls := "QualitativeSimulator", name := "successor", desc := "(II)I" } : Jvm.MethodName)) ∈ lw_all := lw_in (lw_t3 (List.mem_of_getElem? (i := 125) rfl)) rfl
set_option maxRecDepth 100000 in
theorem q606 : (Jvm.Cond.selects "QualitativeSimulator" ({ cls := "QualitativeSimulator", name := "successor", desc := "(II)I" } : Jvm.MethodName) ({ cls := "QualitativeSimulator", name := "successor", desc := "(II)I" } : Jvm.MethodName)) ∈ lw_all := lw_in (lw_t3 (List.mem_of_getElem? (i := 126) rfl)) rfl
set_option maxRecDepth 100000 in
theorem q607 : (Jvm.Cond.code ({ cls := "QualitativeSimulator", name := "successor", desc := "(II)I" } : Jvm.MethodName) prog_1_method_17_code (3 : Nat) (Option.some Jvm.ClassFile.FieldType.int)) ∈ lw_all := lw_in (lw_t3 (List.mem_of_getElem? (i := 127) rfl)) rfl
set_option maxRecDepth 100000 in
theorem q609 : (Jvm.Cond.methodLink "QualitativeSimulatorLaw" (147 : Nat) ({ cls := "QualitativeSimulatorLaw", name := "distance", desc := "(LQualitativeSimulator;I[J)I" } : Jvm.MethodName)) ∈ lw_all := lw_in (lw_t3 (List.mem_of_getElem? (i := 129) rfl)) rfl
set_option maxRecDepth 100000 in
theorem q610 : (Jvm.Cond.static ({ cls := "QualitativeSimulatorLaw", name := "distance", desc := "(LQualitativeSimulator;I[J)I" } : Jvm.MethodName)) ∈ lw_all := lw_in (lw_t3 (List.mem_of_getElem? (i := 130) rfl)) rfl
set_option maxRecDepth 100000 in
theorem q611 : (Jvm.Cond.codeWith ({ cls := "QualitativeSimulatorLaw", name := "distance", desc := "(LQualitativeSimulator;I[J)I" } : Jvm.MethodName) method_15_code (4 : Nat) (Option.some Jvm.ClassFile.FieldType.int) [((0 : Nat), (9 : Nat), (12 : Nat), (15 : Nat)), ((0 : Nat), (9 : Nat), (15 : Nat), (21 : Nat))]) ∈ lw_all := lw_in (lw_t3 (List.mem_of_getElem? (i := 131) rfl)) rfl
set_option maxRecDepth 100000 in
theorem q612 : (Jvm.Cond.methodLink "QualitativeSimulatorLaw" (58 : Nat) ({ cls := "QualitativeSimulator", name := "distance", desc := "(I)I" } : Jvm.MethodName)) ∈ lw_all := lw_in (lw_t3 (List.mem_of_getElem? (i := 132) rfl)) rfl
set_option maxRecDepth 100000 in
theorem q613 : (Jvm.Cond.instanceMethod ({ cls := "QualitativeSimulator", name := "distance", desc := "(I)I" } : Jvm.MethodName)) ∈ lw_all := lw_in (lw_t3 (List.mem_of_getElem? (i := 133) rfl)) rfl
set_option maxRecDepth 100000 in
theorem q614 : (Jvm.Cond.selects "QualitativeSimulator" ({ cls := "QualitativeSimulator", name := "distance", desc := "(I)I" } : Jvm.MethodName) ({ cls := "QualitativeSimulator", name := "distance", desc := "(I)I" } : Jvm.MethodName)) ∈ lw_all := lw_in (lw_t3 (List.mem_of_getElem? (i := 134) rfl)) rfl
set_option maxRecDepth 100000 in
theorem q615 : (Jvm.Cond.code ({ cls := "QualitativeSimulator", name := "distance", desc := "(I)I" } : Jvm.MethodName) prog_1_method_18_code (2 : Nat) (Option.some Jvm.ClassFile.FieldType.int)) ∈ lw_all := lw_in (lw_t3 (List.mem_of_getElem? (i := 135) rfl)) rfl
set_option maxRecDepth 100000 in
theorem q616 : (Jvm.Cond.methodLink "QualitativeSimulatorLaw" (150 : Nat) ({ cls := "QualitativeSimulatorLaw", name := "isAtRest", desc := "(LQualitativeSimulator;I[J)I" } : Jvm.MethodName)) ∈ lw_all := lw_in (lw_t3 (List.mem_of_getElem? (i := 136) rfl)) rfl
set_option maxRecDepth 100000 in
theorem q617 : (Jvm.Cond.static ({ cls := "QualitativeSimulatorLaw", name := "isAtRest", desc := "(LQualitativeSimulator;I[J)I" } : Jvm.MethodName)) ∈ lw_all := lw_in (lw_t3 (List.mem_of_getElem? (i := 137) rfl)) rfl
set_option maxRecDepth 100000 in
theorem q618 : (Jvm.Cond.codeWith ({ cls := "QualitativeSimulatorLaw", name := "isAtRest", desc := "(LQualitativeSimulator;I[J)I" } : Jvm.MethodName) method_16_code (4 : Nat) (Option.some Jvm.ClassFile.FieldType.int) [((0 : Nat), (16 : Nat), (19 : Nat), (15 : Nat)), ((0 : Nat), (16 : Nat), (22 : Nat), (21 : Nat))]) ∈ lw_all := lw_in (lw_t3 (List.mem_of_getElem? (i := 138) rfl)) rfl
set_option maxRecDepth 100000 in
theorem q619 : (Jvm.Cond.methodLink "QualitativeSimulatorLaw" (61 : Nat) ({ cls := "QualitativeSimulator", name := "isAtRest", desc := "(I)Z" } : Jvm.MethodName)) ∈ lw_all := lw_in (lw_t3 (List.mem_of_getElem? (i := 139) rfl)) rfl
set_option maxRecDepth 100000 in
theorem q620 : (Jvm.Cond.instanceMethod ({ cls := "QualitativeSimulator", name := "isAtRest", desc := "(I)Z" } : Jvm.MethodName)) ∈ lw_all := lw_in (lw_t3 (List.mem_of_getElem? (i := 140) rfl)) rfl
set_option maxRecDepth 100000 in
theorem q621 : (Jvm.Cond.selects "QualitativeSimulator" ({ cls := "QualitativeSimulator", name := "isAtRest", desc := "(I)Z" } : Jvm.MethodName) ({ cls := "QualitativeSimulator", name := "isAtRest", desc := "(I)Z" } : Jvm.MethodName)) ∈ lw_all := lw_in (lw_t3 (List.mem_of_getElem? (i := 141) rfl)) rfl
set_option maxRecDepth 100000 in
theorem q622 : (Jvm.Cond.code ({ cls := "QualitativeSimulator", name := "isAtRest", desc := "(I)Z" } : Jvm.MethodName) prog_1_method_19_code (2 : Nat) (Option.some Jvm.ClassFile.FieldType.boolean)) ∈ lw_all := lw_in (lw_t3 (List.mem_of_getElem? (i := 142) rfl)) rfl
set_option maxRecDepth 100000 in
theorem q628 : (Jvm.Cond.methodLink "QualitativeSimulatorLaw" (153 : Nat) ({ cls := "QualitativeSimulatorLaw", name := "endCount", desc := "(LQualitativeSimulator;[J)I" } : Jvm.MethodName)) ∈ lw_all := lw_in (lw_t3 (List.mem_of_getElem? (i := 148) rfl)) rfl
set_option maxRecDepth 100000 in
theorem q629 : (Jvm.Cond.static ({ cls := "QualitativeSimulatorLaw", name := "endCount", desc := "(LQualitativeSimulator;[J)I" } : Jvm.MethodName)) ∈ lw_all := lw_in (lw_t3 (List.mem_of_getElem? (i := 149) rfl)) rfl
set_option maxRecDepth 100000 in
theorem q630 : (Jvm.Cond.codeWith ({ cls := "QualitativeSimulatorLaw", name := "endCount", desc := "(LQualitativeSimulator;[J)I" } : Jvm.MethodName) method_17_code (3 : Nat) (Option.some Jvm.ClassFile.FieldType.int) [((0 : Nat), (8 : Nat), (11 : Nat), (15 : Nat))]) ∈ lw_all := lw_in (lw_t3 (List.mem_of_getElem? (i := 150) rfl)) rfl
set_option maxRecDepth 100000 in
theorem q631 : (Jvm.Cond.methodLink "QualitativeSimulatorLaw" (64 : Nat) ({ cls := "QualitativeSimulator", name := "endCount", desc := "()I" } : Jvm.MethodName)) ∈ lw_all := lw_in (lw_t3 (List.mem_of_getElem? (i := 151) rfl)) rfl
set_option maxRecDepth 100000 in
theorem q632 : (Jvm.Cond.instanceMethod ({ cls := "QualitativeSimulator", name := "endCount", desc := "()I" } : Jvm.MethodName)) ∈ lw_all := lw_in (lw_t3 (List.mem_of_getElem? (i := 152) rfl)) rfl
set_option maxRecDepth 100000 in
theorem q633 : (Jvm.Cond.selects "QualitativeSimulator" ({ cls := "QualitativeSimulator", name := "endCount", desc := "()I" } : Jvm.MethodName) ({ cls := "QualitativeSimulator", name := "endCount", desc := "()I" } : Jvm.MethodName)) ∈ lw_all := lw_in (lw_t3 (List.mem_of_getElem? (i := 153) rfl)) rfl
set_option maxRecDepth 100000 in
theorem q634 : (Jvm.Cond.code ({ cls := "QualitativeSimulator", name := "endCount", desc := "()I" } : Jvm.MethodName) prog_1_method_20_code (3 : Nat) (Option.some Jvm.ClassFile.FieldType.int)) ∈ lw_all := lw_in (lw_t3 (List.mem_of_getElem? (i := 154) rfl)) rfl
set_option maxRecDepth 100000 in
theorem q635 : (Jvm.Cond.methodLink "QualitativeSimulatorLaw" (156 : Nat) ({ cls := "QualitativeSimulatorLaw", name := "soonest", desc := "(LQualitativeSimulator;II[J)I" } : Jvm.MethodName)) ∈ lw_all := lw_in (lw_t3 (List.mem_of_getElem? (i := 155) rfl)) rfl
set_option maxRecDepth 100000 in
theorem q636 : (Jvm.Cond.static ({ cls := "QualitativeSimulatorLaw", name := "soonest", desc := "(LQualitativeSimulator;II[J)I" } : Jvm.MethodName)) ∈ lw_all := lw_in (lw_t3 (List.mem_of_getElem? (i := 156) rfl)) rfl
set_option maxRecDepth 100000 in
theorem q637 : (Jvm.Cond.codeWith ({ cls := "QualitativeSimulatorLaw", name := "soonest", desc := "(LQualitativeSimulator;II[J)I" } : Jvm.MethodName) method_18_code (5 : Nat) (Option.some Jvm.ClassFile.FieldType.int) [((0 : Nat), (10 : Nat), (13 : Nat), (15 : Nat)), ((0 : Nat), (10 : Nat), (17 : Nat), (21 : Nat)), ((0 : Nat), (10 : Nat), (21 : Nat), (13 : Nat))]) ∈ lw_all := lw_in (lw_t3 (List.mem_of_getElem? (i := 157) rfl)) rfl
set_option maxRecDepth 100000 in
theorem q638 : (Jvm.Cond.methodLink "QualitativeSimulatorLaw" (67 : Nat) ({ cls := "QualitativeSimulator", name := "soonest", desc := "(II)I" } : Jvm.MethodName)) ∈ lw_all := lw_in (lw_t3 (List.mem_of_getElem? (i := 158) rfl)) rfl
set_option maxRecDepth 100000 in
theorem q639 : (Jvm.Cond.instanceMethod ({ cls := "QualitativeSimulator", name := "soonest", desc := "(II)I" } : Jvm.MethodName)) ∈ lw_all := lw_in (lw_t3 (List.mem_of_getElem? (i := 159) rfl)) rfl
set_option maxRecDepth 100000 in
theorem q640 : (Jvm.Cond.selects "QualitativeSimulator" ({ cls := "QualitativeSimulator", name := "soonest", desc := "(II)I" } : Jvm.MethodName) ({ cls := "QualitativeSimulator", name := "soonest", desc := "(II)I" } : Jvm.MethodName)) ∈ lw_all := lw_in (lw_t3 (List.mem_of_getElem? (i := 160) rfl)) rfl
set_option maxRecDepth 100000 in
theorem q641 : (Jvm.Cond.code ({ cls := "QualitativeSimulator", name := "soonest", desc := "(II)I" } : Jvm.MethodName) prog_1_method_21_code (4 : Nat) (Option.some Jvm.ClassFile.FieldType.int)) ∈ lw_all := lw_in (lw_t3 (List.mem_of_getElem? (i := 161) rfl)) rfl
set_option maxRecDepth 100000 in
theorem q642 : (Jvm.Cond.methodLink "QualitativeSimulatorLaw" (159 : Nat) ({ cls := "QualitativeSimulatorLaw", name := "hasCycle", desc := "(LQualitativeSimulator;[J)I" } : Jvm.MethodName)) ∈ lw_all := lw_in (lw_t3 (List.mem_of_getElem? (i := 162) rfl)) rfl
set_option maxRecDepth 100000 in
theorem q643 : (Jvm.Cond.static ({ cls := "QualitativeSimulatorLaw", name := "hasCycle", desc := "(LQualitativeSimulator;[J)I" } : Jvm.MethodName)) ∈ lw_all := lw_in (lw_t3 (List.mem_of_getElem? (i := 163) rfl)) rfl
set_option maxRecDepth 100000 in
theorem q644 : (Jvm.Cond.codeWith ({ cls := "QualitativeSimulatorLaw", name := "hasCycle", desc := "(LQualitativeSimulator;[J)I" } : Jvm.MethodName) method_19_code (3 : Nat) (Option.some Jvm.ClassFile.FieldType.int) [((0 : Nat), (15 : Nat), (18 : Nat), (15 : Nat))]) ∈ lw_all := lw_in (lw_t3 (List.mem_of_getElem? (i := 164) rfl)) rfl
set_option maxRecDepth 100000 in
theorem q645 : (Jvm.Cond.methodLink "QualitativeSimulatorLaw" (70 : Nat) ({ cls := "QualitativeSimulator", name := "hasCycle", desc := "()Z" } : Jvm.MethodName)) ∈ lw_all := lw_in (lw_t3 (List.mem_of_getElem? (i := 165) rfl)) rfl
set_option maxRecDepth 100000 in
theorem q646 : (Jvm.Cond.instanceMethod ({ cls := "QualitativeSimulator", name := "hasCycle", desc := "()Z" } : Jvm.MethodName)) ∈ lw_all := lw_in (lw_t3 (List.mem_of_getElem? (i := 166) rfl)) rfl
set_option maxRecDepth 100000 in
theorem q647 : (Jvm.Cond.selects "QualitativeSimulator" ({ cls := "QualitativeSimulator", name := "hasCycle", desc := "()Z" } : Jvm.MethodName) ({ cls := "QualitativeSimulator", name := "hasCycle", desc := "()Z" } : Jvm.MethodName)) ∈ lw_all := lw_in (lw_t3 (List.mem_of_getElem? (i := 167) rfl)) rfl
set_option maxRecDepth 100000 in
theorem q648 : (Jvm.Cond.code ({ cls := "QualitativeSimulator", name := "hasCycle", desc := "()Z" } : Jvm.MethodName) prog_1_method_22_code (1 : Nat) (Option.some Jvm.ClassFile.FieldType.boolean)) ∈ lw_all := lw_in (lw_t3 (List.mem_of_getElem? (i := 168) rfl)) rfl
set_option maxRecDepth 100000 in
theorem q657 : (Jvm.Cond.methodLink "QualitativeSimulatorLaw" (162 : Nat) ({ cls := "QualitativeSimulatorLaw", name := "ways", desc := "(LQualitativeSimulator;I[J)I" } : Jvm.MethodName)) ∈ lw_all := lw_in (lw_t3 (List.mem_of_getElem? (i := 177) rfl)) rfl
set_option maxRecDepth 100000 in
theorem q658 : (Jvm.Cond.static ({ cls := "QualitativeSimulatorLaw", name := "ways", desc := "(LQualitativeSimulator;I[J)I" } : Jvm.MethodName)) ∈ lw_all := lw_in (lw_t3 (List.mem_of_getElem? (i := 178) rfl)) rfl
set_option maxRecDepth 100000 in
theorem q659 : (Jvm.Cond.codeWith ({ cls := "QualitativeSimulatorLaw", name := "ways", desc := "(LQualitativeSimulator;I[J)I" } : Jvm.MethodName) method_20_code (4 : Nat) (Option.some Jvm.ClassFile.FieldType.int) [((0 : Nat), (8 : Nat), (11 : Nat), (15 : Nat)), ((0 : Nat), (8 : Nat), (14 : Nat), (13 : Nat))]) ∈ lw_all := lw_in (lw_t3 (List.mem_of_getElem? (i := 179) rfl)) rfl
set_option maxRecDepth 100000 in
theorem q660 : (Jvm.Cond.methodLink "QualitativeSimulatorLaw" (73 : Nat) ({ cls := "QualitativeSimulator", name := "ways", desc := "(I)J" } : Jvm.MethodName)) ∈ lw_all := lw_in (lw_t3 (List.mem_of_getElem? (i := 180) rfl)) rfl
set_option maxRecDepth 100000 in
theorem q661 : (Jvm.Cond.instanceMethod ({ cls := "QualitativeSimulator", name := "ways", desc := "(I)J" } : Jvm.MethodName)) ∈ lw_all := lw_in (lw_t3 (List.mem_of_getElem? (i := 181) rfl)) rfl
set_option maxRecDepth 100000 in
theorem q662 : (Jvm.Cond.selects "QualitativeSimulator" ({ cls := "QualitativeSimulator", name := "ways", desc := "(I)J" } : Jvm.MethodName) ({ cls := "QualitativeSimulator", name := "ways", desc := "(I)J" } : Jvm.MethodName)) ∈ lw_all := lw_in (lw_t3 (List.mem_of_getElem? (i := 182) rfl)) rfl
set_option maxRecDepth 100000 in
theorem q663 : (Jvm.Cond.code ({ cls := "QualitativeSimulator", name := "ways", desc := "(I)J" } : Jvm.MethodName) prog_1_method_23_code (2 : Nat) (Option.some Jvm.ClassFile.FieldType.long)) ∈ lw_all := lw_in (lw_t3 (List.mem_of_getElem? (i := 183) rfl)) rfl
set_option maxRecDepth 100000 in
theorem q673 : (Jvm.Cond.methodLink "QualitativeSimulatorLaw" (165 : Nat) ({ cls := "QualitativeSimulatorLaw", name := "rest", desc := "(LQualitativeSimulator;[D)I" } : Jvm.MethodName)) ∈ lw_all := lw_in (lw_t3 (List.mem_of_getElem? (i := 193) rfl)) rfl
set_option maxRecDepth 100000 in
theorem q674 : (Jvm.Cond.static ({ cls := "QualitativeSimulatorLaw", name := "rest", desc := "(LQualitativeSimulator;[D)I" } : Jvm.MethodName)) ∈ lw_all := lw_in (lw_t3 (List.mem_of_getElem? (i := 194) rfl)) rfl
set_option maxRecDepth 100000 in
theorem q675 : (Jvm.Cond.codeWith ({ cls := "QualitativeSimulatorLaw", name := "rest", desc := "(LQualitativeSimulator;[D)I" } : Jvm.MethodName) method_21_code (3 : Nat) (Option.some Jvm.ClassFile.FieldType.int) [((0 : Nat), (7 : Nat), (10 : Nat), (15 : Nat))]) ∈ lw_all := lw_in (lw_t3 (List.mem_of_getElem? (i := 195) rfl)) rfl
set_option maxRecDepth 100000 in
theorem q676 : (Jvm.Cond.methodLink "QualitativeSimulatorLaw" (77 : Nat) ({ cls := "QualitativeSimulator", name := "rest", desc := "()D" } : Jvm.MethodName)) ∈ lw_all := lw_in (lw_t3 (List.mem_of_getElem? (i := 196) rfl)) rfl
set_option maxRecDepth 100000 in
theorem q677 : (Jvm.Cond.instanceMethod ({ cls := "QualitativeSimulator", name := "rest", desc := "()D" } : Jvm.MethodName)) ∈ lw_all := lw_in (lw_t3 (List.mem_of_getElem? (i := 197) rfl)) rfl
set_option maxRecDepth 100000 in
theorem q678 : (Jvm.Cond.selects "QualitativeSimulator" ({ cls := "QualitativeSimulator", name := "rest", desc := "()D" } : Jvm.MethodName) ({ cls := "QualitativeSimulator", name := "rest", desc := "()D" } : Jvm.MethodName)) ∈ lw_all := lw_in (lw_t3 (List.mem_of_getElem? (i := 198) rfl)) rfl
set_option maxRecDepth 100000 in
theorem q679 : (Jvm.Cond.code ({ cls := "QualitativeSimulator", name := "rest", desc := "()D" } : Jvm.MethodName) prog_1_method_24_code (3 : Nat) (Option.some Jvm.ClassFile.FieldType.double)) ∈ lw_all := lw_in (lw_t3 (List.mem_of_getElem? (i := 199) rfl)) rfl
set_option maxRecDepth 100000 in
theorem q680 : (Jvm.Cond.classLink "QualitativeSimulatorLaw" (82 : Nat) "QualitativeSimulatorModel") ∈ lw_all := lw_in (lw_t3 (List.mem_of_getElem? (i := 200) rfl)) rfl
set_option maxRecDepth 100000 in
theorem q681 : (Jvm.Cond.instantiable "QualitativeSimulatorModel" (20 : Nat)) ∈ lw_all := lw_in (lw_t3 (List.mem_of_getElem? (i := 201) rfl)) rfl
set_option maxRecDepth 100000 in
theorem q682 : (Jvm.Cond.methodLink "QualitativeSimulatorLaw" (84 : Nat) ({ cls := "QualitativeSimulatorModel", name := "<init>", desc := "()V" } : Jvm.MethodName)) ∈ lw_all := lw_in (lw_t3 (List.mem_of_getElem? (i := 202) rfl)) rfl
set_option maxRecDepth 100000 in
theorem q683 : (Jvm.Cond.instanceMethod ({ cls := "QualitativeSimulatorModel", name := "<init>", desc := "()V" } : Jvm.MethodName)) ∈ lw_all := lw_in (lw_t3 (List.mem_of_getElem? (i := 203) rfl)) rfl
set_option maxRecDepth 100000 in
theorem q684 : (Jvm.Cond.code ({ cls := "QualitativeSimulatorModel", name := "<init>", desc := "()V" } : Jvm.MethodName) prog_6_method_1_code (1 : Nat) (Option.none : Option Jvm.ClassFile.FieldType)) ∈ lw_all := lw_in (lw_t3 (List.mem_of_getElem? (i := 204) rfl)) rfl
set_option maxRecDepth 100000 in
theorem q685 : (Jvm.Cond.methodLink "QualitativeSimulatorModel" (1 : Nat) ({ cls := "java/lang/Object", name := "<init>", desc := "()V" } : Jvm.MethodName)) ∈ lw_all := lw_in (lw_t3 (List.mem_of_getElem? (i := 205) rfl)) rfl
set_option maxRecDepth 100000 in
theorem q686 : (Jvm.Cond.constant "QualitativeSimulatorModel" (40 : Nat) (62500 : Int32)) ∈ lw_all := lw_in (lw_t3 (List.mem_of_getElem? (i := 206) rfl)) rfl
set_option maxRecDepth 100000 in
theorem q687 : (Jvm.Cond.fieldLink "QualitativeSimulatorModel" (51 : Nat) "QualitativeSimulatorModel" "thrown" "I") ∈ lw_all := lw_in (lw_t3 (List.mem_of_getElem? (i := 207) rfl)) rfl
set_option maxRecDepth 100000 in
theorem q688 : (Jvm.Cond.fieldLink "QualitativeSimulatorModel" (55 : Nat) "QualitativeSimulatorModel" "variables" "I") ∈ lw_all := lw_in (lw_t3 (List.mem_of_getElem? (i := 208) rfl)) rfl
set_option maxRecDepth 100000 in
theorem q689 : (Jvm.Cond.fieldLink "QualitativeSimulatorModel" (9 : Nat) "QualitativeSimulatorModel" "landmarks" "[I") ∈ lw_all := lw_in (lw_t3 (List.mem_of_getElem? (i := 209) rfl)) rfl
set_option maxRecDepth 100000 in
theorem q690 : (Jvm.Cond.fieldLink "QualitativeSimulatorModel" (13 : Nat) "QualitativeSimulatorModel" "zeros" "[I") ∈ lw_all := lw_in (lw_t3 (List.mem_of_getElem? (i := 210) rfl)) rfl
set_option maxRecDepth 100000 in
theorem q691 : (Jvm.Cond.fieldLink "QualitativeSimulatorModel" (16 : Nat) "QualitativeSimulatorModel" "givenValues" "[I") ∈ lw_all := lw_in (lw_t3 (List.mem_of_getElem? (i := 211) rfl)) rfl
set_option maxRecDepth 100000 in
theorem q692 : (Jvm.Cond.fieldLink "QualitativeSimulatorModel" (19 : Nat) "QualitativeSimulatorModel" "givenDirections" "[I") ∈ lw_all := lw_in (lw_t3 (List.mem_of_getElem? (i := 212) rfl)) rfl
set_option maxRecDepth 100000 in
theorem q693 : (Jvm.Cond.fieldLink "QualitativeSimulatorModel" (70 : Nat) "QualitativeSimulatorModel" "constraints" "I") ∈ lw_all := lw_in (lw_t3 (List.mem_of_getElem? (i := 213) rfl)) rfl
set_option maxRecDepth 100000 in
theorem q694 : (Jvm.Cond.fieldLink "QualitativeSimulatorModel" (22 : Nat) "QualitativeSimulatorModel" "kinds" "[I") ∈ lw_all := lw_in (lw_t3 (List.mem_of_getElem? (i := 214) rfl)) rfl
set_option maxRecDepth 100000 in
theorem q695 : (Jvm.Cond.fieldLink "QualitativeSimulatorModel" (25 : Nat) "QualitativeSimulatorModel" "xs" "[I") ∈ lw_all := lw_in (lw_t3 (List.mem_of_getElem? (i := 215) rfl)) rfl
set_option maxRecDepth 100000 in
theorem q696 : (Jvm.Cond.fieldLink "QualitativeSimulatorModel" (28 : Nat) "QualitativeSimulatorModel" "ys" "[I") ∈ lw_all := lw_in (lw_t3 (List.mem_of_getElem? (i := 216) rfl)) rfl
set_option maxRecDepth 100000 in
theorem q697 : (Jvm.Cond.fieldLink "QualitativeSimulatorModel" (31 : Nat) "QualitativeSimulatorModel" "zs" "[I") ∈ lw_all := lw_in (lw_t3 (List.mem_of_getElem? (i := 217) rfl)) rfl
set_option maxRecDepth 100000 in
theorem q698 : (Jvm.Cond.fieldLink "QualitativeSimulatorModel" (62 : Nat) "QualitativeSimulatorModel" "isExplored" "Z") ∈ lw_all := lw_in (lw_t3 (List.mem_of_getElem? (i := 218) rfl)) rfl
set_option maxRecDepth 100000 in
theorem q699 : (Jvm.Cond.fieldLink "QualitativeSimulatorModel" (114 : Nat) "QualitativeSimulatorModel" "isComplete" "Z") ∈ lw_all := lw_in (lw_t3 (List.mem_of_getElem? (i := 219) rfl)) rfl
set_option maxRecDepth 100000 in
theorem q700 : (Jvm.Cond.fieldLink "QualitativeSimulatorModel" (108 : Nat) "QualitativeSimulatorModel" "states" "I") ∈ lw_all := lw_in (lw_t3 (List.mem_of_getElem? (i := 220) rfl)) rfl
set_option maxRecDepth 100000 in
theorem q701 : (Jvm.Cond.fieldLink "QualitativeSimulatorModel" (133 : Nat) "QualitativeSimulatorModel" "firsts" "I") ∈ lw_all := lw_in (lw_t3 (List.mem_of_getElem? (i := 221) rfl)) rfl
set_option maxRecDepth 100000 in
theorem q702 : (Jvm.Cond.fieldLink "QualitativeSimulatorModel" (34 : Nat) "QualitativeSimulatorModel" "codes" "[I") ∈ lw_all := lw_in (lw_t3 (List.mem_of_getElem? (i := 222) rfl)) rfl
set_option maxRecDepth 100000 in
theorem q703 : (Jvm.Cond.fieldLink "QualitativeSimulatorModel" (37 : Nat) "QualitativeSimulatorModel" "distances" "[I") ∈ lw_all := lw_in (lw_t3 (List.mem_of_getElem? (i := 223) rfl)) rfl
set_option maxRecDepth 100000 in
theorem q704 : (Jvm.Cond.fieldLink "QualitativeSimulatorModel" (41 : Nat) "QualitativeSimulatorModel" "edges" "[Z") ∈ lw_all := lw_in (lw_t3 (List.mem_of_getElem? (i := 224) rfl)) rfl
set_option maxRecDepth 100000 in
theorem q705 : (Jvm.Cond.fieldLink "QualitativeSimulatorModel" (45 : Nat) "QualitativeSimulatorModel" "choices" "[I") ∈ lw_all := lw_in (lw_t3 (List.mem_of_getElem? (i := 225) rfl)) rfl
set_option maxRecDepth 100000 in
theorem q706 : (Jvm.Cond.fieldLink "QualitativeSimulatorModel" (48 : Nat) "QualitativeSimulatorModel" "choiceCounts" "[I") ∈ lw_all := lw_in (lw_t3 (List.mem_of_getElem? (i := 226) rfl)) rfl
set_option maxRecDepth 100000 in
theorem q707 : (Jvm.Cond.lays "QualitativeSimulatorModel" "QualitativeSimulatorModel" "thrown" "I") ∈ lw_all := lw_in (lw_t3 (List.mem_of_getElem? (i := 227) rfl)) rfl
set_option maxRecDepth 100000 in
theorem q709 : (Jvm.Cond.lays "QualitativeSimulatorModel" "QualitativeSimulatorModel" "variables" "I") ∈ lw_all := lw_in (lw_t3 (List.mem_of_getElem? (i := 229) rfl)) rfl
set_option maxRecDepth 100000 in
theorem q711 : (Jvm.Cond.laysFinal "QualitativeSimulatorModel" "QualitativeSimulatorModel" "landmarks" "[I") ∈ lw_all := lw_in (lw_t3 (List.mem_of_getElem? (i := 231) rfl)) rfl
set_option maxRecDepth 100000 in
theorem q713 : (Jvm.Cond.laysFinal "QualitativeSimulatorModel" "QualitativeSimulatorModel" "zeros" "[I") ∈ lw_all := lw_in (lw_t3 (List.mem_of_getElem? (i := 233) rfl)) rfl
set_option maxRecDepth 100000 in
theorem q715 : (Jvm.Cond.laysFinal "QualitativeSimulatorModel" "QualitativeSimulatorModel" "givenValues" "[I") ∈ lw_all := lw_in (lw_t3 (List.mem_of_getElem? (i := 235) rfl)) rfl
set_option maxRecDepth 100000 in
theorem q717 : (Jvm.Cond.laysFinal "QualitativeSimulatorModel" "QualitativeSimulatorModel" "givenDirections" "[I") ∈ lw_all := lw_in (lw_t3 (List.mem_of_getElem? (i := 237) rfl)) rfl
set_option maxRecDepth 100000 in
theorem q719 : (Jvm.Cond.lays "QualitativeSimulatorModel" "QualitativeSimulatorModel" "constraints" "I") ∈ lw_all := lw_in (lw_t3 (List.mem_of_getElem? (i := 239) rfl)) rfl
set_option maxRecDepth 100000 in
theorem q721 : (Jvm.Cond.laysFinal "QualitativeSimulatorModel" "QualitativeSimulatorModel" "kinds" "[I") ∈ lw_all := lw_in (lw_t4 (List.mem_of_getElem? (i := 1) rfl)) rfl
set_option maxRecDepth 100000 in
theorem q723 : (Jvm.Cond.laysFinal "QualitativeSimulatorModel" "QualitativeSimulatorModel" "xs" "[I") ∈ lw_all := lw_in (lw_t4 (List.mem_of_getElem? (i := 3) rfl)) rfl
set_option maxRecDepth 100000 in
theorem q725 : (Jvm.Cond.laysFinal "QualitativeSimulatorModel" "QualitativeSimulatorModel" "ys" "[I") ∈ lw_all := lw_in (lw_t4 (List.mem_of_getElem? (i := 5) rfl)) rfl
set_option maxRecDepth 100000 in
theorem q727 : (Jvm.Cond.laysFinal "QualitativeSimulatorModel" "QualitativeSimulatorModel" "zs" "[I") ∈ lw_all := lw_in (lw_t4 (List.mem_of_getElem? (i := 7) rfl)) rfl
set_option maxRecDepth 100000 in
theorem q729 : (Jvm.Cond.lays "QualitativeSimulatorModel" "QualitativeSimulatorModel" "isExplored" "Z") ∈ lw_all := lw_in (lw_t4 (List.mem_of_getElem? (i := 9) rfl)) rfl
set_option maxRecDepth 100000 in
theorem q731 : (Jvm.Cond.lays "QualitativeSimulatorModel" "QualitativeSimulatorModel" "isComplete" "Z") ∈ lw_all := lw_in (lw_t4 (List.mem_of_getElem? (i := 11) rfl)) rfl
set_option maxRecDepth 100000 in
theorem q733 : (Jvm.Cond.lays "QualitativeSimulatorModel" "QualitativeSimulatorModel" "states" "I") ∈ lw_all := lw_in (lw_t4 (List.mem_of_getElem? (i := 13) rfl)) rfl
set_option maxRecDepth 100000 in
theorem q735 : (Jvm.Cond.lays "QualitativeSimulatorModel" "QualitativeSimulatorModel" "firsts" "I") ∈ lw_all := lw_in (lw_t4 (List.mem_of_getElem? (i := 15) rfl)) rfl
set_option maxRecDepth 100000 in
theorem q737 : (Jvm.Cond.laysFinal "QualitativeSimulatorModel" "QualitativeSimulatorModel" "codes" "[I") ∈ lw_all := lw_in (lw_t4 (List.mem_of_getElem? (i := 17) rfl)) rfl
set_option maxRecDepth 100000 in
theorem q739 : (Jvm.Cond.laysFinal "QualitativeSimulatorModel" "QualitativeSimulatorModel" "distances" "[I") ∈ lw_all := lw_in (lw_t4 (List.mem_of_getElem? (i := 19) rfl)) rfl
set_option maxRecDepth 100000 in
theorem q741 : (Jvm.Cond.laysFinal "QualitativeSimulatorModel" "QualitativeSimulatorModel" "edges" "[Z") ∈ lw_all := lw_in (lw_t4 (List.mem_of_getElem? (i := 21) rfl)) rfl
set_option maxRecDepth 100000 in
theorem q743 : (Jvm.Cond.laysFinal "QualitativeSimulatorModel" "QualitativeSimulatorModel" "choices" "[I") ∈ lw_all := lw_in (lw_t4 (List.mem_of_getElem? (i := 23) rfl)) rfl
set_option maxRecDepth 100000 in
theorem q745 : (Jvm.Cond.laysFinal "QualitativeSimulatorModel" "QualitativeSimulatorModel" "choiceCounts" "[I") ∈ lw_all := lw_in (lw_t4 (List.mem_of_getElem? (i := 25) rfl)) rfl
set_option maxRecDepth 100000 in
theorem q748 : (Jvm.Cond.methodLink "QualitativeSimulatorLaw" (91 : Nat) ({ cls := "QualitativeSimulatorModel", name := "thrown", desc := "()I" } : Jvm.MethodName)) ∈ lw_all := lw_in (lw_t4 (List.mem_of_getElem? (i := 28) rfl)) rfl
set_option maxRecDepth 100000 in
theorem q749 : (Jvm.Cond.instanceMethod ({ cls := "QualitativeSimulatorModel", name := "thrown", desc := "()I" } : Jvm.MethodName)) ∈ lw_all := lw_in (lw_t4 (List.mem_of_getElem? (i := 29) rfl)) rfl
set_option maxRecDepth 100000 in
theorem q750 : (Jvm.Cond.selects "QualitativeSimulatorModel" ({ cls := "QualitativeSimulatorModel", name := "thrown", desc := "()I" } : Jvm.MethodName) ({ cls := "QualitativeSimulatorModel", name := "thrown", desc := "()I" } : Jvm.MethodName)) ∈ lw_all := lw_in (lw_t4 (List.mem_of_getElem? (i := 30) rfl)) rfl
set_option maxRecDepth 100000 in
theorem q751 : (Jvm.Cond.code ({ cls := "QualitativeSimulatorModel", name := "thrown", desc := "()I" } : Jvm.MethodName) prog_6_method_2_code (1 : Nat) (Option.some Jvm.ClassFile.FieldType.int)) ∈ lw_all := lw_in (lw_t4 (List.mem_of_getElem? (i := 31) rfl)) rfl
set_option maxRecDepth 100000 in
theorem q752 : (Jvm.Cond.methodLink "QualitativeSimulatorLaw" (90 : Nat) ({ cls := "QualitativeSimulatorModel", name := "addVariable", desc := "(II)I" } : Jvm.MethodName)) ∈ lw_all := lw_in (lw_t4 (List.mem_of_getElem? (i := 32) rfl)) rfl
set_option maxRecDepth 100000 in
theorem q753 : (Jvm.Cond.instanceMethod ({ cls := "QualitativeSimulatorModel", name := "addVariable", desc := "(II)I" } : Jvm.MethodName)) ∈ lw_all := lw_in (lw_t4 (List.mem_of_getElem? (i := 33) rfl)) rfl
set_option maxRecDepth 100000 in
theorem q754 : (Jvm.Cond.selects "QualitativeSimulatorModel" ({ cls := "QualitativeSimulatorModel", name := "addVariable", desc := "(II)I" } : Jvm.MethodName) ({ cls := "QualitativeSimulatorModel", name := "addVariable", desc := "(II)I" } : Jvm.MethodName)) ∈ lw_all := lw_in (lw_t4 (List.mem_of_getElem? (i := 34) rfl)) rfl
set_option maxRecDepth 100000 in
theorem q755 : (Jvm.Cond.code ({ cls := "QualitativeSimulatorModel", name := "addVariable", desc := "(II)I" } : Jvm.MethodName) prog_6_method_6_code (3 : Nat) (Option.some Jvm.ClassFile.FieldType.int)) ∈ lw_all := lw_in (lw_t4 (List.mem_of_getElem? (i := 35) rfl)) rfl
set_option maxRecDepth 100000 in
theorem q756 : (Jvm.Cond.methodLink "QualitativeSimulatorModel" (58 : Nat) ({ cls := "QualitativeSimulatorModel", name := "fail", desc := "(I)I" } : Jvm.MethodName)) ∈ lw_all := lw_in (lw_t4 (List.mem_of_getElem? (i := 36) rfl)) rfl
set_option maxRecDepth 100000 in
theorem q758 : (Jvm.Cond.instanceMethod ({ cls := "QualitativeSimulatorModel", name := "fail", desc := "(I)I" } : Jvm.MethodName)) ∈ lw_all := lw_in (lw_t4 (List.mem_of_getElem? (i := 38) rfl)) rfl
set_option maxRecDepth 100000 in
theorem q759 : (Jvm.Cond.code ({ cls := "QualitativeSimulatorModel", name := "fail", desc := "(I)I" } : Jvm.MethodName) prog_6_method_3_code (2 : Nat) (Option.some Jvm.ClassFile.FieldType.int)) ∈ lw_all := lw_in (lw_t4 (List.mem_of_getElem? (i := 39) rfl)) rfl
set_option maxRecDepth 100000 in
theorem q760 : (Jvm.Cond.methodLink "QualitativeSimulatorLaw" (97 : Nat) ({ cls := "QualitativeSimulatorModel", name := "addConstraint", desc := "(IIII)I" } : Jvm.MethodName)) ∈ lw_all := lw_in (lw_t4 (List.mem_of_getElem? (i := 40) rfl)) rfl
set_option maxRecDepth 100000 in
theorem q761 : (Jvm.Cond.instanceMethod ({ cls := "QualitativeSimulatorModel", name := "addConstraint", desc := "(IIII)I" } : Jvm.MethodName)) ∈ lw_all := lw_in (lw_t4 (List.mem_of_getElem? (i := 41) rfl)) rfl
set_option maxRecDepth 100000 in
theorem q762 : (Jvm.Cond.selects "QualitativeSimulatorModel" ({ cls := "QualitativeSimulatorModel", name := "addConstraint", desc := "(IIII)I" } : Jvm.MethodName) ({ cls := "QualitativeSimulatorModel", name := "addConstraint", desc := "(IIII)I" } : Jvm.MethodName)) ∈ lw_all := lw_in (lw_t4 (List.mem_of_getElem? (i := 42) rfl)) rfl
set_option maxRecDepth 100000 in
theorem q763 : (Jvm.Cond.code ({ cls := "QualitativeSimulatorModel", name := "addConstraint", desc := "(IIII)I" } : Jvm.MethodName) prog_6_method_7_code (5 : Nat) (Option.some Jvm.ClassFile.FieldType.int)) ∈ lw_all := lw_in (lw_t4 (List.mem_of_getElem? (i := 43) rfl)) rfl
set_option maxRecDepth 100000 in
theorem q764 : (Jvm.Cond.methodLink "QualitativeSimulatorModel" (66 : Nat) ({ cls := "QualitativeSimulatorModel", name := "isVariable", desc := "(I)Z" } : Jvm.MethodName)) ∈ lw_all := lw_in (lw_t4 (List.mem_of_getElem? (i := 44) rfl)) rfl
set_option maxRecDepth 100000 in
theorem q766 : (Jvm.Cond.instanceMethod ({ cls := "QualitativeSimulatorModel", name := "isVariable", desc := "(I)Z" } : Jvm.MethodName)) ∈ lw_all := lw_in (lw_t4 (List.mem_of_getElem? (i := 46) rfl)) rfl
set_option maxRecDepth 100000 in
theorem q767 : (Jvm.Cond.code ({ cls := "QualitativeSimulatorModel", name := "isVariable", desc := "(I)Z" } : Jvm.MethodName) prog_6_method_4_code (2 : Nat) (Option.some Jvm.ClassFile.FieldType.boolean)) ∈ lw_all := lw_in (lw_t4 (List.mem_of_getElem? (i := 47) rfl)) rfl
set_option maxRecDepth 100000 in
theorem q768 : (Jvm.Cond.methodLink "QualitativeSimulatorLaw" (101 : Nat) ({ cls := "QualitativeSimulatorModel", name := "dropConstraint", desc := "()I" } : Jvm.MethodName)) ∈ lw_all := lw_in (lw_t4 (List.mem_of_getElem? (i := 48) rfl)) rfl
set_option maxRecDepth 100000 in
theorem q769 : (Jvm.Cond.instanceMethod ({ cls := "QualitativeSimulatorModel", name := "dropConstraint", desc := "()I" } : Jvm.MethodName)) ∈ lw_all := lw_in (lw_t4 (List.mem_of_getElem? (i := 49) rfl)) rfl
set_option maxRecDepth 100000 in
theorem q770 : (Jvm.Cond.selects "QualitativeSimulatorModel" ({ cls := "QualitativeSimulatorModel", name := "dropConstraint", desc := "()I" } : Jvm.MethodName) ({ cls := "QualitativeSimulatorModel", name := "dropConstraint", desc := "()I" } : Jvm.MethodName)) ∈ lw_all := lw_in (lw_t4 (List.mem_of_getElem? (i := 50) rfl)) rfl
set_option maxRecDepth 100000 in
theorem q771 : (Jvm.Cond.code ({ cls := "QualitativeSimulatorModel", name := "dropConstraint", desc := "()I" } : Jvm.MethodName) prog_6_method_8_code (1 : Nat) (Option.some Jvm.ClassFile.FieldType.int)) ∈ lw_all := lw_in (lw_t4 (List.mem_of_getElem? (i := 51) rfl)) rfl
set_option maxRecDepth 100000 in
theorem q772 : (Jvm.Cond.methodLink "QualitativeSimulatorLaw" (105 : Nat) ({ cls := "QualitativeSimulatorModel", name := "give", desc := "(III)Z" } : Jvm.MethodName)) ∈ lw_all := lw_in (lw_t4 (List.mem_of_getElem? (i := 52) rfl)) rfl
set_option maxRecDepth 100000 in
theorem q773 : (Jvm.Cond.instanceMethod ({ cls := "QualitativeSimulatorModel", name := "give", desc := "(III)Z" } : Jvm.MethodName)) ∈ lw_all := lw_in (lw_t4 (List.mem_of_getElem? (i := 53) rfl)) rfl
set_option maxRecDepth 100000 in
theorem q774 : (Jvm.Cond.selects "QualitativeSimulatorModel" ({ cls := "QualitativeSimulatorModel", name := "give", desc := "(III)Z" } : Jvm.MethodName) ({ cls := "QualitativeSimulatorModel", name := "give", desc := "(III)Z" } : Jvm.MethodName)) ∈ lw_all := lw_in (lw_t4 (List.mem_of_getElem? (i := 54) rfl)) rfl
set_option maxRecDepth 100000 in
theorem q775 : (Jvm.Cond.code ({ cls := "QualitativeSimulatorModel", name := "give", desc := "(III)Z" } : Jvm.MethodName) prog_6_method_9_code (5 : Nat) (Option.some Jvm.ClassFile.FieldType.boolean)) ∈ lw_all := lw_in (lw_t4 (List.mem_of_getElem? (i := 55) rfl)) rfl
set_option maxRecDepth 100000 in
theorem q780 : (Jvm.Cond.methodLink "QualitativeSimulatorLaw" (109 : Nat) ({ cls := "QualitativeSimulatorModel", name := "open", desc := "()I" } : Jvm.MethodName)) ∈ lw_all := lw_in (lw_t4 (List.mem_of_getElem? (i := 60) rfl)) rfl
set_option maxRecDepth 100000 in
theorem q781 : (Jvm.Cond.instanceMethod ({ cls := "QualitativeSimulatorModel", name := "open", desc := "()I" } : Jvm.MethodName)) ∈ lw_all := lw_in (lw_t4 (List.mem_of_getElem? (i := 61) rfl)) rfl
set_option maxRecDepth 100000 in
theorem q782 : (Jvm.Cond.selects "QualitativeSimulatorModel" ({ cls := "QualitativeSimulatorModel", name := "open", desc := "()I" } : Jvm.MethodName) ({ cls := "QualitativeSimulatorModel", name := "open", desc := "()I" } : Jvm.MethodName)) ∈ lw_all := lw_in (lw_t4 (List.mem_of_getElem? (i := 62) rfl)) rfl
set_option maxRecDepth 100000 in
theorem q783 : (Jvm.Cond.code ({ cls := "QualitativeSimulatorModel", name := "open", desc := "()I" } : Jvm.MethodName) prog_6_method_10_code (3 : Nat) (Option.some Jvm.ClassFile.FieldType.int)) ∈ lw_all := lw_in (lw_t4 (List.mem_of_getElem? (i := 63) rfl)) rfl
set_option maxRecDepth 100000 in
theorem q784 : (Jvm.Cond.methodLink "QualitativeSimulatorLaw" (113 : Nat) ({ cls := "QualitativeSimulatorModel", name := "variableCount", desc := "()I" } : Jvm.MethodName)) ∈ lw_all := lw_in (lw_t4 (List.mem_of_getElem? (i := 64) rfl)) rfl
set_option maxRecDepth 100000 in
theorem q785 : (Jvm.Cond.instanceMethod ({ cls := "QualitativeSimulatorModel", name := "variableCount", desc := "()I" } : Jvm.MethodName)) ∈ lw_all := lw_in (lw_t4 (List.mem_of_getElem? (i := 65) rfl)) rfl
set_option maxRecDepth 100000 in
theorem q786 : (Jvm.Cond.selects "QualitativeSimulatorModel" ({ cls := "QualitativeSimulatorModel", name := "variableCount", desc := "()I" } : Jvm.MethodName) ({ cls := "QualitativeSimulatorModel", name := "variableCount", desc := "()I" } : Jvm.MethodName)) ∈ lw_all := lw_in (lw_t4 (List.mem_of_getElem? (i := 66) rfl)) rfl
set_option maxRecDepth 100000 in
theorem q787 : (Jvm.Cond.code ({ cls := "QualitativeSimulatorModel", name := "variableCount", desc := "()I" } : Jvm.MethodName) prog_6_method_11_code (1 : Nat) (Option.some Jvm.ClassFile.FieldType.int)) ∈ lw_all := lw_in (lw_t4 (List.mem_of_getElem? (i := 67) rfl)) rfl
set_option maxRecDepth 100000 in
theorem q788 : (Jvm.Cond.methodLink "QualitativeSimulatorLaw" (116 : Nat) ({ cls := "QualitativeSimulatorModel", name := "sign", desc := "(II)I" } : Jvm.MethodName)) ∈ lw_all := lw_in (lw_t4 (List.mem_of_getElem? (i := 68) rfl)) rfl
set_option maxRecDepth 100000 in
theorem q789 : (Jvm.Cond.instanceMethod ({ cls := "QualitativeSimulatorModel", name := "sign", desc := "(II)I" } : Jvm.MethodName)) ∈ lw_all := lw_in (lw_t4 (List.mem_of_getElem? (i := 69) rfl)) rfl
set_option maxRecDepth 100000 in
theorem q790 : (Jvm.Cond.selects "QualitativeSimulatorModel" ({ cls := "QualitativeSimulatorModel", name := "sign", desc := "(II)I" } : Jvm.MethodName) ({ cls := "QualitativeSimulatorModel", name := "sign", desc := "(II)I" } : Jvm.MethodName)) ∈ lw_all := lw_in (lw_t4 (List.mem_of_getElem? (i := 70) rfl)) rfl
set_option maxRecDepth 100000 in
theorem q791 : (Jvm.Cond.code ({ cls := "QualitativeSimulatorModel", name := "sign", desc := "(II)I" } : Jvm.MethodName) prog_6_method_13_code (3 : Nat) (Option.some Jvm.ClassFile.FieldType.int)) ∈ lw_all := lw_in (lw_t4 (List.mem_of_getElem? (i := 71) rfl)) rfl
set_option maxRecDepth 100000 in
theorem q799 : (Jvm.Cond.methodLink "QualitativeSimulatorLaw" (120 : Nat) ({ cls := "QualitativeSimulatorModel", name := "explore", desc := "()I" } : Jvm.MethodName)) ∈ lw_all := lw_in (lw_t4 (List.mem_of_getElem? (i := 79) rfl)) rfl
set_option maxRecDepth 100000 in
theorem q800 : (Jvm.Cond.instanceMethod ({ cls := "QualitativeSimulatorModel", name := "explore", desc := "()I" } : Jvm.MethodName)) ∈ lw_all := lw_in (lw_t4 (List.mem_of_getElem? (i := 80) rfl)) rfl
set_option maxRecDepth 100000 in
theorem q801 : (Jvm.Cond.selects "QualitativeSimulatorModel" ({ cls := "QualitativeSimulatorModel", name := "explore", desc := "()I" } : Jvm.MethodName) ({ cls := "QualitativeSimulatorModel", name := "explore", desc := "()I" } : Jvm.MethodName)) ∈ lw_all := lw_in (lw_t4 (List.mem_of_getElem? (i := 81) rfl)) rfl
set_option maxRecDepth 100000 in
theorem q802 : (Jvm.Cond.code ({ cls := "QualitativeSimulatorModel", name := "explore", desc := "()I" } : Jvm.MethodName) prog_6_method_29_code (1 : Nat) (Option.some Jvm.ClassFile.FieldType.int)) ∈ lw_all := lw_in (lw_t4 (List.mem_of_getElem? (i := 82) rfl)) rfl
set_option maxRecDepth 100000 in
theorem q803 : (Jvm.Cond.methodLink "QualitativeSimulatorModel" (139 : Nat) ({ cls := "QualitativeSimulatorModel", name := "find", desc := "()V" } : Jvm.MethodName)) ∈ lw_all := lw_in (lw_t4 (List.mem_of_getElem? (i := 83) rfl)) rfl
set_option maxRecDepth 100000 in
theorem q805 : (Jvm.Cond.instanceMethod ({ cls := "QualitativeSimulatorModel", name := "find", desc := "()V" } : Jvm.MethodName)) ∈ lw_all := lw_in (lw_t4 (List.mem_of_getElem? (i := 85) rfl)) rfl
set_option maxRecDepth 100000 in
theorem q806 : (Jvm.Cond.code ({ cls := "QualitativeSimulatorModel", name := "find", desc := "()V" } : Jvm.MethodName) prog_6_method_28_code (4 : Nat) (Option.none : Option Jvm.ClassFile.FieldType)) ∈ lw_all := lw_in (lw_t4 (List.mem_of_getElem? (i := 86) rfl)) rfl
set_option maxRecDepth 100000 in
theorem q807 : (Jvm.Cond.methodLink "QualitativeSimulatorModel" (86 : Nat) ({ cls := "QualitativeSimulatorModel", name := "power", desc := "(I)I" } : Jvm.MethodName)) ∈ lw_all := lw_in (lw_t4 (List.mem_of_getElem? (i := 87) rfl)) rfl
set_option maxRecDepth 100000 in
theorem q808 : (Jvm.Cond.static ({ cls := "QualitativeSimulatorModel", name := "power", desc := "(I)I" } : Jvm.MethodName)) ∈ lw_all := lw_in (lw_t4 (List.mem_of_getElem? (i := 88) rfl)) rfl
set_option maxRecDepth 100000 in
theorem q809 : (Jvm.Cond.code ({ cls := "QualitativeSimulatorModel", name := "power", desc := "(I)I" } : Jvm.MethodName) prog_6_method_14_code (3 : Nat) (Option.some Jvm.ClassFile.FieldType.int)) ∈ lw_all := lw_in (lw_t4 (List.mem_of_getElem? (i := 89) rfl)) rfl
set_option maxRecDepth 100000 in
theorem q810 : (Jvm.Cond.methodLink "QualitativeSimulatorModel" (124 : Nat) ({ cls := "QualitativeSimulatorModel", name := "isAllowed", desc := "(I)Z" } : Jvm.MethodName)) ∈ lw_all := lw_in (lw_t4 (List.mem_of_getElem? (i := 90) rfl)) rfl
set_option maxRecDepth 100000 in
theorem q812 : (Jvm.Cond.instanceMethod ({ cls := "QualitativeSimulatorModel", name := "isAllowed", desc := "(I)Z" } : Jvm.MethodName)) ∈ lw_all := lw_in (lw_t4 (List.mem_of_getElem? (i := 92) rfl)) rfl
set_option maxRecDepth 100000 in
theorem q813 : (Jvm.Cond.code ({ cls := "QualitativeSimulatorModel", name := "isAllowed", desc := "(I)Z" } : Jvm.MethodName) prog_6_method_20_code (3 : Nat) (Option.some Jvm.ClassFile.FieldType.boolean)) ∈ lw_all := lw_in (lw_t4 (List.mem_of_getElem? (i := 93) rfl)) rfl
set_option maxRecDepth 100000 in
theorem q833 : (Jvm.Cond.methodLink "QualitativeSimulatorModel" (130 : Nat) ({ cls := "QualitativeSimulatorModel", name := "isGiven", desc := "(I)Z" } : Jvm.MethodName)) ∈ lw_all := lw_in (lw_t4 (List.mem_of_getElem? (i := 113) rfl)) rfl
set_option maxRecDepth 100000 in
theorem q835 : (Jvm.Cond.instanceMethod ({ cls := "QualitativeSimulatorModel", name := "isGiven", desc := "(I)Z" } : Jvm.MethodName)) ∈ lw_all := lw_in (lw_t4 (List.mem_of_getElem? (i := 115) rfl)) rfl
set_option maxRecDepth 100000 in
theorem q836 : (Jvm.Cond.code ({ cls := "QualitativeSimulatorModel", name := "isGiven", desc := "(I)Z" } : Jvm.MethodName) prog_6_method_25_code (4 : Nat) (Option.some Jvm.ClassFile.FieldType.boolean)) ∈ lw_all := lw_in (lw_t4 (List.mem_of_getElem? (i := 116) rfl)) rfl
set_option maxRecDepth 100000 in
theorem q837 : (Jvm.Cond.methodLink "QualitativeSimulatorModel" (127 : Nat) ({ cls := "QualitativeSimulatorModel", name := "add", desc := "(II)Z" } : Jvm.MethodName)) ∈ lw_all := lw_in (lw_t4 (List.mem_of_getElem? (i := 117) rfl)) rfl
set_option maxRecDepth 100000 in
theorem q839 : (Jvm.Cond.instanceMethod ({ cls := "QualitativeSimulatorModel", name := "add", desc := "(II)Z" } : Jvm.MethodName)) ∈ lw_all := lw_in (lw_t4 (List.mem_of_getElem? (i := 119) rfl)) rfl
set_option maxRecDepth 100000 in
theorem q840 : (Jvm.Cond.code ({ cls := "QualitativeSimulatorModel", name := "add", desc := "(II)Z" } : Jvm.MethodName) prog_6_method_24_code (3 : Nat) (Option.some Jvm.ClassFile.FieldType.boolean)) ∈ lw_all := lw_in (lw_t4 (List.mem_of_getElem? (i := 120) rfl)) rfl
set_option maxRecDepth 100000 in
theorem q841 : (Jvm.Cond.methodLink "QualitativeSimulatorModel" (111 : Nat) ({ cls := "QualitativeSimulatorModel", name := "numberOf", desc := "(I)I" } : Jvm.MethodName)) ∈ lw_all := lw_in (lw_t4 (List.mem_of_getElem? (i := 121) rfl)) rfl
set_option maxRecDepth 100000 in
theorem q843 : (Jvm.Cond.instanceMethod ({ cls := "QualitativeSimulatorModel", name := "numberOf", desc := "(I)I" } : Jvm.MethodName)) ∈ lw_all := lw_in (lw_t4 (List.mem_of_getElem? (i := 123) rfl)) rfl
set_option maxRecDepth 100000 in
theorem q844 : (Jvm.Cond.code ({ cls := "QualitativeSimulatorModel", name := "numberOf", desc := "(I)I" } : Jvm.MethodName) prog_6_method_23_code (3 : Nat) (Option.some Jvm.ClassFile.FieldType.int)) ∈ lw_all := lw_in (lw_t4 (List.mem_of_getElem? (i := 124) rfl)) rfl
set_option maxRecDepth 100000 in
theorem q845 : (Jvm.Cond.methodLink "QualitativeSimulatorModel" (136 : Nat) ({ cls := "QualitativeSimulatorModel", name := "expand", desc := "(I)Z" } : Jvm.MethodName)) ∈ lw_all := lw_in (lw_t4 (List.mem_of_getElem? (i := 125) rfl)) rfl
set_option maxRecDepth 100000 in
theorem q847 : (Jvm.Cond.instanceMethod ({ cls := "QualitativeSimulatorModel", name := "expand", desc := "(I)Z" } : Jvm.MethodName)) ∈ lw_all := lw_in (lw_t4 (List.mem_of_getElem? (i := 127) rfl)) rfl
set_option maxRecDepth 100000 in
theorem q848 : (Jvm.Cond.code ({ cls := "QualitativeSimulatorModel", name := "expand", desc := "(I)Z" } : Jvm.MethodName) prog_6_method_27_code (8 : Nat) (Option.some Jvm.ClassFile.FieldType.boolean)) ∈ lw_all := lw_in (lw_t4 (List.mem_of_getElem? (i := 128) rfl)) rfl
set_option maxRecDepth 100000 in
theorem q849 : (Jvm.Cond.methodLink "QualitativeSimulatorModel" (117 : Nat) ({ cls := "QualitativeSimulatorModel", name := "choose", desc := "(I)V" } : Jvm.MethodName)) ∈ lw_all := lw_in (lw_t4 (List.mem_of_getElem? (i := 129) rfl)) rfl
set_option maxRecDepth 100000 in
theorem q851 : (Jvm.Cond.instanceMethod ({ cls := "QualitativeSimulatorModel", name := "choose", desc := "(I)V" } : Jvm.MethodName)) ∈ lw_all := lw_in (lw_t4 (List.mem_of_getElem? (i := 131) rfl)) rfl
set_option maxRecDepth 100000 in
theorem q852 : (Jvm.Cond.code ({ cls := "QualitativeSimulatorModel", name := "choose", desc := "(I)V" } : Jvm.MethodName) prog_6_method_26_code (7 : Nat) (Option.none : Option Jvm.ClassFile.FieldType)) ∈ lw_all := lw_in (lw_t4 (List.mem_of_getElem? (i := 132) rfl)) rfl
set_option maxRecDepth 100000 in
theorem q857 : (Jvm.Cond.methodLink "QualitativeSimulatorModel" (121 : Nat) ({ cls := "QualitativeSimulatorModel", name := "follows", desc := "(II)Z" } : Jvm.MethodName)) ∈ lw_all := lw_in (lw_t4 (List.mem_of_getElem? (i := 137) rfl)) rfl
set_option maxRecDepth 100000 in
theorem q859 : (Jvm.Cond.instanceMethod ({ cls := "QualitativeSimulatorModel", name := "follows", desc := "(II)Z" } : Jvm.MethodName)) ∈ lw_all := lw_in (lw_t4 (List.mem_of_getElem? (i := 139) rfl)) rfl
set_option maxRecDepth 100000 in
theorem q860 : (Jvm.Cond.code ({ cls := "QualitativeSimulatorModel", name := "follows", desc := "(II)Z" } : Jvm.MethodName) prog_6_method_22_code (5 : Nat) (Option.some Jvm.ClassFile.FieldType.boolean)) ∈ lw_all := lw_in (lw_t4 (List.mem_of_getElem? (i := 140) rfl)) rfl
set_option maxRecDepth 100000 in
theorem q861 : (Jvm.Cond.methodLink "QualitativeSimulatorLaw" (124 : Nat) ({ cls := "QualitativeSimulatorModel", name := "isExplored", desc := "()Z" } : Jvm.MethodName)) ∈ lw_all := lw_in (lw_t4 (List.mem_of_getElem? (i := 141) rfl)) rfl
set_option maxRecDepth 100000 in
theorem q862 : (Jvm.Cond.instanceMethod ({ cls := "QualitativeSimulatorModel", name := "isExplored", desc := "()Z" } : Jvm.MethodName)) ∈ lw_all := lw_in (lw_t4 (List.mem_of_getElem? (i := 142) rfl)) rfl
set_option maxRecDepth 100000 in
theorem q863 : (Jvm.Cond.selects "QualitativeSimulatorModel" ({ cls := "QualitativeSimulatorModel", name := "isExplored", desc := "()Z" } : Jvm.MethodName) ({ cls := "QualitativeSimulatorModel", name := "isExplored", desc := "()Z" } : Jvm.MethodName)) ∈ lw_all := lw_in (lw_t4 (List.mem_of_getElem? (i := 143) rfl)) rfl
set_option maxRecDepth 100000 in
theorem q864 : (Jvm.Cond.code ({ cls := "QualitativeSimulatorModel", name := "isExplored", desc := "()Z" } : Jvm.MethodName) prog_6_method_30_code (1 : Nat) (Option.some Jvm.ClassFile.FieldType.boolean)) ∈ lw_all := lw_in (lw_t4 (List.mem_of_getElem? (i := 144) rfl)) rfl
set_option maxRecDepth 100000 in
theorem q865 : (Jvm.Cond.methodLink "QualitativeSimulatorLaw" (127 : Nat) ({ cls := "QualitativeSimulatorModel", name := "isComplete", desc := "()Z" } : Jvm.MethodName)) ∈ lw_all := lw_in (lw_t4 (List.mem_of_getElem? (i := 145) rfl)) rfl
set_option maxRecDepth 100000 in
theorem q866 : (Jvm.Cond.instanceMethod ({ cls := "QualitativeSimulatorModel", name := "isComplete", desc := "()Z" } : Jvm.MethodName)) ∈ lw_all := lw_in (lw_t4 (List.mem_of_getElem? (i := 146) rfl)) rfl
set_option maxRecDepth 100000 in
theorem q867 : (Jvm.Cond.selects "QualitativeSimulatorModel" ({ cls := "QualitativeSimulatorModel", name := "isComplete", desc := "()Z" } : Jvm.MethodName) ({ cls := "QualitativeSimulatorModel", name := "isComplete", desc := "()Z" } : Jvm.MethodName)) ∈ lw_all := lw_in (lw_t4 (List.mem_of_getElem? (i := 147) rfl)) rfl
set_option maxRecDepth 100000 in
theorem q868 : (Jvm.Cond.code ({ cls := "QualitativeSimulatorModel", name := "isComplete", desc := "()Z" } : Jvm.MethodName) prog_6_method_33_code (1 : Nat) (Option.some Jvm.ClassFile.FieldType.boolean)) ∈ lw_all := lw_in (lw_t4 (List.mem_of_getElem? (i := 148) rfl)) rfl
set_option maxRecDepth 100000 in
theorem q869 : (Jvm.Cond.methodLink "QualitativeSimulatorModel" (142 : Nat) ({ cls := "QualitativeSimulatorModel", name := "asks", desc := "()Z" } : Jvm.MethodName)) ∈ lw_all := lw_in (lw_t4 (List.mem_of_getElem? (i := 149) rfl)) rfl
set_option maxRecDepth 100000 in
theorem q871 : (Jvm.Cond.instanceMethod ({ cls := "QualitativeSimulatorModel", name := "asks", desc := "()Z" } : Jvm.MethodName)) ∈ lw_all := lw_in (lw_t4 (List.mem_of_getElem? (i := 151) rfl)) rfl
set_option maxRecDepth 100000 in
theorem q872 : (Jvm.Cond.code ({ cls := "QualitativeSimulatorModel", name := "asks", desc := "()Z" } : Jvm.MethodName) prog_6_method_31_code (1 : Nat) (Option.some Jvm.ClassFile.FieldType.boolean)) ∈ lw_all := lw_in (lw_t4 (List.mem_of_getElem? (i := 152) rfl)) rfl
set_option maxRecDepth 100000 in
theorem q873 : (Jvm.Cond.methodLink "QualitativeSimulatorLaw" (130 : Nat) ({ cls := "QualitativeSimulatorModel", name := "firstCount", desc := "()I" } : Jvm.MethodName)) ∈ lw_all := lw_in (lw_t4 (List.mem_of_getElem? (i := 153) rfl)) rfl
set_option maxRecDepth 100000 in
theorem q874 : (Jvm.Cond.instanceMethod ({ cls := "QualitativeSimulatorModel", name := "firstCount", desc := "()I" } : Jvm.MethodName)) ∈ lw_all := lw_in (lw_t4 (List.mem_of_getElem? (i := 154) rfl)) rfl
set_option maxRecDepth 100000 in
theorem q875 : (Jvm.Cond.selects "QualitativeSimulatorModel" ({ cls := "QualitativeSimulatorModel", name := "firstCount", desc := "()I" } : Jvm.MethodName) ({ cls := "QualitativeSimulatorModel", name := "firstCount", desc := "()I" } : Jvm.MethodName)) ∈ lw_all := lw_in (lw_t4 (List.mem_of_getElem? (i := 155) rfl)) rfl
set_option maxRecDepth 100000 in
theorem q876 : (Jvm.Cond.code ({ cls := "QualitativeSimulatorModel", name := "firstCount", desc := "()I" } : Jvm.MethodName) prog_6_method_34_code (1 : Nat) (Option.some Jvm.ClassFile.FieldType.int)) ∈ lw_all := lw_in (lw_t4 (List.mem_of_getElem? (i := 156) rfl)) rfl
set_option maxRecDepth 100000 in
theorem q877 : (Jvm.Cond.methodLink "QualitativeSimulatorLaw" (133 : Nat) ({ cls := "QualitativeSimulatorModel", name := "value", desc := "(II)I" } : Jvm.MethodName)) ∈ lw_all := lw_in (lw_t4 (List.mem_of_getElem? (i := 157) rfl)) rfl
set_option maxRecDepth 100000 in
theorem q878 : (Jvm.Cond.instanceMethod ({ cls := "QualitativeSimulatorModel", name := "value", desc := "(II)I" } : Jvm.MethodName)) ∈ lw_all := lw_in (lw_t4 (List.mem_of_getElem? (i := 158) rfl)) rfl
set_option maxRecDepth 100000 in
theorem q879 : (Jvm.Cond.selects "QualitativeSimulatorModel" ({ cls := "QualitativeSimulatorModel", name := "value", desc := "(II)I" } : Jvm.MethodName) ({ cls := "QualitativeSimulatorModel", name := "value", desc := "(II)I" } : Jvm.MethodName)) ∈ lw_all := lw_in (lw_t4 (List.mem_of_getElem? (i := 159) rfl)) rfl
set_option maxRecDepth 100000 in
theorem q880 : (Jvm.Cond.code ({ cls := "QualitativeSimulatorModel", name := "value", desc := "(II)I" } : Jvm.MethodName) prog_6_method_35_code (3 : Nat) (Option.some Jvm.ClassFile.FieldType.int)) ∈ lw_all := lw_in (lw_t4 (List.mem_of_getElem? (i := 160) rfl)) rfl
set_option maxRecDepth 100000 in
theorem q881 : (Jvm.Cond.methodLink "QualitativeSimulatorModel" (146 : Nat) ({ cls := "QualitativeSimulatorModel", name := "asks", desc := "(III)Z" } : Jvm.MethodName)) ∈ lw_all := lw_in (lw_t4 (List.mem_of_getElem? (i := 161) rfl)) rfl
set_option maxRecDepth 100000 in
theorem q883 : (Jvm.Cond.instanceMethod ({ cls := "QualitativeSimulatorModel", name := "asks", desc := "(III)Z" } : Jvm.MethodName)) ∈ lw_all := lw_in (lw_t4 (List.mem_of_getElem? (i := 163) rfl)) rfl
set_option maxRecDepth 100000 in
theorem q884 : (Jvm.Cond.code ({ cls := "QualitativeSimulatorModel", name := "asks", desc := "(III)Z" } : Jvm.MethodName) prog_6_method_32_code (4 : Nat) (Option.some Jvm.ClassFile.FieldType.boolean)) ∈ lw_all := lw_in (lw_t4 (List.mem_of_getElem? (i := 164) rfl)) rfl
set_option maxRecDepth 100000 in
theorem q885 : (Jvm.Cond.methodLink "QualitativeSimulatorLaw" (136 : Nat) ({ cls := "QualitativeSimulatorModel", name := "direction", desc := "(II)I" } : Jvm.MethodName)) ∈ lw_all := lw_in (lw_t4 (List.mem_of_getElem? (i := 165) rfl)) rfl
set_option maxRecDepth 100000 in
theorem q886 : (Jvm.Cond.instanceMethod ({ cls := "QualitativeSimulatorModel", name := "direction", desc := "(II)I" } : Jvm.MethodName)) ∈ lw_all := lw_in (lw_t4 (List.mem_of_getElem? (i := 166) rfl)) rfl
set_option maxRecDepth 100000 in
theorem q887 : (Jvm.Cond.selects "QualitativeSimulatorModel" ({ cls := "QualitativeSimulatorModel", name := "direction", desc := "(II)I" } : Jvm.MethodName) ({ cls := "QualitativeSimulatorModel", name := "direction", desc := "(II)I" } : Jvm.MethodName)) ∈ lw_all := lw_in (lw_t4 (List.mem_of_getElem? (i := 167) rfl)) rfl
set_option maxRecDepth 100000 in
theorem q888 : (Jvm.Cond.code ({ cls := "QualitativeSimulatorModel", name := "direction", desc := "(II)I" } : Jvm.MethodName) prog_6_method_36_code (3 : Nat) (Option.some Jvm.ClassFile.FieldType.int)) ∈ lw_all := lw_in (lw_t4 (List.mem_of_getElem? (i := 168) rfl)) rfl
set_option maxRecDepth 100000 in
theorem q889 : (Jvm.Cond.methodLink "QualitativeSimulatorLaw" (140 : Nat) ({ cls := "QualitativeSimulatorModel", name := "isInstant", desc := "(I)Z" } : Jvm.MethodName)) ∈ lw_all := lw_in (lw_t4 (List.mem_of_getElem? (i := 169) rfl)) rfl
set_option maxRecDepth 100000 in
theorem q890 : (Jvm.Cond.instanceMethod ({ cls := "QualitativeSimulatorModel", name := "isInstant", desc := "(I)Z" } : Jvm.MethodName)) ∈ lw_all := lw_in (lw_t4 (List.mem_of_getElem? (i := 170) rfl)) rfl
set_option maxRecDepth 100000 in
theorem q891 : (Jvm.Cond.selects "QualitativeSimulatorModel" ({ cls := "QualitativeSimulatorModel", name := "isInstant", desc := "(I)Z" } : Jvm.MethodName) ({ cls := "QualitativeSimulatorModel", name := "isInstant", desc := "(I)Z" } : Jvm.MethodName)) ∈ lw_all := lw_in (lw_t4 (List.mem_of_getElem? (i := 171) rfl)) rfl
set_option maxRecDepth 100000 in
theorem q892 : (Jvm.Cond.code ({ cls := "QualitativeSimulatorModel", name := "isInstant", desc := "(I)Z" } : Jvm.MethodName) prog_6_method_37_code (2 : Nat) (Option.some Jvm.ClassFile.FieldType.boolean)) ∈ lw_all := lw_in (lw_t4 (List.mem_of_getElem? (i := 172) rfl)) rfl
set_option maxRecDepth 100000 in
theorem q893 : (Jvm.Cond.methodLink "QualitativeSimulatorLaw" (143 : Nat) ({ cls := "QualitativeSimulatorModel", name := "successorCount", desc := "(I)I" } : Jvm.MethodName)) ∈ lw_all := lw_in (lw_t4 (List.mem_of_getElem? (i := 173) rfl)) rfl
set_option maxRecDepth 100000 in
theorem q894 : (Jvm.Cond.instanceMethod ({ cls := "QualitativeSimulatorModel", name := "successorCount", desc := "(I)I" } : Jvm.MethodName)) ∈ lw_all := lw_in (lw_t4 (List.mem_of_getElem? (i := 174) rfl)) rfl
set_option maxRecDepth 100000 in
theorem q895 : (Jvm.Cond.selects "QualitativeSimulatorModel" ({ cls := "QualitativeSimulatorModel", name := "successorCount", desc := "(I)I" } : Jvm.MethodName) ({ cls := "QualitativeSimulatorModel", name := "successorCount", desc := "(I)I" } : Jvm.MethodName)) ∈ lw_all := lw_in (lw_t4 (List.mem_of_getElem? (i := 175) rfl)) rfl
set_option maxRecDepth 100000 in
theorem q896 : (Jvm.Cond.code ({ cls := "QualitativeSimulatorModel", name := "successorCount", desc := "(I)I" } : Jvm.MethodName) prog_6_method_39_code (2 : Nat) (Option.some Jvm.ClassFile.FieldType.int)) ∈ lw_all := lw_in (lw_t4 (List.mem_of_getElem? (i := 176) rfl)) rfl
set_option maxRecDepth 100000 in
theorem q901 : (Jvm.Cond.methodLink "QualitativeSimulatorLaw" (146 : Nat) ({ cls := "QualitativeSimulatorModel", name := "successor", desc := "(II)I" } : Jvm.MethodName)) ∈ lw_all := lw_in (lw_t4 (List.mem_of_getElem? (i := 181) rfl)) rfl
set_option maxRecDepth 100000 in
theorem q902 : (Jvm.Cond.instanceMethod ({ cls := "QualitativeSimulatorModel", name := "successor", desc := "(II)I" } : Jvm.MethodName)) ∈ lw_all := lw_in (lw_t4 (List.mem_of_getElem? (i := 182) rfl)) rfl
set_option maxRecDepth 100000 in
theorem q903 : (Jvm.Cond.selects "QualitativeSimulatorModel" ({ cls := "QualitativeSimulatorModel", name := "successor", desc := "(II)I" } : Jvm.MethodName) ({ cls := "QualitativeSimulatorModel", name := "successor", desc := "(II)I" } : Jvm.MethodName)) ∈ lw_all := lw_in (lw_t4 (List.mem_of_getElem? (i := 183) rfl)) rfl
set_option maxRecDepth 100000 in
theorem q904 : (Jvm.Cond.code ({ cls := "QualitativeSimulatorModel", name := "successor", desc := "(II)I" } : Jvm.MethodName) prog_6_method_40_code (5 : Nat) (Option.some Jvm.ClassFile.FieldType.int)) ∈ lw_all := lw_in (lw_t4 (List.mem_of_getElem? (i := 184) rfl)) rfl
set_option maxRecDepth 100000 in
theorem q905 : (Jvm.Cond.methodLink "QualitativeSimulatorLaw" (149 : Nat) ({ cls := "QualitativeSimulatorModel", name := "distance", desc := "(I)I" } : Jvm.MethodName)) ∈ lw_all := lw_in (lw_t4 (List.mem_of_getElem? (i := 185) rfl)) rfl
set_option maxRecDepth 100000 in
theorem q906 : (Jvm.Cond.instanceMethod ({ cls := "QualitativeSimulatorModel", name := "distance", desc := "(I)I" } : Jvm.MethodName)) ∈ lw_all := lw_in (lw_t4 (List.mem_of_getElem? (i := 186) rfl)) rfl
set_option maxRecDepth 100000 in
theorem q907 : (Jvm.Cond.selects "QualitativeSimulatorModel" ({ cls := "QualitativeSimulatorModel", name := "distance", desc := "(I)I" } : Jvm.MethodName) ({ cls := "QualitativeSimulatorModel", name := "distance", desc := "(I)I" } : Jvm.MethodName)) ∈ lw_all := lw_in (lw_t4 (List.mem_of_getElem? (i := 187) rfl)) rfl
set_option maxRecDepth 100000 in
theorem q908 : (Jvm.Cond.code ({ cls := "QualitativeSimulatorModel", name := "distance", desc := "(I)I" } : Jvm.MethodName) prog_6_method_41_code (2 : Nat) (Option.some Jvm.ClassFile.FieldType.int)) ∈ lw_all := lw_in (lw_t4 (List.mem_of_getElem? (i := 188) rfl)) rfl
set_option maxRecDepth 100000 in
theorem q909 : (Jvm.Cond.methodLink "QualitativeSimulatorLaw" (152 : Nat) ({ cls := "QualitativeSimulatorModel", name := "isAtRest", desc := "(I)Z" } : Jvm.MethodName)) ∈ lw_all := lw_in (lw_t4 (List.mem_of_getElem? (i := 189) rfl)) rfl
set_option maxRecDepth 100000 in
theorem q910 : (Jvm.Cond.instanceMethod ({ cls := "QualitativeSimulatorModel", name := "isAtRest", desc := "(I)Z" } : Jvm.MethodName)) ∈ lw_all := lw_in (lw_t4 (List.mem_of_getElem? (i := 190) rfl)) rfl
set_option maxRecDepth 100000 in
theorem q911 : (Jvm.Cond.selects "QualitativeSimulatorModel" ({ cls := "QualitativeSimulatorModel", name := "isAtRest", desc := "(I)Z" } : Jvm.MethodName) ({ cls := "QualitativeSimulatorModel", name := "isAtRest", desc := "(I)Z" } : Jvm.MethodName)) ∈ lw_all := lw_in (lw_t4 (List.mem_of_getElem? (i := 191) rfl)) rfl
set_option maxRecDepth 100000 in
theorem q912 : (Jvm.Cond.code ({ cls := "QualitativeSimulatorModel", name := "isAtRest", desc := "(I)Z" } : Jvm.MethodName) prog_6_method_43_code (2 : Nat) (Option.some Jvm.ClassFile.FieldType.boolean)) ∈ lw_all := lw_in (lw_t4 (List.mem_of_getElem? (i := 192) rfl)) rfl
set_option maxRecDepth 100000 in
theorem q917 : (Jvm.Cond.methodLink "QualitativeSimulatorLaw" (155 : Nat) ({ cls := "QualitativeSimulatorModel", name := "endCount", desc := "()I" } : Jvm.MethodName)) ∈ lw_all := lw_in (lw_t4 (List.mem_of_getElem? (i := 197) rfl)) rfl
set_option maxRecDepth 100000 in
theorem q918 : (Jvm.Cond.instanceMethod ({ cls := "QualitativeSimulatorModel", name := "endCount", desc := "()I" } : Jvm.MethodName)) ∈ lw_all := lw_in (lw_t4 (List.mem_of_getElem? (i := 198) rfl)) rfl
set_option maxRecDepth 100000 in
theorem q919 : (Jvm.Cond.selects "QualitativeSimulatorModel" ({ cls := "QualitativeSimulatorModel", name := "endCount", desc := "()I" } : Jvm.MethodName) ({ cls := "QualitativeSimulatorModel", name := "endCount", desc := "()I" } : Jvm.MethodName)) ∈ lw_all := lw_in (lw_t4 (List.mem_of_getElem? (i := 199) rfl)) rfl
set_option maxRecDepth 100000 in
theorem q920 : (Jvm.Cond.code ({ cls := "QualitativeSimulatorModel", name := "endCount", desc := "()I" } : Jvm.MethodName) prog_6_method_44_code (3 : Nat) (Option.some Jvm.ClassFile.FieldType.int)) ∈ lw_all := lw_in (lw_t4 (List.mem_of_getElem? (i := 200) rfl)) rfl
set_option maxRecDepth 100000 in
theorem q921 : (Jvm.Cond.methodLink "QualitativeSimulatorLaw" (158 : Nat) ({ cls := "QualitativeSimulatorModel", name := "soonest", desc := "(II)I" } : Jvm.MethodName)) ∈ lw_all := lw_in (lw_t4 (List.mem_of_getElem? (i := 201) rfl)) rfl
set_option maxRecDepth 100000 in
theorem q922 : (Jvm.Cond.instanceMethod ({ cls := "QualitativeSimulatorModel", name := "soonest", desc := "(II)I" } : Jvm.MethodName)) ∈ lw_all := lw_in (lw_t4 (List.mem_of_getElem? (i := 202) rfl)) rfl
set_option maxRecDepth 100000 in
theorem q923 : (Jvm.Cond.selects "QualitativeSimulatorModel" ({ cls := "QualitativeSimulatorModel", name := "soonest", desc := "(II)I" } : Jvm.MethodName) ({ cls := "QualitativeSimulatorModel", name := "soonest", desc := "(II)I" } : Jvm.MethodName)) ∈ lw_all := lw_in (lw_t4 (List.mem_of_getElem? (i := 203) rfl)) rfl
set_option maxRecDepth 100000 in
theorem q924 : (Jvm.Cond.code ({ cls := "QualitativeSimulatorModel", name := "soonest", desc := "(II)I" } : Jvm.MethodName) prog_6_method_45_code (5 : Nat) (Option.some Jvm.ClassFile.FieldType.int)) ∈ lw_all := lw_in (lw_t4 (List.mem_of_getElem? (i := 204) rfl)) rfl
set_option maxRecDepth 100000 in
theorem q925 : (Jvm.Cond.methodLink "QualitativeSimulatorLaw" (161 : Nat) ({ cls := "QualitativeSimulatorModel", name := "hasCycle", desc := "()Z" } : Jvm.MethodName)) ∈ lw_all := lw_in (lw_t4 (List.mem_of_getElem? (i := 205) rfl)) rfl
set_option maxRecDepth 100000 in
theorem q926 : (Jvm.Cond.instanceMethod ({ cls := "QualitativeSimulatorModel", name := "hasCycle", desc := "()Z" } : Jvm.MethodName)) ∈ lw_all := lw_in (lw_t4 (List.mem_of_getElem? (i := 206) rfl)) rfl
set_option maxRecDepth 100000 in
theorem q927 : (Jvm.Cond.selects "QualitativeSimulatorModel" ({ cls := "QualitativeSimulatorModel", name := "hasCycle", desc := "()Z" } : Jvm.MethodName) ({ cls := "QualitativeSimulatorModel", name := "hasCycle", desc := "()Z" } : Jvm.MethodName)) ∈ lw_all := lw_in (lw_t4 (List.mem_of_getElem? (i := 207) rfl)) rfl
set_option maxRecDepth 100000 in
theorem q928 : (Jvm.Cond.code ({ cls := "QualitativeSimulatorModel", name := "hasCycle", desc := "()Z" } : Jvm.MethodName) prog_6_method_46_code (7 : Nat) (Option.some Jvm.ClassFile.FieldType.boolean)) ∈ lw_all := lw_in (lw_t4 (List.mem_of_getElem? (i := 208) rfl)) rfl
set_option maxRecDepth 100000 in
theorem q929 : (Jvm.Cond.methodLink "QualitativeSimulatorLaw" (164 : Nat) ({ cls := "QualitativeSimulatorModel", name := "ways", desc := "(I)J" } : Jvm.MethodName)) ∈ lw_all := lw_in (lw_t4 (List.mem_of_getElem? (i := 209) rfl)) rfl
set_option maxRecDepth 100000 in
theorem q930 : (Jvm.Cond.instanceMethod ({ cls := "QualitativeSimulatorModel", name := "ways", desc := "(I)J" } : Jvm.MethodName)) ∈ lw_all := lw_in (lw_t4 (List.mem_of_getElem? (i := 210) rfl)) rfl
set_option maxRecDepth 100000 in
theorem q931 : (Jvm.Cond.selects "QualitativeSimulatorModel" ({ cls := "QualitativeSimulatorModel", name := "ways", desc := "(I)J" } : Jvm.MethodName) ({ cls := "QualitativeSimulatorModel", name := "ways", desc := "(I)J" } : Jvm.MethodName)) ∈ lw_all := lw_in (lw_t4 (List.mem_of_getElem? (i := 211) rfl)) rfl
set_option maxRecDepth 100000 in
theorem q932 : (Jvm.Cond.code ({ cls := "QualitativeSimulatorModel", name := "ways", desc := "(I)J" } : Jvm.MethodName) prog_6_method_47_code (7 : Nat) (Option.some Jvm.ClassFile.FieldType.long)) ∈ lw_all := lw_in (lw_t4 (List.mem_of_getElem? (i := 212) rfl)) rfl
set_option maxRecDepth 100000 in
theorem q933 : (Jvm.Cond.methodLink "QualitativeSimulatorLaw" (168 : Nat) ({ cls := "QualitativeSimulatorModel", name := "rest", desc := "()D" } : Jvm.MethodName)) ∈ lw_all := lw_in (lw_t4 (List.mem_of_getElem? (i := 213) rfl)) rfl
set_option maxRecDepth 100000 in
theorem q934 : (Jvm.Cond.instanceMethod ({ cls := "QualitativeSimulatorModel", name := "rest", desc := "()D" } : Jvm.MethodName)) ∈ lw_all := lw_in (lw_t4 (List.mem_of_getElem? (i := 214) rfl)) rfl
set_option maxRecDepth 100000 in
theorem q935 : (Jvm.Cond.selects "QualitativeSimulatorModel" ({ cls := "QualitativeSimulatorModel", name := "rest", desc := "()D" } : Jvm.MethodName) ({ cls := "QualitativeSimulatorModel", name := "rest", desc := "()D" } : Jvm.MethodName)) ∈ lw_all := lw_in (lw_t4 (List.mem_of_getElem? (i := 215) rfl)) rfl
set_option maxRecDepth 100000 in
theorem q936 : (Jvm.Cond.code ({ cls := "QualitativeSimulatorModel", name := "rest", desc := "()D" } : Jvm.MethodName) prog_6_method_48_code (3 : Nat) (Option.some Jvm.ClassFile.FieldType.double)) ∈ lw_all := lw_in (lw_t4 (List.mem_of_getElem? (i := 216) rfl)) rfl
set_option maxRecDepth 100000 in
theorem q937 : (Jvm.Cond.methodLink "QualitativeSimulatorLaw" (173 : Nat) ({ cls := "QualitativeSimulatorModel", name := "digest", desc := "()J" } : Jvm.MethodName)) ∈ lw_all := lw_in (lw_t4 (List.mem_of_getElem? (i := 217) rfl)) rfl
set_option maxRecDepth 100000 in
theorem q938 : (Jvm.Cond.instanceMethod ({ cls := "QualitativeSimulatorModel", name := "digest", desc := "()J" } : Jvm.MethodName)) ∈ lw_all := lw_in (lw_t4 (List.mem_of_getElem? (i := 218) rfl)) rfl
set_option maxRecDepth 100000 in
theorem q939 : (Jvm.Cond.selects "QualitativeSimulatorModel" ({ cls := "QualitativeSimulatorModel", name := "digest", desc := "()J" } : Jvm.MethodName) ({ cls := "QualitativeSimulatorModel", name := "digest", desc := "()J" } : Jvm.MethodName)) ∈ lw_all := lw_in (lw_t4 (List.mem_of_getElem? (i := 219) rfl)) rfl
set_option maxRecDepth 100000 in
theorem q940 : (Jvm.Cond.code ({ cls := "QualitativeSimulatorModel", name := "digest", desc := "()J" } : Jvm.MethodName) prog_6_method_49_code (5 : Nat) (Option.some Jvm.ClassFile.FieldType.long)) ∈ lw_all := lw_in (lw_t4 (List.mem_of_getElem? (i := 220) rfl)) rfl
set_option maxRecDepth 100000 in
theorem q941 : (Jvm.Cond.constantLong "QualitativeSimulatorModel" (154 : Nat) (4061 : Int64)) ∈ lw_all := lw_in (lw_t4 (List.mem_of_getElem? (i := 221) rfl)) rfl
set_option maxRecDepth 100000 in
theorem q942 : (Jvm.Cond.constantLong "QualitativeSimulatorModel" (156 : Nat) (31 : Int64)) ∈ lw_all := lw_in (lw_t4 (List.mem_of_getElem? (i := 222) rfl)) rfl
set_option maxRecDepth 100000 in
theorem q943 : (Jvm.Cond.arrayClass Jvm.ClassFile.FieldType.double) ∈ lw_all := lw_in (lw_t4 (List.mem_of_getElem? (i := 223) rfl)) rfl
set_option maxRecDepth 100000 in
theorem qs0 : Cond.selects "QualitativeSimulator$Search" ⟨"QualitativeSimulator$Search", "setToFollowing", "(I)V"⟩ ⟨"QualitativeSimulator$Search", "setToFollowing", "(I)V"⟩ ∈ lw_all := lw_in (lw_s (List.mem_of_getElem? (i := 0) rfl)) rfl
set_option maxRecDepth 100000 in
theorem qs1 : Cond.selects "QualitativeSimulator$Search" ⟨"QualitativeSimulator$Search", "narrowUntilStable", "()Z"⟩ ⟨"QualitativeSimulator$Search", "narrowUntilStable", "()Z"⟩ ∈ lw_all := lw_in (lw_s (List.mem_of_getElem? (i := 1) rfl)) rfl
set_option maxRecDepth 100000 in
theorem qs2 : Cond.selects "QualitativeSimulator$Search" ⟨"QualitativeSimulator$Search", "codesLeft", "()I"⟩ ⟨"QualitativeSimulator$Search", "codesLeft", "()I"⟩ ∈ lw_all := lw_in (lw_s (List.mem_of_getElem? (i := 2) rfl)) rfl
set_option maxRecDepth 100000 in
theorem qs12 : Cond.selects "QualitativeSimulator$Search" ⟨"QualitativeSimulator$Search", "bindFrom", "(II)V"⟩ ⟨"QualitativeSimulator$Search", "bindFrom", "(II)V"⟩ ∈ lw_all := lw_in (lw_s (List.mem_of_getElem? (i := 12) rfl)) rfl
set_option maxRecDepth 100000 in
theorem qs13 : Cond.selects "QualitativeSimulator$Graph" ⟨"QualitativeSimulator$Graph", "append", "(IZII)V"⟩ ⟨"QualitativeSimulator$Graph", "append", "(IZII)V"⟩ ∈ lw_all := lw_in (lw_s (List.mem_of_getElem? (i := 13) rfl)) rfl
set_option maxRecDepth 100000 in
theorem qs15 : Cond.selects "QualitativeSimulator$Search" ⟨"QualitativeSimulator$Search", "linkAll", "()V"⟩ ⟨"QualitativeSimulator$Search", "linkAll", "()V"⟩ ∈ lw_all := lw_in (lw_s (List.mem_of_getElem? (i := 15) rfl)) rfl
set_option maxRecDepth 100000 in
theorem qs16 : Cond.selects "QualitativeSimulator$Search" ⟨"QualitativeSimulator$Search", "canFollow", "(II)Z"⟩ ⟨"QualitativeSimulator$Search", "canFollow", "(II)Z"⟩ ∈ lw_all := lw_in (lw_s (List.mem_of_getElem? (i := 16) rfl)) rfl
set_option maxRecDepth 100000 in
theorem qs19 : Cond.selects "QualitativeSimulator" ⟨"QualitativeSimulator", "requireVariable", "(I)V"⟩ ⟨"QualitativeSimulator", "requireVariable", "(I)V"⟩ ∈ lw_all := lw_in (lw_s (List.mem_of_getElem? (i := 19) rfl)) rfl
set_option maxRecDepth 100000 in
theorem qs21 : Cond.selects "QualitativeSimulator" ⟨"QualitativeSimulator", "requireExploration", "()V"⟩ ⟨"QualitativeSimulator", "requireExploration", "()V"⟩ ∈ lw_all := lw_in (lw_s (List.mem_of_getElem? (i := 21) rfl)) rfl
set_option maxRecDepth 100000 in
theorem qs24 : Cond.selects "QualitativeSimulatorModel" ⟨"QualitativeSimulatorModel", "fail", "(I)I"⟩ ⟨"QualitativeSimulatorModel", "fail", "(I)I"⟩ ∈ lw_all := lw_in (lw_s (List.mem_of_getElem? (i := 24) rfl)) rfl
set_option maxRecDepth 100000 in
theorem qs25 : Cond.selects "QualitativeSimulatorModel" ⟨"QualitativeSimulatorModel", "isVariable", "(I)Z"⟩ ⟨"QualitativeSimulatorModel", "isVariable", "(I)Z"⟩ ∈ lw_all := lw_in (lw_s (List.mem_of_getElem? (i := 25) rfl)) rfl
set_option maxRecDepth 100000 in
theorem qs28 : Cond.selects "QualitativeSimulatorModel" ⟨"QualitativeSimulatorModel", "find", "()V"⟩ ⟨"QualitativeSimulatorModel", "find", "()V"⟩ ∈ lw_all := lw_in (lw_s (List.mem_of_getElem? (i := 28) rfl)) rfl
set_option maxRecDepth 100000 in
theorem qs29 : Cond.selects "QualitativeSimulatorModel" ⟨"QualitativeSimulatorModel", "isAllowed", "(I)Z"⟩ ⟨"QualitativeSimulatorModel", "isAllowed", "(I)Z"⟩ ∈ lw_all := lw_in (lw_s (List.mem_of_getElem? (i := 29) rfl)) rfl
set_option maxRecDepth 100000 in
theorem qs34 : Cond.selects "QualitativeSimulatorModel" ⟨"QualitativeSimulatorModel", "isGiven", "(I)Z"⟩ ⟨"QualitativeSimulatorModel", "isGiven", "(I)Z"⟩ ∈ lw_all := lw_in (lw_s (List.mem_of_getElem? (i := 34) rfl)) rfl
set_option maxRecDepth 100000 in
theorem qs35 : Cond.selects "QualitativeSimulatorModel" ⟨"QualitativeSimulatorModel", "add", "(II)Z"⟩ ⟨"QualitativeSimulatorModel", "add", "(II)Z"⟩ ∈ lw_all := lw_in (lw_s (List.mem_of_getElem? (i := 35) rfl)) rfl
set_option maxRecDepth 100000 in
theorem qs36 : Cond.selects "QualitativeSimulatorModel" ⟨"QualitativeSimulatorModel", "numberOf", "(I)I"⟩ ⟨"QualitativeSimulatorModel", "numberOf", "(I)I"⟩ ∈ lw_all := lw_in (lw_s (List.mem_of_getElem? (i := 36) rfl)) rfl
set_option maxRecDepth 100000 in
theorem qs37 : Cond.selects "QualitativeSimulatorModel" ⟨"QualitativeSimulatorModel", "expand", "(I)Z"⟩ ⟨"QualitativeSimulatorModel", "expand", "(I)Z"⟩ ∈ lw_all := lw_in (lw_s (List.mem_of_getElem? (i := 37) rfl)) rfl
set_option maxRecDepth 100000 in
theorem qs38 : Cond.selects "QualitativeSimulatorModel" ⟨"QualitativeSimulatorModel", "choose", "(I)V"⟩ ⟨"QualitativeSimulatorModel", "choose", "(I)V"⟩ ∈ lw_all := lw_in (lw_s (List.mem_of_getElem? (i := 38) rfl)) rfl
set_option maxRecDepth 100000 in
theorem qs40 : Cond.selects "QualitativeSimulatorModel" ⟨"QualitativeSimulatorModel", "follows", "(II)Z"⟩ ⟨"QualitativeSimulatorModel", "follows", "(II)Z"⟩ ∈ lw_all := lw_in (lw_s (List.mem_of_getElem? (i := 40) rfl)) rfl
set_option maxRecDepth 100000 in
theorem qs41 : Cond.selects "QualitativeSimulatorModel" ⟨"QualitativeSimulatorModel", "asks", "()Z"⟩ ⟨"QualitativeSimulatorModel", "asks", "()Z"⟩ ∈ lw_all := lw_in (lw_s (List.mem_of_getElem? (i := 41) rfl)) rfl
set_option maxRecDepth 100000 in
theorem qs42 : Cond.selects "QualitativeSimulatorModel" ⟨"QualitativeSimulatorModel", "asks", "(III)Z"⟩ ⟨"QualitativeSimulatorModel", "asks", "(III)Z"⟩ ∈ lw_all := lw_in (lw_s (List.mem_of_getElem? (i := 42) rfl)) rfl
theorem inX0 : ∀ w ∈ u_ws RX0 TX0 13, w ∈ lw_all := by
  have key : ∀ k, k < 13 → u_lay RX0 TX0 k ∈ lw_all := fun k hk => match k, hk with
    | 0, _ => q116
    | 1, _ => q118
    | 2, _ => q120
    | 3, _ => q122
    | 4, _ => q124
    | 5, _ => q126
    | 6, _ => q128
    | 7, _ => q130
    | 8, _ => q132
    | 9, _ => q134
    | 10, _ => q136
    | 11, _ => q138
    | 12, _ => q140
    | k + 13, h => absurd h (by omega)
  intro w h
  obtain ⟨k, hk, rfl⟩ := List.mem_map.mp h
  exact key k (List.mem_range.mp hk)
theorem inX1 : ∀ w ∈ u_ws RX1 TX1 13, w ∈ lw_all := by
  have key : ∀ k, k < 13 → u_lay RX1 TX1 k ∈ lw_all := fun k hk => match k, hk with
    | 0, _ => q56
    | 1, _ => q58
    | 2, _ => q60
    | 3, _ => q62
    | 4, _ => q64
    | 5, _ => q66
    | 6, _ => q68
    | 7, _ => q70
    | 8, _ => q72
    | 9, _ => q74
    | 10, _ => q76
    | 11, _ => q78
    | 12, _ => q80
    | k + 13, h => absurd h (by omega)
  intro w h
  obtain ⟨k, hk, rfl⟩ := List.mem_map.mp h
  exact key k (List.mem_range.mp hk)
theorem inX2 : ∀ w ∈ u_ws RX2 TX2 4, w ∈ lw_all := by
  have key : ∀ k, k < 4 → u_lay RX2 TX2 k ∈ lw_all := fun k hk => match k, hk with
    | 0, _ => q155
    | 1, _ => q157
    | 2, _ => q159
    | 3, _ => q161
    | k + 4, h => absurd h (by omega)
  intro w h
  obtain ⟨k, hk, rfl⟩ := List.mem_map.mp h
  exact key k (List.mem_range.mp hk)
theorem inX3 : ∀ w ∈ u_ws RX3 TX3 4, w ∈ lw_all := by
  have key : ∀ k, k < 4 → u_lay RX3 TX3 k ∈ lw_all := fun k hk => match k, hk with
    | 0, _ => q168
    | 1, _ => q170
    | 2, _ => q172
    | 3, _ => q174
    | k + 4, h => absurd h (by omega)
  intro w h
  obtain ⟨k, hk, rfl⟩ := List.mem_map.mp h
  exact key k (List.mem_range.mp hk)
theorem inX4 : ∀ w ∈ u_ws RX4 TX4 20, w ∈ lw_all := by
  have key : ∀ k, k < 20 → u_lay RX4 TX4 k ∈ lw_all := fun k hk => match k, hk with
    | 0, _ => q707
    | 1, _ => q709
    | 2, _ => q711
    | 3, _ => q713
    | 4, _ => q715
    | 5, _ => q717
    | 6, _ => q719
    | 7, _ => q721
    | 8, _ => q723
    | 9, _ => q725
    | 10, _ => q727
    | 11, _ => q729
    | 12, _ => q731
    | 13, _ => q733
    | 14, _ => q735
    | 15, _ => q737
    | 16, _ => q739
    | 17, _ => q741
    | 18, _ => q743
    | 19, _ => q745
    | k + 20, h => absurd h (by omega)
  intro w h
  obtain ⟨k, hk, rfl⟩ := List.mem_map.mp h
  exact key k (List.mem_range.mp hk)
theorem okX1_init : IOK yX1_init cX1_init 1 0 := ⟨q27, q2, q28, rfl, by decide +kernel, by decide +kernel, by decide +kernel⟩
theorem okX0_init : IOK yX0_init cX0_init 1 0 := ⟨q87, q3, q88, rfl, by decide +kernel, by decide +kernel, by decide +kernel⟩
theorem okX2_init : IOK yX2_init cX2_init 3 2 := ⟨q148, q4, q149, rfl, by decide +kernel, by decide +kernel, by decide +kernel⟩
theorem okX3_init : IOK yX3_init cX3_init 1 0 := ⟨q19, q1, q20, rfl, by decide +kernel, by decide +kernel, by decide +kernel⟩
theorem okX4_init : IOK yX4_init cX4_init 1 0 := ⟨q683, q5, q684, rfl, by decide +kernel, by decide +kernel, by decide +kernel⟩
theorem okX3_addVariable : MOK yX3_addVariable cX3_addVariable 3 (some .int) 2 := ⟨q394, q395, q1, q396, by decide +kernel, by decide +kernel, by decide +kernel⟩
theorem okL_addVariable : HOK yL_addVariable cL_addVariable 5 (some .int) [(0, 10, 13, 13), (0, 10, 17, 15)] 4 := ⟨q389, q0, q390, by decide +kernel, by decide +kernel, by decide +kernel⟩
theorem okX4_fail : MOK yX4_fail cX4_fail 2 (some .int) 1 := ⟨q758, qs24, q5, q759, by decide +kernel, by decide +kernel, by decide +kernel⟩
theorem okX4_addVariable : MOK yX4_addVariable cX4_addVariable 3 (some .int) 2 := ⟨q753, q754, q5, q755, by decide +kernel, by decide +kernel, by decide +kernel⟩
theorem okX4_thrown : MOK yX4_thrown cX4_thrown 1 (some .int) 0 := ⟨q749, q750, q5, q751, by decide +kernel, by decide +kernel, by decide +kernel⟩
theorem okX1_greatestValue : MOK yX1_greatestValue cX1_greatestValue 2 (some .int) 1 := ⟨q231, q232, q2, q233, by decide +kernel, by decide +kernel, by decide +kernel⟩
theorem okX3_codeOf : SOK yX3_codeOf cX3_codeOf 2 (some .int) 2 := ⟨q213, q1, q214, by decide +kernel, by decide +kernel, by decide +kernel⟩
theorem okX1_appendVariable : MOK yX1_appendVariable cX1_appendVariable 5 (some .int) 2 := ⟨q483, q484, q2, q485, by decide +kernel, by decide +kernel, by decide +kernel⟩
theorem okX3_addConstraint : MOK yX3_addConstraint cX3_addConstraint 7 (some .int) 4 := ⟨q491, q492, q1, q493, by decide +kernel, by decide +kernel, by decide +kernel⟩
theorem okL_addConstraint : HOK yL_addConstraint cL_addConstraint 7 (some .int) [(0, 14, 17, 13), (0, 14, 21, 21), (0, 14, 25, 15)] 6 := ⟨q487, q0, q488, by decide +kernel, by decide +kernel, by decide +kernel⟩
theorem okX4_addConstraint : MOK yX4_addConstraint cX4_addConstraint 5 (some .int) 4 := ⟨q761, q762, q5, q763, by decide +kernel, by decide +kernel, by decide +kernel⟩
theorem okX3_requireVariable : MOK yX3_requireVariable cX3_requireVariable 2 none 1 := ⟨q497, qs19, q1, q498, by decide +kernel, by decide +kernel, by decide +kernel⟩
theorem okX4_isVariable : MOK yX4_isVariable cX4_isVariable 2 (some .boolean) 1 := ⟨q766, qs25, q5, q767, by decide +kernel, by decide +kernel, by decide +kernel⟩
theorem okX3_dropConstraint : MOK yX3_dropConstraint cX3_dropConstraint 1 (some .int) 0 := ⟨q524, q525, q1, q526, by decide +kernel, by decide +kernel, by decide +kernel⟩
theorem okL_dropConstraint : HOK yL_dropConstraint cL_dropConstraint 3 (some .int) [(0, 8, 11, 15)] 2 := ⟨q521, q0, q522, by decide +kernel, by decide +kernel, by decide +kernel⟩
theorem okX4_dropConstraint : MOK yX4_dropConstraint cX4_dropConstraint 1 (some .int) 0 := ⟨q769, q770, q5, q771, by decide +kernel, by decide +kernel, by decide +kernel⟩
theorem okX3_give : MOK yX3_give cX3_give 4 (some .boolean) 3 := ⟨q532, q533, q1, q534, by decide +kernel, by decide +kernel, by decide +kernel⟩
theorem okL_give : HOK yL_give cL_give 6 (some .int) [(0, 19, 22, 21), (0, 19, 26, 13)] 5 := ⟨q529, q0, q530, by decide +kernel, by decide +kernel, by decide +kernel⟩
theorem okX4_give : MOK yX4_give cX4_give 5 (some .boolean) 3 := ⟨q773, q774, q5, q775, by decide +kernel, by decide +kernel, by decide +kernel⟩
theorem okX3_open : MOK yX3_open cX3_open 3 (some .int) 0 := ⟨q178, q179, q1, q180, by decide +kernel, by decide +kernel, by decide +kernel⟩
theorem okX4_open : MOK yX4_open cX4_open 3 (some .int) 0 := ⟨q781, q782, q5, q783, by decide +kernel, by decide +kernel, by decide +kernel⟩
theorem okX3_variableCount : MOK yX3_variableCount cX3_variableCount 1 (some .int) 0 := ⟨q186, q187, q1, q188, by decide +kernel, by decide +kernel, by decide +kernel⟩
theorem okX4_variableCount : MOK yX4_variableCount cX4_variableCount 1 (some .int) 0 := ⟨q785, q786, q5, q787, by decide +kernel, by decide +kernel, by decide +kernel⟩
theorem okX3_sign : MOK yX3_sign cX3_sign 4 (some .int) 2 := ⟨q546, q547, q1, q548, by decide +kernel, by decide +kernel, by decide +kernel⟩
theorem okL_sign : HOK yL_sign cL_sign 5 (some .int) [(0, 10, 13, 21), (0, 10, 17, 13)] 4 := ⟨q543, q0, q544, by decide +kernel, by decide +kernel, by decide +kernel⟩
theorem okX4_sign : MOK yX4_sign cX4_sign 3 (some .int) 2 := ⟨q789, q790, q5, q791, by decide +kernel, by decide +kernel, by decide +kernel⟩
theorem okJ7_fill_53178 : SOK yJ7_fill_53178 cJ7_fill_53178 4 none 2 := ⟨q202, q13, q203, by decide +kernel, by decide +kernel, by decide +kernel⟩
theorem okX0_clear : MOK yX0_clear cX0_clear 1 none 0 := ⟨q198, q199, q3, q200, by decide +kernel, by decide +kernel, by decide +kernel⟩
theorem okX2_setToFollowing : MOK yX2_setToFollowing cX2_setToFollowing 3 none 1 := ⟨q206, qs0, q4, q207, by decide +kernel, by decide +kernel, by decide +kernel⟩
theorem okX2_codesLeft : MOK yX2_codesLeft cX2_codesLeft 3 (some .int) 0 := ⟨q244, qs2, q4, q245, by decide +kernel, by decide +kernel, by decide +kernel⟩
theorem okX2_narrowUntilStable : MOK yX2_narrowUntilStable cX2_narrowUntilStable 4 (some .boolean) 0 := ⟨q240, qs1, q4, q241, by decide +kernel, by decide +kernel, by decide +kernel⟩
theorem okX0_append : MOK yX0_append cX0_append 5 none 4 := ⟨q321, qs13, q3, q322, by decide +kernel, by decide +kernel, by decide +kernel⟩
theorem okX0_meet : MOK yX0_meet cX0_meet 7 none 2 := ⟨q315, q316, q3, q317, by decide +kernel, by decide +kernel, by decide +kernel⟩
theorem okX2_bindFrom : MOK yX2_bindFrom cX2_bindFrom 5 none 2 := ⟨q312, qs12, q4, q313, by decide +kernel, by decide +kernel, by decide +kernel⟩
theorem okX0_beginLinks : MOK yX0_beginLinks cX0_beginLinks 2 none 1 := ⟨q336, q337, q3, q338, by decide +kernel, by decide +kernel, by decide +kernel⟩
theorem okX2_canFollow : MOK yX2_canFollow cX2_canFollow 5 (some .boolean) 2 := ⟨q357, qs16, q4, q358, by decide +kernel, by decide +kernel, by decide +kernel⟩
theorem okX0_link : MOK yX0_link cX0_link 2 none 1 := ⟨q360, q361, q3, q362, by decide +kernel, by decide +kernel, by decide +kernel⟩
theorem okX0_endLinks : MOK yX0_endLinks cX0_endLinks 1 none 0 := ⟨q364, q365, q3, q366, by decide +kernel, by decide +kernel, by decide +kernel⟩
theorem okX2_linkAll : MOK yX2_linkAll cX2_linkAll 3 none 0 := ⟨q333, qs15, q4, q334, by decide +kernel, by decide +kernel, by decide +kernel⟩
theorem okX2_exploreAll : MOK yX2_exploreAll cX2_exploreAll 2 none 0 := ⟨q194, q195, q4, q196, by decide +kernel, by decide +kernel, by decide +kernel⟩
theorem okX3_explore : MOK yX3_explore cX3_explore 1 (some .int) 0 := ⟨q190, q191, q1, q192, by decide +kernel, by decide +kernel, by decide +kernel⟩
theorem okX4_power : SOK yX4_power cX4_power 3 (some .int) 1 := ⟨q808, q5, q809, by decide +kernel, by decide +kernel, by decide +kernel⟩
theorem okX4_isAllowed : MOK yX4_isAllowed cX4_isAllowed 3 (some .boolean) 1 := ⟨q812, qs29, q5, q813, by decide +kernel, by decide +kernel, by decide +kernel⟩
theorem okX4_isGiven : MOK yX4_isGiven cX4_isGiven 4 (some .boolean) 1 := ⟨q835, qs34, q5, q836, by decide +kernel, by decide +kernel, by decide +kernel⟩
theorem okX4_numberOf : MOK yX4_numberOf cX4_numberOf 3 (some .int) 1 := ⟨q843, qs36, q5, q844, by decide +kernel, by decide +kernel, by decide +kernel⟩
theorem okX4_add : MOK yX4_add cX4_add 3 (some .boolean) 2 := ⟨q839, qs35, q5, q840, by decide +kernel, by decide +kernel, by decide +kernel⟩
theorem okX4_choose : MOK yX4_choose cX4_choose 7 none 1 := ⟨q851, qs38, q5, q852, by decide +kernel, by decide +kernel, by decide +kernel⟩
theorem okX4_follows : MOK yX4_follows cX4_follows 5 (some .boolean) 2 := ⟨q859, qs40, q5, q860, by decide +kernel, by decide +kernel, by decide +kernel⟩
theorem okX4_expand : MOK yX4_expand cX4_expand 8 (some .boolean) 1 := ⟨q847, qs37, q5, q848, by decide +kernel, by decide +kernel, by decide +kernel⟩
theorem okX4_find : MOK yX4_find cX4_find 4 none 0 := ⟨q805, qs28, q5, q806, by decide +kernel, by decide +kernel, by decide +kernel⟩
theorem okX4_explore : MOK yX4_explore cX4_explore 1 (some .int) 0 := ⟨q800, q801, q5, q802, by decide +kernel, by decide +kernel, by decide +kernel⟩
theorem okX3_isExplored : MOK yX3_isExplored cX3_isExplored 1 (some .boolean) 0 := ⟨q368, q369, q1, q370, by decide +kernel, by decide +kernel, by decide +kernel⟩
theorem okX4_isExplored : MOK yX4_isExplored cX4_isExplored 1 (some .boolean) 0 := ⟨q862, q863, q5, q864, by decide +kernel, by decide +kernel, by decide +kernel⟩
theorem okX3_requireExploration : MOK yX3_requireExploration cX3_requireExploration 1 none 0 := ⟨q558, qs21, q1, q559, by decide +kernel, by decide +kernel, by decide +kernel⟩
theorem okX3_isComplete : MOK yX3_isComplete cX3_isComplete 1 (some .boolean) 0 := ⟨q553, q554, q1, q555, by decide +kernel, by decide +kernel, by decide +kernel⟩
theorem okL_isComplete : HOK yL_isComplete cL_isComplete 3 (some .int) [(0, 15, 18, 15)] 2 := ⟨q550, q0, q551, by decide +kernel, by decide +kernel, by decide +kernel⟩
theorem okX4_asks : MOK yX4_asks cX4_asks 1 (some .boolean) 0 := ⟨q871, qs41, q5, q872, by decide +kernel, by decide +kernel, by decide +kernel⟩
theorem okX4_isComplete : MOK yX4_isComplete cX4_isComplete 1 (some .boolean) 0 := ⟨q866, q867, q5, q868, by decide +kernel, by decide +kernel, by decide +kernel⟩
theorem okX3_firstCount : MOK yX3_firstCount cX3_firstCount 1 (some .int) 0 := ⟨q565, q566, q1, q567, by decide +kernel, by decide +kernel, by decide +kernel⟩
theorem okL_firstCount : HOK yL_firstCount cL_firstCount 3 (some .int) [(0, 8, 11, 15)] 2 := ⟨q562, q0, q563, by decide +kernel, by decide +kernel, by decide +kernel⟩
theorem okX4_firstCount : MOK yX4_firstCount cX4_firstCount 1 (some .int) 0 := ⟨q874, q875, q5, q876, by decide +kernel, by decide +kernel, by decide +kernel⟩
theorem okX3_value : MOK yX3_value cX3_value 3 (some .int) 2 := ⟨q572, q573, q1, q574, by decide +kernel, by decide +kernel, by decide +kernel⟩
theorem okL_value : HOK yL_value cL_value 5 (some .int) [(0, 10, 13, 15), (0, 10, 17, 21)] 4 := ⟨q569, q0, q570, by decide +kernel, by decide +kernel, by decide +kernel⟩
theorem okX4_asks_ : MOK yX4_asks_ cX4_asks_ 4 (some .boolean) 3 := ⟨q883, qs42, q5, q884, by decide +kernel, by decide +kernel, by decide +kernel⟩
theorem okX4_value : MOK yX4_value cX4_value 3 (some .int) 2 := ⟨q878, q879, q5, q880, by decide +kernel, by decide +kernel, by decide +kernel⟩
theorem okX3_direction : MOK yX3_direction cX3_direction 3 (some .int) 2 := ⟨q584, q585, q1, q586, by decide +kernel, by decide +kernel, by decide +kernel⟩
theorem okL_direction : HOK yL_direction cL_direction 5 (some .int) [(0, 10, 13, 15), (0, 10, 17, 21)] 4 := ⟨q581, q0, q582, by decide +kernel, by decide +kernel, by decide +kernel⟩
theorem okX4_direction : MOK yX4_direction cX4_direction 3 (some .int) 2 := ⟨q886, q887, q5, q888, by decide +kernel, by decide +kernel, by decide +kernel⟩
theorem okX3_isInstant : MOK yX3_isInstant cX3_isInstant 2 (some .boolean) 1 := ⟨q591, q592, q1, q593, by decide +kernel, by decide +kernel, by decide +kernel⟩
theorem okL_isInstant : HOK yL_isInstant cL_isInstant 4 (some .int) [(0, 16, 19, 15), (0, 16, 22, 21)] 3 := ⟨q588, q0, q589, by decide +kernel, by decide +kernel, by decide +kernel⟩
theorem okX4_isInstant : MOK yX4_isInstant cX4_isInstant 2 (some .boolean) 1 := ⟨q890, q891, q5, q892, by decide +kernel, by decide +kernel, by decide +kernel⟩
theorem okX3_successorCount : MOK yX3_successorCount cX3_successorCount 2 (some .int) 1 := ⟨q598, q599, q1, q600, by decide +kernel, by decide +kernel, by decide +kernel⟩
theorem okL_successorCount : HOK yL_successorCount cL_successorCount 4 (some .int) [(0, 9, 12, 15), (0, 9, 15, 21)] 3 := ⟨q595, q0, q596, by decide +kernel, by decide +kernel, by decide +kernel⟩
theorem okX4_successorCount : MOK yX4_successorCount cX4_successorCount 2 (some .int) 1 := ⟨q894, q895, q5, q896, by decide +kernel, by decide +kernel, by decide +kernel⟩
theorem okX3_successor : MOK yX3_successor cX3_successor 3 (some .int) 2 := ⟨q605, q606, q1, q607, by decide +kernel, by decide +kernel, by decide +kernel⟩
theorem okL_successor : HOK yL_successor cL_successor 5 (some .int) [(0, 10, 13, 15), (0, 10, 17, 21)] 4 := ⟨q602, q0, q603, by decide +kernel, by decide +kernel, by decide +kernel⟩
theorem okX4_successor : MOK yX4_successor cX4_successor 5 (some .int) 2 := ⟨q902, q903, q5, q904, by decide +kernel, by decide +kernel, by decide +kernel⟩
theorem okX3_distance : MOK yX3_distance cX3_distance 2 (some .int) 1 := ⟨q613, q614, q1, q615, by decide +kernel, by decide +kernel, by decide +kernel⟩
theorem okL_distance : HOK yL_distance cL_distance 4 (some .int) [(0, 9, 12, 15), (0, 9, 15, 21)] 3 := ⟨q610, q0, q611, by decide +kernel, by decide +kernel, by decide +kernel⟩
theorem okX4_distance : MOK yX4_distance cX4_distance 2 (some .int) 1 := ⟨q906, q907, q5, q908, by decide +kernel, by decide +kernel, by decide +kernel⟩
theorem okX3_isAtRest : MOK yX3_isAtRest cX3_isAtRest 2 (some .boolean) 1 := ⟨q620, q621, q1, q622, by decide +kernel, by decide +kernel, by decide +kernel⟩
theorem okL_isAtRest : HOK yL_isAtRest cL_isAtRest 4 (some .int) [(0, 16, 19, 15), (0, 16, 22, 21)] 3 := ⟨q617, q0, q618, by decide +kernel, by decide +kernel, by decide +kernel⟩
theorem okX4_isAtRest : MOK yX4_isAtRest cX4_isAtRest 2 (some .boolean) 1 := ⟨q910, q911, q5, q912, by decide +kernel, by decide +kernel, by decide +kernel⟩
theorem okX3_endCount : MOK yX3_endCount cX3_endCount 3 (some .int) 0 := ⟨q632, q633, q1, q634, by decide +kernel, by decide +kernel, by decide +kernel⟩
theorem okL_endCount : HOK yL_endCount cL_endCount 3 (some .int) [(0, 8, 11, 15)] 2 := ⟨q629, q0, q630, by decide +kernel, by decide +kernel, by decide +kernel⟩
theorem okX4_endCount : MOK yX4_endCount cX4_endCount 3 (some .int) 0 := ⟨q918, q919, q5, q920, by decide +kernel, by decide +kernel, by decide +kernel⟩
theorem okX3_soonest : MOK yX3_soonest cX3_soonest 4 (some .int) 2 := ⟨q639, q640, q1, q641, by decide +kernel, by decide +kernel, by decide +kernel⟩
theorem okL_soonest : HOK yL_soonest cL_soonest 5 (some .int) [(0, 10, 13, 15), (0, 10, 17, 21), (0, 10, 21, 13)] 4 := ⟨q636, q0, q637, by decide +kernel, by decide +kernel, by decide +kernel⟩
theorem okX4_soonest : MOK yX4_soonest cX4_soonest 5 (some .int) 2 := ⟨q922, q923, q5, q924, by decide +kernel, by decide +kernel, by decide +kernel⟩
theorem okX3_hasCycle : MOK yX3_hasCycle cX3_hasCycle 1 (some .boolean) 0 := ⟨q646, q647, q1, q648, by decide +kernel, by decide +kernel, by decide +kernel⟩
theorem okL_hasCycle : HOK yL_hasCycle cL_hasCycle 3 (some .int) [(0, 15, 18, 15)] 2 := ⟨q643, q0, q644, by decide +kernel, by decide +kernel, by decide +kernel⟩
theorem okX4_hasCycle : MOK yX4_hasCycle cX4_hasCycle 7 (some .boolean) 0 := ⟨q926, q927, q5, q928, by decide +kernel, by decide +kernel, by decide +kernel⟩
theorem okX3_ways : MOK yX3_ways cX3_ways 2 (some .long) 1 := ⟨q661, q662, q1, q663, by decide +kernel, by decide +kernel, by decide +kernel⟩
theorem okL_ways : HOK yL_ways cL_ways 4 (some .int) [(0, 8, 11, 15), (0, 8, 14, 13)] 3 := ⟨q658, q0, q659, by decide +kernel, by decide +kernel, by decide +kernel⟩
theorem okX4_ways : MOK yX4_ways cX4_ways 7 (some .long) 1 := ⟨q930, q931, q5, q932, by decide +kernel, by decide +kernel, by decide +kernel⟩
theorem okX3_rest : MOK yX3_rest cX3_rest 3 (some .double) 0 := ⟨q677, q678, q1, q679, by decide +kernel, by decide +kernel, by decide +kernel⟩
theorem okL_rest : HOK yL_rest cL_rest 3 (some .int) [(0, 7, 10, 15)] 2 := ⟨q674, q0, q675, by decide +kernel, by decide +kernel, by decide +kernel⟩
theorem okX4_rest : MOK yX4_rest cX4_rest 3 (some .double) 0 := ⟨q934, q935, q5, q936, by decide +kernel, by decide +kernel, by decide +kernel⟩
theorem okX3_digest : MOK yX3_digest cX3_digest 4 (some .long) 0 := ⟨q372, q373, q1, q374, by decide +kernel, by decide +kernel, by decide +kernel⟩
theorem okX4_digest : MOK yX4_digest cX4_digest 5 (some .long) 0 := ⟨q938, q939, q5, q940, by decide +kernel, by decide +kernel, by decide +kernel⟩
