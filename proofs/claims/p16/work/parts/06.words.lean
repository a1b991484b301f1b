/-! words of the tables by their places, what each callee needs -/
set_option maxRecDepth 100000 in
theorem q0 : (Jvm.Cond.initialized "QualitativeSimulatorLaw") ∈ lw_all := lw_in (lw_t1 (List.mem_of_getElem? (i := 0) rfl)) rfl
set_option maxRecDepth 100000 in
theorem q1 : (Jvm.Cond.initialized "QualitativeSimulator") ∈ lw_all := lw_in (lw_t1 (List.mem_of_getElem? (i := 1) rfl)) rfl
set_option maxRecDepth 100000 in
theorem q2 : (Jvm.Cond.initialized "QualitativeSimulator$Model") ∈ lw_all := lw_in (lw_t1 (List.mem_of_getElem? (i := 2) rfl)) rfl
set_option maxRecDepth 100000 in
theorem q3 : (Jvm.Cond.initialized "QualitativeSimulator$Graph") ∈ lw_all := lw_in (lw_t1 (List.mem_of_getElem? (i := 3) rfl)) rfl
set_option maxRecDepth 100000 in
theorem q4 : (Jvm.Cond.initialized "QualitativeSimulator$Search") ∈ lw_all := lw_in (lw_t1 (List.mem_of_getElem? (i := 4) rfl)) rfl
set_option maxRecDepth 100000 in
theorem q5 : (Jvm.Cond.initialized "QualitativeSimulatorModel") ∈ lw_all := lw_in (lw_t1 (List.mem_of_getElem? (i := 5) rfl)) rfl
set_option maxRecDepth 100000 in
theorem q13 : (Jvm.Cond.initialized "java/util/Arrays") ∈ lw_all := lw_in (lw_t1 (List.mem_of_getElem? (i := 13) rfl)) rfl
set_option maxRecDepth 100000 in
theorem q15 : (Jvm.Cond.initialized "java/lang/System") ∈ lw_all := lw_in (lw_t1 (List.mem_of_getElem? (i := 15) rfl)) rfl
set_option maxRecDepth 100000 in
theorem q16 : (Jvm.Cond.classLink "QualitativeSimulatorLaw" (8 : Nat) "QualitativeSimulator") ∈ lw_all := lw_in (lw_t1 (List.mem_of_getElem? (i := 16) rfl)) rfl
set_option maxRecDepth 100000 in
theorem q17 : (Jvm.Cond.instantiable "QualitativeSimulator" (4 : Nat)) ∈ lw_all := lw_in (lw_t1 (List.mem_of_getElem? (i := 17) rfl)) rfl
set_option maxRecDepth 100000 in
theorem q18 : (Jvm.Cond.methodLink "QualitativeSimulatorLaw" (81 : Nat) ({ cls := "QualitativeSimulator", name := "<init>", desc := "()V" } : Jvm.MethodName)) ∈ lw_all := lw_in (lw_t1 (List.mem_of_getElem? (i := 18) rfl)) rfl
set_option maxRecDepth 100000 in
theorem q19 : (Jvm.Cond.instanceMethod ({ cls := "QualitativeSimulator", name := "<init>", desc := "()V" } : Jvm.MethodName)) ∈ lw_all := lw_in (lw_t1 (List.mem_of_getElem? (i := 19) rfl)) rfl
set_option maxRecDepth 100000 in
theorem q20 : (Jvm.Cond.code ({ cls := "QualitativeSimulator", name := "<init>", desc := "()V" } : Jvm.MethodName) prog_1_method_1_code (1 : Nat) (Option.none : Option Jvm.ClassFile.FieldType)) ∈ lw_all := lw_in (lw_t1 (List.mem_of_getElem? (i := 20) rfl)) rfl
set_option maxRecDepth 100000 in
theorem q21 : (Jvm.Cond.methodLink "QualitativeSimulator" (1 : Nat) ({ cls := "java/lang/Object", name := "<init>", desc := "()V" } : Jvm.MethodName)) ∈ lw_all := lw_in (lw_t1 (List.mem_of_getElem? (i := 21) rfl)) rfl
set_option maxRecDepth 100000 in
theorem q22 : (Jvm.Cond.instanceMethod ({ cls := "java/lang/Object", name := "<init>", desc := "()V" } : Jvm.MethodName)) ∈ lw_all := lw_in (lw_t1 (List.mem_of_getElem? (i := 22) rfl)) rfl
set_option maxRecDepth 100000 in
theorem q23 : (Jvm.Cond.code ({ cls := "java/lang/Object", name := "<init>", desc := "()V" } : Jvm.MethodName) object_method_1_code (1 : Nat) (Option.none : Option Jvm.ClassFile.FieldType)) ∈ lw_all := lw_in (lw_t1 (List.mem_of_getElem? (i := 23) rfl)) rfl
set_option maxRecDepth 100000 in
theorem q24 : (Jvm.Cond.classLink "QualitativeSimulator" (7 : Nat) "QualitativeSimulator$Model") ∈ lw_all := lw_in (lw_t1 (List.mem_of_getElem? (i := 24) rfl)) rfl
set_option maxRecDepth 100000 in
theorem q25 : (Jvm.Cond.instantiable "QualitativeSimulator$Model" (13 : Nat)) ∈ lw_all := lw_in (lw_t1 (List.mem_of_getElem? (i := 25) rfl)) rfl
set_option maxRecDepth 100000 in
theorem q27 : (Jvm.Cond.instanceMethod ({ cls := "QualitativeSimulator$Model", name := "<init>", desc := "()V" } : Jvm.MethodName)) ∈ lw_all := lw_in (lw_t1 (List.mem_of_getElem? (i := 27) rfl)) rfl
set_option maxRecDepth 100000 in
theorem q28 : (Jvm.Cond.code ({ cls := "QualitativeSimulator$Model", name := "<init>", desc := "()V" } : Jvm.MethodName) prog_3_method_1_code (1 : Nat) (Option.none : Option Jvm.ClassFile.FieldType)) ∈ lw_all := lw_in (lw_t1 (List.mem_of_getElem? (i := 28) rfl)) rfl
set_option maxRecDepth 100000 in
theorem q29 : (Jvm.Cond.methodLink "QualitativeSimulator$Model" (3 : Nat) ({ cls := "java/lang/Object", name := "<init>", desc := "()V" } : Jvm.MethodName)) ∈ lw_all := lw_in (lw_t1 (List.mem_of_getElem? (i := 29) rfl)) rfl
set_option maxRecDepth 100000 in
theorem q30 : (Jvm.Cond.fieldLink "QualitativeSimulator$Model" (9 : Nat) "QualitativeSimulator$Model" "variables" "I") ∈ lw_all := lw_in (lw_t1 (List.mem_of_getElem? (i := 30) rfl)) rfl
set_option maxRecDepth 100000 in
theorem q32 : (Jvm.Cond.fieldLink "QualitativeSimulator$Search" (57 : Nat) "QualitativeSimulator$Model" "variables" "I") ∈ lw_all := lw_in (lw_t1 (List.mem_of_getElem? (i := 32) rfl)) rfl
set_option maxRecDepth 100000 in
theorem q33 : (Jvm.Cond.fieldLink "QualitativeSimulator$Model" (15 : Nat) "QualitativeSimulator$Model" "landmarks" "[I") ∈ lw_all := lw_in (lw_t1 (List.mem_of_getElem? (i := 33) rfl)) rfl
set_option maxRecDepth 100000 in
theorem q35 : (Jvm.Cond.fieldLink "QualitativeSimulator$Model" (19 : Nat) "QualitativeSimulator$Model" "zeros" "[I") ∈ lw_all := lw_in (lw_t1 (List.mem_of_getElem? (i := 35) rfl)) rfl
set_option maxRecDepth 100000 in
theorem q37 : (Jvm.Cond.fieldLink "QualitativeSimulator$Model" (22 : Nat) "QualitativeSimulator$Model" "givenValues" "[I") ∈ lw_all := lw_in (lw_t1 (List.mem_of_getElem? (i := 37) rfl)) rfl
set_option maxRecDepth 100000 in
theorem q39 : (Jvm.Cond.fieldLink "QualitativeSimulator$Model" (25 : Nat) "QualitativeSimulator$Model" "givenDirections" "[I") ∈ lw_all := lw_in (lw_t1 (List.mem_of_getElem? (i := 39) rfl)) rfl
set_option maxRecDepth 100000 in
theorem q41 : (Jvm.Cond.fieldLink "QualitativeSimulator$Model" (28 : Nat) "QualitativeSimulator$Model" "below" "[I") ∈ lw_all := lw_in (lw_t1 (List.mem_of_getElem? (i := 41) rfl)) rfl
set_option maxRecDepth 100000 in
theorem q42 : (Jvm.Cond.fieldLink "QualitativeSimulator$Model" (31 : Nat) "QualitativeSimulator$Model" "within" "[I") ∈ lw_all := lw_in (lw_t1 (List.mem_of_getElem? (i := 42) rfl)) rfl
set_option maxRecDepth 100000 in
theorem q43 : (Jvm.Cond.fieldLink "QualitativeSimulator$Model" (34 : Nat) "QualitativeSimulator$Model" "above" "[I") ∈ lw_all := lw_in (lw_t1 (List.mem_of_getElem? (i := 43) rfl)) rfl
set_option maxRecDepth 100000 in
theorem q44 : (Jvm.Cond.fieldLink "QualitativeSimulator$Model" (37 : Nat) "QualitativeSimulator$Model" "constraints" "I") ∈ lw_all := lw_in (lw_t1 (List.mem_of_getElem? (i := 44) rfl)) rfl
set_option maxRecDepth 100000 in
theorem q46 : (Jvm.Cond.fieldLink "QualitativeSimulator$Search" (87 : Nat) "QualitativeSimulator$Model" "constraints" "I") ∈ lw_all := lw_in (lw_t1 (List.mem_of_getElem? (i := 46) rfl)) rfl
set_option maxRecDepth 100000 in
theorem q47 : (Jvm.Cond.fieldLink "QualitativeSimulator$Model" (40 : Nat) "QualitativeSimulator$Model" "kinds" "[I") ∈ lw_all := lw_in (lw_t1 (List.mem_of_getElem? (i := 47) rfl)) rfl
set_option maxRecDepth 100000 in
theorem q50 : (Jvm.Cond.fieldLink "QualitativeSimulator$Model" (43 : Nat) "QualitativeSimulator$Model" "xs" "[I") ∈ lw_all := lw_in (lw_t1 (List.mem_of_getElem? (i := 50) rfl)) rfl
set_option maxRecDepth 100000 in
theorem q52 : (Jvm.Cond.fieldLink "QualitativeSimulator$Model" (46 : Nat) "QualitativeSimulator$Model" "ys" "[I") ∈ lw_all := lw_in (lw_t1 (List.mem_of_getElem? (i := 52) rfl)) rfl
set_option maxRecDepth 100000 in
theorem q54 : (Jvm.Cond.fieldLink "QualitativeSimulator$Model" (49 : Nat) "QualitativeSimulator$Model" "zs" "[I") ∈ lw_all := lw_in (lw_t1 (List.mem_of_getElem? (i := 54) rfl)) rfl
set_option maxRecDepth 100000 in
theorem q56 : (Jvm.Cond.lays "QualitativeSimulator$Model" "QualitativeSimulator$Model" "variables" "I") ∈ lw_all := lw_in (lw_t1 (List.mem_of_getElem? (i := 56) rfl)) rfl
set_option maxRecDepth 100000 in
theorem q58 : (Jvm.Cond.laysFinal "QualitativeSimulator$Model" "QualitativeSimulator$Model" "landmarks" "[I") ∈ lw_all := lw_in (lw_t1 (List.mem_of_getElem? (i := 58) rfl)) rfl
set_option maxRecDepth 100000 in
theorem q60 : (Jvm.Cond.laysFinal "QualitativeSimulator$Model" "QualitativeSimulator$Model" "zeros" "[I") ∈ lw_all := lw_in (lw_t1 (List.mem_of_getElem? (i := 60) rfl)) rfl
set_option maxRecDepth 100000 in
theorem q62 : (Jvm.Cond.laysFinal "QualitativeSimulator$Model" "QualitativeSimulator$Model" "givenValues" "[I") ∈ lw_all := lw_in (lw_t1 (List.mem_of_getElem? (i := 62) rfl)) rfl
set_option maxRecDepth 100000 in
theorem q64 : (Jvm.Cond.laysFinal "QualitativeSimulator$Model" "QualitativeSimulator$Model" "givenDirections" "[I") ∈ lw_all := lw_in (lw_t1 (List.mem_of_getElem? (i := 64) rfl)) rfl
set_option maxRecDepth 100000 in
theorem q66 : (Jvm.Cond.laysFinal "QualitativeSimulator$Model" "QualitativeSimulator$Model" "below" "[I") ∈ lw_all := lw_in (lw_t1 (List.mem_of_getElem? (i := 66) rfl)) rfl
set_option maxRecDepth 100000 in
theorem q68 : (Jvm.Cond.laysFinal "QualitativeSimulator$Model" "QualitativeSimulator$Model" "within" "[I") ∈ lw_all := lw_in (lw_t1 (List.mem_of_getElem? (i := 68) rfl)) rfl
set_option maxRecDepth 100000 in
theorem q70 : (Jvm.Cond.laysFinal "QualitativeSimulator$Model" "QualitativeSimulator$Model" "above" "[I") ∈ lw_all := lw_in (lw_t1 (List.mem_of_getElem? (i := 70) rfl)) rfl
set_option maxRecDepth 100000 in
theorem q72 : (Jvm.Cond.lays "QualitativeSimulator$Model" "QualitativeSimulator$Model" "constraints" "I") ∈ lw_all := lw_in (lw_t1 (List.mem_of_getElem? (i := 72) rfl)) rfl
set_option maxRecDepth 100000 in
theorem q74 : (Jvm.Cond.laysFinal "QualitativeSimulator$Model" "QualitativeSimulator$Model" "kinds" "[I") ∈ lw_all := lw_in (lw_t1 (List.mem_of_getElem? (i := 74) rfl)) rfl
set_option maxRecDepth 100000 in
theorem q76 : (Jvm.Cond.laysFinal "QualitativeSimulator$Model" "QualitativeSimulator$Model" "xs" "[I") ∈ lw_all := lw_in (lw_t1 (List.mem_of_getElem? (i := 76) rfl)) rfl
set_option maxRecDepth 100000 in
theorem q78 : (Jvm.Cond.laysFinal "QualitativeSimulator$Model" "QualitativeSimulator$Model" "ys" "[I") ∈ lw_all := lw_in (lw_t1 (List.mem_of_getElem? (i := 78) rfl)) rfl
set_option maxRecDepth 100000 in
theorem q80 : (Jvm.Cond.laysFinal "QualitativeSimulator$Model" "QualitativeSimulator$Model" "zs" "[I") ∈ lw_all := lw_in (lw_t1 (List.mem_of_getElem? (i := 80) rfl)) rfl
set_option maxRecDepth 100000 in
theorem q83 : (Jvm.Cond.arrayClass Jvm.ClassFile.FieldType.int) ∈ lw_all := lw_in (lw_t1 (List.mem_of_getElem? (i := 83) rfl)) rfl
set_option maxRecDepth 100000 in
theorem q84 : (Jvm.Cond.classLink "QualitativeSimulator" (16 : Nat) "QualitativeSimulator$Graph") ∈ lw_all := lw_in (lw_t1 (List.mem_of_getElem? (i := 84) rfl)) rfl
set_option maxRecDepth 100000 in
theorem q85 : (Jvm.Cond.instantiable "QualitativeSimulator$Graph" (13 : Nat)) ∈ lw_all := lw_in (lw_t1 (List.mem_of_getElem? (i := 85) rfl)) rfl
set_option maxRecDepth 100000 in
theorem q87 : (Jvm.Cond.instanceMethod ({ cls := "QualitativeSimulator$Graph", name := "<init>", desc := "()V" } : Jvm.MethodName)) ∈ lw_all := lw_in (lw_t1 (List.mem_of_getElem? (i := 87) rfl)) rfl
set_option maxRecDepth 100000 in
theorem q88 : (Jvm.Cond.code ({ cls := "QualitativeSimulator$Graph", name := "<init>", desc := "()V" } : Jvm.MethodName) prog_2_method_1_code (1 : Nat) (Option.none : Option Jvm.ClassFile.FieldType)) ∈ lw_all := lw_in (lw_t1 (List.mem_of_getElem? (i := 88) rfl)) rfl
set_option maxRecDepth 100000 in
theorem q89 : (Jvm.Cond.methodLink "QualitativeSimulator$Graph" (3 : Nat) ({ cls := "java/lang/Object", name := "<init>", desc := "()V" } : Jvm.MethodName)) ∈ lw_all := lw_in (lw_t1 (List.mem_of_getElem? (i := 89) rfl)) rfl
set_option maxRecDepth 100000 in
theorem q90 : (Jvm.Cond.fieldLink "QualitativeSimulator$Graph" (9 : Nat) "QualitativeSimulator$Graph" "count" "I") ∈ lw_all := lw_in (lw_t1 (List.mem_of_getElem? (i := 90) rfl)) rfl
set_option maxRecDepth 100000 in
theorem q91 : (Jvm.Cond.fieldLink "QualitativeSimulator$Search" (32 : Nat) "QualitativeSimulator$Graph" "count" "I") ∈ lw_all := lw_in (lw_t1 (List.mem_of_getElem? (i := 91) rfl)) rfl
set_option maxRecDepth 100000 in
theorem q92 : (Jvm.Cond.fieldLink "QualitativeSimulator" (92 : Nat) "QualitativeSimulator$Graph" "count" "I") ∈ lw_all := lw_in (lw_t1 (List.mem_of_getElem? (i := 92) rfl)) rfl
set_option maxRecDepth 100000 in
theorem q93 : (Jvm.Cond.fieldLink "QualitativeSimulator$Graph" (15 : Nat) "QualitativeSimulator$Graph" "firsts" "I") ∈ lw_all := lw_in (lw_t1 (List.mem_of_getElem? (i := 93) rfl)) rfl
set_option maxRecDepth 100000 in
theorem q94 : (Jvm.Cond.fieldLink "QualitativeSimulator$Search" (51 : Nat) "QualitativeSimulator$Graph" "firsts" "I") ∈ lw_all := lw_in (lw_t1 (List.mem_of_getElem? (i := 94) rfl)) rfl
set_option maxRecDepth 100000 in
theorem q96 : (Jvm.Cond.fieldLink "QualitativeSimulator$Graph" (18 : Nat) "QualitativeSimulator$Graph" "complete" "Z") ∈ lw_all := lw_in (lw_t1 (List.mem_of_getElem? (i := 96) rfl)) rfl
set_option maxRecDepth 100000 in
theorem q97 : (Jvm.Cond.fieldLink "QualitativeSimulator$Search" (35 : Nat) "QualitativeSimulator$Graph" "complete" "Z") ∈ lw_all := lw_in (lw_t1 (List.mem_of_getElem? (i := 97) rfl)) rfl
set_option maxRecDepth 100000 in
theorem q99 : (Jvm.Cond.fieldLink "QualitativeSimulator$Graph" (22 : Nat) "QualitativeSimulator$Graph" "keys" "[I") ∈ lw_all := lw_in (lw_t1 (List.mem_of_getElem? (i := 99) rfl)) rfl
set_option maxRecDepth 100000 in
theorem q100 : (Jvm.Cond.fieldLink "QualitativeSimulator$Search" (70 : Nat) "QualitativeSimulator$Graph" "keys" "[I") ∈ lw_all := lw_in (lw_t1 (List.mem_of_getElem? (i := 100) rfl)) rfl
set_option maxRecDepth 100000 in
theorem q102 : (Jvm.Cond.fieldLink "QualitativeSimulator$Graph" (26 : Nat) "QualitativeSimulator$Graph" "instants" "[Z") ∈ lw_all := lw_in (lw_t1 (List.mem_of_getElem? (i := 102) rfl)) rfl
set_option maxRecDepth 100000 in
theorem q103 : (Jvm.Cond.fieldLink "QualitativeSimulator$Search" (66 : Nat) "QualitativeSimulator$Graph" "instants" "[Z") ∈ lw_all := lw_in (lw_t1 (List.mem_of_getElem? (i := 103) rfl)) rfl
set_option maxRecDepth 100000 in
theorem q105 : (Jvm.Cond.fieldLink "QualitativeSimulator$Graph" (30 : Nat) "QualitativeSimulator$Graph" "distances" "[I") ∈ lw_all := lw_in (lw_t1 (List.mem_of_getElem? (i := 105) rfl)) rfl
set_option maxRecDepth 100000 in
theorem q107 : (Jvm.Cond.fieldLink "QualitativeSimulator$Graph" (33 : Nat) "QualitativeSimulator$Graph" "slots" "[I") ∈ lw_all := lw_in (lw_t1 (List.mem_of_getElem? (i := 107) rfl)) rfl
set_option maxRecDepth 100000 in
theorem q108 : (Jvm.Cond.fieldLink "QualitativeSimulator$Graph" (36 : Nat) "QualitativeSimulator$Graph" "starts" "[I") ∈ lw_all := lw_in (lw_t1 (List.mem_of_getElem? (i := 108) rfl)) rfl
set_option maxRecDepth 100000 in
theorem q110 : (Jvm.Cond.fieldLink "QualitativeSimulator$Graph" (39 : Nat) "QualitativeSimulator$Graph" "links" "[I") ∈ lw_all := lw_in (lw_t1 (List.mem_of_getElem? (i := 110) rfl)) rfl
set_option maxRecDepth 100000 in
theorem q112 : (Jvm.Cond.fieldLink "QualitativeSimulator$Graph" (42 : Nat) "QualitativeSimulator$Graph" "linksInAll" "I") ∈ lw_all := lw_in (lw_t1 (List.mem_of_getElem? (i := 112) rfl)) rfl
set_option maxRecDepth 100000 in
theorem q113 : (Jvm.Cond.fieldLink "QualitativeSimulator$Graph" (45 : Nat) "QualitativeSimulator$Graph" "waysNow" "[J") ∈ lw_all := lw_in (lw_t1 (List.mem_of_getElem? (i := 113) rfl)) rfl
set_option maxRecDepth 100000 in
theorem q114 : (Jvm.Cond.fieldLink "QualitativeSimulator$Graph" (49 : Nat) "QualitativeSimulator$Graph" "waysBefore" "[J") ∈ lw_all := lw_in (lw_t1 (List.mem_of_getElem? (i := 114) rfl)) rfl
set_option maxRecDepth 100000 in
theorem q115 : (Jvm.Cond.fieldLink "QualitativeSimulator$Graph" (52 : Nat) "QualitativeSimulator$Graph" "runsOut" "[Z") ∈ lw_all := lw_in (lw_t1 (List.mem_of_getElem? (i := 115) rfl)) rfl
set_option maxRecDepth 100000 in
theorem q116 : (Jvm.Cond.lays "QualitativeSimulator$Graph" "QualitativeSimulator$Graph" "count" "I") ∈ lw_all := lw_in (lw_t1 (List.mem_of_getElem? (i := 116) rfl)) rfl
set_option maxRecDepth 100000 in
theorem q118 : (Jvm.Cond.lays "QualitativeSimulator$Graph" "QualitativeSimulator$Graph" "firsts" "I") ∈ lw_all := lw_in (lw_t1 (List.mem_of_getElem? (i := 118) rfl)) rfl
set_option maxRecDepth 100000 in
theorem q120 : (Jvm.Cond.lays "QualitativeSimulator$Graph" "QualitativeSimulator$Graph" "complete" "Z") ∈ lw_all := lw_in (lw_t1 (List.mem_of_getElem? (i := 120) rfl)) rfl
set_option maxRecDepth 100000 in
theorem q122 : (Jvm.Cond.laysFinal "QualitativeSimulator$Graph" "QualitativeSimulator$Graph" "keys" "[I") ∈ lw_all := lw_in (lw_t1 (List.mem_of_getElem? (i := 122) rfl)) rfl
set_option maxRecDepth 100000 in
theorem q124 : (Jvm.Cond.laysFinal "QualitativeSimulator$Graph" "QualitativeSimulator$Graph" "instants" "[Z") ∈ lw_all := lw_in (lw_t1 (List.mem_of_getElem? (i := 124) rfl)) rfl
set_option maxRecDepth 100000 in
theorem q126 : (Jvm.Cond.laysFinal "QualitativeSimulator$Graph" "QualitativeSimulator$Graph" "distances" "[I") ∈ lw_all := lw_in (lw_t1 (List.mem_of_getElem? (i := 126) rfl)) rfl
set_option maxRecDepth 100000 in
theorem q128 : (Jvm.Cond.laysFinal "QualitativeSimulator$Graph" "QualitativeSimulator$Graph" "slots" "[I") ∈ lw_all := lw_in (lw_t1 (List.mem_of_getElem? (i := 128) rfl)) rfl
set_option maxRecDepth 100000 in
theorem q130 : (Jvm.Cond.laysFinal "QualitativeSimulator$Graph" "QualitativeSimulator$Graph" "starts" "[I") ∈ lw_all := lw_in (lw_t1 (List.mem_of_getElem? (i := 130) rfl)) rfl
set_option maxRecDepth 100000 in
theorem q132 : (Jvm.Cond.lays "QualitativeSimulator$Graph" "QualitativeSimulator$Graph" "links" "[I") ∈ lw_all := lw_in (lw_t1 (List.mem_of_getElem? (i := 132) rfl)) rfl
set_option maxRecDepth 100000 in
theorem q134 : (Jvm.Cond.lays "QualitativeSimulator$Graph" "QualitativeSimulator$Graph" "linksInAll" "I") ∈ lw_all := lw_in (lw_t1 (List.mem_of_getElem? (i := 134) rfl)) rfl
set_option maxRecDepth 100000 in
theorem q136 : (Jvm.Cond.laysFinal "QualitativeSimulator$Graph" "QualitativeSimulator$Graph" "waysNow" "[J") ∈ lw_all := lw_in (lw_t1 (List.mem_of_getElem? (i := 136) rfl)) rfl
set_option maxRecDepth 100000 in
theorem q138 : (Jvm.Cond.laysFinal "QualitativeSimulator$Graph" "QualitativeSimulator$Graph" "waysBefore" "[J") ∈ lw_all := lw_in (lw_t1 (List.mem_of_getElem? (i := 138) rfl)) rfl
set_option maxRecDepth 100000 in
theorem q140 : (Jvm.Cond.laysFinal "QualitativeSimulator$Graph" "QualitativeSimulator$Graph" "runsOut" "[Z") ∈ lw_all := lw_in (lw_t1 (List.mem_of_getElem? (i := 140) rfl)) rfl
set_option maxRecDepth 100000 in
theorem q143 : (Jvm.Cond.arrayClass Jvm.ClassFile.FieldType.boolean) ∈ lw_all := lw_in (lw_t1 (List.mem_of_getElem? (i := 143) rfl)) rfl
set_option maxRecDepth 100000 in
theorem q144 : (Jvm.Cond.arrayClass Jvm.ClassFile.FieldType.long) ∈ lw_all := lw_in (lw_t1 (List.mem_of_getElem? (i := 144) rfl)) rfl
set_option maxRecDepth 100000 in
theorem q145 : (Jvm.Cond.classLink "QualitativeSimulator" (23 : Nat) "QualitativeSimulator$Search") ∈ lw_all := lw_in (lw_t1 (List.mem_of_getElem? (i := 145) rfl)) rfl
set_option maxRecDepth 100000 in
theorem q146 : (Jvm.Cond.instantiable "QualitativeSimulator$Search" (4 : Nat)) ∈ lw_all := lw_in (lw_t1 (List.mem_of_getElem? (i := 146) rfl)) rfl
set_option maxRecDepth 100000 in
theorem q147 : (Jvm.Cond.methodLink "QualitativeSimulator" (25 : Nat) ({ cls := "QualitativeSimulator$Search", name := "<init>", desc := "(LQualitativeSimulator$Model;LQualitativeSimulator$Graph;)V" } : Jvm.MethodName)) ∈ lw_all := lw_in (lw_t1 (List.mem_of_getElem? (i := 147) rfl)) rfl
set_option maxRecDepth 100000 in
theorem q148 : (Jvm.Cond.instanceMethod ({ cls := "QualitativeSimulator$Search", name := "<init>", desc := "(LQualitativeSimulator$Model;LQualitativeSimulator$Graph;)V" } : Jvm.MethodName)) ∈ lw_all := lw_in (lw_t1 (List.mem_of_getElem? (i := 148) rfl)) rfl
set_option maxRecDepth 100000 in
theorem q149 : (Jvm.Cond.code ({ cls := "QualitativeSimulator$Search", name := "<init>", desc := "(LQualitativeSimulator$Model;LQualitativeSimulator$Graph;)V" } : Jvm.MethodName) prog_4_method_1_code (3 : Nat) (Option.none : Option Jvm.ClassFile.FieldType)) ∈ lw_all := lw_in (lw_t1 (List.mem_of_getElem? (i := 149) rfl)) rfl
set_option maxRecDepth 100000 in
theorem q150 : (Jvm.Cond.methodLink "QualitativeSimulator$Search" (3 : Nat) ({ cls := "java/lang/Object", name := "<init>", desc := "()V" } : Jvm.MethodName)) ∈ lw_all := lw_in (lw_t1 (List.mem_of_getElem? (i := 150) rfl)) rfl
set_option maxRecDepth 100000 in
theorem q151 : (Jvm.Cond.fieldLink "QualitativeSimulator$Search" (19 : Nat) "QualitativeSimulator$Search" "model" "LQualitativeSimulator$Model;") ∈ lw_all := lw_in (lw_t1 (List.mem_of_getElem? (i := 151) rfl)) rfl
set_option maxRecDepth 100000 in
theorem q152 : (Jvm.Cond.fieldLink "QualitativeSimulator$Search" (23 : Nat) "QualitativeSimulator$Search" "graph" "LQualitativeSimulator$Graph;") ∈ lw_all := lw_in (lw_t1 (List.mem_of_getElem? (i := 152) rfl)) rfl
set_option maxRecDepth 100000 in
theorem q153 : (Jvm.Cond.fieldLink "QualitativeSimulator$Search" (9 : Nat) "QualitativeSimulator$Search" "possible" "[I") ∈ lw_all := lw_in (lw_t1 (List.mem_of_getElem? (i := 153) rfl)) rfl
set_option maxRecDepth 100000 in
theorem q154 : (Jvm.Cond.fieldLink "QualitativeSimulator$Search" (15 : Nat) "QualitativeSimulator$Search" "source" "I") ∈ lw_all := lw_in (lw_t1 (List.mem_of_getElem? (i := 154) rfl)) rfl
set_option maxRecDepth 100000 in
theorem q155 : (Jvm.Cond.laysFinal "QualitativeSimulator$Search" "QualitativeSimulator$Search" "model" "LQualitativeSimulator$Model;") ∈ lw_all := lw_in (lw_t1 (List.mem_of_getElem? (i := 155) rfl)) rfl
set_option maxRecDepth 100000 in
theorem q157 : (Jvm.Cond.laysFinal "QualitativeSimulator$Search" "QualitativeSimulator$Search" "graph" "LQualitativeSimulator$Graph;") ∈ lw_all := lw_in (lw_t1 (List.mem_of_getElem? (i := 157) rfl)) rfl
set_option maxRecDepth 100000 in
theorem q159 : (Jvm.Cond.laysFinal "QualitativeSimulator$Search" "QualitativeSimulator$Search" "possible" "[I") ∈ lw_all := lw_in (lw_t1 (List.mem_of_getElem? (i := 159) rfl)) rfl
set_option maxRecDepth 100000 in
theorem q161 : (Jvm.Cond.lays "QualitativeSimulator$Search" "QualitativeSimulator$Search" "source" "I") ∈ lw_all := lw_in (lw_t1 (List.mem_of_getElem? (i := 161) rfl)) rfl
set_option maxRecDepth 100000 in
theorem q164 : (Jvm.Cond.fieldLink "QualitativeSimulator" (10 : Nat) "QualitativeSimulator" "model" "LQualitativeSimulator$Model;") ∈ lw_all := lw_in (lw_t1 (List.mem_of_getElem? (i := 164) rfl)) rfl
set_option maxRecDepth 100000 in
theorem q165 : (Jvm.Cond.fieldLink "QualitativeSimulator" (19 : Nat) "QualitativeSimulator" "graph" "LQualitativeSimulator$Graph;") ∈ lw_all := lw_in (lw_t1 (List.mem_of_getElem? (i := 165) rfl)) rfl
set_option maxRecDepth 100000 in
theorem q166 : (Jvm.Cond.fieldLink "QualitativeSimulator" (28 : Nat) "QualitativeSimulator" "search" "LQualitativeSimulator$Search;") ∈ lw_all := lw_in (lw_t1 (List.mem_of_getElem? (i := 166) rfl)) rfl
set_option maxRecDepth 100000 in
theorem q167 : (Jvm.Cond.fieldLink "QualitativeSimulator" (32 : Nat) "QualitativeSimulator" "explored" "Z") ∈ lw_all := lw_in (lw_t1 (List.mem_of_getElem? (i := 167) rfl)) rfl
set_option maxRecDepth 100000 in
theorem q168 : (Jvm.Cond.laysFinal "QualitativeSimulator" "QualitativeSimulator" "model" "LQualitativeSimulator$Model;") ∈ lw_all := lw_in (lw_t1 (List.mem_of_getElem? (i := 168) rfl)) rfl
set_option maxRecDepth 100000 in
theorem q170 : (Jvm.Cond.laysFinal "QualitativeSimulator" "QualitativeSimulator" "graph" "LQualitativeSimulator$Graph;") ∈ lw_all := lw_in (lw_t1 (List.mem_of_getElem? (i := 170) rfl)) rfl
set_option maxRecDepth 100000 in
theorem q172 : (Jvm.Cond.laysFinal "QualitativeSimulator" "QualitativeSimulator" "search" "LQualitativeSimulator$Search;") ∈ lw_all := lw_in (lw_t1 (List.mem_of_getElem? (i := 172) rfl)) rfl
set_option maxRecDepth 100000 in
theorem q174 : (Jvm.Cond.lays "QualitativeSimulator" "QualitativeSimulator" "explored" "Z") ∈ lw_all := lw_in (lw_t1 (List.mem_of_getElem? (i := 174) rfl)) rfl
set_option maxRecDepth 100000 in
theorem q189 : (Jvm.Cond.methodLink "QualitativeSimulatorLaw" (114 : Nat) ({ cls := "QualitativeSimulator", name := "explore", desc := "()I" } : Jvm.MethodName)) ∈ lw_all := lw_in (lw_t1 (List.mem_of_getElem? (i := 189) rfl)) rfl
set_option maxRecDepth 100000 in
theorem q190 : (Jvm.Cond.instanceMethod ({ cls := "QualitativeSimulator", name := "explore", desc := "()I" } : Jvm.MethodName)) ∈ lw_all := lw_in (lw_t1 (List.mem_of_getElem? (i := 190) rfl)) rfl
set_option maxRecDepth 100000 in
theorem q191 : (Jvm.Cond.selects "QualitativeSimulator" ({ cls := "QualitativeSimulator", name := "explore", desc := "()I" } : Jvm.MethodName) ({ cls := "QualitativeSimulator", name := "explore", desc := "()I" } : Jvm.MethodName)) ∈ lw_all := lw_in (lw_t1 (List.mem_of_getElem? (i := 191) rfl)) rfl
set_option maxRecDepth 100000 in
theorem q192 : (Jvm.Cond.code ({ cls := "QualitativeSimulator", name := "explore", desc := "()I" } : Jvm.MethodName) prog_1_method_9_code (1 : Nat) (Option.some Jvm.ClassFile.FieldType.int)) ∈ lw_all := lw_in (lw_t1 (List.mem_of_getElem? (i := 192) rfl)) rfl
set_option maxRecDepth 100000 in
theorem q193 : (Jvm.Cond.methodLink "QualitativeSimulator" (89 : Nat) ({ cls := "QualitativeSimulator$Search", name := "exploreAll", desc := "()V" } : Jvm.MethodName)) ∈ lw_all := lw_in (lw_t1 (List.mem_of_getElem? (i := 193) rfl)) rfl
set_option maxRecDepth 100000 in
theorem q194 : (Jvm.Cond.instanceMethod ({ cls := "QualitativeSimulator$Search", name := "exploreAll", desc := "()V" } : Jvm.MethodName)) ∈ lw_all := lw_in (lw_t1 (List.mem_of_getElem? (i := 194) rfl)) rfl
set_option maxRecDepth 100000 in
theorem q195 : (Jvm.Cond.selects "QualitativeSimulator$Search" ({ cls := "QualitativeSimulator$Search", name := "exploreAll", desc := "()V" } : Jvm.MethodName) ({ cls := "QualitativeSimulator$Search", name := "exploreAll", desc := "()V" } : Jvm.MethodName)) ∈ lw_all := lw_in (lw_t1 (List.mem_of_getElem? (i := 195) rfl)) rfl
set_option maxRecDepth 100000 in
theorem q196 : (Jvm.Cond.code ({ cls := "QualitativeSimulator$Search", name := "exploreAll", desc := "()V" } : Jvm.MethodName) prog_4_method_2_code (2 : Nat) (Option.none : Option Jvm.ClassFile.FieldType)) ∈ lw_all := lw_in (lw_t1 (List.mem_of_getElem? (i := 196) rfl)) rfl
set_option maxRecDepth 100000 in
theorem q197 : (Jvm.Cond.methodLink "QualitativeSimulator$Search" (27 : Nat) ({ cls := "QualitativeSimulator$Graph", name := "clear", desc := "()V" } : Jvm.MethodName)) ∈ lw_all := lw_in (lw_t1 (List.mem_of_getElem? (i := 197) rfl)) rfl
set_option maxRecDepth 100000 in
theorem q198 : (Jvm.Cond.instanceMethod ({ cls := "QualitativeSimulator$Graph", name := "clear", desc := "()V" } : Jvm.MethodName)) ∈ lw_all := lw_in (lw_t1 (List.mem_of_getElem? (i := 198) rfl)) rfl
set_option maxRecDepth 100000 in
theorem q199 : (Jvm.Cond.selects "QualitativeSimulator$Graph" ({ cls := "QualitativeSimulator$Graph", name := "clear", desc := "()V" } : Jvm.MethodName) ({ cls := "QualitativeSimulator$Graph", name := "clear", desc := "()V" } : Jvm.MethodName)) ∈ lw_all := lw_in (lw_t1 (List.mem_of_getElem? (i := 199) rfl)) rfl
set_option maxRecDepth 100000 in
theorem q200 : (Jvm.Cond.code ({ cls := "QualitativeSimulator$Graph", name := "clear", desc := "()V" } : Jvm.MethodName) prog_2_method_2_code (1 : Nat) (Option.none : Option Jvm.ClassFile.FieldType)) ∈ lw_all := lw_in (lw_t1 (List.mem_of_getElem? (i := 200) rfl)) rfl
set_option maxRecDepth 100000 in
theorem q201 : (Jvm.Cond.methodLink "QualitativeSimulator$Graph" (55 : Nat) ({ cls := "java/util/Arrays", name := "fill", desc := "([II)V" } : Jvm.MethodName)) ∈ lw_all := lw_in (lw_t1 (List.mem_of_getElem? (i := 201) rfl)) rfl
set_option maxRecDepth 100000 in
theorem q202 : (Jvm.Cond.static ({ cls := "java/util/Arrays", name := "fill", desc := "([II)V" } : Jvm.MethodName)) ∈ lw_all := lw_in (lw_t1 (List.mem_of_getElem? (i := 202) rfl)) rfl
set_option maxRecDepth 100000 in
theorem q203 : (Jvm.Cond.code ({ cls := "java/util/Arrays", name := "fill", desc := "([II)V" } : Jvm.MethodName) prog_18_method_103_code (4 : Nat) (Option.none : Option Jvm.ClassFile.FieldType)) ∈ lw_all := lw_in (lw_t1 (List.mem_of_getElem? (i := 203) rfl)) rfl
set_option maxRecDepth 100000 in
theorem q204 : (Jvm.Cond.methodLink "QualitativeSimulator$Search" (39 : Nat) ({ cls := "QualitativeSimulator$Search", name := "setToFollowing", desc := "(I)V" } : Jvm.MethodName)) ∈ lw_all := lw_in (lw_t1 (List.mem_of_getElem? (i := 204) rfl)) rfl
set_option maxRecDepth 100000 in
theorem q206 : (Jvm.Cond.instanceMethod ({ cls := "QualitativeSimulator$Search", name := "setToFollowing", desc := "(I)V" } : Jvm.MethodName)) ∈ lw_all := lw_in (lw_t1 (List.mem_of_getElem? (i := 206) rfl)) rfl
set_option maxRecDepth 100000 in
theorem q207 : (Jvm.Cond.code ({ cls := "QualitativeSimulator$Search", name := "setToFollowing", desc := "(I)V" } : Jvm.MethodName) prog_4_method_3_code (3 : Nat) (Option.none : Option Jvm.ClassFile.FieldType)) ∈ lw_all := lw_in (lw_t1 (List.mem_of_getElem? (i := 207) rfl)) rfl
set_option maxRecDepth 100000 in
theorem q238 : (Jvm.Cond.methodLink "QualitativeSimulator$Search" (43 : Nat) ({ cls := "QualitativeSimulator$Search", name := "narrowUntilStable", desc := "()Z" } : Jvm.MethodName)) ∈ lw_all := lw_in (lw_t1 (List.mem_of_getElem? (i := 238) rfl)) rfl
set_option maxRecDepth 100000 in
theorem q240 : (Jvm.Cond.instanceMethod ({ cls := "QualitativeSimulator$Search", name := "narrowUntilStable", desc := "()Z" } : Jvm.MethodName)) ∈ lw_all := lw_in (lw_t2 (List.mem_of_getElem? (i := 0) rfl)) rfl
set_option maxRecDepth 100000 in
theorem q241 : (Jvm.Cond.code ({ cls := "QualitativeSimulator$Search", name := "narrowUntilStable", desc := "()Z" } : Jvm.MethodName) prog_4_method_4_code (4 : Nat) (Option.some Jvm.ClassFile.FieldType.boolean)) ∈ lw_all := lw_in (lw_t2 (List.mem_of_getElem? (i := 1) rfl)) rfl
set_option maxRecDepth 100000 in
theorem q242 : (Jvm.Cond.methodLink "QualitativeSimulator$Search" (83 : Nat) ({ cls := "QualitativeSimulator$Search", name := "codesLeft", desc := "()I" } : Jvm.MethodName)) ∈ lw_all := lw_in (lw_t2 (List.mem_of_getElem? (i := 2) rfl)) rfl
set_option maxRecDepth 100000 in
theorem q244 : (Jvm.Cond.instanceMethod ({ cls := "QualitativeSimulator$Search", name := "codesLeft", desc := "()I" } : Jvm.MethodName)) ∈ lw_all := lw_in (lw_t2 (List.mem_of_getElem? (i := 4) rfl)) rfl
set_option maxRecDepth 100000 in
theorem q245 : (Jvm.Cond.code ({ cls := "QualitativeSimulator$Search", name := "codesLeft", desc := "()I" } : Jvm.MethodName) prog_4_method_5_code (3 : Nat) (Option.some Jvm.ClassFile.FieldType.int)) ∈ lw_all := lw_in (lw_t2 (List.mem_of_getElem? (i := 5) rfl)) rfl
set_option maxRecDepth 100000 in
theorem q310 : (Jvm.Cond.methodLink "QualitativeSimulator$Search" (47 : Nat) ({ cls := "QualitativeSimulator$Search", name := "bindFrom", desc := "(II)V" } : Jvm.MethodName)) ∈ lw_all := lw_in (lw_t2 (List.mem_of_getElem? (i := 70) rfl)) rfl
set_option maxRecDepth 100000 in
theorem q312 : (Jvm.Cond.instanceMethod ({ cls := "QualitativeSimulator$Search", name := "bindFrom", desc := "(II)V" } : Jvm.MethodName)) ∈ lw_all := lw_in (lw_t2 (List.mem_of_getElem? (i := 72) rfl)) rfl
set_option maxRecDepth 100000 in
theorem q313 : (Jvm.Cond.code ({ cls := "QualitativeSimulator$Search", name := "bindFrom", desc := "(II)V" } : Jvm.MethodName) prog_4_method_6_code (5 : Nat) (Option.none : Option Jvm.ClassFile.FieldType)) ∈ lw_all := lw_in (lw_t2 (List.mem_of_getElem? (i := 73) rfl)) rfl
set_option maxRecDepth 100000 in
theorem q314 : (Jvm.Cond.methodLink "QualitativeSimulator$Search" (99 : Nat) ({ cls := "QualitativeSimulator$Graph", name := "meet", desc := "(II)V" } : Jvm.MethodName)) ∈ lw_all := lw_in (lw_t2 (List.mem_of_getElem? (i := 74) rfl)) rfl
set_option maxRecDepth 100000 in
theorem q315 : (Jvm.Cond.instanceMethod ({ cls := "QualitativeSimulator$Graph", name := "meet", desc := "(II)V" } : Jvm.MethodName)) ∈ lw_all := lw_in (lw_t2 (List.mem_of_getElem? (i := 75) rfl)) rfl
set_option maxRecDepth 100000 in
theorem q316 : (Jvm.Cond.selects "QualitativeSimulator$Graph" ({ cls := "QualitativeSimulator$Graph", name := "meet", desc := "(II)V" } : Jvm.MethodName) ({ cls := "QualitativeSimulator$Graph", name := "meet", desc := "(II)V" } : Jvm.MethodName)) ∈ lw_all := lw_in (lw_t2 (List.mem_of_getElem? (i := 76) rfl)) rfl
set_option maxRecDepth 100000 in
theorem q317 : (Jvm.Cond.code ({ cls := "QualitativeSimulator$Graph", name := "meet", desc := "(II)V" } : Jvm.MethodName) prog_2_method_3_code (7 : Nat) (Option.none : Option Jvm.ClassFile.FieldType)) ∈ lw_all := lw_in (lw_t2 (List.mem_of_getElem? (i := 77) rfl)) rfl
set_option maxRecDepth 100000 in
theorem q318 : (Jvm.Cond.constant "QualitativeSimulator$Graph" (61 : Nat) (-1640531535 : Int32)) ∈ lw_all := lw_in (lw_t2 (List.mem_of_getElem? (i := 78) rfl)) rfl
set_option maxRecDepth 100000 in
theorem q319 : (Jvm.Cond.methodLink "QualitativeSimulator$Graph" (62 : Nat) ({ cls := "QualitativeSimulator$Graph", name := "append", desc := "(IZII)V" } : Jvm.MethodName)) ∈ lw_all := lw_in (lw_t2 (List.mem_of_getElem? (i := 79) rfl)) rfl
set_option maxRecDepth 100000 in
theorem q321 : (Jvm.Cond.instanceMethod ({ cls := "QualitativeSimulator$Graph", name := "append", desc := "(IZII)V" } : Jvm.MethodName)) ∈ lw_all := lw_in (lw_t2 (List.mem_of_getElem? (i := 81) rfl)) rfl
set_option maxRecDepth 100000 in
theorem q322 : (Jvm.Cond.code ({ cls := "QualitativeSimulator$Graph", name := "append", desc := "(IZII)V" } : Jvm.MethodName) prog_2_method_4_code (5 : Nat) (Option.none : Option Jvm.ClassFile.FieldType)) ∈ lw_all := lw_in (lw_t2 (List.mem_of_getElem? (i := 82) rfl)) rfl
set_option maxRecDepth 100000 in
theorem q331 : (Jvm.Cond.methodLink "QualitativeSimulator$Search" (54 : Nat) ({ cls := "QualitativeSimulator$Search", name := "linkAll", desc := "()V" } : Jvm.MethodName)) ∈ lw_all := lw_in (lw_t2 (List.mem_of_getElem? (i := 91) rfl)) rfl
set_option maxRecDepth 100000 in
theorem q333 : (Jvm.Cond.instanceMethod ({ cls := "QualitativeSimulator$Search", name := "linkAll", desc := "()V" } : Jvm.MethodName)) ∈ lw_all := lw_in (lw_t2 (List.mem_of_getElem? (i := 93) rfl)) rfl
set_option maxRecDepth 100000 in
theorem q334 : (Jvm.Cond.code ({ cls := "QualitativeSimulator$Search", name := "linkAll", desc := "()V" } : Jvm.MethodName) prog_4_method_20_code (3 : Nat) (Option.none : Option Jvm.ClassFile.FieldType)) ∈ lw_all := lw_in (lw_t2 (List.mem_of_getElem? (i := 94) rfl)) rfl
set_option maxRecDepth 100000 in
theorem q335 : (Jvm.Cond.methodLink "QualitativeSimulator$Search" (166 : Nat) ({ cls := "QualitativeSimulator$Graph", name := "beginLinks", desc := "(I)V" } : Jvm.MethodName)) ∈ lw_all := lw_in (lw_t2 (List.mem_of_getElem? (i := 95) rfl)) rfl
set_option maxRecDepth 100000 in
theorem q336 : (Jvm.Cond.instanceMethod ({ cls := "QualitativeSimulator$Graph", name := "beginLinks", desc := "(I)V" } : Jvm.MethodName)) ∈ lw_all := lw_in (lw_t2 (List.mem_of_getElem? (i := 96) rfl)) rfl
set_option maxRecDepth 100000 in
theorem q337 : (Jvm.Cond.selects "QualitativeSimulator$Graph" ({ cls := "QualitativeSimulator$Graph", name := "beginLinks", desc := "(I)V" } : Jvm.MethodName) ({ cls := "QualitativeSimulator$Graph", name := "beginLinks", desc := "(I)V" } : Jvm.MethodName)) ∈ lw_all := lw_in (lw_t2 (List.mem_of_getElem? (i := 97) rfl)) rfl
set_option maxRecDepth 100000 in
theorem q338 : (Jvm.Cond.code ({ cls := "QualitativeSimulator$Graph", name := "beginLinks", desc := "(I)V" } : Jvm.MethodName) prog_2_method_5_code (2 : Nat) (Option.none : Option Jvm.ClassFile.FieldType)) ∈ lw_all := lw_in (lw_t2 (List.mem_of_getElem? (i := 98) rfl)) rfl
set_option maxRecDepth 100000 in
theorem q353 : (Jvm.Cond.static ({ cls := "java/lang/System", name := "arraycopy", desc := "(Ljava/lang/Object;ILjava/lang/Object;II)V" } : Jvm.MethodName)) ∈ lw_all := lw_in (lw_t2 (List.mem_of_getElem? (i := 113) rfl)) rfl
set_option maxRecDepth 100000 in
theorem q354 : (Jvm.Cond.native ({ cls := "java/lang/System", name := "arraycopy", desc := "(Ljava/lang/Object;ILjava/lang/Object;II)V" } : Jvm.MethodName)) ∈ lw_all := lw_in (lw_t2 (List.mem_of_getElem? (i := 114) rfl)) rfl
set_option maxRecDepth 100000 in
theorem q355 : (Jvm.Cond.methodLink "QualitativeSimulator$Search" (169 : Nat) ({ cls := "QualitativeSimulator$Search", name := "canFollow", desc := "(II)Z" } : Jvm.MethodName)) ∈ lw_all := lw_in (lw_t2 (List.mem_of_getElem? (i := 115) rfl)) rfl
set_option maxRecDepth 100000 in
theorem q357 : (Jvm.Cond.instanceMethod ({ cls := "QualitativeSimulator$Search", name := "canFollow", desc := "(II)Z" } : Jvm.MethodName)) ∈ lw_all := lw_in (lw_t2 (List.mem_of_getElem? (i := 117) rfl)) rfl
set_option maxRecDepth 100000 in
theorem q358 : (Jvm.Cond.code ({ cls := "QualitativeSimulator$Search", name := "canFollow", desc := "(II)Z" } : Jvm.MethodName) prog_4_method_21_code (5 : Nat) (Option.some Jvm.ClassFile.FieldType.boolean)) ∈ lw_all := lw_in (lw_t2 (List.mem_of_getElem? (i := 118) rfl)) rfl
set_option maxRecDepth 100000 in
theorem q359 : (Jvm.Cond.methodLink "QualitativeSimulator$Search" (172 : Nat) ({ cls := "QualitativeSimulator$Graph", name := "link", desc := "(I)V" } : Jvm.MethodName)) ∈ lw_all := lw_in (lw_t2 (List.mem_of_getElem? (i := 119) rfl)) rfl
set_option maxRecDepth 100000 in
theorem q360 : (Jvm.Cond.instanceMethod ({ cls := "QualitativeSimulator$Graph", name := "link", desc := "(I)V" } : Jvm.MethodName)) ∈ lw_all := lw_in (lw_t2 (List.mem_of_getElem? (i := 120) rfl)) rfl
set_option maxRecDepth 100000 in
theorem q361 : (Jvm.Cond.selects "QualitativeSimulator$Graph" ({ cls := "QualitativeSimulator$Graph", name := "link", desc := "(I)V" } : Jvm.MethodName) ({ cls := "QualitativeSimulator$Graph", name := "link", desc := "(I)V" } : Jvm.MethodName)) ∈ lw_all := lw_in (lw_t2 (List.mem_of_getElem? (i := 121) rfl)) rfl
set_option maxRecDepth 100000 in
theorem q362 : (Jvm.Cond.code ({ cls := "QualitativeSimulator$Graph", name := "link", desc := "(I)V" } : Jvm.MethodName) prog_2_method_6_code (2 : Nat) (Option.none : Option Jvm.ClassFile.FieldType)) ∈ lw_all := lw_in (lw_t2 (List.mem_of_getElem? (i := 122) rfl)) rfl
set_option maxRecDepth 100000 in
theorem q363 : (Jvm.Cond.methodLink "QualitativeSimulator$Search" (175 : Nat) ({ cls := "QualitativeSimulator$Graph", name := "endLinks", desc := "()V" } : Jvm.MethodName)) ∈ lw_all := lw_in (lw_t2 (List.mem_of_getElem? (i := 123) rfl)) rfl
set_option maxRecDepth 100000 in
theorem q364 : (Jvm.Cond.instanceMethod ({ cls := "QualitativeSimulator$Graph", name := "endLinks", desc := "()V" } : Jvm.MethodName)) ∈ lw_all := lw_in (lw_t2 (List.mem_of_getElem? (i := 124) rfl)) rfl
set_option maxRecDepth 100000 in
theorem q365 : (Jvm.Cond.selects "QualitativeSimulator$Graph" ({ cls := "QualitativeSimulator$Graph", name := "endLinks", desc := "()V" } : Jvm.MethodName) ({ cls := "QualitativeSimulator$Graph", name := "endLinks", desc := "()V" } : Jvm.MethodName)) ∈ lw_all := lw_in (lw_t2 (List.mem_of_getElem? (i := 125) rfl)) rfl
set_option maxRecDepth 100000 in
theorem q366 : (Jvm.Cond.code ({ cls := "QualitativeSimulator$Graph", name := "endLinks", desc := "()V" } : Jvm.MethodName) prog_2_method_7_code (1 : Nat) (Option.none : Option Jvm.ClassFile.FieldType)) ∈ lw_all := lw_in (lw_t2 (List.mem_of_getElem? (i := 126) rfl)) rfl
set_option maxRecDepth 100000 in
theorem q556 : (Jvm.Cond.methodLink "QualitativeSimulator" (95 : Nat) ({ cls := "QualitativeSimulator", name := "requireExploration", desc := "()V" } : Jvm.MethodName)) ∈ lw_all := lw_in (lw_t3 (List.mem_of_getElem? (i := 76) rfl)) rfl
set_option maxRecDepth 100000 in
theorem q558 : (Jvm.Cond.instanceMethod ({ cls := "QualitativeSimulator", name := "requireExploration", desc := "()V" } : Jvm.MethodName)) ∈ lw_all := lw_in (lw_t3 (List.mem_of_getElem? (i := 78) rfl)) rfl
set_option maxRecDepth 100000 in
theorem q559 : (Jvm.Cond.code ({ cls := "QualitativeSimulator", name := "requireExploration", desc := "()V" } : Jvm.MethodName) prog_1_method_27_code (1 : Nat) (Option.none : Option Jvm.ClassFile.FieldType)) ∈ lw_all := lw_in (lw_t3 (List.mem_of_getElem? (i := 79) rfl)) rfl
set_option maxRecDepth 100000 in
theorem q657 : (Jvm.Cond.methodLink "QualitativeSimulatorLaw" (162 : Nat) ({ cls := "QualitativeSimulatorLaw", name := "ways", desc := "(LQualitativeSimulator;I[J)I" } : Jvm.MethodName)) ∈ lw_all := lw_in (lw_t3 (List.mem_of_getElem? (i := 177) rfl)) rfl
set_option maxRecDepth 100000 in
theorem q658 : (Jvm.Cond.static ({ cls := "QualitativeSimulatorLaw", name := "ways", desc := "(LQualitativeSimulator;I[J)I" } : Jvm.MethodName)) ∈ lw_all := lw_in (lw_t3 (List.mem_of_getElem? (i := 178) rfl)) rfl
set_option maxRecDepth 100000 in
theorem q659 : (Jvm.Cond.codeWith ({ cls := "QualitativeSimulatorLaw", name := "ways", desc := "(LQualitativeSimulator;I[J)I" } : Jvm.MethodName) method_20_code (4 : Nat) (Option.some Jvm.ClassFile.FieldType.int) [((0 : Nat), (8 : Nat), (11 : Nat), (15 : Nat)), ((0 : Nat), (8 : Nat), (14 : Nat), (13 : Nat))]) ∈ lw_all := lw_in (lw_t3 (List.mem_of_getElem? (i := 179) rfl)) rfl
set_option maxRecDepth 100000 in
theorem q660 : (Jvm.Cond.methodLink "QualitativeSimulatorLaw" (73 : Nat) ({ cls := "QualitativeSimulator", name := "ways", desc := "(I)J" } : Jvm.MethodName)) ∈ lw_all := lw_in (lw_t3 (List.mem_of_getElem? (i := 180) rfl)) rfl
set_option maxRecDepth 100000 in
theorem q661 : (Jvm.Cond.instanceMethod ({ cls := "QualitativeSimulator", name := "ways", desc := "(I)J" } : Jvm.MethodName)) ∈ lw_all := lw_in (lw_t3 (List.mem_of_getElem? (i := 181) rfl)) rfl
set_option maxRecDepth 100000 in
theorem q662 : (Jvm.Cond.selects "QualitativeSimulator" ({ cls := "QualitativeSimulator", name := "ways", desc := "(I)J" } : Jvm.MethodName) ({ cls := "QualitativeSimulator", name := "ways", desc := "(I)J" } : Jvm.MethodName)) ∈ lw_all := lw_in (lw_t3 (List.mem_of_getElem? (i := 182) rfl)) rfl
set_option maxRecDepth 100000 in
theorem q663 : (Jvm.Cond.code ({ cls := "QualitativeSimulator", name := "ways", desc := "(I)J" } : Jvm.MethodName) prog_1_method_23_code (2 : Nat) (Option.some Jvm.ClassFile.FieldType.long)) ∈ lw_all := lw_in (lw_t3 (List.mem_of_getElem? (i := 183) rfl)) rfl
set_option maxRecDepth 100000 in
theorem q665 : (Jvm.Cond.methodLink "QualitativeSimulator" (151 : Nat) ({ cls := "QualitativeSimulator$Graph", name := "countWays", desc := "(I)J" } : Jvm.MethodName)) ∈ lw_all := lw_in (lw_t3 (List.mem_of_getElem? (i := 185) rfl)) rfl
set_option maxRecDepth 100000 in
theorem q666 : (Jvm.Cond.instanceMethod ({ cls := "QualitativeSimulator$Graph", name := "countWays", desc := "(I)J" } : Jvm.MethodName)) ∈ lw_all := lw_in (lw_t3 (List.mem_of_getElem? (i := 186) rfl)) rfl
set_option maxRecDepth 100000 in
theorem q667 : (Jvm.Cond.selects "QualitativeSimulator$Graph" ({ cls := "QualitativeSimulator$Graph", name := "countWays", desc := "(I)J" } : Jvm.MethodName) ({ cls := "QualitativeSimulator$Graph", name := "countWays", desc := "(I)J" } : Jvm.MethodName)) ∈ lw_all := lw_in (lw_t3 (List.mem_of_getElem? (i := 187) rfl)) rfl
set_option maxRecDepth 100000 in
theorem q668 : (Jvm.Cond.code ({ cls := "QualitativeSimulator$Graph", name := "countWays", desc := "(I)J" } : Jvm.MethodName) prog_2_method_11_code (7 : Nat) (Option.some Jvm.ClassFile.FieldType.long)) ∈ lw_all := lw_in (lw_t3 (List.mem_of_getElem? (i := 188) rfl)) rfl
set_option maxRecDepth 100000 in
theorem q669 : (Jvm.Cond.methodLink "QualitativeSimulator$Graph" (74 : Nat) ({ cls := "java/util/Arrays", name := "fill", desc := "([JJ)V" } : Jvm.MethodName)) ∈ lw_all := lw_in (lw_t3 (List.mem_of_getElem? (i := 189) rfl)) rfl
set_option maxRecDepth 100000 in
theorem q670 : (Jvm.Cond.static ({ cls := "java/util/Arrays", name := "fill", desc := "([JJ)V" } : Jvm.MethodName)) ∈ lw_all := lw_in (lw_t3 (List.mem_of_getElem? (i := 190) rfl)) rfl
set_option maxRecDepth 100000 in
theorem q671 : (Jvm.Cond.code ({ cls := "java/util/Arrays", name := "fill", desc := "([JJ)V" } : Jvm.MethodName) prog_18_method_101_code (5 : Nat) (Option.none : Option Jvm.ClassFile.FieldType)) ∈ lw_all := lw_in (lw_t3 (List.mem_of_getElem? (i := 191) rfl)) rfl
set_option maxRecDepth 100000 in
theorem q672 : (Jvm.Cond.methodLink "QualitativeSimulator$Graph" (77 : Nat) ({ cls := "java/lang/System", name := "arraycopy", desc := "(Ljava/lang/Object;ILjava/lang/Object;II)V" } : Jvm.MethodName)) ∈ lw_all := lw_in (lw_t3 (List.mem_of_getElem? (i := 192) rfl)) rfl
set_option maxRecDepth 100000 in
theorem q680 : (Jvm.Cond.classLink "QualitativeSimulatorLaw" (82 : Nat) "QualitativeSimulatorModel") ∈ lw_all := lw_in (lw_t3 (List.mem_of_getElem? (i := 200) rfl)) rfl
set_option maxRecDepth 100000 in
theorem q681 : (Jvm.Cond.instantiable "QualitativeSimulatorModel" (20 : Nat)) ∈ lw_all := lw_in (lw_t3 (List.mem_of_getElem? (i := 201) rfl)) rfl
set_option maxRecDepth 100000 in
theorem q682 : (Jvm.Cond.methodLink "QualitativeSimulatorLaw" (84 : Nat) ({ cls := "QualitativeSimulatorModel", name := "<init>", desc := "()V" } : Jvm.MethodName)) ∈ lw_all := lw_in (lw_t3 (List.mem_of_getElem? (i := 202) rfl)) rfl
set_option maxRecDepth 100000 in
theorem q683 : (Jvm.Cond.instanceMethod ({ cls := "QualitativeSimulatorModel", name := "<init>", desc := "()V" } : Jvm.MethodName)) ∈ lw_all := lw_in (lw_t3 (List.mem_of_getElem? (i := 203) rfl)) rfl
set_option maxRecDepth 100000 in
theorem q684 : (Jvm.Cond.code ({ cls := "QualitativeSimulatorModel", name := "<init>", desc := "()V" } : Jvm.MethodName) prog_6_method_1_code (1 : Nat) (Option.none : Option Jvm.ClassFile.FieldType)) ∈ lw_all := lw_in (lw_t3 (List.mem_of_getElem? (i := 204) rfl)) rfl
set_option maxRecDepth 100000 in
theorem q685 : (Jvm.Cond.methodLink "QualitativeSimulatorModel" (1 : Nat) ({ cls := "java/lang/Object", name := "<init>", desc := "()V" } : Jvm.MethodName)) ∈ lw_all := lw_in (lw_t3 (List.mem_of_getElem? (i := 205) rfl)) rfl
set_option maxRecDepth 100000 in
theorem q686 : (Jvm.Cond.constant "QualitativeSimulatorModel" (40 : Nat) (62500 : Int32)) ∈ lw_all := lw_in (lw_t3 (List.mem_of_getElem? (i := 206) rfl)) rfl
set_option maxRecDepth 100000 in
theorem q687 : (Jvm.Cond.fieldLink "QualitativeSimulatorModel" (51 : Nat) "QualitativeSimulatorModel" "thrown" "I") ∈ lw_all := lw_in (lw_t3 (List.mem_of_getElem? (i := 207) rfl)) rfl
set_option maxRecDepth 100000 in
theorem q688 : (Jvm.Cond.fieldLink "QualitativeSimulatorModel" (55 : Nat) "QualitativeSimulatorModel" "variables" "I") ∈ lw_all := lw_in (lw_t3 (List.mem_of_getElem? (i := 208) rfl)) rfl
set_option maxRecDepth 100000 in
theorem q689 : (Jvm.Cond.fieldLink "QualitativeSimulatorModel" (9 : Nat) "QualitativeSimulatorModel" "landmarks" "[I") ∈ lw_all := lw_in (lw_t3 (List.mem_of_getElem? (i := 209) rfl)) rfl
set_option maxRecDepth 100000 in
theorem q690 : (Jvm.Cond.fieldLink "QualitativeSimulatorModel" (13 : Nat) "QualitativeSimulatorModel" "zeros" "[I") ∈ lw_all := lw_in (lw_t3 (List.mem_of_getElem? (i := 210) rfl)) rfl
set_option maxRecDepth 100000 in
theorem q691 : (Jvm.Cond.fieldLink "QualitativeSimulatorModel" (16 : Nat) "QualitativeSimulatorModel" "givenValues" "[I") ∈ lw_all := lw_in (lw_t3 (List.mem_of_getElem? (i := 211) rfl)) rfl
set_option maxRecDepth 100000 in
theorem q692 : (Jvm.Cond.fieldLink "QualitativeSimulatorModel" (19 : Nat) "QualitativeSimulatorModel" "givenDirections" "[I") ∈ lw_all := lw_in (lw_t3 (List.mem_of_getElem? (i := 212) rfl)) rfl
set_option maxRecDepth 100000 in
theorem q693 : (Jvm.Cond.fieldLink "QualitativeSimulatorModel" (70 : Nat) "QualitativeSimulatorModel" "constraints" "I") ∈ lw_all := lw_in (lw_t3 (List.mem_of_getElem? (i := 213) rfl)) rfl
set_option maxRecDepth 100000 in
theorem q694 : (Jvm.Cond.fieldLink "QualitativeSimulatorModel" (22 : Nat) "QualitativeSimulatorModel" "kinds" "[I") ∈ lw_all := lw_in (lw_t3 (List.mem_of_getElem? (i := 214) rfl)) rfl
set_option maxRecDepth 100000 in
theorem q695 : (Jvm.Cond.fieldLink "QualitativeSimulatorModel" (25 : Nat) "QualitativeSimulatorModel" "xs" "[I") ∈ lw_all := lw_in (lw_t3 (List.mem_of_getElem? (i := 215) rfl)) rfl
set_option maxRecDepth 100000 in
theorem q696 : (Jvm.Cond.fieldLink "QualitativeSimulatorModel" (28 : Nat) "QualitativeSimulatorModel" "ys" "[I") ∈ lw_all := lw_in (lw_t3 (List.mem_of_getElem? (i := 216) rfl)) rfl
set_option maxRecDepth 100000 in
theorem q697 : (Jvm.Cond.fieldLink "QualitativeSimulatorModel" (31 : Nat) "QualitativeSimulatorModel" "zs" "[I") ∈ lw_all := lw_in (lw_t3 (List.mem_of_getElem? (i := 217) rfl)) rfl
set_option maxRecDepth 100000 in
theorem q698 : (Jvm.Cond.fieldLink "QualitativeSimulatorModel" (62 : Nat) "QualitativeSimulatorModel" "isExplored" "Z") ∈ lw_all := lw_in (lw_t3 (List.mem_of_getElem? (i := 218) rfl)) rfl
set_option maxRecDepth 100000 in
theorem q699 : (Jvm.Cond.fieldLink "QualitativeSimulatorModel" (114 : Nat) "QualitativeSimulatorModel" "isComplete" "Z") ∈ lw_all := lw_in (lw_t3 (List.mem_of_getElem? (i := 219) rfl)) rfl
set_option maxRecDepth 100000 in
theorem q700 : (Jvm.Cond.fieldLink "QualitativeSimulatorModel" (108 : Nat) "QualitativeSimulatorModel" "states" "I") ∈ lw_all := lw_in (lw_t3 (List.mem_of_getElem? (i := 220) rfl)) rfl
set_option maxRecDepth 100000 in
theorem q701 : (Jvm.Cond.fieldLink "QualitativeSimulatorModel" (133 : Nat) "QualitativeSimulatorModel" "firsts" "I") ∈ lw_all := lw_in (lw_t3 (List.mem_of_getElem? (i := 221) rfl)) rfl
set_option maxRecDepth 100000 in
theorem q702 : (Jvm.Cond.fieldLink "QualitativeSimulatorModel" (34 : Nat) "QualitativeSimulatorModel" "codes" "[I") ∈ lw_all := lw_in (lw_t3 (List.mem_of_getElem? (i := 222) rfl)) rfl
set_option maxRecDepth 100000 in
theorem q703 : (Jvm.Cond.fieldLink "QualitativeSimulatorModel" (37 : Nat) "QualitativeSimulatorModel" "distances" "[I") ∈ lw_all := lw_in (lw_t3 (List.mem_of_getElem? (i := 223) rfl)) rfl
set_option maxRecDepth 100000 in
theorem q704 : (Jvm.Cond.fieldLink "QualitativeSimulatorModel" (41 : Nat) "QualitativeSimulatorModel" "edges" "[Z") ∈ lw_all := lw_in (lw_t3 (List.mem_of_getElem? (i := 224) rfl)) rfl
set_option maxRecDepth 100000 in
theorem q705 : (Jvm.Cond.fieldLink "QualitativeSimulatorModel" (45 : Nat) "QualitativeSimulatorModel" "choices" "[I") ∈ lw_all := lw_in (lw_t3 (List.mem_of_getElem? (i := 225) rfl)) rfl
set_option maxRecDepth 100000 in
theorem q706 : (Jvm.Cond.fieldLink "QualitativeSimulatorModel" (48 : Nat) "QualitativeSimulatorModel" "choiceCounts" "[I") ∈ lw_all := lw_in (lw_t3 (List.mem_of_getElem? (i := 226) rfl)) rfl
set_option maxRecDepth 100000 in
theorem q707 : (Jvm.Cond.lays "QualitativeSimulatorModel" "QualitativeSimulatorModel" "thrown" "I") ∈ lw_all := lw_in (lw_t3 (List.mem_of_getElem? (i := 227) rfl)) rfl
set_option maxRecDepth 100000 in
theorem q709 : (Jvm.Cond.lays "QualitativeSimulatorModel" "QualitativeSimulatorModel" "variables" "I") ∈ lw_all := lw_in (lw_t3 (List.mem_of_getElem? (i := 229) rfl)) rfl
set_option maxRecDepth 100000 in
theorem q711 : (Jvm.Cond.laysFinal "QualitativeSimulatorModel" "QualitativeSimulatorModel" "landmarks" "[I") ∈ lw_all := lw_in (lw_t3 (List.mem_of_getElem? (i := 231) rfl)) rfl
set_option maxRecDepth 100000 in
theorem q713 : (Jvm.Cond.laysFinal "QualitativeSimulatorModel" "QualitativeSimulatorModel" "zeros" "[I") ∈ lw_all := lw_in (lw_t3 (List.mem_of_getElem? (i := 233) rfl)) rfl
set_option maxRecDepth 100000 in
theorem q715 : (Jvm.Cond.laysFinal "QualitativeSimulatorModel" "QualitativeSimulatorModel" "givenValues" "[I") ∈ lw_all := lw_in (lw_t3 (List.mem_of_getElem? (i := 235) rfl)) rfl
set_option maxRecDepth 100000 in
theorem q717 : (Jvm.Cond.laysFinal "QualitativeSimulatorModel" "QualitativeSimulatorModel" "givenDirections" "[I") ∈ lw_all := lw_in (lw_t3 (List.mem_of_getElem? (i := 237) rfl)) rfl
set_option maxRecDepth 100000 in
theorem q719 : (Jvm.Cond.lays "QualitativeSimulatorModel" "QualitativeSimulatorModel" "constraints" "I") ∈ lw_all := lw_in (lw_t3 (List.mem_of_getElem? (i := 239) rfl)) rfl
set_option maxRecDepth 100000 in
theorem q721 : (Jvm.Cond.laysFinal "QualitativeSimulatorModel" "QualitativeSimulatorModel" "kinds" "[I") ∈ lw_all := lw_in (lw_t4 (List.mem_of_getElem? (i := 1) rfl)) rfl
set_option maxRecDepth 100000 in
theorem q723 : (Jvm.Cond.laysFinal "QualitativeSimulatorModel" "QualitativeSimulatorModel" "xs" "[I") ∈ lw_all := lw_in (lw_t4 (List.mem_of_getElem? (i := 3) rfl)) rfl
set_option maxRecDepth 100000 in
theorem q725 : (Jvm.Cond.laysFinal "QualitativeSimulatorModel" "QualitativeSimulatorModel" "ys" "[I") ∈ lw_all := lw_in (lw_t4 (List.mem_of_getElem? (i := 5) rfl)) rfl
set_option maxRecDepth 100000 in
theorem q727 : (Jvm.Cond.laysFinal "QualitativeSimulatorModel" "QualitativeSimulatorModel" "zs" "[I") ∈ lw_all := lw_in (lw_t4 (List.mem_of_getElem? (i := 7) rfl)) rfl
set_option maxRecDepth 100000 in
theorem q729 : (Jvm.Cond.lays "QualitativeSimulatorModel" "QualitativeSimulatorModel" "isExplored" "Z") ∈ lw_all := lw_in (lw_t4 (List.mem_of_getElem? (i := 9) rfl)) rfl
set_option maxRecDepth 100000 in
theorem q731 : (Jvm.Cond.lays "QualitativeSimulatorModel" "QualitativeSimulatorModel" "isComplete" "Z") ∈ lw_all := lw_in (lw_t4 (List.mem_of_getElem? (i := 11) rfl)) rfl
set_option maxRecDepth 100000 in
theorem q733 : (Jvm.Cond.lays "QualitativeSimulatorModel" "QualitativeSimulatorModel" "states" "I") ∈ lw_all := lw_in (lw_t4 (List.mem_of_getElem? (i := 13) rfl)) rfl
set_option maxRecDepth 100000 in
theorem q735 : (Jvm.Cond.lays "QualitativeSimulatorModel" "QualitativeSimulatorModel" "firsts" "I") ∈ lw_all := lw_in (lw_t4 (List.mem_of_getElem? (i := 15) rfl)) rfl
set_option maxRecDepth 100000 in
theorem q737 : (Jvm.Cond.laysFinal "QualitativeSimulatorModel" "QualitativeSimulatorModel" "codes" "[I") ∈ lw_all := lw_in (lw_t4 (List.mem_of_getElem? (i := 17) rfl)) rfl
set_option maxRecDepth 100000 in
theorem q739 : (Jvm.Cond.laysFinal "QualitativeSimulatorModel" "QualitativeSimulatorModel" "distances" "[I") ∈ lw_all := lw_in (lw_t4 (List.mem_of_getElem? (i := 19) rfl)) rfl
set_option maxRecDepth 100000 in
theorem q741 : (Jvm.Cond.laysFinal "QualitativeSimulatorModel" "QualitativeSimulatorModel" "edges" "[Z") ∈ lw_all := lw_in (lw_t4 (List.mem_of_getElem? (i := 21) rfl)) rfl
set_option maxRecDepth 100000 in
theorem q743 : (Jvm.Cond.laysFinal "QualitativeSimulatorModel" "QualitativeSimulatorModel" "choices" "[I") ∈ lw_all := lw_in (lw_t4 (List.mem_of_getElem? (i := 23) rfl)) rfl
set_option maxRecDepth 100000 in
theorem q745 : (Jvm.Cond.laysFinal "QualitativeSimulatorModel" "QualitativeSimulatorModel" "choiceCounts" "[I") ∈ lw_all := lw_in (lw_t4 (List.mem_of_getElem? (i := 25) rfl)) rfl
set_option maxRecDepth 100000 in
theorem q799 : (Jvm.Cond.methodLink "QualitativeSimulatorLaw" (117 : Nat) ({ cls := "QualitativeSimulatorModel", name := "explore", desc := "()I" } : Jvm.MethodName)) ∈ lw_all := lw_in (lw_t4 (List.mem_of_getElem? (i := 79) rfl)) rfl
set_option maxRecDepth 100000 in
theorem q800 : (Jvm.Cond.instanceMethod ({ cls := "QualitativeSimulatorModel", name := "explore", desc := "()I" } : Jvm.MethodName)) ∈ lw_all := lw_in (lw_t4 (List.mem_of_getElem? (i := 80) rfl)) rfl
set_option maxRecDepth 100000 in
theorem q801 : (Jvm.Cond.selects "QualitativeSimulatorModel" ({ cls := "QualitativeSimulatorModel", name := "explore", desc := "()I" } : Jvm.MethodName) ({ cls := "QualitativeSimulatorModel", name := "explore", desc := "()I" } : Jvm.MethodName)) ∈ lw_all := lw_in (lw_t4 (List.mem_of_getElem? (i := 81) rfl)) rfl
set_option maxRecDepth 100000 in
theorem q802 : (Jvm.Cond.code ({ cls := "QualitativeSimulatorModel", name := "explore", desc := "()I" } : Jvm.MethodName) prog_6_method_29_code (1 : Nat) (Option.some Jvm.ClassFile.FieldType.int)) ∈ lw_all := lw_in (lw_t4 (List.mem_of_getElem? (i := 82) rfl)) rfl
set_option maxRecDepth 100000 in
theorem q803 : (Jvm.Cond.methodLink "QualitativeSimulatorModel" (139 : Nat) ({ cls := "QualitativeSimulatorModel", name := "find", desc := "()V" } : Jvm.MethodName)) ∈ lw_all := lw_in (lw_t4 (List.mem_of_getElem? (i := 83) rfl)) rfl
set_option maxRecDepth 100000 in
theorem q805 : (Jvm.Cond.instanceMethod ({ cls := "QualitativeSimulatorModel", name := "find", desc := "()V" } : Jvm.MethodName)) ∈ lw_all := lw_in (lw_t4 (List.mem_of_getElem? (i := 85) rfl)) rfl
set_option maxRecDepth 100000 in
theorem q806 : (Jvm.Cond.code ({ cls := "QualitativeSimulatorModel", name := "find", desc := "()V" } : Jvm.MethodName) prog_6_method_28_code (4 : Nat) (Option.none : Option Jvm.ClassFile.FieldType)) ∈ lw_all := lw_in (lw_t4 (List.mem_of_getElem? (i := 86) rfl)) rfl
set_option maxRecDepth 100000 in
theorem q807 : (Jvm.Cond.methodLink "QualitativeSimulatorModel" (86 : Nat) ({ cls := "QualitativeSimulatorModel", name := "power", desc := "(I)I" } : Jvm.MethodName)) ∈ lw_all := lw_in (lw_t4 (List.mem_of_getElem? (i := 87) rfl)) rfl
set_option maxRecDepth 100000 in
theorem q808 : (Jvm.Cond.static ({ cls := "QualitativeSimulatorModel", name := "power", desc := "(I)I" } : Jvm.MethodName)) ∈ lw_all := lw_in (lw_t4 (List.mem_of_getElem? (i := 88) rfl)) rfl
set_option maxRecDepth 100000 in
theorem q809 : (Jvm.Cond.code ({ cls := "QualitativeSimulatorModel", name := "power", desc := "(I)I" } : Jvm.MethodName) prog_6_method_14_code (3 : Nat) (Option.some Jvm.ClassFile.FieldType.int)) ∈ lw_all := lw_in (lw_t4 (List.mem_of_getElem? (i := 89) rfl)) rfl
set_option maxRecDepth 100000 in
theorem q810 : (Jvm.Cond.methodLink "QualitativeSimulatorModel" (124 : Nat) ({ cls := "QualitativeSimulatorModel", name := "isAllowed", desc := "(I)Z" } : Jvm.MethodName)) ∈ lw_all := lw_in (lw_t4 (List.mem_of_getElem? (i := 90) rfl)) rfl
set_option maxRecDepth 100000 in
theorem q812 : (Jvm.Cond.instanceMethod ({ cls := "QualitativeSimulatorModel", name := "isAllowed", desc := "(I)Z" } : Jvm.MethodName)) ∈ lw_all := lw_in (lw_t4 (List.mem_of_getElem? (i := 92) rfl)) rfl
set_option maxRecDepth 100000 in
theorem q813 : (Jvm.Cond.code ({ cls := "QualitativeSimulatorModel", name := "isAllowed", desc := "(I)Z" } : Jvm.MethodName) prog_6_method_20_code (3 : Nat) (Option.some Jvm.ClassFile.FieldType.boolean)) ∈ lw_all := lw_in (lw_t4 (List.mem_of_getElem? (i := 93) rfl)) rfl
set_option maxRecDepth 100000 in
theorem q833 : (Jvm.Cond.methodLink "QualitativeSimulatorModel" (130 : Nat) ({ cls := "QualitativeSimulatorModel", name := "isGiven", desc := "(I)Z" } : Jvm.MethodName)) ∈ lw_all := lw_in (lw_t4 (List.mem_of_getElem? (i := 113) rfl)) rfl
set_option maxRecDepth 100000 in
theorem q835 : (Jvm.Cond.instanceMethod ({ cls := "QualitativeSimulatorModel", name := "isGiven", desc := "(I)Z" } : Jvm.MethodName)) ∈ lw_all := lw_in (lw_t4 (List.mem_of_getElem? (i := 115) rfl)) rfl
set_option maxRecDepth 100000 in
theorem q836 : (Jvm.Cond.code ({ cls := "QualitativeSimulatorModel", name := "isGiven", desc := "(I)Z" } : Jvm.MethodName) prog_6_method_25_code (4 : Nat) (Option.some Jvm.ClassFile.FieldType.boolean)) ∈ lw_all := lw_in (lw_t4 (List.mem_of_getElem? (i := 116) rfl)) rfl
set_option maxRecDepth 100000 in
theorem q837 : (Jvm.Cond.methodLink "QualitativeSimulatorModel" (127 : Nat) ({ cls := "QualitativeSimulatorModel", name := "add", desc := "(II)Z" } : Jvm.MethodName)) ∈ lw_all := lw_in (lw_t4 (List.mem_of_getElem? (i := 117) rfl)) rfl
set_option maxRecDepth 100000 in
theorem q839 : (Jvm.Cond.instanceMethod ({ cls := "QualitativeSimulatorModel", name := "add", desc := "(II)Z" } : Jvm.MethodName)) ∈ lw_all := lw_in (lw_t4 (List.mem_of_getElem? (i := 119) rfl)) rfl
set_option maxRecDepth 100000 in
theorem q840 : (Jvm.Cond.code ({ cls := "QualitativeSimulatorModel", name := "add", desc := "(II)Z" } : Jvm.MethodName) prog_6_method_24_code (3 : Nat) (Option.some Jvm.ClassFile.FieldType.boolean)) ∈ lw_all := lw_in (lw_t4 (List.mem_of_getElem? (i := 120) rfl)) rfl
set_option maxRecDepth 100000 in
theorem q841 : (Jvm.Cond.methodLink "QualitativeSimulatorModel" (111 : Nat) ({ cls := "QualitativeSimulatorModel", name := "numberOf", desc := "(I)I" } : Jvm.MethodName)) ∈ lw_all := lw_in (lw_t4 (List.mem_of_getElem? (i := 121) rfl)) rfl
set_option maxRecDepth 100000 in
theorem q843 : (Jvm.Cond.instanceMethod ({ cls := "QualitativeSimulatorModel", name := "numberOf", desc := "(I)I" } : Jvm.MethodName)) ∈ lw_all := lw_in (lw_t4 (List.mem_of_getElem? (i := 123) rfl)) rfl
set_option maxRecDepth 100000 in
theorem q844 : (Jvm.Cond.code ({ cls := "QualitativeSimulatorModel", name := "numberOf", desc := "(I)I" } : Jvm.MethodName) prog_6_method_23_code (3 : Nat) (Option.some Jvm.ClassFile.FieldType.int)) ∈ lw_all := lw_in (lw_t4 (List.mem_of_getElem? (i := 124) rfl)) rfl
set_option maxRecDepth 100000 in
theorem q845 : (Jvm.Cond.methodLink "QualitativeSimulatorModel" (136 : Nat) ({ cls := "QualitativeSimulatorModel", name := "expand", desc := "(I)Z" } : Jvm.MethodName)) ∈ lw_all := lw_in (lw_t4 (List.mem_of_getElem? (i := 125) rfl)) rfl
set_option maxRecDepth 100000 in
theorem q847 : (Jvm.Cond.instanceMethod ({ cls := "QualitativeSimulatorModel", name := "expand", desc := "(I)Z" } : Jvm.MethodName)) ∈ lw_all := lw_in (lw_t4 (List.mem_of_getElem? (i := 127) rfl)) rfl
set_option maxRecDepth 100000 in
theorem q848 : (Jvm.Cond.code ({ cls := "QualitativeSimulatorModel", name := "expand", desc := "(I)Z" } : Jvm.MethodName) prog_6_method_27_code (8 : Nat) (Option.some Jvm.ClassFile.FieldType.boolean)) ∈ lw_all := lw_in (lw_t4 (List.mem_of_getElem? (i := 128) rfl)) rfl
set_option maxRecDepth 100000 in
theorem q849 : (Jvm.Cond.methodLink "QualitativeSimulatorModel" (117 : Nat) ({ cls := "QualitativeSimulatorModel", name := "choose", desc := "(I)V" } : Jvm.MethodName)) ∈ lw_all := lw_in (lw_t4 (List.mem_of_getElem? (i := 129) rfl)) rfl
set_option maxRecDepth 100000 in
theorem q851 : (Jvm.Cond.instanceMethod ({ cls := "QualitativeSimulatorModel", name := "choose", desc := "(I)V" } : Jvm.MethodName)) ∈ lw_all := lw_in (lw_t4 (List.mem_of_getElem? (i := 131) rfl)) rfl
set_option maxRecDepth 100000 in
theorem q852 : (Jvm.Cond.code ({ cls := "QualitativeSimulatorModel", name := "choose", desc := "(I)V" } : Jvm.MethodName) prog_6_method_26_code (7 : Nat) (Option.none : Option Jvm.ClassFile.FieldType)) ∈ lw_all := lw_in (lw_t4 (List.mem_of_getElem? (i := 132) rfl)) rfl
set_option maxRecDepth 100000 in
theorem q857 : (Jvm.Cond.methodLink "QualitativeSimulatorModel" (121 : Nat) ({ cls := "QualitativeSimulatorModel", name := "follows", desc := "(II)Z" } : Jvm.MethodName)) ∈ lw_all := lw_in (lw_t4 (List.mem_of_getElem? (i := 137) rfl)) rfl
set_option maxRecDepth 100000 in
theorem q859 : (Jvm.Cond.instanceMethod ({ cls := "QualitativeSimulatorModel", name := "follows", desc := "(II)Z" } : Jvm.MethodName)) ∈ lw_all := lw_in (lw_t4 (List.mem_of_getElem? (i := 139) rfl)) rfl
set_option maxRecDepth 100000 in
theorem q860 : (Jvm.Cond.code ({ cls := "QualitativeSimulatorModel", name := "follows", desc := "(II)Z" } : Jvm.MethodName) prog_6_method_22_code (5 : Nat) (Option.some Jvm.ClassFile.FieldType.boolean)) ∈ lw_all := lw_in (lw_t4 (List.mem_of_getElem? (i := 140) rfl)) rfl
set_option maxRecDepth 100000 in
theorem q929 : (Jvm.Cond.methodLink "QualitativeSimulatorLaw" (164 : Nat) ({ cls := "QualitativeSimulatorModel", name := "ways", desc := "(I)J" } : Jvm.MethodName)) ∈ lw_all := lw_in (lw_t4 (List.mem_of_getElem? (i := 209) rfl)) rfl
set_option maxRecDepth 100000 in
theorem q930 : (Jvm.Cond.instanceMethod ({ cls := "QualitativeSimulatorModel", name := "ways", desc := "(I)J" } : Jvm.MethodName)) ∈ lw_all := lw_in (lw_t4 (List.mem_of_getElem? (i := 210) rfl)) rfl
set_option maxRecDepth 100000 in
theorem q931 : (Jvm.Cond.selects "QualitativeSimulatorModel" ({ cls := "QualitativeSimulatorModel", name := "ways", desc := "(I)J" } : Jvm.MethodName) ({ cls := "QualitativeSimulatorModel", name := "ways", desc := "(I)J" } : Jvm.MethodName)) ∈ lw_all := lw_in (lw_t4 (List.mem_of_getElem? (i := 211) rfl)) rfl
set_option maxRecDepth 100000 in
theorem q932 : (Jvm.Cond.code ({ cls := "QualitativeSimulatorModel", name := "ways", desc := "(I)J" } : Jvm.MethodName) prog_6_method_47_code (7 : Nat) (Option.some Jvm.ClassFile.FieldType.long)) ∈ lw_all := lw_in (lw_t4 (List.mem_of_getElem? (i := 212) rfl)) rfl
set_option maxRecDepth 100000 in
theorem q943 : (Jvm.Cond.arrayClass Jvm.ClassFile.FieldType.double) ∈ lw_all := lw_in (lw_t4 (List.mem_of_getElem? (i := 223) rfl)) rfl
set_option maxRecDepth 100000 in
theorem qs0 : Cond.selects "QualitativeSimulator$Search" ⟨"QualitativeSimulator$Search", "setToFollowing", "(I)V"⟩ ⟨"QualitativeSimulator$Search", "setToFollowing", "(I)V"⟩ ∈ lw_all := lw_in (lw_s (List.mem_of_getElem? (i := 0) rfl)) rfl
set_option maxRecDepth 100000 in
theorem qs1 : Cond.selects "QualitativeSimulator$Search" ⟨"QualitativeSimulator$Search", "narrowUntilStable", "()Z"⟩ ⟨"QualitativeSimulator$Search", "narrowUntilStable", "()Z"⟩ ∈ lw_all := lw_in (lw_s (List.mem_of_getElem? (i := 1) rfl)) rfl
set_option maxRecDepth 100000 in
theorem qs2 : Cond.selects "QualitativeSimulator$Search" ⟨"QualitativeSimulator$Search", "codesLeft", "()I"⟩ ⟨"QualitativeSimulator$Search", "codesLeft", "()I"⟩ ∈ lw_all := lw_in (lw_s (List.mem_of_getElem? (i := 2) rfl)) rfl
set_option maxRecDepth 100000 in
theorem qs12 : Cond.selects "QualitativeSimulator$Search" ⟨"QualitativeSimulator$Search", "bindFrom", "(II)V"⟩ ⟨"QualitativeSimulator$Search", "bindFrom", "(II)V"⟩ ∈ lw_all := lw_in (lw_s (List.mem_of_getElem? (i := 12) rfl)) rfl
set_option maxRecDepth 100000 in
theorem qs13 : Cond.selects "QualitativeSimulator$Graph" ⟨"QualitativeSimulator$Graph", "append", "(IZII)V"⟩ ⟨"QualitativeSimulator$Graph", "append", "(IZII)V"⟩ ∈ lw_all := lw_in (lw_s (List.mem_of_getElem? (i := 13) rfl)) rfl
set_option maxRecDepth 100000 in
theorem qs15 : Cond.selects "QualitativeSimulator$Search" ⟨"QualitativeSimulator$Search", "linkAll", "()V"⟩ ⟨"QualitativeSimulator$Search", "linkAll", "()V"⟩ ∈ lw_all := lw_in (lw_s (List.mem_of_getElem? (i := 15) rfl)) rfl
set_option maxRecDepth 100000 in
theorem qs16 : Cond.selects "QualitativeSimulator$Search" ⟨"QualitativeSimulator$Search", "canFollow", "(II)Z"⟩ ⟨"QualitativeSimulator$Search", "canFollow", "(II)Z"⟩ ∈ lw_all := lw_in (lw_s (List.mem_of_getElem? (i := 16) rfl)) rfl
set_option maxRecDepth 100000 in
theorem qs21 : Cond.selects "QualitativeSimulator" ⟨"QualitativeSimulator", "requireExploration", "()V"⟩ ⟨"QualitativeSimulator", "requireExploration", "()V"⟩ ∈ lw_all := lw_in (lw_s (List.mem_of_getElem? (i := 21) rfl)) rfl
set_option maxRecDepth 100000 in
theorem qs28 : Cond.selects "QualitativeSimulatorModel" ⟨"QualitativeSimulatorModel", "find", "()V"⟩ ⟨"QualitativeSimulatorModel", "find", "()V"⟩ ∈ lw_all := lw_in (lw_s (List.mem_of_getElem? (i := 28) rfl)) rfl
set_option maxRecDepth 100000 in
theorem qs29 : Cond.selects "QualitativeSimulatorModel" ⟨"QualitativeSimulatorModel", "isAllowed", "(I)Z"⟩ ⟨"QualitativeSimulatorModel", "isAllowed", "(I)Z"⟩ ∈ lw_all := lw_in (lw_s (List.mem_of_getElem? (i := 29) rfl)) rfl
set_option maxRecDepth 100000 in
theorem qs34 : Cond.selects "QualitativeSimulatorModel" ⟨"QualitativeSimulatorModel", "isGiven", "(I)Z"⟩ ⟨"QualitativeSimulatorModel", "isGiven", "(I)Z"⟩ ∈ lw_all := lw_in (lw_s (List.mem_of_getElem? (i := 34) rfl)) rfl
set_option maxRecDepth 100000 in
theorem qs35 : Cond.selects "QualitativeSimulatorModel" ⟨"QualitativeSimulatorModel", "add", "(II)Z"⟩ ⟨"QualitativeSimulatorModel", "add", "(II)Z"⟩ ∈ lw_all := lw_in (lw_s (List.mem_of_getElem? (i := 35) rfl)) rfl
set_option maxRecDepth 100000 in
theorem qs36 : Cond.selects "QualitativeSimulatorModel" ⟨"QualitativeSimulatorModel", "numberOf", "(I)I"⟩ ⟨"QualitativeSimulatorModel", "numberOf", "(I)I"⟩ ∈ lw_all := lw_in (lw_s (List.mem_of_getElem? (i := 36) rfl)) rfl
set_option maxRecDepth 100000 in
theorem qs37 : Cond.selects "QualitativeSimulatorModel" ⟨"QualitativeSimulatorModel", "expand", "(I)Z"⟩ ⟨"QualitativeSimulatorModel", "expand", "(I)Z"⟩ ∈ lw_all := lw_in (lw_s (List.mem_of_getElem? (i := 37) rfl)) rfl
set_option maxRecDepth 100000 in
theorem qs38 : Cond.selects "QualitativeSimulatorModel" ⟨"QualitativeSimulatorModel", "choose", "(I)V"⟩ ⟨"QualitativeSimulatorModel", "choose", "(I)V"⟩ ∈ lw_all := lw_in (lw_s (List.mem_of_getElem? (i := 38) rfl)) rfl
set_option maxRecDepth 100000 in
theorem qs40 : Cond.selects "QualitativeSimulatorModel" ⟨"QualitativeSimulatorModel", "follows", "(II)Z"⟩ ⟨"QualitativeSimulatorModel", "follows", "(II)Z"⟩ ∈ lw_all := lw_in (lw_s (List.mem_of_getElem? (i := 40) rfl)) rfl
theorem inX0 : ∀ w ∈ u_ws RX0 TX0 13, w ∈ lw_all := by
  have key : ∀ k, k < 13 → u_lay RX0 TX0 k ∈ lw_all := fun k hk => match k, hk with
    | 0, _ => q116
    | 1, _ => q118
    | 2, _ => q120
    | 3, _ => q122
    | 4, _ => q124
    | 5, _ => q126
    | 6, _ => q128
    | 7, _ => q130
    | 8, _ => q132
    | 9, _ => q134
    | 10, _ => q136
    | 11, _ => q138
    | 12, _ => q140
    | k + 13, h => absurd h (by omega)
  intro w h
  obtain ⟨k, hk, rfl⟩ := List.mem_map.mp h
  exact key k (List.mem_range.mp hk)
theorem inX1 : ∀ w ∈ u_ws RX1 TX1 13, w ∈ lw_all := by
  have key : ∀ k, k < 13 → u_lay RX1 TX1 k ∈ lw_all := fun k hk => match k, hk with
    | 0, _ => q56
    | 1, _ => q58
    | 2, _ => q60
    | 3, _ => q62
    | 4, _ => q64
    | 5, _ => q66
    | 6, _ => q68
    | 7, _ => q70
    | 8, _ => q72
    | 9, _ => q74
    | 10, _ => q76
    | 11, _ => q78
    | 12, _ => q80
    | k + 13, h => absurd h (by omega)
  intro w h
  obtain ⟨k, hk, rfl⟩ := List.mem_map.mp h
  exact key k (List.mem_range.mp hk)
theorem inX2 : ∀ w ∈ u_ws RX2 TX2 4, w ∈ lw_all := by
  have key : ∀ k, k < 4 → u_lay RX2 TX2 k ∈ lw_all := fun k hk => match k, hk with
    | 0, _ => q155
    | 1, _ => q157
    | 2, _ => q159
    | 3, _ => q161
    | k + 4, h => absurd h (by omega)
  intro w h
  obtain ⟨k, hk, rfl⟩ := List.mem_map.mp h
  exact key k (List.mem_range.mp hk)
theorem inX3 : ∀ w ∈ u_ws RX3 TX3 4, w ∈ lw_all := by
  have key : ∀ k, k < 4 → u_lay RX3 TX3 k ∈ lw_all := fun k hk => match k, hk with
    | 0, _ => q168
    | 1, _ => q170
    | 2, _ => q172
    | 3, _ => q174
    | k + 4, h => absurd h (by omega)
  intro w h
  obtain ⟨k, hk, rfl⟩ := List.mem_map.mp h
  exact key k (List.mem_range.mp hk)
theorem inX4 : ∀ w ∈ u_ws RX4 TX4 20, w ∈ lw_all := by
  have key : ∀ k, k < 20 → u_lay RX4 TX4 k ∈ lw_all := fun k hk => match k, hk with
    | 0, _ => q707
    | 1, _ => q709
    | 2, _ => q711
    | 3, _ => q713
    | 4, _ => q715
    | 5, _ => q717
    | 6, _ => q719
    | 7, _ => q721
    | 8, _ => q723
    | 9, _ => q725
    | 10, _ => q727
    | 11, _ => q729
    | 12, _ => q731
    | 13, _ => q733
    | 14, _ => q735
    | 15, _ => q737
    | 16, _ => q739
    | 17, _ => q741
    | 18, _ => q743
    | 19, _ => q745
    | k + 20, h => absurd h (by omega)
  intro w h
  obtain ⟨k, hk, rfl⟩ := List.mem_map.mp h
  exact key k (List.mem_range.mp hk)
theorem okX1_init : IOK yX1_init cX1_init 1 0 := ⟨q27, q2, q28, rfl, by decide +kernel, by decide +kernel, by decide +kernel⟩
theorem okX0_init : IOK yX0_init cX0_init 1 0 := ⟨q87, q3, q88, rfl, by decide +kernel, by decide +kernel, by decide +kernel⟩
theorem okX2_init : IOK yX2_init cX2_init 3 2 := ⟨q148, q4, q149, rfl, by decide +kernel, by decide +kernel, by decide +kernel⟩
theorem okX3_init : IOK yX3_init cX3_init 1 0 := ⟨q19, q1, q20, rfl, by decide +kernel, by decide +kernel, by decide +kernel⟩
theorem okX4_init : IOK yX4_init cX4_init 1 0 := ⟨q683, q5, q684, rfl, by decide +kernel, by decide +kernel, by decide +kernel⟩
theorem okJ7_fill_53178 : SOK yJ7_fill_53178 cJ7_fill_53178 4 none 2 := ⟨q202, q13, q203, by decide +kernel, by decide +kernel, by decide +kernel⟩
theorem okX0_clear : MOK yX0_clear cX0_clear 1 none 0 := ⟨q198, q199, q3, q200, by decide +kernel, by decide +kernel, by decide +kernel⟩
theorem okX2_setToFollowing : MOK yX2_setToFollowing cX2_setToFollowing 3 none 1 := ⟨q206, qs0, q4, q207, by decide +kernel, by decide +kernel, by decide +kernel⟩
theorem okX2_codesLeft : MOK yX2_codesLeft cX2_codesLeft 3 (some .int) 0 := ⟨q244, qs2, q4, q245, by decide +kernel, by decide +kernel, by decide +kernel⟩
theorem okX2_narrowUntilStable : MOK yX2_narrowUntilStable cX2_narrowUntilStable 4 (some .boolean) 0 := ⟨q240, qs1, q4, q241, by decide +kernel, by decide +kernel, by decide +kernel⟩
theorem okX0_append : MOK yX0_append cX0_append 5 none 4 := ⟨q321, qs13, q3, q322, by decide +kernel, by decide +kernel, by decide +kernel⟩
theorem okX0_meet : MOK yX0_meet cX0_meet 7 none 2 := ⟨q315, q316, q3, q317, by decide +kernel, by decide +kernel, by decide +kernel⟩
theorem okX2_bindFrom : MOK yX2_bindFrom cX2_bindFrom 5 none 2 := ⟨q312, qs12, q4, q313, by decide +kernel, by decide +kernel, by decide +kernel⟩
theorem okX0_beginLinks : MOK yX0_beginLinks cX0_beginLinks 2 none 1 := ⟨q336, q337, q3, q338, by decide +kernel, by decide +kernel, by decide +kernel⟩
theorem okX2_canFollow : MOK yX2_canFollow cX2_canFollow 5 (some .boolean) 2 := ⟨q357, qs16, q4, q358, by decide +kernel, by decide +kernel, by decide +kernel⟩
theorem okX0_link : MOK yX0_link cX0_link 2 none 1 := ⟨q360, q361, q3, q362, by decide +kernel, by decide +kernel, by decide +kernel⟩
theorem okX0_endLinks : MOK yX0_endLinks cX0_endLinks 1 none 0 := ⟨q364, q365, q3, q366, by decide +kernel, by decide +kernel, by decide +kernel⟩
theorem okX2_linkAll : MOK yX2_linkAll cX2_linkAll 3 none 0 := ⟨q333, qs15, q4, q334, by decide +kernel, by decide +kernel, by decide +kernel⟩
theorem okX2_exploreAll : MOK yX2_exploreAll cX2_exploreAll 2 none 0 := ⟨q194, q195, q4, q196, by decide +kernel, by decide +kernel, by decide +kernel⟩
theorem okX3_explore : MOK yX3_explore cX3_explore 1 (some .int) 0 := ⟨q190, q191, q1, q192, by decide +kernel, by decide +kernel, by decide +kernel⟩
theorem okX4_power : SOK yX4_power cX4_power 3 (some .int) 1 := ⟨q808, q5, q809, by decide +kernel, by decide +kernel, by decide +kernel⟩
theorem okX4_isAllowed : MOK yX4_isAllowed cX4_isAllowed 3 (some .boolean) 1 := ⟨q812, qs29, q5, q813, by decide +kernel, by decide +kernel, by decide +kernel⟩
theorem okX4_isGiven : MOK yX4_isGiven cX4_isGiven 4 (some .boolean) 1 := ⟨q835, qs34, q5, q836, by decide +kernel, by decide +kernel, by decide +kernel⟩
theorem okX4_numberOf : MOK yX4_numberOf cX4_numberOf 3 (some .int) 1 := ⟨q843, qs36, q5, q844, by decide +kernel, by decide +kernel, by decide +kernel⟩
theorem okX4_add : MOK yX4_add cX4_add 3 (some .boolean) 2 := ⟨q839, qs35, q5, q840, by decide +kernel, by decide +kernel, by decide +kernel⟩
theorem okX4_choose : MOK yX4_choose cX4_choose 7 none 1 := ⟨q851, qs38, q5, q852, by decide +kernel, by decide +kernel, by decide +kernel⟩
theorem okX4_follows : MOK yX4_follows cX4_follows 5 (some .boolean) 2 := ⟨q859, qs40, q5, q860, by decide +kernel, by decide +kernel, by decide +kernel⟩
theorem okX4_expand : MOK yX4_expand cX4_expand 8 (some .boolean) 1 := ⟨q847, qs37, q5, q848, by decide +kernel, by decide +kernel, by decide +kernel⟩
theorem okX4_find : MOK yX4_find cX4_find 4 none 0 := ⟨q805, qs28, q5, q806, by decide +kernel, by decide +kernel, by decide +kernel⟩
theorem okX4_explore : MOK yX4_explore cX4_explore 1 (some .int) 0 := ⟨q800, q801, q5, q802, by decide +kernel, by decide +kernel, by decide +kernel⟩
theorem okJ7_fill_d0a16 : SOK yJ7_fill_d0a16 cJ7_fill_d0a16 5 none 2 := ⟨q670, q13, q671, by decide +kernel, by decide +kernel, by decide +kernel⟩
theorem okX0_countWays : MOK yX0_countWays cX0_countWays 7 (some .long) 1 := ⟨q666, q667, q3, q668, by decide +kernel, by decide +kernel, by decide +kernel⟩
theorem okX3_ways : MOK yX3_ways cX3_ways 2 (some .long) 1 := ⟨q661, q662, q1, q663, by decide +kernel, by decide +kernel, by decide +kernel⟩
theorem okX3_requireExploration : MOK yX3_requireExploration cX3_requireExploration 1 none 0 := ⟨q558, qs21, q1, q559, by decide +kernel, by decide +kernel, by decide +kernel⟩
theorem okL_ways : HOK yL_ways cL_ways 4 (some .int) [(0, 8, 11, 15), (0, 8, 14, 13)] 3 := ⟨q658, q0, q659, by decide +kernel, by decide +kernel, by decide +kernel⟩
theorem okX4_ways : MOK yX4_ways cX4_ways 7 (some .long) 1 := ⟨q930, q931, q5, q932, by decide +kernel, by decide +kernel, by decide +kernel⟩
