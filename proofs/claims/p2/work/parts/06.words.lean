set_option maxRecDepth 100000 in
theorem u0 : (Jvm.Cond.lays "QualitativeSimulatorModel" "QualitativeSimulatorModel" "thrown" "I") ∈ lw_all := lw_in (lw_t3 (List.mem_of_getElem? (i := 227) rfl)) rfl
set_option maxRecDepth 100000 in
theorem u1 : (Jvm.Cond.lays "QualitativeSimulatorModel" "QualitativeSimulatorModel" "variables" "I") ∈ lw_all := lw_in (lw_t3 (List.mem_of_getElem? (i := 229) rfl)) rfl
set_option maxRecDepth 100000 in
theorem u2 : (Jvm.Cond.laysFinal "QualitativeSimulatorModel" "QualitativeSimulatorModel" "landmarks" "[I") ∈ lw_all := lw_in (lw_t3 (List.mem_of_getElem? (i := 231) rfl)) rfl
set_option maxRecDepth 100000 in
theorem u3 : (Jvm.Cond.laysFinal "QualitativeSimulatorModel" "QualitativeSimulatorModel" "zeros" "[I") ∈ lw_all := lw_in (lw_t3 (List.mem_of_getElem? (i := 233) rfl)) rfl
set_option maxRecDepth 100000 in
theorem u4 : (Jvm.Cond.laysFinal "QualitativeSimulatorModel" "QualitativeSimulatorModel" "givenValues" "[I") ∈ lw_all := lw_in (lw_t3 (List.mem_of_getElem? (i := 235) rfl)) rfl
set_option maxRecDepth 100000 in
theorem u5 : (Jvm.Cond.laysFinal "QualitativeSimulatorModel" "QualitativeSimulatorModel" "givenDirections" "[I") ∈ lw_all := lw_in (lw_t3 (List.mem_of_getElem? (i := 237) rfl)) rfl
set_option maxRecDepth 100000 in
theorem u6 : (Jvm.Cond.lays "QualitativeSimulatorModel" "QualitativeSimulatorModel" "constraints" "I") ∈ lw_all := lw_in (lw_t3 (List.mem_of_getElem? (i := 239) rfl)) rfl
set_option maxRecDepth 100000 in
theorem u7 : (Jvm.Cond.laysFinal "QualitativeSimulatorModel" "QualitativeSimulatorModel" "kinds" "[I") ∈ lw_all := lw_in (lw_t4 (List.mem_of_getElem? (i := 1) rfl)) rfl
set_option maxRecDepth 100000 in
theorem u8 : (Jvm.Cond.laysFinal "QualitativeSimulatorModel" "QualitativeSimulatorModel" "xs" "[I") ∈ lw_all := lw_in (lw_t4 (List.mem_of_getElem? (i := 3) rfl)) rfl
set_option maxRecDepth 100000 in
theorem u9 : (Jvm.Cond.laysFinal "QualitativeSimulatorModel" "QualitativeSimulatorModel" "ys" "[I") ∈ lw_all := lw_in (lw_t4 (List.mem_of_getElem? (i := 5) rfl)) rfl
set_option maxRecDepth 100000 in
theorem u10 : (Jvm.Cond.laysFinal "QualitativeSimulatorModel" "QualitativeSimulatorModel" "zs" "[I") ∈ lw_all := lw_in (lw_t4 (List.mem_of_getElem? (i := 7) rfl)) rfl
set_option maxRecDepth 100000 in
theorem u11 : (Jvm.Cond.lays "QualitativeSimulatorModel" "QualitativeSimulatorModel" "isExplored" "Z") ∈ lw_all := lw_in (lw_t4 (List.mem_of_getElem? (i := 9) rfl)) rfl
set_option maxRecDepth 100000 in
theorem u12 : (Jvm.Cond.lays "QualitativeSimulatorModel" "QualitativeSimulatorModel" "isComplete" "Z") ∈ lw_all := lw_in (lw_t4 (List.mem_of_getElem? (i := 11) rfl)) rfl
set_option maxRecDepth 100000 in
theorem u13 : (Jvm.Cond.lays "QualitativeSimulatorModel" "QualitativeSimulatorModel" "states" "I") ∈ lw_all := lw_in (lw_t4 (List.mem_of_getElem? (i := 13) rfl)) rfl
set_option maxRecDepth 100000 in
theorem u14 : (Jvm.Cond.lays "QualitativeSimulatorModel" "QualitativeSimulatorModel" "firsts" "I") ∈ lw_all := lw_in (lw_t4 (List.mem_of_getElem? (i := 15) rfl)) rfl
set_option maxRecDepth 100000 in
theorem u15 : (Jvm.Cond.laysFinal "QualitativeSimulatorModel" "QualitativeSimulatorModel" "codes" "[I") ∈ lw_all := lw_in (lw_t4 (List.mem_of_getElem? (i := 17) rfl)) rfl
set_option maxRecDepth 100000 in
theorem u16 : (Jvm.Cond.laysFinal "QualitativeSimulatorModel" "QualitativeSimulatorModel" "distances" "[I") ∈ lw_all := lw_in (lw_t4 (List.mem_of_getElem? (i := 19) rfl)) rfl
set_option maxRecDepth 100000 in
theorem u17 : (Jvm.Cond.laysFinal "QualitativeSimulatorModel" "QualitativeSimulatorModel" "edges" "[Z") ∈ lw_all := lw_in (lw_t4 (List.mem_of_getElem? (i := 21) rfl)) rfl
set_option maxRecDepth 100000 in
theorem u18 : (Jvm.Cond.laysFinal "QualitativeSimulatorModel" "QualitativeSimulatorModel" "choices" "[I") ∈ lw_all := lw_in (lw_t4 (List.mem_of_getElem? (i := 23) rfl)) rfl
set_option maxRecDepth 100000 in
theorem u19 : (Jvm.Cond.laysFinal "QualitativeSimulatorModel" "QualitativeSimulatorModel" "choiceCounts" "[I") ∈ lw_all := lw_in (lw_t4 (List.mem_of_getElem? (i := 25) rfl)) rfl
theorem inX4 : ∀ w ∈ u_ws RX4 TX4 20, w ∈ lw_all := by
  have key : ∀ k, k < 20 → u_lay RX4 TX4 k ∈ lw_all := fun k hk => match k, hk with
    | 0, _ => u0
    | 1, _ => u1
    | 2, _ => u2
    | 3, _ => u3
    | 4, _ => u4
    | 5, _ => u5
    | 6, _ => u6
    | 7, _ => u7
    | 8, _ => u8
    | 9, _ => u9
    | 10, _ => u10
    | 11, _ => u11
    | 12, _ => u12
    | 13, _ => u13
    | 14, _ => u14
    | 15, _ => u15
    | 16, _ => u16
    | 17, _ => u17
    | 18, _ => u18
    | 19, _ => u19
    | k + 20, h => absurd h (by omega)
  intro w h
  obtain ⟨k, hk, rfl⟩ := List.mem_map.mp h
  exact key k (List.mem_range.mp hk)
set_option maxRecDepth 100000 in
theorem f62 : (Jvm.Cond.fieldLink "QualitativeSimulatorModel" (62 : Nat) "QualitativeSimulatorModel" "isExplored" "Z") ∈ lw_all := lw_in (lw_t3 (List.mem_of_getElem? (i := 218) rfl)) rfl
set_option maxRecDepth 100000 in
theorem f51 : (Jvm.Cond.fieldLink "QualitativeSimulatorModel" (51 : Nat) "QualitativeSimulatorModel" "thrown" "I") ∈ lw_all := lw_in (lw_t3 (List.mem_of_getElem? (i := 207) rfl)) rfl
set_option maxRecDepth 100000 in
theorem f133 : (Jvm.Cond.fieldLink "QualitativeSimulatorModel" (133 : Nat) "QualitativeSimulatorModel" "firsts" "I") ∈ lw_all := lw_in (lw_t3 (List.mem_of_getElem? (i := 221) rfl)) rfl
set_option maxRecDepth 100000 in
theorem f108 : (Jvm.Cond.fieldLink "QualitativeSimulatorModel" (108 : Nat) "QualitativeSimulatorModel" "states" "I") ∈ lw_all := lw_in (lw_t3 (List.mem_of_getElem? (i := 220) rfl)) rfl
set_option maxRecDepth 100000 in
theorem arJ : (Jvm.Cond.arrayClass Jvm.ClassFile.FieldType.long) ∈ lw_all := lw_in (lw_t1 (List.mem_of_getElem? (i := 144) rfl)) rfl
