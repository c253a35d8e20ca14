def T_R : u_T := fun k => match k with
  | 0 => ("BatchPlans$Rows", "cells", "[I", true)
  | 1 => ("BatchPlans$Rows", "columns", "I", false)
  | _ => ("BatchPlans$Rows", "count", "I", false)
def ty_R : Nat → FieldType := fun k => match k with
  | 0 => .array .int
  | 1 => .int
  | _ => .int
def T_Pa : u_T := fun k => match k with
  | _ => ("BatchPlans$Parts", "before", "[I", true)
def ty_Pa : Nat → FieldType := fun k => match k with
  | _ => .array .int
def T_C : u_T := fun k => match k with
  | 0 => ("BatchPlans$Cost", "batch", "I", true)
  | 1 => ("BatchPlans$Cost", "memory", "I", true)
  | 2 => ("BatchPlans$Cost", "streamed", "LBatchPlans$Parts;", true)
  | 3 => ("BatchPlans$Cost", "kept", "LBatchPlans$Parts;", true)
  | 4 => ("BatchPlans$Cost", "batches", "I", false)
  | 5 => ("BatchPlans$Cost", "written", "I", false)
  | _ => ("BatchPlans$Cost", "held", "I", false)
def ty_C : Nat → FieldType := fun k => match k with
  | 0 => .int
  | 1 => .int
  | 2 => .object "BatchPlans$Parts"
  | 3 => .object "BatchPlans$Parts"
  | 4 => .int
  | 5 => .int
  | _ => .int
def T_NS : u_T := fun k => match k with
  | 0 => ("BatchPlans$Node", "columns", "I", true)
  | 1 => ("BatchPlans$Node", "output", "LBatchPlans$Rows;", true)
  | _ => ("BatchPlans$Node", "madeOf", "I", true)
def ty_NS : Nat → FieldType := fun k => match k with
  | 0 => .int
  | 1 => .object "BatchPlans$Rows"
  | _ => .int
def T_NF : u_T := fun k => match k with
  | 0 => ("BatchPlans$Node", "columns", "I", true)
  | 1 => ("BatchPlans$Node", "output", "LBatchPlans$Rows;", true)
  | 2 => ("BatchPlans$Node", "madeOf", "I", true)
  | 3 => ("BatchPlans$FilterNode", "input", "LBatchPlans$Rows;", true)
  | 4 => ("BatchPlans$FilterNode", "column", "I", true)
  | 5 => ("BatchPlans$FilterNode", "test", "I", true)
  | _ => ("BatchPlans$FilterNode", "number", "I", true)
def ty_NF : Nat → FieldType := fun k => match k with
  | 0 => .int
  | 1 => .object "BatchPlans$Rows"
  | 2 => .int
  | 3 => .object "BatchPlans$Rows"
  | 4 => .int
  | 5 => .int
  | _ => .int
def T_NM : u_T := fun k => match k with
  | 0 => ("BatchPlans$Node", "columns", "I", true)
  | 1 => ("BatchPlans$Node", "output", "LBatchPlans$Rows;", true)
  | 2 => ("BatchPlans$Node", "madeOf", "I", true)
  | 3 => ("BatchPlans$MapNode", "input", "LBatchPlans$Rows;", true)
  | 4 => ("BatchPlans$MapNode", "column", "I", true)
  | 5 => ("BatchPlans$MapNode", "operation", "I", true)
  | _ => ("BatchPlans$MapNode", "other", "I", true)
def ty_NM : Nat → FieldType := fun k => match k with
  | 0 => .int
  | 1 => .object "BatchPlans$Rows"
  | 2 => .int
  | 3 => .object "BatchPlans$Rows"
  | 4 => .int
  | 5 => .int
  | _ => .int
def T_NJ : u_T := fun k => match k with
  | 0 => ("BatchPlans$Node", "columns", "I", true)
  | 1 => ("BatchPlans$Node", "output", "LBatchPlans$Rows;", true)
  | 2 => ("BatchPlans$Node", "madeOf", "I", true)
  | 3 => ("BatchPlans$JoinNode", "left", "LBatchPlans$Rows;", true)
  | 4 => ("BatchPlans$JoinNode", "right", "LBatchPlans$Rows;", true)
  | 5 => ("BatchPlans$JoinNode", "leftColumn", "I", true)
  | _ => ("BatchPlans$JoinNode", "rightColumn", "I", true)
def ty_NJ : Nat → FieldType := fun k => match k with
  | 0 => .int
  | 1 => .object "BatchPlans$Rows"
  | 2 => .int
  | 3 => .object "BatchPlans$Rows"
  | 4 => .object "BatchPlans$Rows"
  | 5 => .int
  | _ => .int
def T_NG : u_T := fun k => match k with
  | 0 => ("BatchPlans$Node", "columns", "I", true)
  | 1 => ("BatchPlans$Node", "output", "LBatchPlans$Rows;", true)
  | 2 => ("BatchPlans$Node", "madeOf", "I", true)
  | 3 => ("BatchPlans$GroupNode", "input", "LBatchPlans$Rows;", true)
  | 4 => ("BatchPlans$GroupNode", "key", "I", true)
  | _ => ("BatchPlans$GroupNode", "value", "I", true)
def ty_NG : Nat → FieldType := fun k => match k with
  | 0 => .int
  | 1 => .object "BatchPlans$Rows"
  | 2 => .int
  | 3 => .object "BatchPlans$Rows"
  | 4 => .int
  | _ => .int
def T_P : u_T := fun k => match k with
  | 0 => ("BatchPlans", "tables", "[LBatchPlans$Rows;", true)
  | 1 => ("BatchPlans", "outputs", "[LBatchPlans$Rows;", true)
  | 2 => ("BatchPlans", "plan", "Ljava/util/ArrayList;", true)
  | 3 => ("BatchPlans", "cost", "LBatchPlans$Cost;", true)
  | 4 => ("BatchPlans", "result", "LBatchPlans$Rows;", true)
  | 5 => ("BatchPlans", "batches", "I", false)
  | 6 => ("BatchPlans", "written", "I", false)
  | _ => ("BatchPlans", "held", "I", false)
def ty_P : Nat → FieldType := fun k => match k with
  | 0 => .array (.object "BatchPlans$Rows")
  | 1 => .array (.object "BatchPlans$Rows")
  | 2 => .object "java/util/ArrayList"
  | 3 => .object "BatchPlans$Cost"
  | 4 => .object "BatchPlans$Rows"
  | 5 => .int
  | 6 => .int
  | _ => .int
def T_JArrayList : u_T := fun k => match k with
  | 0 => ("java/util/AbstractList", "modCount", "I", false)
  | 1 => ("java/util/ArrayList", "elementData", "[Ljava/lang/Object;", false)
  | _ => ("java/util/ArrayList", "size", "I", false)
def ty_JArrayList : Nat → FieldType := fun k => match k with
  | 0 => .int
  | 1 => .array (.object "java/lang/Object")
  | _ => .int
def T_M : u_T := fun k => match k with
  | 0 => ("BatchPlansModel", "thrown", "I", false)
  | 1 => ("BatchPlansModel", "batch", "I", true)
  | 2 => ("BatchPlansModel", "memory", "I", true)
  | 3 => ("BatchPlansModel", "tables", "[I", true)
  | 4 => ("BatchPlansModel", "tableRows", "[I", true)
  | 5 => ("BatchPlansModel", "count", "I", false)
  | 6 => ("BatchPlansModel", "kind", "[I", true)
  | 7 => ("BatchPlansModel", "from", "[I", true)
  | 8 => ("BatchPlansModel", "other", "[I", true)
  | 9 => ("BatchPlansModel", "column", "[I", true)
  | 10 => ("BatchPlansModel", "second", "[I", true)
  | 11 => ("BatchPlansModel", "way", "[I", true)
  | 12 => ("BatchPlansModel", "number", "[I", true)
  | 13 => ("BatchPlansModel", "wide", "[I", true)
  | 14 => ("BatchPlansModel", "needed", "[Z", true)
  | 15 => ("BatchPlansModel", "out", "[I", true)
  | 16 => ("BatchPlansModel", "outRows", "[I", true)
  | 17 => ("BatchPlansModel", "reached", "[Z", true)
  | 18 => ("BatchPlansModel", "readNow", "I", false)
  | 19 => ("BatchPlansModel", "writtenNow", "I", false)
  | 20 => ("BatchPlansModel", "heldNow", "I", false)
  | 21 => ("BatchPlansModel", "result", "[I", true)
  | 22 => ("BatchPlansModel", "resultRows", "I", false)
  | 23 => ("BatchPlansModel", "resultWide", "I", false)
  | 24 => ("BatchPlansModel", "readThen", "I", false)
  | 25 => ("BatchPlansModel", "writtenThen", "I", false)
  | _ => ("BatchPlansModel", "heldThen", "I", false)
def ty_M : Nat → FieldType := fun k => match k with
  | 0 => .int
  | 1 => .int
  | 2 => .int
  | 3 => .array .int
  | 4 => .array .int
  | 5 => .int
  | 6 => .array .int
  | 7 => .array .int
  | 8 => .array .int
  | 9 => .array .int
  | 10 => .array .int
  | 11 => .array .int
  | 12 => .array .int
  | 13 => .array .int
  | 14 => .array .boolean
  | 15 => .array .int
  | 16 => .array .int
  | 17 => .array .boolean
  | 18 => .int
  | 19 => .int
  | 20 => .int
  | 21 => .array .int
  | 22 => .int
  | 23 => .int
  | 24 => .int
  | 25 => .int
  | _ => .int
def T_X : u_T := fun _ => ("", "", "", false)
abbrev vwCl : List vw_C := [("BatchPlans$Rows", T_R, 3), ("BatchPlans$Parts", T_Pa, 1), ("BatchPlans$Cost", T_C, 7), ("BatchPlans$ScanNode", T_NS, 3), ("BatchPlans$FilterNode", T_NF, 7), ("BatchPlans$MapNode", T_NM, 7), ("BatchPlans$JoinNode", T_NJ, 7), ("BatchPlans$GroupNode", T_NG, 6), ("BatchPlans", T_P, 8), ("java/util/ArrayList", T_JArrayList, 3), ("BatchPlansModel", T_M, 27), ("java/lang/IllegalArgumentException", T_X, 0), ("java/lang/IllegalStateException", T_X, 0), ("java/lang/ArithmeticException", T_X, 0), ("java/lang/IndexOutOfBoundsException", T_X, 0)]
theorem kw_55 : (Jvm.Cond.laysFinal "BatchPlans$Rows" "BatchPlans$Rows" "cells" "[I") ∈ TB := tb_mem (tb_s1 _ (List.mem_of_getElem? (i := 55) (by decide +kernel))) (by decide +kernel)
theorem kw_57 : (Jvm.Cond.lays "BatchPlans$Rows" "BatchPlans$Rows" "columns" "I") ∈ TB := tb_mem (tb_s1 _ (List.mem_of_getElem? (i := 57) (by decide +kernel))) (by decide +kernel)
theorem kw_59 : (Jvm.Cond.lays "BatchPlans$Rows" "BatchPlans$Rows" "count" "I") ∈ TB := tb_mem (tb_s1 _ (List.mem_of_getElem? (i := 59) (by decide +kernel))) (by decide +kernel)
set_option maxRecDepth 100000 in
theorem in_R : ∀ w ∈ u_ws "BatchPlans$Rows" T_R 3, w ∈ TB := List.forall_mem_cons.mpr ⟨kw_55, List.forall_mem_cons.mpr ⟨kw_57, List.forall_mem_cons.mpr ⟨kw_59, fun _ h => absurd h List.not_mem_nil⟩⟩⟩
set_option maxRecDepth 100000 in
theorem cl_R : Cl TB vwCl 0 "BatchPlans$Rows" T_R 3 ty_R := ⟨rfl, in_R, by decide +kernel, by decide +kernel⟩
theorem kw_115 : (Jvm.Cond.laysFinal "BatchPlans$Parts" "BatchPlans$Parts" "before" "[I") ∈ TB := tb_mem (tb_s1 _ (List.mem_of_getElem? (i := 115) (by decide +kernel))) (by decide +kernel)
set_option maxRecDepth 100000 in
theorem in_Pa : ∀ w ∈ u_ws "BatchPlans$Parts" T_Pa 1, w ∈ TB := List.forall_mem_cons.mpr ⟨kw_115, fun _ h => absurd h List.not_mem_nil⟩
set_option maxRecDepth 100000 in
theorem cl_Pa : Cl TB vwCl 1 "BatchPlans$Parts" T_Pa 1 ty_Pa := ⟨rfl, in_Pa, by decide +kernel, by decide +kernel⟩
theorem kw_128 : (Jvm.Cond.laysFinal "BatchPlans$Cost" "BatchPlans$Cost" "batch" "I") ∈ TB := tb_mem (tb_s1 _ (List.mem_of_getElem? (i := 128) (by decide +kernel))) (by decide +kernel)
theorem kw_130 : (Jvm.Cond.laysFinal "BatchPlans$Cost" "BatchPlans$Cost" "memory" "I") ∈ TB := tb_mem (tb_s1 _ (List.mem_of_getElem? (i := 130) (by decide +kernel))) (by decide +kernel)
theorem kw_132 : (Jvm.Cond.laysFinal "BatchPlans$Cost" "BatchPlans$Cost" "streamed" "LBatchPlans$Parts;") ∈ TB := tb_mem (tb_s1 _ (List.mem_of_getElem? (i := 132) (by decide +kernel))) (by decide +kernel)
theorem kw_134 : (Jvm.Cond.laysFinal "BatchPlans$Cost" "BatchPlans$Cost" "kept" "LBatchPlans$Parts;") ∈ TB := tb_mem (tb_s1 _ (List.mem_of_getElem? (i := 134) (by decide +kernel))) (by decide +kernel)
theorem kw_136 : (Jvm.Cond.lays "BatchPlans$Cost" "BatchPlans$Cost" "batches" "I") ∈ TB := tb_mem (tb_s1 _ (List.mem_of_getElem? (i := 136) (by decide +kernel))) (by decide +kernel)
theorem kw_138 : (Jvm.Cond.lays "BatchPlans$Cost" "BatchPlans$Cost" "written" "I") ∈ TB := tb_mem (tb_s1 _ (List.mem_of_getElem? (i := 138) (by decide +kernel))) (by decide +kernel)
theorem kw_140 : (Jvm.Cond.lays "BatchPlans$Cost" "BatchPlans$Cost" "held" "I") ∈ TB := tb_mem (tb_s1 _ (List.mem_of_getElem? (i := 140) (by decide +kernel))) (by decide +kernel)
set_option maxRecDepth 100000 in
theorem in_C : ∀ w ∈ u_ws "BatchPlans$Cost" T_C 7, w ∈ TB := List.forall_mem_cons.mpr ⟨kw_128, List.forall_mem_cons.mpr ⟨kw_130, List.forall_mem_cons.mpr ⟨kw_132, List.forall_mem_cons.mpr ⟨kw_134, List.forall_mem_cons.mpr ⟨kw_136, List.forall_mem_cons.mpr ⟨kw_138, List.forall_mem_cons.mpr ⟨kw_140, fun _ h => absurd h List.not_mem_nil⟩⟩⟩⟩⟩⟩⟩
set_option maxRecDepth 100000 in
theorem cl_C : Cl TB vwCl 2 "BatchPlans$Cost" T_C 7 ty_C := ⟨rfl, in_C, by decide +kernel, by decide +kernel⟩
theorem kw_363 : (Jvm.Cond.laysFinal "BatchPlans$ScanNode" "BatchPlans$Node" "columns" "I") ∈ TB := tb_mem (tb_s2 _ (List.mem_of_getElem? (i := 123) (by decide +kernel))) (by decide +kernel)
theorem kw_365 : (Jvm.Cond.laysFinal "BatchPlans$ScanNode" "BatchPlans$Node" "output" "LBatchPlans$Rows;") ∈ TB := tb_mem (tb_s2 _ (List.mem_of_getElem? (i := 125) (by decide +kernel))) (by decide +kernel)
theorem kw_367 : (Jvm.Cond.laysFinal "BatchPlans$ScanNode" "BatchPlans$Node" "madeOf" "I") ∈ TB := tb_mem (tb_s2 _ (List.mem_of_getElem? (i := 127) (by decide +kernel))) (by decide +kernel)
set_option maxRecDepth 100000 in
theorem in_NS : ∀ w ∈ u_ws "BatchPlans$ScanNode" T_NS 3, w ∈ TB := List.forall_mem_cons.mpr ⟨kw_363, List.forall_mem_cons.mpr ⟨kw_365, List.forall_mem_cons.mpr ⟨kw_367, fun _ h => absurd h List.not_mem_nil⟩⟩⟩
set_option maxRecDepth 100000 in
theorem cl_NS : Cl TB vwCl 3 "BatchPlans$ScanNode" T_NS 3 ty_NS := ⟨rfl, in_NS, by decide +kernel, by decide +kernel⟩
theorem kw_481 : (Jvm.Cond.laysFinal "BatchPlans$FilterNode" "BatchPlans$Node" "columns" "I") ∈ TB := tb_mem (tb_s3 _ (List.mem_of_getElem? (i := 1) (by decide +kernel))) (by decide +kernel)
theorem kw_482 : (Jvm.Cond.laysFinal "BatchPlans$FilterNode" "BatchPlans$Node" "output" "LBatchPlans$Rows;") ∈ TB := tb_mem (tb_s3 _ (List.mem_of_getElem? (i := 2) (by decide +kernel))) (by decide +kernel)
theorem kw_483 : (Jvm.Cond.laysFinal "BatchPlans$FilterNode" "BatchPlans$Node" "madeOf" "I") ∈ TB := tb_mem (tb_s3 _ (List.mem_of_getElem? (i := 3) (by decide +kernel))) (by decide +kernel)
theorem kw_473 : (Jvm.Cond.laysFinal "BatchPlans$FilterNode" "BatchPlans$FilterNode" "input" "LBatchPlans$Rows;") ∈ TB := tb_mem (tb_s2 _ (List.mem_of_getElem? (i := 233) (by decide +kernel))) (by decide +kernel)
theorem kw_475 : (Jvm.Cond.laysFinal "BatchPlans$FilterNode" "BatchPlans$FilterNode" "column" "I") ∈ TB := tb_mem (tb_s2 _ (List.mem_of_getElem? (i := 235) (by decide +kernel))) (by decide +kernel)
theorem kw_477 : (Jvm.Cond.laysFinal "BatchPlans$FilterNode" "BatchPlans$FilterNode" "test" "I") ∈ TB := tb_mem (tb_s2 _ (List.mem_of_getElem? (i := 237) (by decide +kernel))) (by decide +kernel)
theorem kw_479 : (Jvm.Cond.laysFinal "BatchPlans$FilterNode" "BatchPlans$FilterNode" "number" "I") ∈ TB := tb_mem (tb_s2 _ (List.mem_of_getElem? (i := 239) (by decide +kernel))) (by decide +kernel)
set_option maxRecDepth 100000 in
theorem in_NF : ∀ w ∈ u_ws "BatchPlans$FilterNode" T_NF 7, w ∈ TB := List.forall_mem_cons.mpr ⟨kw_481, List.forall_mem_cons.mpr ⟨kw_482, List.forall_mem_cons.mpr ⟨kw_483, List.forall_mem_cons.mpr ⟨kw_473, List.forall_mem_cons.mpr ⟨kw_475, List.forall_mem_cons.mpr ⟨kw_477, List.forall_mem_cons.mpr ⟨kw_479, fun _ h => absurd h List.not_mem_nil⟩⟩⟩⟩⟩⟩⟩
set_option maxRecDepth 100000 in
theorem cl_NF : Cl TB vwCl 4 "BatchPlans$FilterNode" T_NF 7 ty_NF := ⟨rfl, in_NF, by decide +kernel, by decide +kernel⟩
theorem kw_510 : (Jvm.Cond.laysFinal "BatchPlans$MapNode" "BatchPlans$Node" "columns" "I") ∈ TB := tb_mem (tb_s3 _ (List.mem_of_getElem? (i := 30) (by decide +kernel))) (by decide +kernel)
theorem kw_511 : (Jvm.Cond.laysFinal "BatchPlans$MapNode" "BatchPlans$Node" "output" "LBatchPlans$Rows;") ∈ TB := tb_mem (tb_s3 _ (List.mem_of_getElem? (i := 31) (by decide +kernel))) (by decide +kernel)
theorem kw_512 : (Jvm.Cond.laysFinal "BatchPlans$MapNode" "BatchPlans$Node" "madeOf" "I") ∈ TB := tb_mem (tb_s3 _ (List.mem_of_getElem? (i := 32) (by decide +kernel))) (by decide +kernel)
theorem kw_502 : (Jvm.Cond.laysFinal "BatchPlans$MapNode" "BatchPlans$MapNode" "input" "LBatchPlans$Rows;") ∈ TB := tb_mem (tb_s3 _ (List.mem_of_getElem? (i := 22) (by decide +kernel))) (by decide +kernel)
theorem kw_504 : (Jvm.Cond.laysFinal "BatchPlans$MapNode" "BatchPlans$MapNode" "column" "I") ∈ TB := tb_mem (tb_s3 _ (List.mem_of_getElem? (i := 24) (by decide +kernel))) (by decide +kernel)
theorem kw_506 : (Jvm.Cond.laysFinal "BatchPlans$MapNode" "BatchPlans$MapNode" "operation" "I") ∈ TB := tb_mem (tb_s3 _ (List.mem_of_getElem? (i := 26) (by decide +kernel))) (by decide +kernel)
theorem kw_508 : (Jvm.Cond.laysFinal "BatchPlans$MapNode" "BatchPlans$MapNode" "other" "I") ∈ TB := tb_mem (tb_s3 _ (List.mem_of_getElem? (i := 28) (by decide +kernel))) (by decide +kernel)
set_option maxRecDepth 100000 in
theorem in_NM : ∀ w ∈ u_ws "BatchPlans$MapNode" T_NM 7, w ∈ TB := List.forall_mem_cons.mpr ⟨kw_510, List.forall_mem_cons.mpr ⟨kw_511, List.forall_mem_cons.mpr ⟨kw_512, List.forall_mem_cons.mpr ⟨kw_502, List.forall_mem_cons.mpr ⟨kw_504, List.forall_mem_cons.mpr ⟨kw_506, List.forall_mem_cons.mpr ⟨kw_508, fun _ h => absurd h List.not_mem_nil⟩⟩⟩⟩⟩⟩⟩
set_option maxRecDepth 100000 in
theorem cl_NM : Cl TB vwCl 5 "BatchPlans$MapNode" T_NM 7 ty_NM := ⟨rfl, in_NM, by decide +kernel, by decide +kernel⟩
theorem kw_540 : (Jvm.Cond.laysFinal "BatchPlans$JoinNode" "BatchPlans$Node" "columns" "I") ∈ TB := tb_mem (tb_s3 _ (List.mem_of_getElem? (i := 60) (by decide +kernel))) (by decide +kernel)
theorem kw_541 : (Jvm.Cond.laysFinal "BatchPlans$JoinNode" "BatchPlans$Node" "output" "LBatchPlans$Rows;") ∈ TB := tb_mem (tb_s3 _ (List.mem_of_getElem? (i := 61) (by decide +kernel))) (by decide +kernel)
theorem kw_542 : (Jvm.Cond.laysFinal "BatchPlans$JoinNode" "BatchPlans$Node" "madeOf" "I") ∈ TB := tb_mem (tb_s3 _ (List.mem_of_getElem? (i := 62) (by decide +kernel))) (by decide +kernel)
theorem kw_532 : (Jvm.Cond.laysFinal "BatchPlans$JoinNode" "BatchPlans$JoinNode" "left" "LBatchPlans$Rows;") ∈ TB := tb_mem (tb_s3 _ (List.mem_of_getElem? (i := 52) (by decide +kernel))) (by decide +kernel)
theorem kw_534 : (Jvm.Cond.laysFinal "BatchPlans$JoinNode" "BatchPlans$JoinNode" "right" "LBatchPlans$Rows;") ∈ TB := tb_mem (tb_s3 _ (List.mem_of_getElem? (i := 54) (by decide +kernel))) (by decide +kernel)
theorem kw_536 : (Jvm.Cond.laysFinal "BatchPlans$JoinNode" "BatchPlans$JoinNode" "leftColumn" "I") ∈ TB := tb_mem (tb_s3 _ (List.mem_of_getElem? (i := 56) (by decide +kernel))) (by decide +kernel)
theorem kw_538 : (Jvm.Cond.laysFinal "BatchPlans$JoinNode" "BatchPlans$JoinNode" "rightColumn" "I") ∈ TB := tb_mem (tb_s3 _ (List.mem_of_getElem? (i := 58) (by decide +kernel))) (by decide +kernel)
set_option maxRecDepth 100000 in
theorem in_NJ : ∀ w ∈ u_ws "BatchPlans$JoinNode" T_NJ 7, w ∈ TB := List.forall_mem_cons.mpr ⟨kw_540, List.forall_mem_cons.mpr ⟨kw_541, List.forall_mem_cons.mpr ⟨kw_542, List.forall_mem_cons.mpr ⟨kw_532, List.forall_mem_cons.mpr ⟨kw_534, List.forall_mem_cons.mpr ⟨kw_536, List.forall_mem_cons.mpr ⟨kw_538, fun _ h => absurd h List.not_mem_nil⟩⟩⟩⟩⟩⟩⟩
set_option maxRecDepth 100000 in
theorem cl_NJ : Cl TB vwCl 6 "BatchPlans$JoinNode" T_NJ 7 ty_NJ := ⟨rfl, in_NJ, by decide +kernel, by decide +kernel⟩
theorem kw_566 : (Jvm.Cond.laysFinal "BatchPlans$GroupNode" "BatchPlans$Node" "columns" "I") ∈ TB := tb_mem (tb_s3 _ (List.mem_of_getElem? (i := 86) (by decide +kernel))) (by decide +kernel)
theorem kw_567 : (Jvm.Cond.laysFinal "BatchPlans$GroupNode" "BatchPlans$Node" "output" "LBatchPlans$Rows;") ∈ TB := tb_mem (tb_s3 _ (List.mem_of_getElem? (i := 87) (by decide +kernel))) (by decide +kernel)
theorem kw_568 : (Jvm.Cond.laysFinal "BatchPlans$GroupNode" "BatchPlans$Node" "madeOf" "I") ∈ TB := tb_mem (tb_s3 _ (List.mem_of_getElem? (i := 88) (by decide +kernel))) (by decide +kernel)
theorem kw_560 : (Jvm.Cond.laysFinal "BatchPlans$GroupNode" "BatchPlans$GroupNode" "input" "LBatchPlans$Rows;") ∈ TB := tb_mem (tb_s3 _ (List.mem_of_getElem? (i := 80) (by decide +kernel))) (by decide +kernel)
theorem kw_562 : (Jvm.Cond.laysFinal "BatchPlans$GroupNode" "BatchPlans$GroupNode" "key" "I") ∈ TB := tb_mem (tb_s3 _ (List.mem_of_getElem? (i := 82) (by decide +kernel))) (by decide +kernel)
theorem kw_564 : (Jvm.Cond.laysFinal "BatchPlans$GroupNode" "BatchPlans$GroupNode" "value" "I") ∈ TB := tb_mem (tb_s3 _ (List.mem_of_getElem? (i := 84) (by decide +kernel))) (by decide +kernel)
set_option maxRecDepth 100000 in
theorem in_NG : ∀ w ∈ u_ws "BatchPlans$GroupNode" T_NG 6, w ∈ TB := List.forall_mem_cons.mpr ⟨kw_566, List.forall_mem_cons.mpr ⟨kw_567, List.forall_mem_cons.mpr ⟨kw_568, List.forall_mem_cons.mpr ⟨kw_560, List.forall_mem_cons.mpr ⟨kw_562, List.forall_mem_cons.mpr ⟨kw_564, fun _ h => absurd h List.not_mem_nil⟩⟩⟩⟩⟩⟩
set_option maxRecDepth 100000 in
theorem cl_NG : Cl TB vwCl 7 "BatchPlans$GroupNode" T_NG 6 ty_NG := ⟨rfl, in_NG, by decide +kernel, by decide +kernel⟩
theorem kw_151 : (Jvm.Cond.laysFinal "BatchPlans" "BatchPlans" "tables" "[LBatchPlans$Rows;") ∈ TB := tb_mem (tb_s1 _ (List.mem_of_getElem? (i := 151) (by decide +kernel))) (by decide +kernel)
theorem kw_153 : (Jvm.Cond.laysFinal "BatchPlans" "BatchPlans" "outputs" "[LBatchPlans$Rows;") ∈ TB := tb_mem (tb_s1 _ (List.mem_of_getElem? (i := 153) (by decide +kernel))) (by decide +kernel)
theorem kw_155 : (Jvm.Cond.laysFinal "BatchPlans" "BatchPlans" "plan" "Ljava/util/ArrayList;") ∈ TB := tb_mem (tb_s1 _ (List.mem_of_getElem? (i := 155) (by decide +kernel))) (by decide +kernel)
theorem kw_157 : (Jvm.Cond.laysFinal "BatchPlans" "BatchPlans" "cost" "LBatchPlans$Cost;") ∈ TB := tb_mem (tb_s1 _ (List.mem_of_getElem? (i := 157) (by decide +kernel))) (by decide +kernel)
theorem kw_159 : (Jvm.Cond.laysFinal "BatchPlans" "BatchPlans" "result" "LBatchPlans$Rows;") ∈ TB := tb_mem (tb_s1 _ (List.mem_of_getElem? (i := 159) (by decide +kernel))) (by decide +kernel)
theorem kw_161 : (Jvm.Cond.lays "BatchPlans" "BatchPlans" "batches" "I") ∈ TB := tb_mem (tb_s1 _ (List.mem_of_getElem? (i := 161) (by decide +kernel))) (by decide +kernel)
theorem kw_163 : (Jvm.Cond.lays "BatchPlans" "BatchPlans" "written" "I") ∈ TB := tb_mem (tb_s1 _ (List.mem_of_getElem? (i := 163) (by decide +kernel))) (by decide +kernel)
theorem kw_165 : (Jvm.Cond.lays "BatchPlans" "BatchPlans" "held" "I") ∈ TB := tb_mem (tb_s1 _ (List.mem_of_getElem? (i := 165) (by decide +kernel))) (by decide +kernel)
set_option maxRecDepth 100000 in
theorem in_P : ∀ w ∈ u_ws "BatchPlans" T_P 8, w ∈ TB := List.forall_mem_cons.mpr ⟨kw_151, List.forall_mem_cons.mpr ⟨kw_153, List.forall_mem_cons.mpr ⟨kw_155, List.forall_mem_cons.mpr ⟨kw_157, List.forall_mem_cons.mpr ⟨kw_159, List.forall_mem_cons.mpr ⟨kw_161, List.forall_mem_cons.mpr ⟨kw_163, List.forall_mem_cons.mpr ⟨kw_165, fun _ h => absurd h List.not_mem_nil⟩⟩⟩⟩⟩⟩⟩⟩
set_option maxRecDepth 100000 in
theorem cl_P : Cl TB vwCl 8 "BatchPlans" T_P 8 ty_P := ⟨rfl, in_P, by decide +kernel, by decide +kernel⟩
theorem kw_90 : (Jvm.Cond.lays "java/util/ArrayList" "java/util/AbstractList" "modCount" "I") ∈ TB := tb_mem (tb_s1 _ (List.mem_of_getElem? (i := 90) (by decide +kernel))) (by decide +kernel)
theorem kw_86 : (Jvm.Cond.lays "java/util/ArrayList" "java/util/ArrayList" "elementData" "[Ljava/lang/Object;") ∈ TB := tb_mem (tb_s1 _ (List.mem_of_getElem? (i := 86) (by decide +kernel))) (by decide +kernel)
theorem kw_88 : (Jvm.Cond.lays "java/util/ArrayList" "java/util/ArrayList" "size" "I") ∈ TB := tb_mem (tb_s1 _ (List.mem_of_getElem? (i := 88) (by decide +kernel))) (by decide +kernel)
set_option maxRecDepth 100000 in
theorem in_JArrayList : ∀ w ∈ u_ws "java/util/ArrayList" T_JArrayList 3, w ∈ TB := List.forall_mem_cons.mpr ⟨kw_90, List.forall_mem_cons.mpr ⟨kw_86, List.forall_mem_cons.mpr ⟨kw_88, fun _ h => absurd h List.not_mem_nil⟩⟩⟩
set_option maxRecDepth 100000 in
theorem cl_JArrayList : Cl TB vwCl 9 "java/util/ArrayList" T_JArrayList 3 ty_JArrayList := ⟨rfl, in_JArrayList, by decide +kernel, by decide +kernel⟩
theorem kw_797 : (Jvm.Cond.lays "BatchPlansModel" "BatchPlansModel" "thrown" "I") ∈ TB := tb_mem (tb_s4 _ (List.mem_of_getElem? (i := 77) (by decide +kernel))) (by decide +kernel)
theorem kw_799 : (Jvm.Cond.laysFinal "BatchPlansModel" "BatchPlansModel" "batch" "I") ∈ TB := tb_mem (tb_s4 _ (List.mem_of_getElem? (i := 79) (by decide +kernel))) (by decide +kernel)
theorem kw_801 : (Jvm.Cond.laysFinal "BatchPlansModel" "BatchPlansModel" "memory" "I") ∈ TB := tb_mem (tb_s4 _ (List.mem_of_getElem? (i := 81) (by decide +kernel))) (by decide +kernel)
theorem kw_803 : (Jvm.Cond.laysFinal "BatchPlansModel" "BatchPlansModel" "tables" "[I") ∈ TB := tb_mem (tb_s4 _ (List.mem_of_getElem? (i := 83) (by decide +kernel))) (by decide +kernel)
theorem kw_805 : (Jvm.Cond.laysFinal "BatchPlansModel" "BatchPlansModel" "tableRows" "[I") ∈ TB := tb_mem (tb_s4 _ (List.mem_of_getElem? (i := 85) (by decide +kernel))) (by decide +kernel)
theorem kw_807 : (Jvm.Cond.lays "BatchPlansModel" "BatchPlansModel" "count" "I") ∈ TB := tb_mem (tb_s4 _ (List.mem_of_getElem? (i := 87) (by decide +kernel))) (by decide +kernel)
theorem kw_809 : (Jvm.Cond.laysFinal "BatchPlansModel" "BatchPlansModel" "kind" "[I") ∈ TB := tb_mem (tb_s4 _ (List.mem_of_getElem? (i := 89) (by decide +kernel))) (by decide +kernel)
theorem kw_811 : (Jvm.Cond.laysFinal "BatchPlansModel" "BatchPlansModel" "from" "[I") ∈ TB := tb_mem (tb_s4 _ (List.mem_of_getElem? (i := 91) (by decide +kernel))) (by decide +kernel)
theorem kw_813 : (Jvm.Cond.laysFinal "BatchPlansModel" "BatchPlansModel" "other" "[I") ∈ TB := tb_mem (tb_s4 _ (List.mem_of_getElem? (i := 93) (by decide +kernel))) (by decide +kernel)
theorem kw_815 : (Jvm.Cond.laysFinal "BatchPlansModel" "BatchPlansModel" "column" "[I") ∈ TB := tb_mem (tb_s4 _ (List.mem_of_getElem? (i := 95) (by decide +kernel))) (by decide +kernel)
theorem kw_817 : (Jvm.Cond.laysFinal "BatchPlansModel" "BatchPlansModel" "second" "[I") ∈ TB := tb_mem (tb_s4 _ (List.mem_of_getElem? (i := 97) (by decide +kernel))) (by decide +kernel)
theorem kw_819 : (Jvm.Cond.laysFinal "BatchPlansModel" "BatchPlansModel" "way" "[I") ∈ TB := tb_mem (tb_s4 _ (List.mem_of_getElem? (i := 99) (by decide +kernel))) (by decide +kernel)
theorem kw_821 : (Jvm.Cond.laysFinal "BatchPlansModel" "BatchPlansModel" "number" "[I") ∈ TB := tb_mem (tb_s4 _ (List.mem_of_getElem? (i := 101) (by decide +kernel))) (by decide +kernel)
theorem kw_823 : (Jvm.Cond.laysFinal "BatchPlansModel" "BatchPlansModel" "wide" "[I") ∈ TB := tb_mem (tb_s4 _ (List.mem_of_getElem? (i := 103) (by decide +kernel))) (by decide +kernel)
theorem kw_825 : (Jvm.Cond.laysFinal "BatchPlansModel" "BatchPlansModel" "needed" "[Z") ∈ TB := tb_mem (tb_s4 _ (List.mem_of_getElem? (i := 105) (by decide +kernel))) (by decide +kernel)
theorem kw_827 : (Jvm.Cond.laysFinal "BatchPlansModel" "BatchPlansModel" "out" "[I") ∈ TB := tb_mem (tb_s4 _ (List.mem_of_getElem? (i := 107) (by decide +kernel))) (by decide +kernel)
theorem kw_829 : (Jvm.Cond.laysFinal "BatchPlansModel" "BatchPlansModel" "outRows" "[I") ∈ TB := tb_mem (tb_s4 _ (List.mem_of_getElem? (i := 109) (by decide +kernel))) (by decide +kernel)
theorem kw_831 : (Jvm.Cond.laysFinal "BatchPlansModel" "BatchPlansModel" "reached" "[Z") ∈ TB := tb_mem (tb_s4 _ (List.mem_of_getElem? (i := 111) (by decide +kernel))) (by decide +kernel)
theorem kw_833 : (Jvm.Cond.lays "BatchPlansModel" "BatchPlansModel" "readNow" "I") ∈ TB := tb_mem (tb_s4 _ (List.mem_of_getElem? (i := 113) (by decide +kernel))) (by decide +kernel)
theorem kw_835 : (Jvm.Cond.lays "BatchPlansModel" "BatchPlansModel" "writtenNow" "I") ∈ TB := tb_mem (tb_s4 _ (List.mem_of_getElem? (i := 115) (by decide +kernel))) (by decide +kernel)
theorem kw_837 : (Jvm.Cond.lays "BatchPlansModel" "BatchPlansModel" "heldNow" "I") ∈ TB := tb_mem (tb_s4 _ (List.mem_of_getElem? (i := 117) (by decide +kernel))) (by decide +kernel)
theorem kw_839 : (Jvm.Cond.laysFinal "BatchPlansModel" "BatchPlansModel" "result" "[I") ∈ TB := tb_mem (tb_s4 _ (List.mem_of_getElem? (i := 119) (by decide +kernel))) (by decide +kernel)
theorem kw_841 : (Jvm.Cond.lays "BatchPlansModel" "BatchPlansModel" "resultRows" "I") ∈ TB := tb_mem (tb_s4 _ (List.mem_of_getElem? (i := 121) (by decide +kernel))) (by decide +kernel)
theorem kw_843 : (Jvm.Cond.lays "BatchPlansModel" "BatchPlansModel" "resultWide" "I") ∈ TB := tb_mem (tb_s4 _ (List.mem_of_getElem? (i := 123) (by decide +kernel))) (by decide +kernel)
theorem kw_845 : (Jvm.Cond.lays "BatchPlansModel" "BatchPlansModel" "readThen" "I") ∈ TB := tb_mem (tb_s4 _ (List.mem_of_getElem? (i := 125) (by decide +kernel))) (by decide +kernel)
theorem kw_847 : (Jvm.Cond.lays "BatchPlansModel" "BatchPlansModel" "writtenThen" "I") ∈ TB := tb_mem (tb_s4 _ (List.mem_of_getElem? (i := 127) (by decide +kernel))) (by decide +kernel)
theorem kw_849 : (Jvm.Cond.lays "BatchPlansModel" "BatchPlansModel" "heldThen" "I") ∈ TB := tb_mem (tb_s4 _ (List.mem_of_getElem? (i := 129) (by decide +kernel))) (by decide +kernel)
set_option maxRecDepth 100000 in
theorem in_M : ∀ w ∈ u_ws "BatchPlansModel" T_M 27, w ∈ TB := List.forall_mem_cons.mpr ⟨kw_797, List.forall_mem_cons.mpr ⟨kw_799, List.forall_mem_cons.mpr ⟨kw_801, List.forall_mem_cons.mpr ⟨kw_803, List.forall_mem_cons.mpr ⟨kw_805, List.forall_mem_cons.mpr ⟨kw_807, List.forall_mem_cons.mpr ⟨kw_809, List.forall_mem_cons.mpr ⟨kw_811, List.forall_mem_cons.mpr ⟨kw_813, List.forall_mem_cons.mpr ⟨kw_815, List.forall_mem_cons.mpr ⟨kw_817, List.forall_mem_cons.mpr ⟨kw_819, List.forall_mem_cons.mpr ⟨kw_821, List.forall_mem_cons.mpr ⟨kw_823, List.forall_mem_cons.mpr ⟨kw_825, List.forall_mem_cons.mpr ⟨kw_827, List.forall_mem_cons.mpr ⟨kw_829, List.forall_mem_cons.mpr ⟨kw_831, List.forall_mem_cons.mpr ⟨kw_833, List.forall_mem_cons.mpr ⟨kw_835, List.forall_mem_cons.mpr ⟨kw_837, List.forall_mem_cons.mpr ⟨kw_839, List.forall_mem_cons.mpr ⟨kw_841, List.forall_mem_cons.mpr ⟨kw_843, List.forall_mem_cons.mpr ⟨kw_845, List.forall_mem_cons.mpr ⟨kw_847, List.forall_mem_cons.mpr ⟨kw_849, fun _ h => absurd h List.not_mem_nil⟩⟩⟩⟩⟩⟩⟩⟩⟩⟩⟩⟩⟩⟩⟩⟩⟩⟩⟩⟩⟩⟩⟩⟩⟩⟩⟩
set_option maxRecDepth 100000 in
theorem cl_M : Cl TB vwCl 10 "BatchPlansModel" T_M 27 ty_M := ⟨rfl, in_M, by decide +kernel, by decide +kernel⟩
/-- the numbers of the classes and of the arrays' kinds -/
abbrev hGt : Type := va_G × (Nat → ClassId)
def hT (G : hGt) : List (ClassId × FieldType) := [(G.2 0, .int), (G.2 1, .long), (G.2 2, .boolean), (G.2 3, .object "BatchPlans$Rows"), (G.2 4, .object "java/lang/Object")]
abbrev aI (G : hGt) (n : Nat) (f : Nat → Int32) : va_E := .inl (G.2 0, n, .inl f)
abbrev aJ (G : hGt) (n : Nat) (f : Nat → Int64) : va_E := .inl (G.2 1, n, .inr (.inl f))
abbrev aZ (G : hGt) (n : Nat) (f : Nat → Int32) : va_E := .inl (G.2 2, n, .inl f)
abbrev aQ (G : hGt) (n : Nat) (f : Nat → Option Nat) : va_E := .inl (G.2 3, n, .inr (.inr (.inr (.inr f))))
abbrev aO (G : hGt) (n : Nat) (f : Nat → Option Nat) : va_E := .inl (G.2 4, n, .inr (.inr (.inr (.inr f))))
/-- what stays true of the tables and of the old cells while the script runs -/
def Ev (G : hGt) (a0 : Nat) (U : State) : Prop := va_K G.1 vwCl (hT G) U ∧ (∀ w ∈ NW, va_Nw w U) ∧ True
def nw_ok (w : Cond) : Prop := (∃ a i b n d h, w = .fieldLinkNest a i b n d h) ∨ (∃ a i x h, w = .methodLinkNest a i x h) ∨ (∃ a b, w = .castable a b) ∨ ∃ x, w = .declares x
theorem nw_keep {w : Cond} (h : nw_ok w) {s t : State} (hW : s.WarmedH t.vm) (hw : va_Nw w s) : va_Nw w t := by
  rcases h with ⟨a, i, b, n, d, h, rfl⟩ | ⟨a, i, x, h, rfl⟩ | ⟨a, b, rfl⟩ | ⟨x, rfl⟩
  · exact va_Nw.warmF hW hw
  · exact va_Nw.warmM hW hw
  · exact va_Nw.warmC hW hw
  · exact va_Nw.warmD hW hw
theorem nw_all : ∀ w ∈ NW, nw_ok w := List.forall_mem_cons.mpr ⟨Or.inl ⟨_, _, _, _, _, _, rfl⟩, List.forall_mem_cons.mpr ⟨Or.inl ⟨_, _, _, _, _, _, rfl⟩, List.forall_mem_cons.mpr ⟨Or.inl ⟨_, _, _, _, _, _, rfl⟩, List.forall_mem_cons.mpr ⟨Or.inl ⟨_, _, _, _, _, _, rfl⟩, List.forall_mem_cons.mpr ⟨Or.inl ⟨_, _, _, _, _, _, rfl⟩, List.forall_mem_cons.mpr ⟨Or.inl ⟨_, _, _, _, _, _, rfl⟩, List.forall_mem_cons.mpr ⟨Or.inl ⟨_, _, _, _, _, _, rfl⟩, List.forall_mem_cons.mpr ⟨Or.inl ⟨_, _, _, _, _, _, rfl⟩, List.forall_mem_cons.mpr ⟨Or.inr (Or.inl ⟨_, _, _, _, rfl⟩), List.forall_mem_cons.mpr ⟨Or.inl ⟨_, _, _, _, _, _, rfl⟩, List.forall_mem_cons.mpr ⟨Or.inl ⟨_, _, _, _, _, _, rfl⟩, List.forall_mem_cons.mpr ⟨Or.inl ⟨_, _, _, _, _, _, rfl⟩, List.forall_mem_cons.mpr ⟨Or.inr (Or.inr (Or.inl ⟨_, _, rfl⟩)), List.forall_mem_cons.mpr ⟨Or.inr (Or.inr (Or.inr ⟨_, rfl⟩)), List.forall_mem_cons.mpr ⟨Or.inr (Or.inr (Or.inr ⟨_, rfl⟩)), List.forall_mem_cons.mpr ⟨Or.inr (Or.inr (Or.inr ⟨_, rfl⟩)), List.forall_mem_cons.mpr ⟨Or.inr (Or.inr (Or.inr ⟨_, rfl⟩)), List.forall_mem_cons.mpr ⟨Or.inr (Or.inr (Or.inr ⟨_, rfl⟩)), List.forall_mem_cons.mpr ⟨Or.inr (Or.inr (Or.inr ⟨_, rfl⟩)), List.forall_mem_cons.mpr ⟨Or.inr (Or.inr (Or.inl ⟨_, _, rfl⟩)), List.forall_mem_cons.mpr ⟨Or.inr (Or.inr (Or.inr ⟨_, rfl⟩)), List.forall_mem_cons.mpr ⟨Or.inr (Or.inr (Or.inl ⟨_, _, rfl⟩)), List.forall_mem_cons.mpr ⟨Or.inr (Or.inr (Or.inl ⟨_, _, rfl⟩)), List.forall_mem_cons.mpr ⟨Or.inr (Or.inr (Or.inl ⟨_, _, rfl⟩)), List.forall_mem_cons.mpr ⟨Or.inr (Or.inr (Or.inl ⟨_, _, rfl⟩)), List.forall_mem_cons.mpr ⟨Or.inr (Or.inr (Or.inl ⟨_, _, rfl⟩)), List.forall_mem_cons.mpr ⟨Or.inr (Or.inr (Or.inl ⟨_, _, rfl⟩)), List.forall_mem_cons.mpr ⟨Or.inr (Or.inr (Or.inl ⟨_, _, rfl⟩)), List.forall_mem_cons.mpr ⟨Or.inr (Or.inr (Or.inr ⟨_, rfl⟩)), List.forall_mem_cons.mpr ⟨Or.inr (Or.inr (Or.inl ⟨_, _, rfl⟩)), List.forall_mem_cons.mpr ⟨Or.inr (Or.inr (Or.inl ⟨_, _, rfl⟩)), List.forall_mem_cons.mpr ⟨Or.inr (Or.inr (Or.inl ⟨_, _, rfl⟩)), List.forall_mem_cons.mpr ⟨Or.inr (Or.inr (Or.inl ⟨_, _, rfl⟩)), List.forall_mem_cons.mpr ⟨Or.inr (Or.inr (Or.inl ⟨_, _, rfl⟩)), List.forall_mem_cons.mpr ⟨Or.inr (Or.inr (Or.inl ⟨_, _, rfl⟩)), List.forall_mem_cons.mpr ⟨Or.inr (Or.inr (Or.inl ⟨_, _, rfl⟩)), List.forall_mem_cons.mpr ⟨Or.inr (Or.inr (Or.inl ⟨_, _, rfl⟩)), List.forall_mem_cons.mpr ⟨Or.inr (Or.inr (Or.inl ⟨_, _, rfl⟩)), List.forall_mem_cons.mpr ⟨Or.inr (Or.inr (Or.inl ⟨_, _, rfl⟩)), List.forall_mem_cons.mpr ⟨Or.inr (Or.inr (Or.inl ⟨_, _, rfl⟩)), fun _ h => absurd h List.not_mem_nil⟩⟩⟩⟩⟩⟩⟩⟩⟩⟩⟩⟩⟩⟩⟩⟩⟩⟩⟩⟩⟩⟩⟩⟩⟩⟩⟩⟩⟩⟩⟩⟩⟩⟩⟩⟩⟩⟩⟩⟩
theorem ev_keep (G : hGt) (a0 : Nat) : hKeep a0 (Ev G a0) := fun s t h hW _ => ⟨va_K.moved hW.alike h.1, fun w hw => nw_keep (nw_all w hw) hW (h.2.1 w hw), trivial⟩
