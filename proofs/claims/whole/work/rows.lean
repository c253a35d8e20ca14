section
-- ===== PART A: goes FIRST, ahead of the names: the tables' words, and 'selects' of the private methods out of them =====
/-- a private method of a class that the tables say can be made, by its rows of tables_1 -/
def lw_okq (q : MethodName × Nat) : Prop := (q.1.cls ≠ "java/lang/invoke/MethodHandle" ∧ q.1.cls ≠ "java/lang/invoke/VarHandle") ∧ Cond.instantiable q.1.cls q.2 ∈ tables_1 ∧ Cond.privateMethod q.1 ∈ tables_1 ∧ Cond.instanceMethod q.1 ∈ tables_1
theorem lw_p0 : lw_okq (⟨"java/lang/Throwable", "fillInStackTrace", "(I)Ljava/lang/Throwable;"⟩, 6) := ⟨⟨by decide +kernel, by decide +kernel⟩, List.mem_of_getElem? (i := 259) (by decide +kernel), List.mem_of_getElem? (i := 257) (by decide +kernel), List.mem_of_getElem? (i := 258) (by decide +kernel)⟩
theorem lw_p1 : lw_okq (⟨"BatchPlans", "needRoomForNode", "()V"⟩, 8) := ⟨⟨by decide +kernel, by decide +kernel⟩, List.mem_of_getElem? (i := 30) (by decide +kernel), List.mem_of_getElem? (i := 316) (by decide +kernel), List.mem_of_getElem? (i := 317) (by decide +kernel)⟩
theorem lw_p2 : lw_okq (⟨"BatchPlans", "addNode", "(LBatchPlans$Node;)I"⟩, 8) := ⟨⟨by decide +kernel, by decide +kernel⟩, List.mem_of_getElem? (i := 30) (by decide +kernel), List.mem_of_getElem? (i := 371) (by decide +kernel), List.mem_of_getElem? (i := 372) (by decide +kernel)⟩
theorem lw_p3 : lw_okq (⟨"java/util/ArrayList", "add", "(Ljava/lang/Object;[Ljava/lang/Object;I)V"⟩, 3) := ⟨⟨by decide +kernel, by decide +kernel⟩, List.mem_of_getElem? (i := 68) (by decide +kernel), List.mem_of_getElem? (i := 379) (by decide +kernel), List.mem_of_getElem? (i := 380) (by decide +kernel)⟩
theorem lw_p4 : lw_okq (⟨"java/util/ArrayList", "grow", "()[Ljava/lang/Object;"⟩, 3) := ⟨⟨by decide +kernel, by decide +kernel⟩, List.mem_of_getElem? (i := 68) (by decide +kernel), List.mem_of_getElem? (i := 383) (by decide +kernel), List.mem_of_getElem? (i := 384) (by decide +kernel)⟩
theorem lw_p5 : lw_okq (⟨"java/util/ArrayList", "grow", "(I)[Ljava/lang/Object;"⟩, 3) := ⟨⟨by decide +kernel, by decide +kernel⟩, List.mem_of_getElem? (i := 68) (by decide +kernel), List.mem_of_getElem? (i := 387) (by decide +kernel), List.mem_of_getElem? (i := 388) (by decide +kernel)⟩
theorem lw_p6 : lw_okq (⟨"BatchPlans", "nodeAt", "(I)LBatchPlans$Node;"⟩, 8) := ⟨⟨by decide +kernel, by decide +kernel⟩, List.mem_of_getElem? (i := 30) (by decide +kernel), List.mem_of_getElem? (i := 440) (by decide +kernel), List.mem_of_getElem? (i := 441) (by decide +kernel)⟩
theorem lw_p7 : lw_okq (⟨"BatchPlans$FilterNode", "passes", "(I)Z"⟩, 7) := ⟨⟨by decide +kernel, by decide +kernel⟩, List.mem_of_getElem? (i := 464) (by decide +kernel), List.mem_of_getElem? (i := 607) (by decide +kernel), List.mem_of_getElem? (i := 608) (by decide +kernel)⟩
theorem lw_p8 : lw_okq (⟨"BatchPlans$GroupNode", "addGroupOf", "(I)V"⟩, 6) := ⟨⟨by decide +kernel, by decide +kernel⟩, List.mem_of_getElem? (i := 552) (by decide +kernel), List.mem_of_getElem? (i := 627) (by decide +kernel), List.mem_of_getElem? (i := 628) (by decide +kernel)⟩
theorem lw_p9 : lw_okq (⟨"BatchPlans$Cost", "countPart", "(IIZ)V"⟩, 7) := ⟨⟨by decide +kernel, by decide +kernel⟩, List.mem_of_getElem? (i := 94) (by decide +kernel), List.mem_of_getElem? (i := 669) (by decide +kernel), List.mem_of_getElem? (i := 670) (by decide +kernel)⟩
theorem lw_p10 : lw_okq (⟨"BatchPlans$JoinNode", "addPairsOf", "(I)V"⟩, 7) := ⟨⟨by decide +kernel, by decide +kernel⟩, List.mem_of_getElem? (i := 523) (by decide +kernel), List.mem_of_getElem? (i := 684) (by decide +kernel), List.mem_of_getElem? (i := 685) (by decide +kernel)⟩
theorem lw_p11 : lw_okq (⟨"BatchPlans$JoinNode", "needRoomForRow", "()V"⟩, 7) := ⟨⟨by decide +kernel, by decide +kernel⟩, List.mem_of_getElem? (i := 523) (by decide +kernel), List.mem_of_getElem? (i := 689) (by decide +kernel), List.mem_of_getElem? (i := 690) (by decide +kernel)⟩
theorem lw_p12 : lw_okq (⟨"BatchPlans$MapNode", "changed", "(JJ)J"⟩, 7) := ⟨⟨by decide +kernel, by decide +kernel⟩, List.mem_of_getElem? (i := 493) (by decide +kernel), List.mem_of_getElem? (i := 711) (by decide +kernel), List.mem_of_getElem? (i := 712) (by decide +kernel)⟩
theorem lw_p13 : lw_okq (⟨"BatchPlans", "keepResult", "(LBatchPlans$Rows;)V"⟩, 8) := ⟨⟨by decide +kernel, by decide +kernel⟩, List.mem_of_getElem? (i := 30) (by decide +kernel), List.mem_of_getElem? (i := 725) (by decide +kernel), List.mem_of_getElem? (i := 726) (by decide +kernel)⟩
theorem lw_p14 : lw_okq (⟨"BatchPlans$Rows", "isLess", "(LBatchPlans$Rows;II)Z"⟩, 3) := ⟨⟨by decide +kernel, by decide +kernel⟩, List.mem_of_getElem? (i := 39) (by decide +kernel), List.mem_of_getElem? (i := 733) (by decide +kernel), List.mem_of_getElem? (i := 734) (by decide +kernel)⟩
theorem lw_p15 : lw_okq (⟨"BatchPlansModel", "refuses", "(ZZ)Z"⟩, 27) := ⟨⟨by decide +kernel, by decide +kernel⟩, List.mem_of_getElem? (i := 765) (by decide +kernel), List.mem_of_getElem? (i := 869) (by decide +kernel), List.mem_of_getElem? (i := 870) (by decide +kernel)⟩
def lw_privs_1 : List (MethodName × Nat) := [(⟨"java/lang/Throwable", "fillInStackTrace", "(I)Ljava/lang/Throwable;"⟩, 6), (⟨"BatchPlans", "needRoomForNode", "()V"⟩, 8), (⟨"BatchPlans", "addNode", "(LBatchPlans$Node;)I"⟩, 8), (⟨"java/util/ArrayList", "add", "(Ljava/lang/Object;[Ljava/lang/Object;I)V"⟩, 3), (⟨"java/util/ArrayList", "grow", "()[Ljava/lang/Object;"⟩, 3), (⟨"java/util/ArrayList", "grow", "(I)[Ljava/lang/Object;"⟩, 3), (⟨"BatchPlans", "nodeAt", "(I)LBatchPlans$Node;"⟩, 8), (⟨"BatchPlans$FilterNode", "passes", "(I)Z"⟩, 7), (⟨"BatchPlans$GroupNode", "addGroupOf", "(I)V"⟩, 6), (⟨"BatchPlans$Cost", "countPart", "(IIZ)V"⟩, 7), (⟨"BatchPlans$JoinNode", "addPairsOf", "(I)V"⟩, 7), (⟨"BatchPlans$JoinNode", "needRoomForRow", "()V"⟩, 7), (⟨"BatchPlans$MapNode", "changed", "(JJ)J"⟩, 7), (⟨"BatchPlans", "keepResult", "(LBatchPlans$Rows;)V"⟩, 8), (⟨"BatchPlans$Rows", "isLess", "(LBatchPlans$Rows;II)Z"⟩, 3), (⟨"BatchPlansModel", "refuses", "(ZZ)Z"⟩, 27)]
theorem lw_r1 : ∀ q ∈ lw_privs_1, lw_okq q := List.forall_mem_cons.mpr ⟨lw_p0, List.forall_mem_cons.mpr ⟨lw_p1, List.forall_mem_cons.mpr ⟨lw_p2, List.forall_mem_cons.mpr ⟨lw_p3, List.forall_mem_cons.mpr ⟨lw_p4, List.forall_mem_cons.mpr ⟨lw_p5, List.forall_mem_cons.mpr ⟨lw_p6, List.forall_mem_cons.mpr ⟨lw_p7, List.forall_mem_cons.mpr ⟨lw_p8, List.forall_mem_cons.mpr ⟨lw_p9, List.forall_mem_cons.mpr ⟨lw_p10, List.forall_mem_cons.mpr ⟨lw_p11, List.forall_mem_cons.mpr ⟨lw_p12, List.forall_mem_cons.mpr ⟨lw_p13, List.forall_mem_cons.mpr ⟨lw_p14, List.forall_mem_cons.mpr ⟨lw_p15, fun _ h => absurd h List.not_mem_nil⟩⟩⟩⟩⟩⟩⟩⟩⟩⟩⟩⟩⟩⟩⟩⟩
theorem lw_p16 : lw_okq (⟨"BatchPlansModel", "add", "(IIII)I"⟩, 27) := ⟨⟨by decide +kernel, by decide +kernel⟩, List.mem_of_getElem? (i := 765) (by decide +kernel), List.mem_of_getElem? (i := 873) (by decide +kernel), List.mem_of_getElem? (i := 874) (by decide +kernel)⟩
theorem lw_p17 : lw_okq (⟨"BatchPlansModel", "isColumn", "(II)Z"⟩, 27) := ⟨⟨by decide +kernel, by decide +kernel⟩, List.mem_of_getElem? (i := 765) (by decide +kernel), List.mem_of_getElem? (i := 881) (by decide +kernel), List.mem_of_getElem? (i := 882) (by decide +kernel)⟩
theorem lw_p18 : lw_okq (⟨"BatchPlansModel", "isNode", "(I)Z"⟩, 27) := ⟨⟨by decide +kernel, by decide +kernel⟩, List.mem_of_getElem? (i := 765) (by decide +kernel), List.mem_of_getElem? (i := 885) (by decide +kernel), List.mem_of_getElem? (i := 886) (by decide +kernel)⟩
theorem lw_p19 : lw_okq (⟨"BatchPlansModel", "findNeeded", "(I)V"⟩, 27) := ⟨⟨by decide +kernel, by decide +kernel⟩, List.mem_of_getElem? (i := 765) (by decide +kernel), List.mem_of_getElem? (i := 905) (by decide +kernel), List.mem_of_getElem? (i := 906) (by decide +kernel)⟩
theorem lw_p20 : lw_okq (⟨"BatchPlansModel", "work", "(I)I"⟩, 27) := ⟨⟨by decide +kernel, by decide +kernel⟩, List.mem_of_getElem? (i := 765) (by decide +kernel), List.mem_of_getElem? (i := 909) (by decide +kernel), List.mem_of_getElem? (i := 910) (by decide +kernel)⟩
theorem lw_p21 : lw_okq (⟨"BatchPlansModel", "workScan", "(I)V"⟩, 27) := ⟨⟨by decide +kernel, by decide +kernel⟩, List.mem_of_getElem? (i := 765) (by decide +kernel), List.mem_of_getElem? (i := 913) (by decide +kernel), List.mem_of_getElem? (i := 914) (by decide +kernel)⟩
theorem lw_p22 : lw_okq (⟨"BatchPlansModel", "reads", "(I)V"⟩, 27) := ⟨⟨by decide +kernel, by decide +kernel⟩, List.mem_of_getElem? (i := 765) (by decide +kernel), List.mem_of_getElem? (i := 917) (by decide +kernel), List.mem_of_getElem? (i := 918) (by decide +kernel)⟩
theorem lw_p23 : lw_okq (⟨"BatchPlansModel", "put", "(IIII)V"⟩, 27) := ⟨⟨by decide +kernel, by decide +kernel⟩, List.mem_of_getElem? (i := 765) (by decide +kernel), List.mem_of_getElem? (i := 921) (by decide +kernel), List.mem_of_getElem? (i := 922) (by decide +kernel)⟩
theorem lw_p24 : lw_okq (⟨"BatchPlansModel", "workFilter", "(I)V"⟩, 27) := ⟨⟨by decide +kernel, by decide +kernel⟩, List.mem_of_getElem? (i := 765) (by decide +kernel), List.mem_of_getElem? (i := 925) (by decide +kernel), List.mem_of_getElem? (i := 926) (by decide +kernel)⟩
theorem lw_p25 : lw_okq (⟨"BatchPlansModel", "cellOf", "(III)I"⟩, 27) := ⟨⟨by decide +kernel, by decide +kernel⟩, List.mem_of_getElem? (i := 765) (by decide +kernel), List.mem_of_getElem? (i := 929) (by decide +kernel), List.mem_of_getElem? (i := 930) (by decide +kernel)⟩
theorem lw_p26 : lw_okq (⟨"BatchPlansModel", "copy", "(IIII)V"⟩, 27) := ⟨⟨by decide +kernel, by decide +kernel⟩, List.mem_of_getElem? (i := 765) (by decide +kernel), List.mem_of_getElem? (i := 933) (by decide +kernel), List.mem_of_getElem? (i := 934) (by decide +kernel)⟩
theorem lw_p27 : lw_okq (⟨"BatchPlansModel", "workMap", "(I)I"⟩, 27) := ⟨⟨by decide +kernel, by decide +kernel⟩, List.mem_of_getElem? (i := 765) (by decide +kernel), List.mem_of_getElem? (i := 937) (by decide +kernel), List.mem_of_getElem? (i := 938) (by decide +kernel)⟩
theorem lw_p28 : lw_okq (⟨"BatchPlansModel", "workJoin", "(I)I"⟩, 27) := ⟨⟨by decide +kernel, by decide +kernel⟩, List.mem_of_getElem? (i := 765) (by decide +kernel), List.mem_of_getElem? (i := 944) (by decide +kernel), List.mem_of_getElem? (i := 945) (by decide +kernel)⟩
theorem lw_p29 : lw_okq (⟨"BatchPlansModel", "spill", "(IIIII)V"⟩, 27) := ⟨⟨by decide +kernel, by decide +kernel⟩, List.mem_of_getElem? (i := 765) (by decide +kernel), List.mem_of_getElem? (i := 948) (by decide +kernel), List.mem_of_getElem? (i := 949) (by decide +kernel)⟩
theorem lw_p30 : lw_okq (⟨"BatchPlansModel", "rowsWith", "(IIII)I"⟩, 27) := ⟨⟨by decide +kernel, by decide +kernel⟩, List.mem_of_getElem? (i := 765) (by decide +kernel), List.mem_of_getElem? (i := 958) (by decide +kernel), List.mem_of_getElem? (i := 959) (by decide +kernel)⟩
theorem lw_p31 : lw_okq (⟨"BatchPlansModel", "workGroup", "(I)I"⟩, 27) := ⟨⟨by decide +kernel, by decide +kernel⟩, List.mem_of_getElem? (i := 765) (by decide +kernel), List.mem_of_getElem? (i := 963) (by decide +kernel), List.mem_of_getElem? (i := 964) (by decide +kernel)⟩
def lw_privs_2 : List (MethodName × Nat) := [(⟨"BatchPlansModel", "add", "(IIII)I"⟩, 27), (⟨"BatchPlansModel", "isColumn", "(II)Z"⟩, 27), (⟨"BatchPlansModel", "isNode", "(I)Z"⟩, 27), (⟨"BatchPlansModel", "findNeeded", "(I)V"⟩, 27), (⟨"BatchPlansModel", "work", "(I)I"⟩, 27), (⟨"BatchPlansModel", "workScan", "(I)V"⟩, 27), (⟨"BatchPlansModel", "reads", "(I)V"⟩, 27), (⟨"BatchPlansModel", "put", "(IIII)V"⟩, 27), (⟨"BatchPlansModel", "workFilter", "(I)V"⟩, 27), (⟨"BatchPlansModel", "cellOf", "(III)I"⟩, 27), (⟨"BatchPlansModel", "copy", "(IIII)V"⟩, 27), (⟨"BatchPlansModel", "workMap", "(I)I"⟩, 27), (⟨"BatchPlansModel", "workJoin", "(I)I"⟩, 27), (⟨"BatchPlansModel", "spill", "(IIIII)V"⟩, 27), (⟨"BatchPlansModel", "rowsWith", "(IIII)I"⟩, 27), (⟨"BatchPlansModel", "workGroup", "(I)I"⟩, 27)]
theorem lw_r2 : ∀ q ∈ lw_privs_2, lw_okq q := List.forall_mem_cons.mpr ⟨lw_p16, List.forall_mem_cons.mpr ⟨lw_p17, List.forall_mem_cons.mpr ⟨lw_p18, List.forall_mem_cons.mpr ⟨lw_p19, List.forall_mem_cons.mpr ⟨lw_p20, List.forall_mem_cons.mpr ⟨lw_p21, List.forall_mem_cons.mpr ⟨lw_p22, List.forall_mem_cons.mpr ⟨lw_p23, List.forall_mem_cons.mpr ⟨lw_p24, List.forall_mem_cons.mpr ⟨lw_p25, List.forall_mem_cons.mpr ⟨lw_p26, List.forall_mem_cons.mpr ⟨lw_p27, List.forall_mem_cons.mpr ⟨lw_p28, List.forall_mem_cons.mpr ⟨lw_p29, List.forall_mem_cons.mpr ⟨lw_p30, List.forall_mem_cons.mpr ⟨lw_p31, fun _ h => absurd h List.not_mem_nil⟩⟩⟩⟩⟩⟩⟩⟩⟩⟩⟩⟩⟩⟩⟩⟩
theorem lw_p32 : lw_okq (⟨"BatchPlansModel", "place", "(II)V"⟩, 27) := ⟨⟨by decide +kernel, by decide +kernel⟩, List.mem_of_getElem? (i := 765) (by decide +kernel), List.mem_of_getElem? (i := 967) (by decide +kernel), List.mem_of_getElem? (i := 968) (by decide +kernel)⟩
theorem lw_p33 : lw_okq (⟨"BatchPlansModel", "isLess", "(III)Z"⟩, 27) := ⟨⟨by decide +kernel, by decide +kernel⟩, List.mem_of_getElem? (i := 765) (by decide +kernel), List.mem_of_getElem? (i := 971) (by decide +kernel), List.mem_of_getElem? (i := 972) (by decide +kernel)⟩
def lw_privs_3 : List (MethodName × Nat) := [(⟨"BatchPlansModel", "place", "(II)V"⟩, 27), (⟨"BatchPlansModel", "isLess", "(III)Z"⟩, 27)]
theorem lw_r3 : ∀ q ∈ lw_privs_3, lw_okq q := List.forall_mem_cons.mpr ⟨lw_p32, List.forall_mem_cons.mpr ⟨lw_p33, fun _ h => absurd h List.not_mem_nil⟩⟩
def lw_privs : List (MethodName × Nat) := lw_privs_1 ++ (lw_privs_2 ++ (lw_privs_3))
def lw_tbl : List Cond := k2_sels lw_privs ++ tables_1
theorem lw_privs_ok : ∀ q ∈ lw_privs, lw_okq q := by
  show ∀ q ∈ lw_privs_1 ++ (lw_privs_2 ++ (lw_privs_3)), lw_okq q
  exact List.forall_mem_append.mpr ⟨lw_r1, List.forall_mem_append.mpr ⟨lw_r2, lw_r3⟩⟩
end
section
/-! the words that all contracts share -/
def TB : List Cond := lw_tbl.filter goodWord
theorem tb_good : ∀ w ∈ TB, goodWord w = true := fun w h => (List.mem_filter.mp h).2
theorem tb_mem {w : Cond} (h : w ∈ tables_1) (hg : goodWord w = true) : w ∈ TB := List.mem_filter.mpr ⟨List.mem_append_right _ h, hg⟩
theorem tb_memS {w : Cond} (h : w ∈ k2_sels lw_privs) (hg : goodWord w = true) : w ∈ TB := List.mem_filter.mpr ⟨List.mem_append_left _ h, hg⟩
theorem tb_s1 : ∀ w ∈ tables_1_1, w ∈ tables_1 := fun w h => (List.mem_append_left _ h)
theorem tb_s2 : ∀ w ∈ tables_1_2, w ∈ tables_1 := fun w h => (List.mem_append_right _ (List.mem_append_left _ h))
theorem tb_s3 : ∀ w ∈ tables_1_3, w ∈ tables_1 := fun w h => (List.mem_append_right _ (List.mem_append_right _ (List.mem_append_left _ h)))
theorem tb_s4 : ∀ w ∈ tables_1_4, w ∈ tables_1 := fun w h => (List.mem_append_right _ (List.mem_append_right _ (List.mem_append_right _ (List.mem_append_left _ h))))
theorem tb_s5 : ∀ w ∈ tables_1_5, w ∈ tables_1 := fun w h => (List.mem_append_right _ (List.mem_append_right _ (List.mem_append_right _ (List.mem_append_right _ h))))
def NW : List Cond := [(Jvm.Cond.fieldLinkNest "BatchPlans" (136 : Nat) "BatchPlans$Rows" "columns" "I" "BatchPlans"), (Jvm.Cond.fieldLinkNest "BatchPlans$Parts" (19 : Nat) "BatchPlans$Rows" "count" "I" "BatchPlans"), (Jvm.Cond.fieldLinkNest "BatchPlans" (50 : Nat) "BatchPlans$Rows" "count" "I" "BatchPlans"), (Jvm.Cond.fieldLinkNest "BatchPlans$FilterNode" (46 : Nat) "BatchPlans$Rows" "count" "I" "BatchPlans"), (Jvm.Cond.fieldLinkNest "BatchPlans$GroupNode" (44 : Nat) "BatchPlans$Rows" "count" "I" "BatchPlans"), (Jvm.Cond.fieldLinkNest "BatchPlans$MapNode" (46 : Nat) "BatchPlans$Rows" "count" "I" "BatchPlans"), (Jvm.Cond.fieldLinkNest "BatchPlans$JoinNode" (48 : Nat) "BatchPlans$Rows" "count" "I" "BatchPlans"), (Jvm.Cond.fieldLinkNest "BatchPlans$Cost" (35 : Nat) "BatchPlans$Rows" "count" "I" "BatchPlans"), (Jvm.Cond.methodLinkNest "BatchPlans$Cost" (9 : Nat) ({ cls := "BatchPlans$Parts", name := "<init>", desc := "()V" } : Jvm.MethodName) "BatchPlans"), (Jvm.Cond.fieldLinkNest "BatchPlans" (185 : Nat) "BatchPlans$Cost" "batches" "I" "BatchPlans"), (Jvm.Cond.fieldLinkNest "BatchPlans" (186 : Nat) "BatchPlans$Cost" "written" "I" "BatchPlans"), (Jvm.Cond.fieldLinkNest "BatchPlans" (187 : Nat) "BatchPlans$Cost" "held" "I" "BatchPlans"), (Jvm.Cond.castable "java/lang/IllegalArgumentException" "java/lang/IllegalArgumentException"), (Jvm.Cond.declares ({ cls := "java/lang/RuntimeException", name := "<init>", desc := "()V" } : Jvm.MethodName)), (Jvm.Cond.declares ({ cls := "java/lang/RuntimeException", name := "<init>", desc := "(Ljava/lang/String;)V" } : Jvm.MethodName)), (Jvm.Cond.declares ({ cls := "java/lang/Exception", name := "<init>", desc := "()V" } : Jvm.MethodName)), (Jvm.Cond.declares ({ cls := "java/lang/Exception", name := "<init>", desc := "(Ljava/lang/String;)V" } : Jvm.MethodName)), (Jvm.Cond.declares ({ cls := "java/lang/Throwable", name := "<init>", desc := "()V" } : Jvm.MethodName)), (Jvm.Cond.declares ({ cls := "java/lang/Throwable", name := "<init>", desc := "(Ljava/lang/String;)V" } : Jvm.MethodName)), (Jvm.Cond.castable "java/lang/IllegalStateException" "java/lang/IllegalStateException"), (Jvm.Cond.declares ({ cls := "BatchPlans$Node", name := "workOut", desc := "(LBatchPlans$Cost;)V" } : Jvm.MethodName)), (Jvm.Cond.castable "java/lang/ArithmeticException" "java/lang/ArithmeticException"), (Jvm.Cond.castable "java/lang/IndexOutOfBoundsException" "java/lang/IndexOutOfBoundsException"), (Jvm.Cond.castable "BatchPlans$FilterNode" "BatchPlans$Node"), (Jvm.Cond.castable "BatchPlans$GroupNode" "BatchPlans$Node"), (Jvm.Cond.castable "BatchPlans$JoinNode" "BatchPlans$Node"), (Jvm.Cond.castable "BatchPlans$MapNode" "BatchPlans$Node"), (Jvm.Cond.castable "BatchPlans$ScanNode" "BatchPlans$Node"), (Jvm.Cond.declares ({ cls := "java/lang/Object", name := "getClass", desc := "()Ljava/lang/Class;" } : Jvm.MethodName)), (Jvm.Cond.castable "BatchPlans" "java/lang/Object"), (Jvm.Cond.castable "BatchPlans$Rows" "java/lang/Object"), (Jvm.Cond.castable "BatchPlans$Cost" "java/lang/Object"), (Jvm.Cond.castable "BatchPlans$Parts" "java/lang/Object"), (Jvm.Cond.castable "BatchPlansModel" "java/lang/Object"), (Jvm.Cond.castable "BatchPlans$ScanNode" "java/lang/Object"), (Jvm.Cond.castable "BatchPlans$FilterNode" "java/lang/Object"), (Jvm.Cond.castable "BatchPlans$MapNode" "java/lang/Object"), (Jvm.Cond.castable "BatchPlans$JoinNode" "java/lang/Object"), (Jvm.Cond.castable "BatchPlans$GroupNode" "java/lang/Object"), (Jvm.Cond.castable "java/lang/String" "java/lang/Object")]
end
section
/-! The kernel of this proof: one map of cells for all (an address, what lies there), contracts that may throw (MX), calls, throws. -/
abbrev hMp : Type := Nat → Option va_E
def hA (a0 : Nat) : Nat → Prop := fun q => a0 ≤ q
/-- the heap H holds the cells of M, all at a0 or above -/
def hv (D : va_G) (cl : List vw_C) (a0 : Nat) (M : hMp) (H : Heap) : Prop := ∃ (L : List Nat) (f : Nat → va_E), (∀ a, M a = if a ∈ L then some (f a) else none) ∧ va_P D cl (va_pl L f) H ∧ va_D (hA a0) (va_pl L f)
theorem hv_at {D : va_G} {cl : List vw_C} {a0 : Nat} {M : hMp} {H : Heap} (h : hv D cl a0 M H) {a : Nat} {e : va_E} (ha : M a = some e) :
    ∃ (ws : va_W) (k : Nat), va_P D cl ws H ∧ va_D (hA a0) ws ∧ ws[k]? = some (a, e) ∧ (∀ (b : Nat) (x : va_E), M b = some x → ∃ j : Nat, ws[j]? = some (b, x)) ∧
      ∀ (x : va_E) (H1 : Heap), va_P D cl (ws.set k (a, x)) H1 → va_D (hA a0) (ws.set k (a, x)) → hv D cl a0 (va_up M a (some x)) H1 := by
  obtain ⟨L, f, hM, hP, hD⟩ := h
  have key : ∀ (b : Nat) (x : va_E), M b = some x → b ∈ L ∧ f b = x := by
    intro b x hb
    rw [hM b] at hb
    by_cases hL : b ∈ L
    · rw [if_pos hL] at hb
      exact ⟨hL, Option.some.inj hb⟩
    · rw [if_neg hL] at hb
      cases hb
  have get : ∀ (b : Nat) (x : va_E), M b = some x → ∃ j : Nat, (va_pl L f)[j]? = some (b, x) := by
    intro b x hb
    obtain ⟨h1, h2⟩ := key b x hb
    obtain ⟨j, hj⟩ := va_pl_get (X := []) (f := f) h1
    exact ⟨j, by rw [← h2]; exact hj⟩
  obtain ⟨h1, h2⟩ := key a e ha
  obtain ⟨k, hk⟩ := va_pl_get (X := []) (f := f) h1
  refine ⟨va_pl L f, k, hP, hD, by rw [← h2]; exact hk, get, fun x H1 hP1 hD1 => ?_⟩
  have hs : (va_pl L f).set k (a, x) = va_pl L (va_up f a x) := va_pl_set (X := []) hD h1 hk
  rw [hs] at hP1 hD1
  refine ⟨L, va_up f a x, fun b => ?_, hP1, hD1⟩
  by_cases hb : b = a
  · subst hb
    rw [va_up_self, va_up_self, if_pos h1]
  · rw [va_up_ne _ _ hb, va_up_ne _ _ hb]
    exact hM b
theorem hv_lt {D : va_G} {cl : List vw_C} {a0 : Nat} {M : hMp} {H : Heap} (h : hv D cl a0 M H) {a : Nat} {e : va_E} (ha : M a = some e) : a < H.size ∧ a0 ≤ a := by
  obtain ⟨ws, k, hP, hD, hk, -⟩ := hv_at h ha
  exact ⟨(hP k _ hk).lt, hD.2 k _ hk⟩
theorem hv_fresh {D : va_G} {cl : List vw_C} {a0 : Nat} {M : hMp} {H : Heap} (h : hv D cl a0 M H) {a : Nat} (ha : H.size ≤ a) : M a = none := by
  cases hm : M a with
  | none => rfl
  | some e =>
    have := (hv_lt h hm).1
    omega
theorem hv_push {D : va_G} {cl : List vw_C} {a0 : Nat} {M : hMp} {H : Heap} (h : hv D cl a0 M H) : ∃ ws : va_W, va_P D cl ws H ∧ va_D (hA a0) ws ∧ ∀ (q : Nat) (x : va_E) (H1 : Heap), va_P D cl (ws ++ [(q, x)]) H1 → va_D (hA a0) (ws ++ [(q, x)]) → hv D cl a0 (va_up M q (some x)) H1 ∧ M q = none := by
  obtain ⟨L, f, hM, hP, hD⟩ := h
  refine ⟨va_pl L f, hP, hD, fun q x H1 hP1 hD1 => ?_⟩
  have hq : q ∉ L := by
    intro hq
    obtain ⟨k, hk⟩ := va_pl_get (X := []) (f := f) hq
    have hk' : (va_pl L f)[k]? = some (q, f q) := hk
    have hl := (List.getElem?_eq_some_iff.mp hk').1
    have e1 : (va_pl L f ++ [(q, x)])[k]? = some (q, f q) := by rw [List.getElem?_append_left hl]; exact hk'
    have e2 : (va_pl L f ++ [(q, x)])[(va_pl L f).length]? = some (q, x) := by rw [List.getElem?_append_right (Nat.le_refl _)]; simp
    have := hD1.1 _ _ _ _ e1 e2 rfl
    omega
  refine ⟨⟨L ++ [q], va_up f q x, fun b => ?_, ?_, ?_⟩, by rw [hM q, if_neg hq]⟩
  · by_cases hb : b = q
    · subst hb
      rw [va_up_self, va_up_self, if_pos (by simp)]
    · rw [va_up_ne _ _ hb, va_up_ne _ _ hb, hM b]
      by_cases hL : b ∈ L
      · rw [if_pos hL, if_pos (by simp [hL])]
      · rw [if_neg hL, if_neg (by simp [hL, hb])]
  · rw [← va_pl_push hq]; exact hP1
  · rw [← va_pl_push hq]; exact hD1
theorem hv_nil {D : va_G} {cl : List vw_C} {a0 : Nat} {H : Heap} : hv D cl a0 (fun _ => none) H := ⟨[], fun _ => .inr (0, []), fun a => by simp, fun k q h => by simp [va_pl] at h, ⟨fun i j p q h => by simp [va_pl] at h, fun k q h => by simp [va_pl] at h⟩⟩
/-- the environment is kept by warmer tables and a heap that is the same below a0 -/
def hKeep (a0 : Nat) (Ev : State → Prop) : Prop := ∀ s t : State, Ev s → s.WarmedH t.vm → (∀ q, q < a0 → t.heap[q]? = s.heap[q]?) → Ev t
def hU (Ev : State → Prop) (D : va_G) (cl : List vw_C) (a0 : Nat) (M : hMp) (U : State) : Prop := Ev U ∧ a0 ≤ U.heap.size ∧ hv D cl a0 M U.heap
def hQ (D : va_G) (cl : List vw_C) (a0 : Nat) (post : Outcome → hMp → Prop) : Array Value → State → Outcome → State → Prop := fun _ st oc t => (∃ M' : hMp, post oc M' ∧ hv D cl a0 M' t.heap) ∧ va_F (hA a0) st t
/-- a method that only reads: it returns and the heap is as it was, or it throws a new exception (a cell of class number ci) -/
def hR (D : va_G) (cl : List vw_C) (a0 : Nat) (M : hMp) (rpost : Option Value → Prop) (ex : Nat → Prop) : Array Value → State → Outcome → State → Prop := fun _ st oc t =>
  (∃ v : Option Value, oc = .returned v ∧ rpost v ∧ t.heap = st.heap) ∨ (∃ x ci : Nat, oc = .threw x ∧ ex ci ∧ M x = none ∧ hv D cl a0 (va_up M x (some (.inr (ci, [])))) t.heap ∧ va_F (hA a0) st t)
/-- a contract that may throw -/
def MX (l : Launch) (y : MethodName) (TB : List Cond) (rm : Room) (Pc : Array Value → State → Prop) (Qc : Array Value → State → Outcome → State → Prop) (mc ms : Nat) (free : Addr → Prop) : Prop :=
  MetFree l y (headSpec TB rm) Pc (fun _ _ _ _ _ => True) (fun a st o t => Qc a st o t ∧ st.WarmedH t.vm ∧ ∃ L, st.sameButNew ({ t with vm := st.vm } : State) L mc ms ∧ ∀ q ∈ L, free q.base)
def MQX (below : List Frame) (Qc : Array Value → State → Outcome → State → Prop) (a : Array Value) (s : State) (mc ms : Nat) (free : Addr → Prop) : State → Prop := fun t =>
  ∃ o, t.status = .running ∧ Ended t below o ∧ Qc a s o t ∧ s.WarmedH t.vm ∧ ∃ L, s.sameButNew ({ t with vm := s.vm } : State) L mc ms ∧ ∀ q ∈ L, free q.base
theorem MQ.x {below : List Frame} {Qc : Array Value → State → Outcome → State → Prop} {a : Array Value} {s t : State} {mc ms : Nat} {free : Addr → Prop} (h : MQ below Qc a s mc ms free t) : MQX below Qc a s mc ms free t := by
  obtain ⟨o, h1, h2, h3, L, ⟨-, h4, h5⟩, h6⟩ := h
  exact ⟨o, h1, h2, h3, h4, L, h5, h6⟩
/-- what a method's walk has at hand -/
def Cx (TB : List Cond) (Ev : State → Prop) (a0 : Nat) (p : Program) (s : State) (m : MethodId) (c : Code) (cc : ByteArray) (nL : Nat) (own : String) : Prop :=
  p.tables.exec = Jvm.exec ∧ c.code = cc ∧ c.maxLocals = nL ∧ s.vm.findClass own = some m.cls ∧ (∀ w ∈ TB, ∀ (a' : Array Value) (U : State), s.WarmedH U.vm → w.before a' U = true) ∧ Ev s ∧ a0 ≤ s.heap.size
theorem hws_of {TB : List Cond} (hg : ∀ w ∈ TB, goodWord w = true) {args : Array Value} {s : State} (h : ∀ w ∈ TB, w.before args s = true) : ∀ w ∈ TB, ∀ (a' : Array Value) (U : State), s.WarmedH U.vm → w.before a' U = true :=
  fun w hw a' U hW => word_at hW (good_of_word (hg w hw)) (h w hw)
section KW
variable {p : Program} {l : Launch} {e : Env} {R : Room} {s : State} {m : MethodId} {args : Array Value} {below : List Frame} {meth : Method} {c : Code} {H : Heap} {locs : List Loc} {cells slots : Nat} {Q Q' : State → Prop}
theorem W.mono {g : JFrame} (h : ∀ t, Q t → Q' t) (k : W p l e R s m args below meth c H locs cells slots Q g) : W p l e R s m args below meth c H locs cells slots Q' g := by
  intro T hT X
  obtain ⟨t, a, b⟩ := k T hT X
  exact ⟨t, a, h t b⟩
/-- an exception is on its way over the frame g -/
def WT (p : Program) (l : Launch) (e : Env) (R : Room) (s : State) (m : MethodId) (args : Array Value) (below : List Frame) (meth : Method) (c : Code) (H : Heap) (locs : List Loc) (cells slots : Nat) (Q : State → Prop) (x : Addr) (g : JFrame) : Prop :=
  ∀ T : State, T.heap = H → Stand p l e R s m args below meth c T locs cells slots → ∃ t, Steps p.tables e below ((T.setTop g).pushFrame (.throwing x)) t ∧ Q t
theorem WT.widen {x : Addr} {g : JFrame} {k n : Nat} (h1 : cells ≤ k) (h2 : slots ≤ n) (kk : WT p l e R s m args below meth c H locs k n Q x g) : WT p l e R s m args below meth c H locs cells slots Q x g := fun T hT X => kk T hT (stand_widen X h1 h2)
/-- the exception leaves the method -/
theorem WT.leave {Qc : Array Value → State → Outcome → State → Prop} {free : Addr → Prop} {x : Addr} {pc : Nat} {ls : Array Slot} {st : List Value} (hout : ∀ z ∈ c.exceptionTable.toList, covers z pc = false) (hlk : meth.locks = false)
    (hq : ∀ t : State, t.heap = H → s.WarmedH t.vm → Qc args s (.threw x) t) (hf : ∀ q ∈ locs, free q.base) : WT p l e R s m args below meth c H locs cells slots (MQX below Qc args s cells slots free) x (F0 m pc ls st) := by
  intro T hT X
  obtain ⟨h1, h2, h3, h4, h5⟩ := X.leaveThrown x (g := F0 m pc ls st) rfl rfl rfl hout hlk
  exact ⟨_, h1, .threw x, h2, h3, hq _ hT h4, h4, locs, h5, hf⟩
end KW
theorem MX.ofW {l : Launch} {y : MethodName} {TB : List Cond} {rm : Room} {Ev : State → Prop} {D : va_G} {cl : List vw_C} {a0 : Nat} {M : hMp} {Qc : Array Value → State → Outcome → State → Prop} {free : Addr → Prop} {mc ms : Nat} {cc : ByteArray} {maxL : Nat} {ret : Option FieldType} {vs : List Value}
    (hg : ∀ w ∈ TB, goodWord w = true) (hy : plainName y.cls = true) (hw : Cond.code y cc maxL ret ∈ TB) (hlen : (lg_sl vs).length ≤ maxL)
    (body : ∀ (p : Program) (e : Env) (s : State) (m : MethodId) (below : List Frame) (meth : Method) (c : Code) (ls : Array Slot), Cx TB Ev a0 p s m c cc maxL y.cls → meth.sig.returnType = ret → meth.locks = false → meth.name = y.name → (∀ z ∈ c.exceptionTable.toList, ∀ pc, covers z pc = false) →
      hv D cl a0 M s.heap → va_S (hA a0) s.heap s.heap [] → lv_has ls maxL (lv_args 0 vs) →
      W p l e rm s m vs.toArray below meth c s.heap [] 0 0 (MQX below Qc vs.toArray s mc ms free) (F0 m 0 ls [])) :
    MX l y TB rm (va_Pc vs (hU Ev D cl a0 M)) Qc mc ms free := by
  refine MetFree.of_bodyS (code := cc) (maxLocals := maxL) (ret := ret) hy ?_ ?_
  · intro args s m h hn
    obtain ⟨meth, c, h1, h2, h3, h4, h5, h6, -, -⟩ := Cond.code_spec hn (atoms_spec (ws := TB) h _ hw)
    exact ⟨meth, c, h1, h2, h3, h4, h5, h6⟩
  · intro p e s m args below meth c s₁ B hml hP _
    obtain ⟨rfl, hE, h0, hV⟩ := hP
    have hh0 : s₁.heap = s.heap := by rw [B.state]; rfl
    have hts := atoms_spec (ws := TB) B.pre
    obtain ⟨meth', c', g1, g2, -, -, -, -, g3, -⟩ := Cond.code_spec B.named (hts _ hw)
    have em : meth' = meth := Option.some.inj (g1.symm.trans B.method)
    subst em
    have hX := Stand.of_body B
    have ec : c' = c := Option.some.inj (g2.symm.trans hX.code)
    subst ec
    have hl := lv_entry vs (n := maxL) hlen
    have K := body p e s m below meth' c' _ ⟨B.exec, B.bytes, hml, findClass_of_methodNamed B.named, hws_of hg hts, hE, h0⟩ B.returns B.notSynchronized (name_of_methodNamed B.named B.method).1
      (fun z hz => by
        have : c'.exceptionTable.toList = [] := by simpa using g3
        rw [this] at hz
        cases hz) hV va_S.rf hl
    rw [← lg_entry_eq] at K
    obtain ⟨t, a1, o, b1, b2, b3⟩ := K s₁ hh0 hX
    exact ⟨t, o, a1, b1, b2, b3⟩
section KC
variable {p : Program} {l : Launch} {e : Env} {R : Room} {s : State} {m : MethodId} {args : Array Value} {below : List Frame} {meth : Method} {c : Code} {T : State} {H : Heap} {locs : List Loc} {cells slots : Nat} {Q : State → Prop}
variable {y : MethodName} {TB : List Cond} {rm : Room} {mc ms maxL n : Nat} {bytes cc : ByteArray} {ret : Option FieldType}
/-- what a caller must know of the callee: room, code, name, number of arguments -/
def Cy (R : Room) (s : State) (args : Array Value) (y : MethodName) (TB : List Cond) (rm : Room) (mc ms maxL n : Nat) : Prop :=
  rm.cells = mc ∧ rm.slots = ms ∧ rm.frames + 1 ≤ R.frames ∧ 8 + (maxL + 11) + rm.locals ≤ R.locals ∧ (∀ w ∈ TB, ∀ (a' : Array Value) (U : State), s.WarmedH U.vm → w.before a' U = true) ∧
  (∀ (U : State) (mk : MethodId), s.WarmedH U.vm → U.methodNamed? y = some mk → ∃ methY cY, U.vm.method? mk = some methY ∧ methY.code = some cY ∧ cY.maxLocals = maxL ∧ parseMethodDescriptor y.desc = some methY.sig) ∧
  (Cond.initialized y.cls).before args s = true ∧ (y.cls ≠ "java/lang/invoke/MethodHandle" ∧ y.cls ≠ "java/lang/invoke/VarHandle") ∧ (∀ sig, parseMethodDescriptor y.desc = some sig → n = sig.parameters.length)
theorem Cy.of (hws : ∀ w ∈ TB, ∀ (a' : Array Value) (U : State), s.WarmedH U.vm → w.before a' U = true) (hc : Cond.code y bytes maxL ret ∈ TB) (hi : Cond.initialized y.cls ∈ TB) (n : Nat)
    (hd : y.cls ≠ "java/lang/invoke/MethodHandle" ∧ y.cls ≠ "java/lang/invoke/VarHandle" ∧ (parseMethodDescriptor y.desc).map (fun d => d.parameters.length) = some n) (hR : rm.frames + 1 ≤ R.frames ∧ 8 + (maxL + 11) + rm.locals ≤ R.locals) : Cy R s args y TB rm rm.cells rm.slots maxL n := by
  refine ⟨rfl, rfl, hR.1, hR.2, hws, fun U mk hW hn => ?_, hws _ hi _ _ (State.WarmedH.refl s), ⟨hd.1, hd.2.1⟩, fun sig h => ?_⟩
  · obtain ⟨meth, c, h1, h2, -, h4, -, -, -, h8⟩ := Cond.code_spec hn (hws _ hc #[] U hW)
    exact ⟨meth, c, h1, h2, h4, h8⟩
  · have h2 := hd.2.2
    rw [h] at h2
    exact (Option.some.inj h2).symm
theorem cx_core {Pc : Array Value → State → Prop} {Qc : Array Value → State → Outcome → State → Prop} {free : Addr → Prop} (X : Stand p l e R s m args below meth c T locs cells slots) (hM : MX l y TB rm Pc Qc mc ms free) (cy : Cy R s args y TB rm mc ms maxL n)
    {g : JFrame} (hg : g.method = m) (hsize : g.locals.size = c.maxLocals) {ig : Instr} {len : Nat} (hdg : decode c.code g.pc = .ok (ig, len)) (hW : 2 * g.monitorRoom + (g.stack.map fun v => v.category).sum ≤ 8) {mk : MethodId} (hn : T.methodNamed? y = some mk) {a : Array Value}
    (hf : cells + mc ≤ R.cells ∧ slots + ms ≤ R.slots) (hP : Pc a (T.calling g mk a)) :
    ∃ (o : Outcome) (t T' : State) (L : List Loc) (z : State), Qc a (T.calling g mk a) o t ∧ Stand p l e R s m args below meth c T' (locs ++ L) (cells + mc) (slots + ms) ∧ (∀ q ∈ L, free q.base) ∧ T'.heap = t.heap ∧ T'.vm = t.vm ∧ Steps p.tables e below (doInvoke e (T.setTop g) [] mk a).1 z ∧
      (∀ v, o = .returned v → z = T'.setTop { g with pc := g.pc + len, stack := v.toList ++ g.stack }) ∧ (∀ x, o = .threw x → z = (T'.setTop g).pushFrame (.throwing x)) := by
  obtain ⟨hrc, hrs, hfr, hlo, hws, hcd, hini, -, -⟩ := cy
  obtain ⟨methY, cY, hmY, hcY, hlY, -⟩ := hcd T mk X.warmed hn
  obtain ⟨kY, hkY, -⟩ := className_of_methodNamed hn
  have h3 : (Cond.initialized y.cls).before a T = true := word_at X.warmed (Or.inl (by first | rfl | simp [Cond.onTables, Cond.keeps, Cond.steady])) hini
  have hinitY : kY.init = .initialized := Cond.initialized_spec (findClass_of_methodNamed hn) hkY h3
  have h : At T g.method c below := by rw [hg]; exact X.here
  have happ : (headSpec TB rm).appliesLoose y e.platform (T.calling g mk a) = true :=
    Spec.appliesLoose_calling (g := g) h hdg hn hkY hinitY
      (X.room_calling (g := g) (R' := rm) hsize hmY hcY hfr (by rw [hlY]; omega) (by rw [hrc]; exact hf.1) (by rw [hrs]; exact hf.2)) (atoms_intro fun w hw => hws w hw _ _ X.warmed)
  obtain ⟨mid, hmid⟩ := h.above
  have hfr' : (T.setTop g).frames = (.java g :: mid) ++ below := by rw [State.frames_setTop' g h.top, hmid]; rfl
  obtain ⟨o, s₂, hsteps, -, hend, hq⟩ := Steps.callFree hM p X.admits X.cas X.clock (acts := []) hfr' happ hP trivial
  rw [State.frames_setTop' g h.top, X.tail] at hend
  obtain ⟨hQ, hW2, L, hsame, hL⟩ := hq
  cases o with
  | returned v =>
    obtain ⟨T', X', hW', hB, ht⟩ := X.outOf hg hdg hend hW2 hsame
    exact ⟨.returned v, s₂, T', L, s₂, hQ, X', hL, by rw [ht]; simp [State.setTop, State.modifyTopJava], by rw [ht]; simp [State.setTop, State.modifyTopJava], hsteps, (fun v' hv => by cases hv; exact ht), (fun x hx => by cases hx)⟩
  | threw x =>
    obtain ⟨T', X', hW', hB, ht⟩ := X.outOfThrown hg hend hW2 hsame
    exact ⟨.threw x, s₂, T', L, s₂, hQ, X', hL, by rw [ht, Stand.throwing_heap], by rw [ht, Stand.throwing_vm], hsteps, (fun v hv => by cases hv), (fun x' hx => by cases hx; exact ht)⟩
variable {Ev : State → Prop} {D : va_G} {cl : List vw_C} {a0 : Nat} {M : hMp} {post : Outcome → hMp → Prop} {vs rest st0 : List Value} {pc : Nat} {ls : Array Slot} {nL : Nat} {own : String}
theorem cx_after {T1 : State} (X : Stand p l e R s m args below meth c T1 locs cells slots) (hT : T1.heap = H) (hM : MX l y TB rm (va_Pc vs (hU Ev D cl a0 M)) (hQ D cl a0 post) mc ms (hA a0)) (cy : Cy R s args y TB rm mc ms maxL n) (hkp : hKeep a0 Ev) (C : Cx TB Ev a0 p s m c cc nL own)
    (hV : hv D cl a0 M H) (hS : va_S (hA a0) s.heap H locs) (hsize : ls.size = nL) {ig : Instr} (hdg : decode cc pc = .ok (ig, 3)) (hW : (rest.map fun v => v.category).sum ≤ 8) {mk : MethodId} (hn : T1.methodNamed? y = some mk) (hf : cells + mc ≤ R.cells ∧ slots + ms ≤ R.slots)
    (kr : ∀ (v : Option Value) (M' : hMp) (H1 : Heap) (locs1 : List Loc), post (.returned v) M' → hv D cl a0 M' H1 → va_S (hA a0) s.heap H1 locs1 → W p l e R s m args below meth c H1 locs1 (cells + mc) (slots + ms) Q (F0 m (pc + 3) ls (v.toList ++ rest)))
    (kt : ∀ (x : Addr) (M' : hMp) (H1 : Heap) (locs1 : List Loc), post (.threw x) M' → hv D cl a0 M' H1 → va_S (hA a0) s.heap H1 locs1 → WT p l e R s m args below meth c H1 locs1 (cells + mc) (slots + ms) Q x (F0 m pc ls rest)) :
    ∃ t, Steps p.tables e below (doInvoke e (T1.setTop (F0 m pc ls rest)) [] mk vs.toArray).1 t ∧ Q t := by
  obtain ⟨hx, hb, hml, hown, hws, hev, h0⟩ := C
  have hkeep : ∀ q, q < a0 → T1.heap[q]? = s.heap[q]? := fun q hq => by rw [hT]; exact hS.2.1 q (Nat.lt_of_lt_of_le hq h0) (Nat.not_le.mpr hq)
  have hPc : va_Pc vs (hU Ev D cl a0 M) vs.toArray (T1.calling (F0 m pc ls rest) mk vs.toArray) :=
    ⟨rfl, hkp s _ hev X.warmed hkeep, by show a0 ≤ T1.heap.size; rw [hT]; exact Nat.le_trans h0 hS.1, by show hv D cl a0 M T1.heap; rw [hT]; exact hV⟩
  obtain ⟨o, t, T', L, z, hq, X', hL, e1, e2, hst, hz1, hz2⟩ := cx_core X hM cy (g := F0 m pc ls rest) rfl (hsize.trans hml.symm) (by rw [hb]; exact hdg) (by show 2 * 0 + (rest.map fun v => v.category).sum ≤ 8; omega) hn hf hPc
  obtain ⟨⟨M', hp, hV'⟩, hz, hk⟩ := hq
  have hH : (T1.calling (F0 m pc ls rest) mk vs.toArray).heap = H := hT
  rw [hH] at hz hk
  have hS' : va_S (hA a0) s.heap T'.heap (locs ++ L) := ⟨Nat.le_trans hS.1 (by rw [e1]; exact hz), fun q h1 h2 => by rw [e1, hk q (Nat.lt_of_lt_of_le h1 hS.1) h2]; exact hS.2.1 q h1 h2, fun q hq => by
      rcases List.mem_append.mp hq with h | h
      · exact hS.2.2 q h
      · exact hL q h⟩
  cases o with
  | returned v =>
    obtain ⟨t2, a1, b1⟩ := kr v M' T'.heap _ hp (by rw [e1]; exact hV') hS' T' rfl X'
    rw [hz1 v rfl] at hst
    exact ⟨t2, hst.trans a1, b1⟩
  | threw x =>
    obtain ⟨t2, a1, b1⟩ := kt x M' T'.heap _ hp (by rw [e1]; exact hV') hS' T' rfl X'
    rw [hz2 x rfl] at hst
    exact ⟨t2, hst.trans a1, b1⟩
theorem cx_V {C host : String} {index : Nat} {b : Addr} {As : List Value} (C0 : Cx TB Ev a0 p s m c cc nL own) (hkp : hKeep a0 Ev) (hM : MX l y TB rm (va_Pc (.ref b :: As) (hU Ev D cl a0 M)) (hQ D cl a0 post) mc ms (hA a0)) (cy : Cy R s args y TB rm mc ms maxL n)
    (hlink : (Cond.methodLink own index y).before args s = true) (hinst : Cond.instanceMethod y ∈ TB) (hsel : (Cond.selects C y y).before args s = true) (hV : hv D cl a0 M H) (hS : va_S (hA a0) s.heap H locs) (hrecv : ∃ cellB : Cell, H[b]? = some cellB ∧ cellB.vm.isStatics = false ∧ s.vm.findClass C = some cellB.cls)
    (hn : As.length = n) (hsize : ls.size = nL) (hstack : st0 = As.reverse ++ .ref b :: rest) (hW : (rest.map fun v => v.category).sum ≤ 8) (hdg : decode cc pc = .ok (.invokevirtual index, 3)) (hf : cells + mc ≤ R.cells ∧ slots + ms ≤ R.slots)
    (kr : ∀ (v : Option Value) (M' : hMp) (H1 : Heap) (locs1 : List Loc), post (.returned v) M' → hv D cl a0 M' H1 → va_S (hA a0) s.heap H1 locs1 → W p l e R s m args below meth c H1 locs1 (cells + mc) (slots + ms) Q (F0 m (pc + 3) ls (v.toList ++ rest)))
    (kt : ∀ (x : Addr) (M' : hMp) (H1 : Heap) (locs1 : List Loc), post (.threw x) M' → hv D cl a0 M' H1 → va_S (hA a0) s.heap H1 locs1 → WT p l e R s m args below meth c H1 locs1 (cells + mc) (slots + ms) Q x (F0 m pc ls rest)) :
    W p l e R s m args below meth c H locs cells slots Q (F0 m pc ls st0) := by
  subst hstack
  obtain ⟨hx, hb, hml, hown, hws, hev, h0⟩ := id C0
  obtain ⟨-, -, -, -, -, hcd, -, hy, hlen⟩ := id cy
  obtain ⟨cellB, hcB, hoB, hcls⟩ := hrecv
  intro T hT X
  obtain ⟨mk, methM, hnamed, hmethM, hstM, habM⟩ := Cond.instanceMethod_spec (hws _ hinst args s (State.WarmedH.refl s))
  obtain ⟨methM', cM, hmethM', -, -, hsigM⟩ := hcd s mk (State.WarmedH.refl s) hnamed
  cases hmethM.symm.trans hmethM'
  obtain ⟨c2, r2, m2, q1, q2, q3, q4, kP, hkP, hkPi⟩ := Cond.selects_spec hsel
  cases hcls.symm.trans q1
  cases (State.methodFound?_of_named hnamed hy).symm.trans q2
  cases hnamed.symm.trans q3
  have hselP : selectMethod e.platform s.vm cellB.cls mk = .method mk := by rw [Launch.admits_selectMethod X.admits]; exact q4
  obtain ⟨vm₁, X₁, hstep₁⟩ := X.invokevirtual hx hown hlink hnamed hmethM hstM hkP hkPi hy (a := b) (cell := cellB) (by rw [hT]; exact hcB)
    (fun z h => by rw [h] at hoB; cases hoB) hselP hmethM habM hkP hkPi (g := F0 m pc ls (As.reverse ++ .ref b :: rest)) rfl (argsL := As) (rest := rest) (hn.trans (hlen _ hsigM)) rfl (by rw [hb]; exact hdg)
  obtain ⟨t, a1, b1⟩ := cx_after (H := H) X₁ hT hM cy hkp C0 hV hS hsize hdg hW (X₁.named hnamed) hf kr kt
  exact ⟨t, hstep₁ _ fun acts => by rw [doInvoke_state]; exact a1, b1⟩
theorem cx_VN {C host : String} {index : Nat} {b : Addr} {As : List Value} (C0 : Cx TB Ev a0 p s m c cc nL own) (hkp : hKeep a0 Ev) (hM : MX l y TB rm (va_Pc (.ref b :: As) (hU Ev D cl a0 M)) (hQ D cl a0 post) mc ms (hA a0)) (cy : Cy R s args y TB rm mc ms maxL n)
    (hlink : (Cond.methodLinkNest own index y host).before args s = true) (hinst : Cond.instanceMethod y ∈ TB) (hsel : (Cond.selects C y y).before args s = true) (hV : hv D cl a0 M H) (hS : va_S (hA a0) s.heap H locs) (hrecv : ∃ cellB : Cell, H[b]? = some cellB ∧ cellB.vm.isStatics = false ∧ s.vm.findClass C = some cellB.cls)
    (hn : As.length = n) (hsize : ls.size = nL) (hstack : st0 = As.reverse ++ .ref b :: rest) (hW : (rest.map fun v => v.category).sum ≤ 8) (hdg : decode cc pc = .ok (.invokevirtual index, 3)) (hf : cells + mc ≤ R.cells ∧ slots + ms ≤ R.slots)
    (kr : ∀ (v : Option Value) (M' : hMp) (H1 : Heap) (locs1 : List Loc), post (.returned v) M' → hv D cl a0 M' H1 → va_S (hA a0) s.heap H1 locs1 → W p l e R s m args below meth c H1 locs1 (cells + mc) (slots + ms) Q (F0 m (pc + 3) ls (v.toList ++ rest)))
    (kt : ∀ (x : Addr) (M' : hMp) (H1 : Heap) (locs1 : List Loc), post (.threw x) M' → hv D cl a0 M' H1 → va_S (hA a0) s.heap H1 locs1 → WT p l e R s m args below meth c H1 locs1 (cells + mc) (slots + ms) Q x (F0 m pc ls rest)) :
    W p l e R s m args below meth c H locs cells slots Q (F0 m pc ls st0) := by
  subst hstack
  obtain ⟨hx, hb, hml, hown, hws, hev, h0⟩ := id C0
  obtain ⟨-, -, -, -, -, hcd, -, hy, hlen⟩ := id cy
  obtain ⟨cellB, hcB, hoB, hcls⟩ := hrecv
  intro T hT X
  obtain ⟨mk, methM, hnamed, hmethM, hstM, habM⟩ := Cond.instanceMethod_spec (hws _ hinst args s (State.WarmedH.refl s))
  obtain ⟨methM', cM, hmethM', -, -, hsigM⟩ := hcd s mk (State.WarmedH.refl s) hnamed
  cases hmethM.symm.trans hmethM'
  obtain ⟨c2, r2, m2, q1, q2, q3, q4, kP, hkP, hkPi⟩ := Cond.selects_spec hsel
  cases hcls.symm.trans q1
  cases (State.methodFound?_of_named hnamed hy).symm.trans q2
  cases hnamed.symm.trans q3
  have hselP : selectMethod e.platform s.vm cellB.cls mk = .method mk := by rw [Launch.admits_selectMethod X.admits]; exact q4
  obtain ⟨vm₁, X₁, hstep₁⟩ := X.invokevirtualNest hx hown hlink hnamed hmethM hstM hkP hkPi hy (a := b) (cell := cellB) (by rw [hT]; exact hcB)
    (fun z h => by rw [h] at hoB; cases hoB) hselP hmethM habM hkP hkPi (g := F0 m pc ls (As.reverse ++ .ref b :: rest)) rfl (argsL := As) (rest := rest) (hn.trans (hlen _ hsigM)) rfl (by rw [hb]; exact hdg)
  obtain ⟨t, a1, b1⟩ := cx_after (H := H) X₁ hT hM cy hkp C0 hV hS hsize hdg hW (X₁.named hnamed) hf kr kt
  exact ⟨t, hstep₁ _ fun acts => by rw [doInvoke_state]; exact a1, b1⟩
theorem cx_S {host : String} {index : Nat} (C0 : Cx TB Ev a0 p s m c cc nL own) (hkp : hKeep a0 Ev) (hM : MX l y TB rm (va_Pc vs (hU Ev D cl a0 M)) (hQ D cl a0 post) mc ms (hA a0)) (cy : Cy R s args y TB rm mc ms maxL n)
    (hlink : (Cond.methodLink own index y).before args s = true) (hstat : Cond.static y ∈ TB) (hV : hv D cl a0 M H) (hS : va_S (hA a0) s.heap H locs) {mk0 : MethodId} (hnamed : s.methodNamed? y = some mk0)
    (hn : vs.length = n) (hsize : ls.size = nL) (hstack : st0 = vs.reverse ++ rest) (hW : (rest.map fun v => v.category).sum ≤ 8) (hdg : decode cc pc = .ok (.invokestatic index, 3)) (hf : cells + mc ≤ R.cells ∧ slots + ms ≤ R.slots)
    (kr : ∀ (v : Option Value) (M' : hMp) (H1 : Heap) (locs1 : List Loc), post (.returned v) M' → hv D cl a0 M' H1 → va_S (hA a0) s.heap H1 locs1 → W p l e R s m args below meth c H1 locs1 (cells + mc) (slots + ms) Q (F0 m (pc + 3) ls (v.toList ++ rest)))
    (kt : ∀ (x : Addr) (M' : hMp) (H1 : Heap) (locs1 : List Loc), post (.threw x) M' → hv D cl a0 M' H1 → va_S (hA a0) s.heap H1 locs1 → WT p l e R s m args below meth c H1 locs1 (cells + mc) (slots + ms) Q x (F0 m pc ls rest)) :
    W p l e R s m args below meth c H locs cells slots Q (F0 m pc ls st0) := by
  subst hstack
  obtain ⟨hx, hb, hml, hown, hws, hev, h0⟩ := id C0
  obtain ⟨-, -, -, -, -, hcd, hini, hy, hlen⟩ := id cy
  intro T hT X
  obtain ⟨methM, cM, hmethM, -, -, hsigM⟩ := hcd s mk0 (State.WarmedH.refl s) hnamed
  have hstatic : methM.isStatic = true := Cond.static_spec hnamed hmethM (hws _ hstat args s (State.WarmedH.refl s))
  obtain ⟨kP, hkP, -⟩ := className_of_methodNamed hnamed
  have hinitP : kP.init = .initialized := Cond.initialized_spec (findClass_of_methodNamed hnamed) hkP hini
  obtain ⟨vm₁, X₁, hstep₁⟩ := X.invokestatic hx hown hlink hnamed hmethM hstatic hkP hinitP hy (g := F0 m pc ls (vs.reverse ++ rest)) rfl (argsL := vs) (rest := rest) (hn.trans (hlen _ hsigM)) rfl (by rw [hb]; exact hdg)
  obtain ⟨t, a1, b1⟩ := cx_after (H := H) X₁ hT hM cy hkp C0 hV hS hsize hdg hW (X₁.named hnamed) hf kr kt
  exact ⟨t, hstep₁ _ fun acts => by rw [doInvoke_state]; exact a1, b1⟩
theorem cx_SN {host : String} {index : Nat} (C0 : Cx TB Ev a0 p s m c cc nL own) (hkp : hKeep a0 Ev) (hM : MX l y TB rm (va_Pc vs (hU Ev D cl a0 M)) (hQ D cl a0 post) mc ms (hA a0)) (cy : Cy R s args y TB rm mc ms maxL n)
    (hlink : (Cond.methodLinkNest own index y host).before args s = true) (hstat : Cond.static y ∈ TB) (hV : hv D cl a0 M H) (hS : va_S (hA a0) s.heap H locs) {mk0 : MethodId} (hnamed : s.methodNamed? y = some mk0)
    (hn : vs.length = n) (hsize : ls.size = nL) (hstack : st0 = vs.reverse ++ rest) (hW : (rest.map fun v => v.category).sum ≤ 8) (hdg : decode cc pc = .ok (.invokestatic index, 3)) (hf : cells + mc ≤ R.cells ∧ slots + ms ≤ R.slots)
    (kr : ∀ (v : Option Value) (M' : hMp) (H1 : Heap) (locs1 : List Loc), post (.returned v) M' → hv D cl a0 M' H1 → va_S (hA a0) s.heap H1 locs1 → W p l e R s m args below meth c H1 locs1 (cells + mc) (slots + ms) Q (F0 m (pc + 3) ls (v.toList ++ rest)))
    (kt : ∀ (x : Addr) (M' : hMp) (H1 : Heap) (locs1 : List Loc), post (.threw x) M' → hv D cl a0 M' H1 → va_S (hA a0) s.heap H1 locs1 → WT p l e R s m args below meth c H1 locs1 (cells + mc) (slots + ms) Q x (F0 m pc ls rest)) :
    W p l e R s m args below meth c H locs cells slots Q (F0 m pc ls st0) := by
  subst hstack
  obtain ⟨hx, hb, hml, hown, hws, hev, h0⟩ := id C0
  obtain ⟨-, -, -, -, -, hcd, hini, hy, hlen⟩ := id cy
  intro T hT X
  obtain ⟨methM, cM, hmethM, -, -, hsigM⟩ := hcd s mk0 (State.WarmedH.refl s) hnamed
  have hstatic : methM.isStatic = true := Cond.static_spec hnamed hmethM (hws _ hstat args s (State.WarmedH.refl s))
  obtain ⟨kP, hkP, -⟩ := className_of_methodNamed hnamed
  have hinitP : kP.init = .initialized := Cond.initialized_spec (findClass_of_methodNamed hnamed) hkP hini
  obtain ⟨vm₁, X₁, hstep₁⟩ := X.invokestaticNest hx hown hlink hnamed hmethM hstatic hkP hinitP hy (g := F0 m pc ls (vs.reverse ++ rest)) rfl (argsL := vs) (rest := rest) (hn.trans (hlen _ hsigM)) rfl (by rw [hb]; exact hdg)
  obtain ⟨t, a1, b1⟩ := cx_after (H := H) X₁ hT hM cy hkp C0 hV hS hsize hdg hW (X₁.named hnamed) hf kr kt
  exact ⟨t, hstep₁ _ fun acts => by rw [doInvoke_state]; exact a1, b1⟩
theorem cx_I {host : String} {index : Nat} {b : Addr} {As : List Value} (C0 : Cx TB Ev a0 p s m c cc nL own) (hkp : hKeep a0 Ev) (hM : MX l y TB rm (va_Pc (.ref b :: As) (hU Ev D cl a0 M)) (hQ D cl a0 post) mc ms (hA a0)) (cy : Cy R s args y TB rm mc ms maxL n)
    (hlink : (Cond.methodLink own index y).before args s = true) (hinst : Cond.instanceMethod y ∈ TB) (hcode : Cond.code y bytes maxL none ∈ TB) (hy1 : y.name = "<init>") (hV : hv D cl a0 M H) (hS : va_S (hA a0) s.heap H locs)
    (hn : As.length = n) (hsize : ls.size = nL) (hstack : st0 = As.reverse ++ .ref b :: rest) (hW : (rest.map fun v => v.category).sum ≤ 8) (hdg : decode cc pc = .ok (.invokespecial index, 3)) (hf : cells + mc ≤ R.cells ∧ slots + ms ≤ R.slots)
    (kr : ∀ (v : Option Value) (M' : hMp) (H1 : Heap) (locs1 : List Loc), post (.returned v) M' → hv D cl a0 M' H1 → va_S (hA a0) s.heap H1 locs1 → W p l e R s m args below meth c H1 locs1 (cells + mc) (slots + ms) Q (F0 m (pc + 3) ls (v.toList ++ rest)))
    (kt : ∀ (x : Addr) (M' : hMp) (H1 : Heap) (locs1 : List Loc), post (.threw x) M' → hv D cl a0 M' H1 → va_S (hA a0) s.heap H1 locs1 → WT p l e R s m args below meth c H1 locs1 (cells + mc) (slots + ms) Q x (F0 m pc ls rest)) :
    W p l e R s m args below meth c H locs cells slots Q (F0 m pc ls st0) := by
  subst hstack
  obtain ⟨hx, hb, hml, hown, hws, hev, h0⟩ := id C0
  obtain ⟨-, -, -, -, -, hcd, hini, hy, hlen⟩ := id cy
  intro T hT X
  have hpl : e.platform.magicAccessors = ({} : Platform).magicAccessors := by rw [X.admits.platform]
  obtain ⟨mk, methM, cM, kP, vm₁, hnamed, hmethM, hcodeM, -, hlocalsM, -, hkP, -, hW₁, hstep₁⟩ := Steps.initColdArgs (e := e) X.here hx X.warmed hpl hown hy1 hy hlink (hws _ hinst args s (State.WarmedH.refl s)) (hws _ hcode args s (State.WarmedH.refl s)) (f := F0 m pc ls (As.reverse ++ .ref b :: rest)) rfl (argsL := As) (rest := rest) (a := b) (fun sig h => hn.trans (hlen sig h)) rfl (by rw [hb]; exact hdg)
  have X₁ := X.noted hW₁
  obtain ⟨t, a1, b1⟩ := cx_after (H := H) X₁ hT hM cy hkp C0 hV hS hsize hdg hW (X₁.named hnamed) hf kr kt
  exact ⟨t, hstep₁ _ fun acts => by rw [doInvoke_state]; exact a1, b1⟩
theorem cx_IN {host : String} {index : Nat} {b : Addr} {As : List Value} (C0 : Cx TB Ev a0 p s m c cc nL own) (hkp : hKeep a0 Ev) (hM : MX l y TB rm (va_Pc (.ref b :: As) (hU Ev D cl a0 M)) (hQ D cl a0 post) mc ms (hA a0)) (cy : Cy R s args y TB rm mc ms maxL n)
    (hlink : (Cond.methodLinkNest own index y host).before args s = true) (hinst : Cond.instanceMethod y ∈ TB) (hcode : Cond.code y bytes maxL none ∈ TB) (hy1 : y.name = "<init>") (hV : hv D cl a0 M H) (hS : va_S (hA a0) s.heap H locs)
    (hn : As.length = n) (hsize : ls.size = nL) (hstack : st0 = As.reverse ++ .ref b :: rest) (hW : (rest.map fun v => v.category).sum ≤ 8) (hdg : decode cc pc = .ok (.invokespecial index, 3)) (hf : cells + mc ≤ R.cells ∧ slots + ms ≤ R.slots)
    (kr : ∀ (v : Option Value) (M' : hMp) (H1 : Heap) (locs1 : List Loc), post (.returned v) M' → hv D cl a0 M' H1 → va_S (hA a0) s.heap H1 locs1 → W p l e R s m args below meth c H1 locs1 (cells + mc) (slots + ms) Q (F0 m (pc + 3) ls (v.toList ++ rest)))
    (kt : ∀ (x : Addr) (M' : hMp) (H1 : Heap) (locs1 : List Loc), post (.threw x) M' → hv D cl a0 M' H1 → va_S (hA a0) s.heap H1 locs1 → WT p l e R s m args below meth c H1 locs1 (cells + mc) (slots + ms) Q x (F0 m pc ls rest)) :
    W p l e R s m args below meth c H locs cells slots Q (F0 m pc ls st0) := by
  subst hstack
  obtain ⟨hx, hb, hml, hown, hws, hev, h0⟩ := id C0
  obtain ⟨-, -, -, -, -, hcd, hini, hy, hlen⟩ := id cy
  intro T hT X
  have hpl : e.platform.magicAccessors = ({} : Platform).magicAccessors := by rw [X.admits.platform]
  obtain ⟨mk, methM, cM, kP, vm₁, hnamed, hmethM, hcodeM, -, hlocalsM, -, hkP, -, hW₁, hstep₁⟩ := Steps.initColdArgsNest (e := e) X.here hx X.warmed hpl hown hy1 hy hlink (hws _ hinst args s (State.WarmedH.refl s)) (hws _ hcode args s (State.WarmedH.refl s)) (f := F0 m pc ls (As.reverse ++ .ref b :: rest)) rfl (argsL := As) (rest := rest) (a := b) (fun sig h => hn.trans (hlen sig h)) rfl (by rw [hb]; exact hdg)
  have X₁ := X.noted hW₁
  obtain ⟨t, a1, b1⟩ := cx_after (H := H) X₁ hT hM cy hkp C0 hV hS hsize hdg hW (X₁.named hnamed) hf kr kt
  exact ⟨t, hstep₁ _ fun acts => by rw [doInvoke_state]; exact a1, b1⟩
theorem cx_afterR {rpost : Option Value → Prop} {ex : Nat → Prop} {T1 : State} (X : Stand p l e R s m args below meth c T1 locs cells slots) (hT : T1.heap = H) (hM : MX l y TB rm (va_Pc vs (hU Ev D cl a0 M)) (hR D cl a0 M rpost ex) mc ms (fun _ => False)) (cy : Cy R s args y TB rm mc ms maxL n) (hkp : hKeep a0 Ev) (C : Cx TB Ev a0 p s m c cc nL own)
    (hV : hv D cl a0 M H) (hS : va_S (hA a0) s.heap H locs) (hsize : ls.size = nL) {ig : Instr} (hdg : decode cc pc = .ok (ig, 3)) (hW : (rest.map fun v => v.category).sum ≤ 8) {mk : MethodId} (hn : T1.methodNamed? y = some mk) (hf : cells + mc ≤ R.cells ∧ slots + ms ≤ R.slots)
    (kr : ∀ v : Option Value, rpost v → W p l e R s m args below meth c H locs (cells + mc) (slots + ms) Q (F0 m (pc + 3) ls (v.toList ++ rest)))
    (kt : ∀ (x ci : Nat) (H1 : Heap), ex ci → M x = none → hv D cl a0 (va_up M x (some (.inr (ci, [])))) H1 → va_S (hA a0) s.heap H1 locs → WT p l e R s m args below meth c H1 locs (cells + mc) (slots + ms) Q x (F0 m pc ls rest)) :
    ∃ t, Steps p.tables e below (doInvoke e (T1.setTop (F0 m pc ls rest)) [] mk vs.toArray).1 t ∧ Q t := by
  obtain ⟨hx, hb, hml, hown, hws, hev, h0⟩ := C
  have hkeep : ∀ q, q < a0 → T1.heap[q]? = s.heap[q]? := fun q hq => by rw [hT]; exact hS.2.1 q (Nat.lt_of_lt_of_le hq h0) (Nat.not_le.mpr hq)
  have hPc : va_Pc vs (hU Ev D cl a0 M) vs.toArray (T1.calling (F0 m pc ls rest) mk vs.toArray) :=
    ⟨rfl, hkp s _ hev X.warmed hkeep, by show a0 ≤ T1.heap.size; rw [hT]; exact Nat.le_trans h0 hS.1, by show hv D cl a0 M T1.heap; rw [hT]; exact hV⟩
  obtain ⟨o, t, T', L, z, hq, X', hL, e1, e2, hst, hz1, hz2⟩ := cx_core X hM cy (g := F0 m pc ls rest) rfl (hsize.trans hml.symm) (by rw [hb]; exact hdg) (by show 2 * 0 + (rest.map fun v => v.category).sum ≤ 8; omega) hn hf hPc
  have hL0 : L = [] := List.eq_nil_iff_forall_not_mem.mpr (fun q hq' => hL q hq')
  subst hL0
  rw [List.append_nil] at X'
  have hH : (T1.calling (F0 m pc ls rest) mk vs.toArray).heap = H := hT
  rcases hq with ⟨v, hv1, hp, hh⟩ | ⟨x, ci, hv1, hp, hMx, hV', hz, hk⟩
  · subst hv1
    rw [hH] at hh
    obtain ⟨t2, a1, b1⟩ := kr v hp T' (e1.trans hh) X'
    rw [hz1 v rfl] at hst
    exact ⟨t2, hst.trans a1, b1⟩
  · subst hv1
    rw [hH] at hz hk
    obtain ⟨t2, a1, b1⟩ := kt x ci T'.heap hp hMx (by rw [e1]; exact hV') ⟨Nat.le_trans hS.1 (by rw [e1]; exact hz), fun q h1 h2 => by rw [e1, hk q (Nat.lt_of_lt_of_le h1 hS.1) h2]; exact hS.2.1 q h1 h2, hS.2.2⟩ T' rfl X'
    rw [hz2 x rfl] at hst
    exact ⟨t2, hst.trans a1, b1⟩
variable {rpost : Option Value → Prop} {ex : Nat → Prop}
theorem cr_V {C host : String} {index : Nat} {b : Addr} {As : List Value} (C0 : Cx TB Ev a0 p s m c cc nL own) (hkp : hKeep a0 Ev) (hM : MX l y TB rm (va_Pc (.ref b :: As) (hU Ev D cl a0 M)) (hR D cl a0 M rpost ex) mc ms (fun _ => False)) (cy : Cy R s args y TB rm mc ms maxL n)
    (hlink : (Cond.methodLink own index y).before args s = true) (hinst : Cond.instanceMethod y ∈ TB) (hsel : (Cond.selects C y y).before args s = true) (hV : hv D cl a0 M H) (hS : va_S (hA a0) s.heap H locs) (hrecv : ∃ cellB : Cell, H[b]? = some cellB ∧ cellB.vm.isStatics = false ∧ s.vm.findClass C = some cellB.cls)
    (hn : As.length = n) (hsize : ls.size = nL) (hstack : st0 = As.reverse ++ .ref b :: rest) (hW : (rest.map fun v => v.category).sum ≤ 8) (hdg : decode cc pc = .ok (.invokevirtual index, 3)) (hf : cells + mc ≤ R.cells ∧ slots + ms ≤ R.slots)
    (kr : ∀ v : Option Value, rpost v → W p l e R s m args below meth c H locs (cells + mc) (slots + ms) Q (F0 m (pc + 3) ls (v.toList ++ rest)))
    (kt : ∀ (x ci : Nat) (H1 : Heap), ex ci → M x = none → hv D cl a0 (va_up M x (some (.inr (ci, [])))) H1 → va_S (hA a0) s.heap H1 locs → WT p l e R s m args below meth c H1 locs (cells + mc) (slots + ms) Q x (F0 m pc ls rest)) :
    W p l e R s m args below meth c H locs cells slots Q (F0 m pc ls st0) := by
  subst hstack
  obtain ⟨hx, hb, hml, hown, hws, hev, h0⟩ := id C0
  obtain ⟨-, -, -, -, -, hcd, -, hy, hlen⟩ := id cy
  obtain ⟨cellB, hcB, hoB, hcls⟩ := hrecv
  intro T hT X
  obtain ⟨mk, methM, hnamed, hmethM, hstM, habM⟩ := Cond.instanceMethod_spec (hws _ hinst args s (State.WarmedH.refl s))
  obtain ⟨methM', cM, hmethM', -, -, hsigM⟩ := hcd s mk (State.WarmedH.refl s) hnamed
  cases hmethM.symm.trans hmethM'
  obtain ⟨c2, r2, m2, q1, q2, q3, q4, kP, hkP, hkPi⟩ := Cond.selects_spec hsel
  cases hcls.symm.trans q1
  cases (State.methodFound?_of_named hnamed hy).symm.trans q2
  cases hnamed.symm.trans q3
  have hselP : selectMethod e.platform s.vm cellB.cls mk = .method mk := by rw [Launch.admits_selectMethod X.admits]; exact q4
  obtain ⟨vm₁, X₁, hstep₁⟩ := X.invokevirtual hx hown hlink hnamed hmethM hstM hkP hkPi hy (a := b) (cell := cellB) (by rw [hT]; exact hcB)
    (fun z h => by rw [h] at hoB; cases hoB) hselP hmethM habM hkP hkPi (g := F0 m pc ls (As.reverse ++ .ref b :: rest)) rfl (argsL := As) (rest := rest) (hn.trans (hlen _ hsigM)) rfl (by rw [hb]; exact hdg)
  obtain ⟨t, a1, b1⟩ := cx_afterR (H := H) X₁ hT hM cy hkp C0 hV hS hsize hdg hW (X₁.named hnamed) hf kr kt
  exact ⟨t, hstep₁ _ fun acts => by rw [doInvoke_state]; exact a1, b1⟩
theorem cr_VN {C host : String} {index : Nat} {b : Addr} {As : List Value} (C0 : Cx TB Ev a0 p s m c cc nL own) (hkp : hKeep a0 Ev) (hM : MX l y TB rm (va_Pc (.ref b :: As) (hU Ev D cl a0 M)) (hR D cl a0 M rpost ex) mc ms (fun _ => False)) (cy : Cy R s args y TB rm mc ms maxL n)
    (hlink : (Cond.methodLinkNest own index y host).before args s = true) (hinst : Cond.instanceMethod y ∈ TB) (hsel : (Cond.selects C y y).before args s = true) (hV : hv D cl a0 M H) (hS : va_S (hA a0) s.heap H locs) (hrecv : ∃ cellB : Cell, H[b]? = some cellB ∧ cellB.vm.isStatics = false ∧ s.vm.findClass C = some cellB.cls)
    (hn : As.length = n) (hsize : ls.size = nL) (hstack : st0 = As.reverse ++ .ref b :: rest) (hW : (rest.map fun v => v.category).sum ≤ 8) (hdg : decode cc pc = .ok (.invokevirtual index, 3)) (hf : cells + mc ≤ R.cells ∧ slots + ms ≤ R.slots)
    (kr : ∀ v : Option Value, rpost v → W p l e R s m args below meth c H locs (cells + mc) (slots + ms) Q (F0 m (pc + 3) ls (v.toList ++ rest)))
    (kt : ∀ (x ci : Nat) (H1 : Heap), ex ci → M x = none → hv D cl a0 (va_up M x (some (.inr (ci, [])))) H1 → va_S (hA a0) s.heap H1 locs → WT p l e R s m args below meth c H1 locs (cells + mc) (slots + ms) Q x (F0 m pc ls rest)) :
    W p l e R s m args below meth c H locs cells slots Q (F0 m pc ls st0) := by
  subst hstack
  obtain ⟨hx, hb, hml, hown, hws, hev, h0⟩ := id C0
  obtain ⟨-, -, -, -, -, hcd, -, hy, hlen⟩ := id cy
  obtain ⟨cellB, hcB, hoB, hcls⟩ := hrecv
  intro T hT X
  obtain ⟨mk, methM, hnamed, hmethM, hstM, habM⟩ := Cond.instanceMethod_spec (hws _ hinst args s (State.WarmedH.refl s))
  obtain ⟨methM', cM, hmethM', -, -, hsigM⟩ := hcd s mk (State.WarmedH.refl s) hnamed
  cases hmethM.symm.trans hmethM'
  obtain ⟨c2, r2, m2, q1, q2, q3, q4, kP, hkP, hkPi⟩ := Cond.selects_spec hsel
  cases hcls.symm.trans q1
  cases (State.methodFound?_of_named hnamed hy).symm.trans q2
  cases hnamed.symm.trans q3
  have hselP : selectMethod e.platform s.vm cellB.cls mk = .method mk := by rw [Launch.admits_selectMethod X.admits]; exact q4
  obtain ⟨vm₁, X₁, hstep₁⟩ := X.invokevirtualNest hx hown hlink hnamed hmethM hstM hkP hkPi hy (a := b) (cell := cellB) (by rw [hT]; exact hcB)
    (fun z h => by rw [h] at hoB; cases hoB) hselP hmethM habM hkP hkPi (g := F0 m pc ls (As.reverse ++ .ref b :: rest)) rfl (argsL := As) (rest := rest) (hn.trans (hlen _ hsigM)) rfl (by rw [hb]; exact hdg)
  obtain ⟨t, a1, b1⟩ := cx_afterR (H := H) X₁ hT hM cy hkp C0 hV hS hsize hdg hW (X₁.named hnamed) hf kr kt
  exact ⟨t, hstep₁ _ fun acts => by rw [doInvoke_state]; exact a1, b1⟩
theorem cr_S {host : String} {index : Nat} (C0 : Cx TB Ev a0 p s m c cc nL own) (hkp : hKeep a0 Ev) (hM : MX l y TB rm (va_Pc vs (hU Ev D cl a0 M)) (hR D cl a0 M rpost ex) mc ms (fun _ => False)) (cy : Cy R s args y TB rm mc ms maxL n)
    (hlink : (Cond.methodLink own index y).before args s = true) (hstat : Cond.static y ∈ TB) (hV : hv D cl a0 M H) (hS : va_S (hA a0) s.heap H locs) {mk0 : MethodId} (hnamed : s.methodNamed? y = some mk0)
    (hn : vs.length = n) (hsize : ls.size = nL) (hstack : st0 = vs.reverse ++ rest) (hW : (rest.map fun v => v.category).sum ≤ 8) (hdg : decode cc pc = .ok (.invokestatic index, 3)) (hf : cells + mc ≤ R.cells ∧ slots + ms ≤ R.slots)
    (kr : ∀ v : Option Value, rpost v → W p l e R s m args below meth c H locs (cells + mc) (slots + ms) Q (F0 m (pc + 3) ls (v.toList ++ rest)))
    (kt : ∀ (x ci : Nat) (H1 : Heap), ex ci → M x = none → hv D cl a0 (va_up M x (some (.inr (ci, [])))) H1 → va_S (hA a0) s.heap H1 locs → WT p l e R s m args below meth c H1 locs (cells + mc) (slots + ms) Q x (F0 m pc ls rest)) :
    W p l e R s m args below meth c H locs cells slots Q (F0 m pc ls st0) := by
  subst hstack
  obtain ⟨hx, hb, hml, hown, hws, hev, h0⟩ := id C0
  obtain ⟨-, -, -, -, -, hcd, hini, hy, hlen⟩ := id cy
  intro T hT X
  obtain ⟨methM, cM, hmethM, -, -, hsigM⟩ := hcd s mk0 (State.WarmedH.refl s) hnamed
  have hstatic : methM.isStatic = true := Cond.static_spec hnamed hmethM (hws _ hstat args s (State.WarmedH.refl s))
  obtain ⟨kP, hkP, -⟩ := className_of_methodNamed hnamed
  have hinitP : kP.init = .initialized := Cond.initialized_spec (findClass_of_methodNamed hnamed) hkP hini
  obtain ⟨vm₁, X₁, hstep₁⟩ := X.invokestatic hx hown hlink hnamed hmethM hstatic hkP hinitP hy (g := F0 m pc ls (vs.reverse ++ rest)) rfl (argsL := vs) (rest := rest) (hn.trans (hlen _ hsigM)) rfl (by rw [hb]; exact hdg)
  obtain ⟨t, a1, b1⟩ := cx_afterR (H := H) X₁ hT hM cy hkp C0 hV hS hsize hdg hW (X₁.named hnamed) hf kr kt
  exact ⟨t, hstep₁ _ fun acts => by rw [doInvoke_state]; exact a1, b1⟩
theorem cr_SN {host : String} {index : Nat} (C0 : Cx TB Ev a0 p s m c cc nL own) (hkp : hKeep a0 Ev) (hM : MX l y TB rm (va_Pc vs (hU Ev D cl a0 M)) (hR D cl a0 M rpost ex) mc ms (fun _ => False)) (cy : Cy R s args y TB rm mc ms maxL n)
    (hlink : (Cond.methodLinkNest own index y host).before args s = true) (hstat : Cond.static y ∈ TB) (hV : hv D cl a0 M H) (hS : va_S (hA a0) s.heap H locs) {mk0 : MethodId} (hnamed : s.methodNamed? y = some mk0)
    (hn : vs.length = n) (hsize : ls.size = nL) (hstack : st0 = vs.reverse ++ rest) (hW : (rest.map fun v => v.category).sum ≤ 8) (hdg : decode cc pc = .ok (.invokestatic index, 3)) (hf : cells + mc ≤ R.cells ∧ slots + ms ≤ R.slots)
    (kr : ∀ v : Option Value, rpost v → W p l e R s m args below meth c H locs (cells + mc) (slots + ms) Q (F0 m (pc + 3) ls (v.toList ++ rest)))
    (kt : ∀ (x ci : Nat) (H1 : Heap), ex ci → M x = none → hv D cl a0 (va_up M x (some (.inr (ci, [])))) H1 → va_S (hA a0) s.heap H1 locs → WT p l e R s m args below meth c H1 locs (cells + mc) (slots + ms) Q x (F0 m pc ls rest)) :
    W p l e R s m args below meth c H locs cells slots Q (F0 m pc ls st0) := by
  subst hstack
  obtain ⟨hx, hb, hml, hown, hws, hev, h0⟩ := id C0
  obtain ⟨-, -, -, -, -, hcd, hini, hy, hlen⟩ := id cy
  intro T hT X
  obtain ⟨methM, cM, hmethM, -, -, hsigM⟩ := hcd s mk0 (State.WarmedH.refl s) hnamed
  have hstatic : methM.isStatic = true := Cond.static_spec hnamed hmethM (hws _ hstat args s (State.WarmedH.refl s))
  obtain ⟨kP, hkP, -⟩ := className_of_methodNamed hnamed
  have hinitP : kP.init = .initialized := Cond.initialized_spec (findClass_of_methodNamed hnamed) hkP hini
  obtain ⟨vm₁, X₁, hstep₁⟩ := X.invokestaticNest hx hown hlink hnamed hmethM hstatic hkP hinitP hy (g := F0 m pc ls (vs.reverse ++ rest)) rfl (argsL := vs) (rest := rest) (hn.trans (hlen _ hsigM)) rfl (by rw [hb]; exact hdg)
  obtain ⟨t, a1, b1⟩ := cx_afterR (H := H) X₁ hT hM cy hkp C0 hV hS hsize hdg hW (X₁.named hnamed) hf kr kt
  exact ⟨t, hstep₁ _ fun acts => by rw [doInvoke_state]; exact a1, b1⟩
theorem cr_I {host : String} {index : Nat} {b : Addr} {As : List Value} (C0 : Cx TB Ev a0 p s m c cc nL own) (hkp : hKeep a0 Ev) (hM : MX l y TB rm (va_Pc (.ref b :: As) (hU Ev D cl a0 M)) (hR D cl a0 M rpost ex) mc ms (fun _ => False)) (cy : Cy R s args y TB rm mc ms maxL n)
    (hlink : (Cond.methodLink own index y).before args s = true) (hinst : Cond.instanceMethod y ∈ TB) (hcode : Cond.code y bytes maxL none ∈ TB) (hy1 : y.name = "<init>") (hV : hv D cl a0 M H) (hS : va_S (hA a0) s.heap H locs)
    (hn : As.length = n) (hsize : ls.size = nL) (hstack : st0 = As.reverse ++ .ref b :: rest) (hW : (rest.map fun v => v.category).sum ≤ 8) (hdg : decode cc pc = .ok (.invokespecial index, 3)) (hf : cells + mc ≤ R.cells ∧ slots + ms ≤ R.slots)
    (kr : ∀ v : Option Value, rpost v → W p l e R s m args below meth c H locs (cells + mc) (slots + ms) Q (F0 m (pc + 3) ls (v.toList ++ rest)))
    (kt : ∀ (x ci : Nat) (H1 : Heap), ex ci → M x = none → hv D cl a0 (va_up M x (some (.inr (ci, [])))) H1 → va_S (hA a0) s.heap H1 locs → WT p l e R s m args below meth c H1 locs (cells + mc) (slots + ms) Q x (F0 m pc ls rest)) :
    W p l e R s m args below meth c H locs cells slots Q (F0 m pc ls st0) := by
  subst hstack
  obtain ⟨hx, hb, hml, hown, hws, hev, h0⟩ := id C0
  obtain ⟨-, -, -, -, -, hcd, hini, hy, hlen⟩ := id cy
  intro T hT X
  have hpl : e.platform.magicAccessors = ({} : Platform).magicAccessors := by rw [X.admits.platform]
  obtain ⟨mk, methM, cM, kP, vm₁, hnamed, hmethM, hcodeM, -, hlocalsM, -, hkP, -, hW₁, hstep₁⟩ := Steps.initColdArgs (e := e) X.here hx X.warmed hpl hown hy1 hy hlink (hws _ hinst args s (State.WarmedH.refl s)) (hws _ hcode args s (State.WarmedH.refl s)) (f := F0 m pc ls (As.reverse ++ .ref b :: rest)) rfl (argsL := As) (rest := rest) (a := b) (fun sig h => hn.trans (hlen sig h)) rfl (by rw [hb]; exact hdg)
  have X₁ := X.noted hW₁
  obtain ⟨t, a1, b1⟩ := cx_afterR (H := H) X₁ hT hM cy hkp C0 hV hS hsize hdg hW (X₁.named hnamed) hf kr kt
  exact ⟨t, hstep₁ _ fun acts => by rw [doInvoke_state]; exact a1, b1⟩
theorem cr_IN {host : String} {index : Nat} {b : Addr} {As : List Value} (C0 : Cx TB Ev a0 p s m c cc nL own) (hkp : hKeep a0 Ev) (hM : MX l y TB rm (va_Pc (.ref b :: As) (hU Ev D cl a0 M)) (hR D cl a0 M rpost ex) mc ms (fun _ => False)) (cy : Cy R s args y TB rm mc ms maxL n)
    (hlink : (Cond.methodLinkNest own index y host).before args s = true) (hinst : Cond.instanceMethod y ∈ TB) (hcode : Cond.code y bytes maxL none ∈ TB) (hy1 : y.name = "<init>") (hV : hv D cl a0 M H) (hS : va_S (hA a0) s.heap H locs)
    (hn : As.length = n) (hsize : ls.size = nL) (hstack : st0 = As.reverse ++ .ref b :: rest) (hW : (rest.map fun v => v.category).sum ≤ 8) (hdg : decode cc pc = .ok (.invokespecial index, 3)) (hf : cells + mc ≤ R.cells ∧ slots + ms ≤ R.slots)
    (kr : ∀ v : Option Value, rpost v → W p l e R s m args below meth c H locs (cells + mc) (slots + ms) Q (F0 m (pc + 3) ls (v.toList ++ rest)))
    (kt : ∀ (x ci : Nat) (H1 : Heap), ex ci → M x = none → hv D cl a0 (va_up M x (some (.inr (ci, [])))) H1 → va_S (hA a0) s.heap H1 locs → WT p l e R s m args below meth c H1 locs (cells + mc) (slots + ms) Q x (F0 m pc ls rest)) :
    W p l e R s m args below meth c H locs cells slots Q (F0 m pc ls st0) := by
  subst hstack
  obtain ⟨hx, hb, hml, hown, hws, hev, h0⟩ := id C0
  obtain ⟨-, -, -, -, -, hcd, hini, hy, hlen⟩ := id cy
  intro T hT X
  have hpl : e.platform.magicAccessors = ({} : Platform).magicAccessors := by rw [X.admits.platform]
  obtain ⟨mk, methM, cM, kP, vm₁, hnamed, hmethM, hcodeM, -, hlocalsM, -, hkP, -, hW₁, hstep₁⟩ := Steps.initColdArgsNest (e := e) X.here hx X.warmed hpl hown hy1 hy hlink (hws _ hinst args s (State.WarmedH.refl s)) (hws _ hcode args s (State.WarmedH.refl s)) (f := F0 m pc ls (As.reverse ++ .ref b :: rest)) rfl (argsL := As) (rest := rest) (a := b) (fun sig h => hn.trans (hlen sig h)) rfl (by rw [hb]; exact hdg)
  have X₁ := X.noted hW₁
  obtain ⟨t, a1, b1⟩ := cx_afterR (H := H) X₁ hT hM cy hkp C0 hV hS hsize hdg hW (X₁.named hnamed) hf kr kt
  exact ⟨t, hstep₁ _ fun acts => by rw [doInvoke_state]; exact a1, b1⟩
/-! returns -/
theorem hx_iret {v : Int32} (C0 : Cx TB Ev a0 p s m c cc nL own) (hr : meth.sig.returnType = some .int) (hlk : meth.locks = false) (hV : hv D cl a0 M H) (hS : va_S (hA a0) s.heap H locs) (hdg : decode cc pc = .ok (.ireturn, 1)) (hp : post (.returned (some (.int v))) M) :
    W p l e R s m args below meth c H locs cells slots (MQX below (hQ D cl a0 post) args s cells slots (hA a0)) (F0 m pc ls [.int v]) :=
  W.mono (fun _ h => MQ.x h) (W.iret C0.1 C0.2.1 hr (fun t ht _ => ⟨⟨M, hp, by rw [ht]; exact hV⟩, hS.F ht⟩) hS.2.2 hdg hlk)
theorem hx_zret {v : Int32} (C0 : Cx TB Ev a0 p s m c cc nL own) (hr : meth.sig.returnType = some .boolean) (hlk : meth.locks = false) (hV : hv D cl a0 M H) (hS : va_S (hA a0) s.heap H locs) (hdg : decode cc pc = .ok (.ireturn, 1)) (hn : narrow .boolean (.int v) = .int v) (hp : post (.returned (some (.int v))) M) :
    W p l e R s m args below meth c H locs cells slots (MQX below (hQ D cl a0 post) args s cells slots (hA a0)) (F0 m pc ls [.int v]) :=
  W.mono (fun _ h => MQ.x h) (W.zret C0.1 C0.2.1 hr hn (fun t ht _ => ⟨⟨M, hp, by rw [ht]; exact hV⟩, hS.F ht⟩) hS.2.2 hdg hlk)
theorem hx_vret (C0 : Cx TB Ev a0 p s m c cc nL own) (hr : meth.sig.returnType = none) (hlk : meth.locks = false) (hV : hv D cl a0 M H) (hS : va_S (hA a0) s.heap H locs) (hdg : decode cc pc = .ok (.return_, 1)) (hp : post (.returned none) M) :
    W p l e R s m args below meth c H locs cells slots (MQX below (hQ D cl a0 post) args s cells slots (hA a0)) (F0 m pc ls []) :=
  W.mono (fun _ h => MQ.x h) (W.vret C0.1 C0.2.1 hr (fun t ht _ => ⟨⟨M, hp, by rw [ht]; exact hV⟩, hS.F ht⟩) hS.2.2 hdg hlk)
theorem hx_aret {v : Value} {rt : FieldType} (C0 : Cx TB Ev a0 p s m c cc nL own) (hr : meth.sig.returnType = some rt) (hrt : (∃ n, rt = .object n) ∨ ∃ t, rt = .array t) (hvv : v = .null ∨ ∃ a, v = .ref a) (hlk : meth.locks = false) (hV : hv D cl a0 M H) (hS : va_S (hA a0) s.heap H locs) (hdg : decode cc pc = .ok (.areturn, 1)) (hp : post (.returned (some v)) M) :
    W p l e R s m args below meth c H locs cells slots (MQX below (hQ D cl a0 post) args s cells slots (hA a0)) (F0 m pc ls [v]) :=
  W.mono (fun _ h => MQ.x h) (W.aret C0.1 C0.2.1 hr hrt hvv (fun t ht _ => ⟨⟨M, hp, by rw [ht]; exact hV⟩, hS.F ht⟩) hS.2.2 hdg hlk)
theorem hx_thr {x : Addr} {st : List Value} (hxt : ∀ z ∈ c.exceptionTable.toList, ∀ pc, covers z pc = false) (hlk : meth.locks = false) (hV : hv D cl a0 M H) (hS : va_S (hA a0) s.heap H locs) (hp : post (.threw x) M) :
    WT p l e R s m args below meth c H locs cells slots (MQX below (hQ D cl a0 post) args s cells slots (hA a0)) x (F0 m pc ls st) :=
  WT.leave (fun z hz => hxt z hz _) hlk (fun t ht _ => ⟨⟨M, hp, by rw [ht]; exact hV⟩, hS.F ht⟩) hS.2.2
/-! returns of methods that only read -/
theorem hr_iret {v : Int32} (C0 : Cx TB Ev a0 p s m c cc nL own) (hr : meth.sig.returnType = some .int) (hlk : meth.locks = false) (hdg : decode cc pc = .ok (.ireturn, 1)) (hp : rpost (some (.int v))) :
    W p l e R s m args below meth c s.heap [] cells slots (MQX below (hR D cl a0 M rpost ex) args s cells slots (fun _ => False)) (F0 m pc ls [.int v]) :=
  W.mono (fun _ h => MQ.x h) (W.iret C0.1 C0.2.1 hr (fun t ht _ => Or.inl ⟨_, rfl, hp, ht⟩) (fun _ h => by cases h) hdg hlk)
theorem hr_zret {v : Int32} (C0 : Cx TB Ev a0 p s m c cc nL own) (hr : meth.sig.returnType = some .boolean) (hlk : meth.locks = false) (hdg : decode cc pc = .ok (.ireturn, 1)) (hn : narrow .boolean (.int v) = .int v) (hp : rpost (some (.int v))) :
    W p l e R s m args below meth c s.heap [] cells slots (MQX below (hR D cl a0 M rpost ex) args s cells slots (fun _ => False)) (F0 m pc ls [.int v]) :=
  W.mono (fun _ h => MQ.x h) (W.zret C0.1 C0.2.1 hr hn (fun t ht _ => Or.inl ⟨_, rfl, hp, ht⟩) (fun _ h => by cases h) hdg hlk)
theorem hr_lret {v : Int64} (C0 : Cx TB Ev a0 p s m c cc nL own) (hr : meth.sig.returnType = some .long) (hlk : meth.locks = false) (hdg : decode cc pc = .ok (.lreturn, 1)) (hp : rpost (some (.long v))) :
    W p l e R s m args below meth c s.heap [] cells slots (MQX below (hR D cl a0 M rpost ex) args s cells slots (fun _ => False)) (F0 m pc ls [.long v]) :=
  W.mono (fun _ h => MQ.x h) (W.lret C0.1 C0.2.1 hr (fun t ht _ => Or.inl ⟨_, rfl, hp, ht⟩) (fun _ h => by cases h) hdg hlk)
theorem hr_vret (C0 : Cx TB Ev a0 p s m c cc nL own) (hr : meth.sig.returnType = none) (hlk : meth.locks = false) (hdg : decode cc pc = .ok (.return_, 1)) (hp : rpost none) :
    W p l e R s m args below meth c s.heap [] cells slots (MQX below (hR D cl a0 M rpost ex) args s cells slots (fun _ => False)) (F0 m pc ls []) :=
  W.mono (fun _ h => MQ.x h) (W.vret C0.1 C0.2.1 hr (fun t ht _ => Or.inl ⟨_, rfl, hp, ht⟩) (fun _ h => by cases h) hdg hlk)
theorem hr_aret {v : Value} {rt : FieldType} (C0 : Cx TB Ev a0 p s m c cc nL own) (hr : meth.sig.returnType = some rt) (hrt : (∃ n, rt = .object n) ∨ ∃ t, rt = .array t) (hvv : v = .null ∨ ∃ a, v = .ref a) (hlk : meth.locks = false) (hdg : decode cc pc = .ok (.areturn, 1)) (hp : rpost (some v)) :
    W p l e R s m args below meth c s.heap [] cells slots (MQX below (hR D cl a0 M rpost ex) args s cells slots (fun _ => False)) (F0 m pc ls [v]) :=
  W.mono (fun _ h => MQ.x h) (W.aret C0.1 C0.2.1 hr hrt hvv (fun t ht _ => Or.inl ⟨_, rfl, hp, ht⟩) (fun _ h => by cases h) hdg hlk)
theorem hr_thr {x ci : Nat} {st : List Value} (hxt : ∀ z ∈ c.exceptionTable.toList, ∀ pc, covers z pc = false) (hlk : meth.locks = false) (hMx : M x = none) (hV : hv D cl a0 (va_up M x (some (.inr (ci, [])))) H) (hS : va_S (hA a0) s.heap H []) (hp : ex ci) :
    WT p l e R s m args below meth c H [] cells slots (MQX below (hR D cl a0 M rpost ex) args s cells slots (fun _ => False)) x (F0 m pc ls st) :=
  WT.leave (fun z hz => hxt z hz _) hlk (fun t ht _ => Or.inr ⟨x, ci, rfl, hp, hMx, by rw [ht]; exact hV, hS.F ht⟩) (fun _ h => by cases h)
theorem hm_ne {M : hMp} {a b : Nat} {x y : va_E} (ha : M a = some x) (hb : M b = some y) (h : x ≠ y) : a ≠ b := fun z => h (Option.some.inj (ha.symm.trans (by rw [z]; exact hb)))
theorem hm_ao {M : hMp} {a b : Nat} {x : ClassId × vp_A} {y : Nat × List Value} (ha : M a = some (.inl x)) (hb : M b = some (.inr y)) : a ≠ b := hm_ne ha hb (fun h => by cases h)
theorem hm_oa {M : hMp} {a b : Nat} {x : Nat × List Value} {y : ClassId × vp_A} (ha : M a = some (.inr x)) (hb : M b = some (.inl y)) : a ≠ b := hm_ne ha hb (fun h => by cases h)
theorem hm_oo {M : hMp} {a b i j : Nat} {x y : List Value} (ha : M a = some (.inr (i, x))) (hb : M b = some (.inr (j, y))) (h : i ≠ j) : a ≠ b := hm_ne ha hb (fun z => h (by cases z; rfl))
end KC
end
section
/-! The heap's instructions over one map of cells -/
def Cl (TB : List Cond) (cl : List vw_C) (ci : Nat) (C : String) (T : u_T) (N : Nat) (ty : Nat → FieldType) : Prop :=
  cl[ci]? = some (C, T, N) ∧ (∀ w ∈ u_ws C T N, w ∈ TB) ∧ (∀ k, k < N → parseFieldDescriptor (T k).2.2.1 = some (ty k)) ∧ (∀ a, a < N → ∀ b, b < N → a ≠ b → (T a).2.1 ≠ (T b).2.1)
theorem nz_e {a : Nat} (ha2 : a < 2 ^ 31) (z : nI a = 0) : a = 0 := (nI_eq ha2 (by decide)).mp (z.trans nI_0.symm)
theorem nz_n {a : Nat} (z : ¬ nI a = 0) : a ≠ 0 := fun q => z (by rw [q]; exact nI_0)
theorem nz_le {a : Nat} (ha2 : a < 2 ^ 31) (z : nI a ≤ 0) : a = 0 := Nat.le_zero.mp ((nI_leI ha2 (by decide)).mp (by rw [nI_0]; exact z))
theorem nz_gt {a : Nat} (ha2 : a < 2 ^ 31) (z : ¬ nI a ≤ 0) : 0 < a := Nat.pos_of_ne_zero (fun q => z (by rw [q, nI_0]; exact Int32.le_refl 0))
theorem nz_gt2 {a : Nat} (ha2 : a < 2 ^ 31) (z : 0 < nI a) : 0 < a := (nI_ltI (a := 0) (by decide) ha2).mp (by rw [nI_0]; exact z)
theorem nz_le2 {a : Nat} (ha2 : a < 2 ^ 31) (z : ¬ 0 < nI a) : a = 0 := Nat.le_zero.mp (Nat.not_lt.mp (fun q => z (by have := (nI_ltI (a := 0) (by decide) ha2).mpr q; rw [nI_0] at this; exact this)))
section HP
variable {p : Program} {l : Launch} {e : Env} {R : Room} {s : State} {m : MethodId} {args : Array Value} {below : List Frame} {meth : Method} {c : Code} {H : Heap} {locs : List Loc} {cells slots : Nat} {Q : State → Prop}
variable {TB : List Cond} {Ev : State → Prop} {a0 : Nat} {cc : ByteArray} {nL : Nat} {own : String} {D : va_G} {cl : List vw_C} {tys : List (ClassId × FieldType)} {M : hMp} {pc : Nat} {ls : Array Slot} {rest : List Value} {a : Nat}
theorem Cx.ts (C0 : Cx TB Ev a0 p s m c cc nL own) : ∀ w ∈ TB, w.before args s = true := fun w hw => C0.2.2.2.2.1 w hw args s (State.WarmedH.refl s)
theorem hp_get (C0 : Cx TB Ev a0 p s m c cc nL own) (hK : va_K D cl tys s) {C ref : String} {T : u_T} {N ci index : Nat} {ty0 : Nat → FieldType} (K : Cl TB cl ci C T N ty0) (hV : hv D cl a0 M H) {fs : List Value} (ha : M a = some (.inr (ci, fs))) (k : Nat) (hk : k < N) (hlink : Cond.fieldLink own index ref (T k).2.1 (T k).2.2.1 ∈ TB)
    (hsame : ∀ x, s.fieldFound? (T k).1 (T k).2.1 (T k).2.2.1 = some x → s.fieldFound? ref (T k).2.1 (T k).2.2.1 = some x) {v : Value} (hvv : fs[k]? = some v) (hdg : decode cc pc = .ok (.getfield index, 3))
    (kk : W p l e R s m args below meth c H locs cells slots Q (F0 m (pc + 3) ls (v :: rest))) : W p l e R s m args below meth c H locs cells slots Q (F0 m pc ls (.ref a :: rest)) := by
  obtain ⟨ws, q0, hP, -, hq, -⟩ := hv_at hV ha
  exact va_get C0.1 C0.2.1 C0.ts K.2.1 C0.2.2.2.1 hK hP q0 hq K.1 k hk (C0.ts _ hlink) hsame hvv hdg kk
theorem hp_getN (C0 : Cx TB Ev a0 p s m c cc nL own) (hK : va_K D cl tys s) {C ref host : String} {T : u_T} {N ci index : Nat} {ty0 : Nat → FieldType} (K : Cl TB cl ci C T N ty0) (hV : hv D cl a0 M H) {fs : List Value} (ha : M a = some (.inr (ci, fs))) (k : Nat) (hk : k < N) (hlink : va_Nw (.fieldLinkNest own index ref (T k).2.1 (T k).2.2.1 host) s)
    (hsame : ∀ x, s.fieldFound? (T k).1 (T k).2.1 (T k).2.2.1 = some x → s.fieldFound? ref (T k).2.1 (T k).2.2.1 = some x) {v : Value} (hvv : fs[k]? = some v) (hdg : decode cc pc = .ok (.getfield index, 3))
    (kk : W p l e R s m args below meth c H locs cells slots Q (F0 m (pc + 3) ls (v :: rest))) : W p l e R s m args below meth c H locs cells slots Q (F0 m pc ls (.ref a :: rest)) := by
  obtain ⟨ws, q0, hP, -, hq, -⟩ := hv_at hV ha
  exact va_getN C0.1 C0.2.1 C0.ts K.2.1 C0.2.2.2.1 hK hP q0 hq K.1 k hk (va_Nw.use rfl hlink) hsame hvv hdg kk
theorem hp_put (C0 : Cx TB Ev a0 p s m c cc nL own) (hK : va_K D cl tys s) {C ref : String} {T : u_T} {N ci index : Nat} {ty0 : Nat → FieldType} (K : Cl TB cl ci C T N ty0) (hV : hv D cl a0 M H) (hS : va_S (hA a0) s.heap H locs) {fs : List Value} (ha : M a = some (.inr (ci, fs))) (k : Nat) (hk : k < N) (hlink : Cond.fieldLink own index ref (T k).2.1 (T k).2.2.1 ∈ TB)
    (hsame : ∀ x, s.fieldFound? (T k).1 (T k).2.1 (T k).2.2.1 = some x → s.fieldFound? ref (T k).2.1 (T k).2.2.1 = some x) (hfin : (T k).2.2.2 = false) {v : Value} (hn : narrow (ty0 k) v = v) (hfit : fits (ty0 k) v = true) (hl : k < fs.length) (hdg : decode cc pc = .ok (.putfield index, 3))
    (kk : ∀ (H1 : Heap) (locs1 : List Loc), hv D cl a0 (va_up M a (some (.inr (ci, fs.set k v)))) H1 → va_S (hA a0) s.heap H1 locs1 → W p l e R s m args below meth c H1 locs1 cells slots Q (F0 m (pc + 3) ls rest)) : W p l e R s m args below meth c H locs cells slots Q (F0 m pc ls (v :: .ref a :: rest)) := by
  obtain ⟨ws, q0, hP, hD, hq, -, hset⟩ := hv_at hV ha
  exact va_put C0.1 C0.2.1 C0.ts K.2.1 ty0 K.2.2.1 K.2.2.2 C0.2.2.2.1 hK hP hD hS q0 hq K.1 k hk (C0.ts _ hlink) hsame hfin (K.2.2.1 k hk) hn hfit hl hdg (fun H1 l1 hP1 hD1 hS1 => kk H1 l1 (hset _ _ hP1 hD1) hS1)
theorem hp_putN (C0 : Cx TB Ev a0 p s m c cc nL own) (hK : va_K D cl tys s) {C ref host : String} {T : u_T} {N ci index : Nat} {ty0 : Nat → FieldType} (K : Cl TB cl ci C T N ty0) (hV : hv D cl a0 M H) (hS : va_S (hA a0) s.heap H locs) {fs : List Value} (ha : M a = some (.inr (ci, fs))) (k : Nat) (hk : k < N) (hlink : va_Nw (.fieldLinkNest own index ref (T k).2.1 (T k).2.2.1 host) s)
    (hsame : ∀ x, s.fieldFound? (T k).1 (T k).2.1 (T k).2.2.1 = some x → s.fieldFound? ref (T k).2.1 (T k).2.2.1 = some x) (hfin : (T k).2.2.2 = false) {v : Value} (hn : narrow (ty0 k) v = v) (hfit : fits (ty0 k) v = true) (hl : k < fs.length) (hdg : decode cc pc = .ok (.putfield index, 3))
    (kk : ∀ (H1 : Heap) (locs1 : List Loc), hv D cl a0 (va_up M a (some (.inr (ci, fs.set k v)))) H1 → va_S (hA a0) s.heap H1 locs1 → W p l e R s m args below meth c H1 locs1 cells slots Q (F0 m (pc + 3) ls rest)) : W p l e R s m args below meth c H locs cells slots Q (F0 m pc ls (v :: .ref a :: rest)) := by
  obtain ⟨ws, q0, hP, hD, hq, -, hset⟩ := hv_at hV ha
  exact va_putN C0.1 C0.2.1 C0.ts K.2.1 ty0 K.2.2.1 K.2.2.2 C0.2.2.2.1 hK hP hD hS q0 hq K.1 k hk (va_Nw.use rfl hlink) hsame hfin (K.2.2.1 k hk) hn hfit hl hdg (fun H1 l1 hP1 hD1 hS1 => kk H1 l1 (hset _ _ hP1 hD1) hS1)
theorem hp_putF (C0 : Cx TB Ev a0 p s m c cc nL own) (hK : va_K D cl tys s) {C ref : String} {T : u_T} {N ci index : Nat} {ty0 : Nat → FieldType} (K : Cl TB cl ci C T N ty0) (hV : hv D cl a0 M H) (hS : va_S (hA a0) s.heap H locs) {fs : List Value} (ha : M a = some (.inr (ci, fs))) (k : Nat) (hk : k < N) (hlink : Cond.fieldLink own index ref (T k).2.1 (T k).2.2.1 ∈ TB)
    (hsame : ∀ x, s.fieldFound? (T k).1 (T k).2.1 (T k).2.2.1 = some x → s.fieldFound? ref (T k).2.1 (T k).2.2.1 = some x) (hfin : (T k).2.2.2 = true) (hin2 : meth.name = "<init>") (hdecl : (T k).1 = own) {v : Value} (hn : narrow (ty0 k) v = v) (hfit : fits (ty0 k) v = true) (hl : k < fs.length) (hdg : decode cc pc = .ok (.putfield index, 3))
    (kk : ∀ (H1 : Heap) (locs1 : List Loc), hv D cl a0 (va_up M a (some (.inr (ci, fs.set k v)))) H1 → va_S (hA a0) s.heap H1 locs1 → W p l e R s m args below meth c H1 locs1 cells slots Q (F0 m (pc + 3) ls rest)) : W p l e R s m args below meth c H locs cells slots Q (F0 m pc ls (v :: .ref a :: rest)) := by
  obtain ⟨ws, q0, hP, hD, hq, -, hset⟩ := hv_at hV ha
  exact va_putF C0.1 C0.2.1 C0.ts K.2.1 ty0 K.2.2.1 K.2.2.2 C0.2.2.2.1 hK hP hD hS q0 hq K.1 k hk (C0.ts _ hlink) hsame hfin hin2 hdecl (K.2.2.1 k hk) hn hfit hl hdg (fun H1 l1 hP1 hD1 hS1 => kk H1 l1 (hset _ _ hP1 hD1) hS1)
theorem hp_iald (C0 : Cx TB Ev a0 p s m c cc nL own) (hK : va_K D cl tys s) (t0 : Nat) {cA : ClassId} (ht : tys[t0]? = some (cA, .int)) (hV : hv D cl a0 M H) {n : Nat} {f : Nat → Int32} (ha : M a = some (.inl (cA, n, .inl f))) {i : Int32} (j : Nat) (hij : i = nI j) (hj : j < n) (hn : n < 2 ^ 31) (hdg : decode cc pc = .ok (.iaload, 1))
    (kk : W p l e R s m args below meth c H locs cells slots Q (F0 m (pc + 1) ls (.int (f j) :: rest))) : W p l e R s m args below meth c H locs cells slots Q (F0 m pc ls (.int i :: .ref a :: rest)) := by
  obtain ⟨ws, q0, hP, -, hq, -⟩ := hv_at hV ha
  subst hij
  refine va_iald C0.1 C0.2.1 hK hP q0 t0 hq ht (vp_in_nI hj hn) hdg ?_
  rw [nI_clamp (by omega)]
  exact kk
theorem hp_zald (C0 : Cx TB Ev a0 p s m c cc nL own) (hK : va_K D cl tys s) (t0 : Nat) {cA : ClassId} (ht : tys[t0]? = some (cA, .boolean)) (hV : hv D cl a0 M H) {n : Nat} {f : Nat → Int32} (ha : M a = some (.inl (cA, n, .inl f))) {i : Int32} (j : Nat) (hij : i = nI j) (hj : j < n) (hn : n < 2 ^ 31) (hdg : decode cc pc = .ok (.baload, 1))
    (kk : W p l e R s m args below meth c H locs cells slots Q (F0 m (pc + 1) ls (.int (f j) :: rest))) : W p l e R s m args below meth c H locs cells slots Q (F0 m pc ls (.int i :: .ref a :: rest)) := by
  obtain ⟨ws, q0, hP, -, hq, -⟩ := hv_at hV ha
  subst hij
  refine va_zald C0.1 C0.2.1 hK hP q0 t0 hq ht (vp_in_nI hj hn) hdg ?_
  rw [nI_clamp (by omega)]
  exact kk
theorem hp_iast (C0 : Cx TB Ev a0 p s m c cc nL own) (hK : va_K D cl tys s) (t0 : Nat) {cA : ClassId} (ht : tys[t0]? = some (cA, .int)) (hV : hv D cl a0 M H) (hS : va_S (hA a0) s.heap H locs) {n : Nat} {f : Nat → Int32} (ha : M a = some (.inl (cA, n, .inl f))) {i x : Int32} (j : Nat) (hij : i = nI j) (hj : j < n) (hn : n < 2 ^ 31) (hdg : decode cc pc = .ok (.iastore, 1))
    (kk : ∀ (H1 : Heap) (locs1 : List Loc), hv D cl a0 (va_up M a (some (.inl (cA, n, .inl (upd f j x))))) H1 → va_S (hA a0) s.heap H1 locs1 → W p l e R s m args below meth c H1 locs1 cells slots Q (F0 m (pc + 1) ls rest)) : W p l e R s m args below meth c H locs cells slots Q (F0 m pc ls (.int x :: .int i :: .ref a :: rest)) := by
  obtain ⟨ws, q0, hP, hD, hq, -, hset⟩ := hv_at hV ha
  subst hij
  refine va_iast C0.1 C0.2.1 hK hP hD hS q0 t0 hq ht (vp_in_nI hj hn) hdg (fun H1 l1 hP1 hD1 hS1 => kk H1 l1 ?_ hS1)
  rw [nI_clamp (by omega)] at hP1 hD1
  exact hset _ _ hP1 hD1
theorem hp_zast (C0 : Cx TB Ev a0 p s m c cc nL own) (hK : va_K D cl tys s) (t0 : Nat) {cA : ClassId} (ht : tys[t0]? = some (cA, .boolean)) (hV : hv D cl a0 M H) (hS : va_S (hA a0) s.heap H locs) {n : Nat} {f : Nat → Int32} (ha : M a = some (.inl (cA, n, .inl f))) {i x : Int32} (hx01 : vp_nar .boolean x = x) (j : Nat) (hij : i = nI j) (hj : j < n) (hn : n < 2 ^ 31) (hdg : decode cc pc = .ok (.bastore, 1))
    (kk : ∀ (H1 : Heap) (locs1 : List Loc), hv D cl a0 (va_up M a (some (.inl (cA, n, .inl (upd f j x))))) H1 → va_S (hA a0) s.heap H1 locs1 → W p l e R s m args below meth c H1 locs1 cells slots Q (F0 m (pc + 1) ls rest)) : W p l e R s m args below meth c H locs cells slots Q (F0 m pc ls (.int x :: .int i :: .ref a :: rest)) := by
  obtain ⟨ws, q0, hP, hD, hq, -, hset⟩ := hv_at hV ha
  subst hij
  refine va_zast C0.1 C0.2.1 hK hP hD hS q0 t0 hq ht (vp_in_nI hj hn) hdg (fun H1 l1 hP1 hD1 hS1 => kk H1 l1 ?_ hS1)
  rw [nI_clamp (by omega), hx01] at hP1 hD1
  exact hset _ _ hP1 hD1
theorem hp_last (C0 : Cx TB Ev a0 p s m c cc nL own) (hK : va_K D cl tys s) (t0 : Nat) {cA : ClassId} (ht : tys[t0]? = some (cA, .long)) (hV : hv D cl a0 M H) (hS : va_S (hA a0) s.heap H locs) {n : Nat} {f : Nat → Int64} (ha : M a = some (.inl (cA, n, .inr (.inl f)))) {i : Int32} {x : Int64} (j : Nat) (hij : i = nI j) (hj : j < n) (hn : n < 2 ^ 31) (hdg : decode cc pc = .ok (.lastore, 1))
    (kk : ∀ (H1 : Heap) (locs1 : List Loc), hv D cl a0 (va_up M a (some (.inl (cA, n, .inr (.inl (vp_updL f j x)))))) H1 → va_S (hA a0) s.heap H1 locs1 → W p l e R s m args below meth c H1 locs1 cells slots Q (F0 m (pc + 1) ls rest)) : W p l e R s m args below meth c H locs cells slots Q (F0 m pc ls (.long x :: .int i :: .ref a :: rest)) := by
  obtain ⟨ws, q0, hP, hD, hq, -, hset⟩ := hv_at hV ha
  subst hij
  refine va_last C0.1 C0.2.1 hK hP hD hS q0 t0 hq ht (vp_in_nI hj hn) hdg (fun H1 l1 hP1 hD1 hS1 => kk H1 l1 ?_ hS1)
  rw [nI_clamp (by omega)] at hP1 hD1
  exact hset _ _ hP1 hD1
theorem hp_lald (C0 : Cx TB Ev a0 p s m c cc nL own) (hK : va_K D cl tys s) (t0 : Nat) {cA : ClassId} (ht : tys[t0]? = some (cA, .long)) (hV : hv D cl a0 M H) {n : Nat} {f : Nat → Int64} (ha : M a = some (.inl (cA, n, .inr (.inl f)))) {i : Int32} (j : Nat) (hij : i = nI j) (hj : j < n) (hn : n < 2 ^ 31) (hdg : decode cc pc = .ok (.laload, 1))
    (kk : W p l e R s m args below meth c H locs cells slots Q (F0 m (pc + 1) ls (.long (f j) :: rest))) : W p l e R s m args below meth c H locs cells slots Q (F0 m pc ls (.int i :: .ref a :: rest)) := by
  obtain ⟨ws, q0, hP, -, hq, -⟩ := hv_at hV ha
  subst hij
  refine va_lald C0.1 C0.2.1 hK hP q0 t0 hq ht (vp_in_nI hj hn) hdg ?_
  rw [nI_clamp (by omega)]
  exact kk
theorem hp_alen (C0 : Cx TB Ev a0 p s m c cc nL own) (hK : va_K D cl tys s) (t0 : Nat) {cA : ClassId} {ty : FieldType} (ht : tys[t0]? = some (cA, ty)) (hV : hv D cl a0 M H) {x : vp_A} (ha : M a = some (.inl (cA, x))) (hdg : decode cc pc = .ok (.arraylength, 1))
    (kk : W p l e R s m args below meth c H locs cells slots Q (F0 m (pc + 1) ls (.int (nI x.1) :: rest))) : W p l e R s m args below meth c H locs cells slots Q (F0 m pc ls (.ref a :: rest)) := by
  obtain ⟨ws, q0, hP, -, hq, -⟩ := hv_at hV ha
  exact va_alen C0.1 C0.2.1 hK hP q0 t0 hq ht rfl hdg kk
theorem hp_aald (C0 : Cx TB Ev a0 p s m c cc nL own) (hK : va_K D cl tys s) (t0 : Nat) {cA : ClassId} {E : String} (ht : tys[t0]? = some (cA, .object E)) (hV : hv D cl a0 M H) {n : Nat} {f : Nat → Option Nat} (ha : M a = some (.inl (cA, n, .inr (.inr (.inr (.inr f)))))) {i : Int32} (j : Nat) (hij : i = nI j) (hj : j < n) (hn : n < 2 ^ 31) {v : Value} (hvv : va_rf (f j) = v) (hdg : decode cc pc = .ok (.aaload, 1))
    (kk : W p l e R s m args below meth c H locs cells slots Q (F0 m (pc + 1) ls (v :: rest))) : W p l e R s m args below meth c H locs cells slots Q (F0 m pc ls (.int i :: .ref a :: rest)) := by
  obtain ⟨ws, q0, hP, -, hq, -⟩ := hv_at hV ha
  subst hij
  refine va_aldq C0.1 C0.2.1 hK hP q0 t0 hq ht (vp_in_nI hj hn) hdg ?_
  rw [nI_clamp (by omega), hvv]
  exact kk
theorem hp_aast (C0 : Cx TB Ev a0 p s m c cc nL own) (hK : va_K D cl tys s) (t0 : Nat) {cA : ClassId} {r : vw_C} {ci : Nat} (ht : tys[t0]? = some (cA, .object r.1)) (hc : cl[ci]? = some r) (hV : hv D cl a0 M H) (hS : va_S (hA a0) s.heap H locs) {n v : Nat} {vs : List Value} {f : Nat → Option Nat} (ha : M a = some (.inl (cA, n, .inr (.inr (.inr (.inr f)))))) (hvv : M v = some (.inr (ci, vs))) {i : Int32} (j : Nat) (hij : i = nI j) (hj : j < n) (hn : n < 2 ^ 31) (hdg : decode cc pc = .ok (.aastore, 1))
    (kk : ∀ (H1 : Heap) (locs1 : List Loc), hv D cl a0 (va_up M a (some (.inl (cA, n, .inr (.inr (.inr (.inr (va_up f j (some v))))))))) H1 → va_S (hA a0) s.heap H1 locs1 → W p l e R s m args below meth c H1 locs1 cells slots Q (F0 m (pc + 1) ls rest)) : W p l e R s m args below meth c H locs cells slots Q (F0 m pc ls (.ref v :: .int i :: .ref a :: rest)) := by
  obtain ⟨ws, q0, hP, hD, hq, hget, hset⟩ := hv_at hV ha
  obtain ⟨qk, hqk⟩ := hget v _ hvv
  subst hij
  refine va_astq C0.1 C0.2.1 hK hP hD hS q0 t0 qk ci hq ht hqk hc (vp_in_nI hj hn) hdg (fun H1 l1 hP1 hD1 hS1 => kk H1 l1 ?_ hS1)
  rw [nI_clamp (by omega)] at hP1 hD1
  exact hset _ _ hP1 hD1
theorem hp_new (C0 : Cx TB Ev a0 p s m c cc nL own) (hK : va_K D cl tys s) {C : String} {T : u_T} {N ci index : Nat} {ty0 : Nat → FieldType} (K : Cl TB cl ci C T N ty0) (hcl : Cond.classLink own index C ∈ TB) (hinst : Cond.instantiable C N ∈ TB) (hini : Cond.initialized C ∈ TB) (hV : hv D cl a0 M H) (hS : va_S (hA a0) s.heap H locs) {fs : List Value} (hfs : ∀ j, j < N → defaultValue (ty0 j) = vp_V fs j) (hcells : cells + 1 ≤ R.cells) (hslots : slots + N ≤ R.slots) (hdg : decode cc pc = .ok (.new index, 3))
    (kk : ∀ (q : Nat) (H1 : Heap), M q = none → hv D cl a0 (va_up M q (some (.inr (ci, fs)))) H1 → va_S (hA a0) s.heap H1 locs → W p l e R s m args below meth c H1 locs (cells + 1) (slots + N) Q (F0 m (pc + 3) ls (.ref q :: rest))) : W p l e R s m args below meth c H locs cells slots Q (F0 m pc ls rest) := by
  obtain ⟨ws, hP, hD, hpush⟩ := hv_push hV
  refine va_new C0.1 C0.2.1 C0.ts K.2.1 ty0 K.2.2.1 C0.2.2.2.1 (C0.ts _ hcl) (C0.ts _ hinst) (C0.ts _ hini) hK hP hD hS (fun q hq => Nat.le_trans C0.2.2.2.2.2.2 hq) K.1 hfs hcells hslots hdg (fun q H1 hP1 hD1 hS1 => ?_)
  obtain ⟨h1, h2⟩ := hpush q _ H1 hP1 hD1
  exact kk q H1 h2 h1 hS1
theorem hp_newa (C0 : Cx TB Ev a0 p s m c cc nL own) (hK : va_K D cl tys s) (t0 : Nat) {cA : ClassId} {atype : ArrayType} {ty : FieldType} (hty : newarray.typeOf atype = ty) (hnot : ∀ z, ty ≠ .object z) (ht : tys[t0]? = some (cA, ty)) (harr : Cond.arrayClass (newarray.typeOf atype) ∈ TB) (hV : hv D cl a0 M H) (hS : va_S (hA a0) s.heap H locs) {n : Int32} {a1 : vp_A} (N : Nat) (ha1 : ∀ cA : ClassId, vp_cell cA a1 = arrV cA N (fun _ => defaultValue ty)) (hn : n = nI N) (hN : N ≤ 65536) (hcb : componentBytes ty ≤ 8) (hcells : cells + 1 ≤ R.cells) (hslots : slots + N ≤ R.slots) (hdg : decode cc pc = .ok (.newarray atype, 2))
    (kk : ∀ (q : Nat) (H1 : Heap), M q = none → hv D cl a0 (va_up M q (some (.inl (cA, a1)))) H1 → va_S (hA a0) s.heap H1 locs → W p l e R s m args below meth c H1 locs (cells + 1) (slots + N) Q (F0 m (pc + 2) ls (.ref q :: rest))) : W p l e R s m args below meth c H locs cells slots Q (F0 m pc ls (.int n :: rest)) := by
  obtain ⟨ws, hP, hD, hpush⟩ := hv_push hV
  subst hn
  refine va_newa C0.1 C0.2.1 (C0.ts _ harr) hty hK hP hD hS (fun q hq => Nat.le_trans C0.2.2.2.2.2.2 hq) ha1 (nI_pos (by omega)) (nI_clamp (by omega)) (Nat.le_trans (Nat.mul_le_mul hN hcb) (by decide)) hcells hslots hdg (fun q cA' H1 hK1 hP1 hD1 hS1 => ?_)
  have e1 := (hK1.2 tys.length (cA', ty) (by simp)).2
  have e2 := (hK.2 t0 (cA, ty) ht).2
  have e3 : cA' = cA := by
    cases ty with
    | object z => exact absurd rfl (hnot z)
    | _ => exact Option.some.inj (Eq.trans (Eq.symm e1) e2)
  subst e3
  obtain ⟨h1, h2⟩ := hpush q _ H1 hP1 hD1
  exact kk q H1 h2 h1 hS1
theorem hp_copyi (C0 : Cx TB Ev a0 p s m c cc nL own) (hK : va_K D cl tys s) (hsz : ls.size = nL) {index : Nat} (hlink : Cond.methodLink own index arraycopyName ∈ TB) (hnat : Cond.native arraycopyName ∈ TB) (hstat : Cond.static arraycopyName ∈ TB) (hini : Cond.initialized "java/lang/System" ∈ TB) (t0 : Nat) {cA : ClassId} (ht : tys[t0]? = some (cA, .int)) (hV : hv D cl a0 M H) (hS : va_S (hA a0) s.heap H locs)
    {b n0 n1 : Nat} {f g : Nat → Int32} (hb0 : M b = some (.inl (cA, n0, .inl f))) (ha : M a = some (.inl (cA, n1, .inl g))) {sp dp n : Int32} (i j k : Nat) (hi : sp = nI i) (hj : dp = nI j) (hk : n = nI k) (h4 : i + k ≤ n0) (h5 : j + k ≤ n1) (hn0 : n0 < 2 ^ 31) (hn1 : n1 < 2 ^ 31)
    (hframes : 1 ≤ R.frames) (hlocals : (rest.map fun v => v.category).sum + (nativeFrameWords "java/lang/System" "arraycopy" 5 + 11) ≤ R.locals) (hdg : decode cc pc = .ok (.invokestatic index, 3))
    (kk : ∀ (H1 : Heap) (locs1 : List Loc), hv D cl a0 (va_up M a (some (.inl (cA, n1, .inl (va_cpy f g i j k))))) H1 → va_S (hA a0) s.heap H1 locs1 → W p l e R s m args below meth c H1 locs1 cells slots Q (F0 m (pc + 3) ls rest)) : W p l e R s m args below meth c H locs cells slots Q (F0 m pc ls (.int n :: .int dp :: .ref a :: .int sp :: .ref b :: rest)) := by
  obtain ⟨ws, q1, hP, hD, hq, hget, hset⟩ := hv_at hV ha
  obtain ⟨q0, hq0⟩ := hget b _ hb0
  subst hi hj hk
  refine va_copyi C0.1 C0.2.1 (by rw [C0.2.2.1, hsz]) C0.2.2.2.1 (C0.ts _ hlink) (C0.ts _ hnat) (C0.ts _ hstat) (C0.ts _ hini) hK hP hD hS q0 q1 t0 t0 hq0 hq ht ht rfl (nI_pos (by omega)) (nI_pos (by omega)) (nI_pos (by omega)) (by rw [nI_clamp (by omega), nI_clamp (by omega)]; exact h4) (by rw [nI_clamp (by omega), nI_clamp (by omega)]; exact h5) (fun _ _ => rfl) hframes hlocals hdg (fun H1 l1 hP1 hD1 hS1 => kk H1 l1 ?_ hS1)
  rw [nI_clamp (by omega), nI_clamp (by omega), nI_clamp (by omega)] at hP1 hD1
  exact hset _ _ hP1 hD1
theorem hp_recv (hK : va_K D cl tys s) (hV : hv D cl a0 M H) {ci : Nat} {fs : List Value} {q : vw_C} (hc : cl[ci]? = some q) (ha : M a = some (.inr (ci, fs))) : ∃ cell : Cell, H[a]? = some cell ∧ cell.vm.isStatics = false ∧ s.vm.findClass q.1 = some cell.cls := by
  obtain ⟨ws, q0, hP, -, hq, -⟩ := hv_at hV ha
  exact va_recv hK hP hc hq
/-- the top int by another name -/
theorem lv_rei {x y : Int32} (h : x = y) (k : W p l e R s m args below meth c H locs cells slots Q (F0 m pc ls (.int y :: rest))) : W p l e R s m args below meth c H locs cells slots Q (F0 m pc ls (.int x :: rest)) := by rw [h]; exact k
/-! branches on naturals -/
theorem nb_ge (C0 : Cx TB Ev a0 p s m c cc nL own) {a b : Nat} {off : Int} {tgt : Nat} (hdg : decode cc pc = .ok (.if_icmp .ge off, 3)) (ht : (pc : Int) + off = (tgt : Int)) (ha2 : a < 2 ^ 31) (hb2 : b < 2 ^ 31) (kt : b ≤ a → W p l e R s m args below meth c H locs cells slots Q (F0 m tgt ls rest)) (kf : a < b → W p l e R s m args below meth c H locs cells slots Q (F0 m (pc + 3) ls rest)) : W p l e R s m args below meth c H locs cells slots Q (F0 m pc ls (.int (nI b) :: .int (nI a) :: rest)) :=
  lv_icmp_ge C0.1 C0.2.1 hdg ht (fun z => kt ((nI_leI hb2 ha2).mp z)) (fun z => kf (Nat.not_le.mp (fun q => z ((nI_leI hb2 ha2).mpr q))))
theorem nb_lt (C0 : Cx TB Ev a0 p s m c cc nL own) {a b : Nat} {off : Int} {tgt : Nat} (hdg : decode cc pc = .ok (.if_icmp .lt off, 3)) (ht : (pc : Int) + off = (tgt : Int)) (ha2 : a < 2 ^ 31) (hb2 : b < 2 ^ 31) (kt : a < b → W p l e R s m args below meth c H locs cells slots Q (F0 m tgt ls rest)) (kf : b ≤ a → W p l e R s m args below meth c H locs cells slots Q (F0 m (pc + 3) ls rest)) : W p l e R s m args below meth c H locs cells slots Q (F0 m pc ls (.int (nI b) :: .int (nI a) :: rest)) :=
  lv_icmp_lt C0.1 C0.2.1 hdg ht (fun z => kt ((nI_ltI ha2 hb2).mp z)) (fun z => kf (Nat.not_lt.mp (fun q => z ((nI_ltI ha2 hb2).mpr q))))
theorem nb_gt (C0 : Cx TB Ev a0 p s m c cc nL own) {a b : Nat} {off : Int} {tgt : Nat} (hdg : decode cc pc = .ok (.if_icmp .gt off, 3)) (ht : (pc : Int) + off = (tgt : Int)) (ha2 : a < 2 ^ 31) (hb2 : b < 2 ^ 31) (kt : b < a → W p l e R s m args below meth c H locs cells slots Q (F0 m tgt ls rest)) (kf : a ≤ b → W p l e R s m args below meth c H locs cells slots Q (F0 m (pc + 3) ls rest)) : W p l e R s m args below meth c H locs cells slots Q (F0 m pc ls (.int (nI b) :: .int (nI a) :: rest)) :=
  lv_icmp_gt C0.1 C0.2.1 hdg ht (fun z => kt ((nI_ltI hb2 ha2).mp z)) (fun z => kf (Nat.not_lt.mp (fun q => z ((nI_ltI hb2 ha2).mpr q))))
theorem nb_le (C0 : Cx TB Ev a0 p s m c cc nL own) {a b : Nat} {off : Int} {tgt : Nat} (hdg : decode cc pc = .ok (.if_icmp .le off, 3)) (ht : (pc : Int) + off = (tgt : Int)) (ha2 : a < 2 ^ 31) (hb2 : b < 2 ^ 31) (kt : a ≤ b → W p l e R s m args below meth c H locs cells slots Q (F0 m tgt ls rest)) (kf : b < a → W p l e R s m args below meth c H locs cells slots Q (F0 m (pc + 3) ls rest)) : W p l e R s m args below meth c H locs cells slots Q (F0 m pc ls (.int (nI b) :: .int (nI a) :: rest)) :=
  lv_icmp_le C0.1 C0.2.1 hdg ht (fun z => kt ((nI_leI ha2 hb2).mp z)) (fun z => kf (Nat.not_le.mp (fun q => z ((nI_leI ha2 hb2).mpr q))))
theorem nb_eq (C0 : Cx TB Ev a0 p s m c cc nL own) {a b : Nat} {off : Int} {tgt : Nat} (hdg : decode cc pc = .ok (.if_icmp .eq off, 3)) (ht : (pc : Int) + off = (tgt : Int)) (ha2 : a < 2 ^ 31) (hb2 : b < 2 ^ 31) (kt : a = b → W p l e R s m args below meth c H locs cells slots Q (F0 m tgt ls rest)) (kf : a ≠ b → W p l e R s m args below meth c H locs cells slots Q (F0 m (pc + 3) ls rest)) : W p l e R s m args below meth c H locs cells slots Q (F0 m pc ls (.int (nI b) :: .int (nI a) :: rest)) :=
  lv_icmp_eq C0.1 C0.2.1 hdg ht (fun z => kt ((nI_eq ha2 hb2).mp z)) (fun z => kf (fun q => z ((nI_eq ha2 hb2).mpr q)))
theorem nb_ne (C0 : Cx TB Ev a0 p s m c cc nL own) {a b : Nat} {off : Int} {tgt : Nat} (hdg : decode cc pc = .ok (.if_icmp .ne off, 3)) (ht : (pc : Int) + off = (tgt : Int)) (ha2 : a < 2 ^ 31) (hb2 : b < 2 ^ 31) (kt : a ≠ b → W p l e R s m args below meth c H locs cells slots Q (F0 m tgt ls rest)) (kf : a = b → W p l e R s m args below meth c H locs cells slots Q (F0 m (pc + 3) ls rest)) : W p l e R s m args below meth c H locs cells slots Q (F0 m pc ls (.int (nI b) :: .int (nI a) :: rest)) :=
  lv_icmp_ne C0.1 C0.2.1 hdg ht (fun z => kt (fun q => z ((nI_eq ha2 hb2).mpr q))) (fun z => kf ((nI_eq ha2 hb2).mp z))
theorem nb_z_eq (C0 : Cx TB Ev a0 p s m c cc nL own) {a : Nat} {off : Int} {tgt : Nat} (hdg : decode cc pc = .ok (.ifCond .eq off, 3)) (ht : (pc : Int) + off = (tgt : Int)) (ha2 : a < 2 ^ 31) (kt : a = 0 → W p l e R s m args below meth c H locs cells slots Q (F0 m tgt ls rest)) (kf : a ≠ 0 → W p l e R s m args below meth c H locs cells slots Q (F0 m (pc + 3) ls rest)) : W p l e R s m args below meth c H locs cells slots Q (F0 m pc ls (.int (nI a) :: rest)) :=
  lv_if_eq C0.1 C0.2.1 hdg ht (fun z => kt (nz_e ha2 z)) (fun z => kf (nz_n z))
theorem nb_z_ne (C0 : Cx TB Ev a0 p s m c cc nL own) {a : Nat} {off : Int} {tgt : Nat} (hdg : decode cc pc = .ok (.ifCond .ne off, 3)) (ht : (pc : Int) + off = (tgt : Int)) (ha2 : a < 2 ^ 31) (kt : a ≠ 0 → W p l e R s m args below meth c H locs cells slots Q (F0 m tgt ls rest)) (kf : a = 0 → W p l e R s m args below meth c H locs cells slots Q (F0 m (pc + 3) ls rest)) : W p l e R s m args below meth c H locs cells slots Q (F0 m pc ls (.int (nI a) :: rest)) :=
  lv_if_ne C0.1 C0.2.1 hdg ht (fun z => kt (nz_n z)) (fun z => kf (nz_e ha2 z))
theorem nb_z_le (C0 : Cx TB Ev a0 p s m c cc nL own) {a : Nat} {off : Int} {tgt : Nat} (hdg : decode cc pc = .ok (.ifCond .le off, 3)) (ht : (pc : Int) + off = (tgt : Int)) (ha2 : a < 2 ^ 31) (kt : a = 0 → W p l e R s m args below meth c H locs cells slots Q (F0 m tgt ls rest)) (kf : 0 < a → W p l e R s m args below meth c H locs cells slots Q (F0 m (pc + 3) ls rest)) : W p l e R s m args below meth c H locs cells slots Q (F0 m pc ls (.int (nI a) :: rest)) :=
  lv_if_le C0.1 C0.2.1 hdg ht (fun z => kt (nz_le ha2 z)) (fun z => kf (nz_gt ha2 (fun q => z q)))
theorem nb_z_gt (C0 : Cx TB Ev a0 p s m c cc nL own) {a : Nat} {off : Int} {tgt : Nat} (hdg : decode cc pc = .ok (.ifCond .gt off, 3)) (ht : (pc : Int) + off = (tgt : Int)) (ha2 : a < 2 ^ 31) (kt : 0 < a → W p l e R s m args below meth c H locs cells slots Q (F0 m tgt ls rest)) (kf : a = 0 → W p l e R s m args below meth c H locs cells slots Q (F0 m (pc + 3) ls rest)) : W p l e R s m args below meth c H locs cells slots Q (F0 m pc ls (.int (nI a) :: rest)) :=
  lv_if_gt C0.1 C0.2.1 hdg ht (fun z => kt (nz_gt2 ha2 z)) (fun z => kf (nz_le2 ha2 z))
/-! loops: j counts the turns; lv j: the local variables at the loop's head -/
theorem W.lp {P : Nat → Prop} {lv : Nat → List (Nat × Value)} (N : Nat) (hs : ∀ (j : Nat) (ls : Array Slot), j ≤ N → P j → lv_has ls nL (lv j) → (∀ ls' : Array Slot, j < N → P (j + 1) → lv_has ls' nL (lv (j + 1)) → W p l e R s m args below meth c H locs cells slots Q (F0 m pc ls' rest)) → W p l e R s m args below meth c H locs cells slots Q (F0 m pc ls rest))
    (j : Nat) (ls : Array Slot) (hj : j ≤ N) (hP : P j) (hl : lv_has ls nL (lv j)) : W p l e R s m args below meth c H locs cells slots Q (F0 m pc ls rest) := by
  obtain ⟨d, hd⟩ : ∃ d, d + j = N := ⟨N - j, by omega⟩
  induction d generalizing j ls with
  | zero => exact hs j ls hj hP hl (fun ls' h => absurd h (by omega))
  | succ d ih => exact hs j ls hj hP hl (fun ls' h hP' hl' => ih (j + 1) ls' (by omega) hP' hl' (by omega))
theorem W.lpM {P : Nat → hMp → Prop} {lv : Nat → List (Nat × Value)} (N : Nat) (hs : ∀ (j : Nat) (M : hMp) (H : Heap) (locs : List Loc) (ls : Array Slot), j ≤ N → P j M → hv D cl a0 M H → va_S (hA a0) s.heap H locs → lv_has ls nL (lv j) →
      (∀ (M' : hMp) (H' : Heap) (locs' : List Loc) (ls' : Array Slot), j < N → P (j + 1) M' → hv D cl a0 M' H' → va_S (hA a0) s.heap H' locs' → lv_has ls' nL (lv (j + 1)) → W p l e R s m args below meth c H' locs' cells slots Q (F0 m pc ls' rest)) → W p l e R s m args below meth c H locs cells slots Q (F0 m pc ls rest))
    (j : Nat) (M : hMp) (H : Heap) (locs : List Loc) (ls : Array Slot) (hj : j ≤ N) (hP : P j M) (hV : hv D cl a0 M H) (hS : va_S (hA a0) s.heap H locs) (hl : lv_has ls nL (lv j)) : W p l e R s m args below meth c H locs cells slots Q (F0 m pc ls rest) := by
  obtain ⟨d, hd⟩ : ∃ d, d + j = N := ⟨N - j, by omega⟩
  induction d generalizing j M H locs ls with
  | zero => exact hs j M H locs ls hj hP hV hS hl (fun M' H' locs' ls' h => absurd h (by omega))
  | succ d ih => exact hs j M H locs ls hj hP hV hS hl (fun M' H' locs' ls' h hP' hV' hS' hl' => ih (j + 1) M' H' locs' ls' (by omega) hP' hV' hS' hl' (by omega))
/-- a loop that is left from several places of its body, always to pcx -/
theorem W.lpx {P E : Nat → Prop} {lv : Nat → List (Nat × Value)} {pcx : Nat} (N : Nat) (hs : ∀ (j : Nat) (ls : Array Slot), j ≤ N → P j → lv_has ls nL (lv j) → (∀ ls' : Array Slot, j < N → P (j + 1) → lv_has ls' nL (lv (j + 1)) → W p l e R s m args below meth c H locs cells slots Q (F0 m pc ls' rest)) → (∀ ls' : Array Slot, E j → lv_has ls' nL (lv j) → W p l e R s m args below meth c H locs cells slots Q (F0 m pcx ls' rest)) → W p l e R s m args below meth c H locs cells slots Q (F0 m pc ls rest))
    (j : Nat) (ls : Array Slot) (hj : j ≤ N) (hP : P j) (hl : lv_has ls nL (lv j)) (tail : ∀ (j : Nat) (ls : Array Slot), j ≤ N → E j → lv_has ls nL (lv j) → W p l e R s m args below meth c H locs cells slots Q (F0 m pcx ls rest)) : W p l e R s m args below meth c H locs cells slots Q (F0 m pc ls rest) :=
  W.lp N (fun j ls hj hP hl ih => hs j ls hj hP hl ih (fun ls' hE hl' => tail j ls' hj hE hl')) j ls hj hP hl
end HP
end
section
/-! The mathematics that class and reference are both tied to. A table: how many rows, and the rows (a row: column to number). -/
abbrev Tab : Type := Nat × (Nat → Nat → Int32)
def tb0 : Tab := (0, fun _ _ => 0)
def tap (A : Tab) (r : Nat → Int32) : Tab := (A.1 + 1, va_up A.2 A.1 r)
/-- the class's flat rows of width w; the reference's rows, six places each, from b on -/
def HC (f : Nat → Int32) (w : Nat) (A : Tab) : Prop := ∀ i, i < A.1 → ∀ c, c < w → f (i * w + c) = A.2 i c
def HR (f : Nat → Int32) (b w : Nat) (A : Tab) : Prop := ∀ i, i < A.1 → ∀ c, c < w → f (b + 6 * i + c) = A.2 i c
theorem idx_lt {i n w c : Nat} (hi : i < n) (hc : c < w) : i * w + c < n * w := by
  have h : (i + 1) * w ≤ n * w := Nat.mul_le_mul_right w hi
  rw [Nat.succ_mul] at h
  omega
theorem idx_le {i n w c N : Nat} (hi : i < n) (hc : c < w) (h : n * w ≤ N) : i * w + c < N := Nat.lt_of_lt_of_le (idx_lt hi hc) h
theorem idx_sep {i n w c d : Nat} (hi : i < n) (hc : c < w) : i * w + c ≠ n * w + d := by
  have := idx_lt hi hc
  omega
theorem HC.zero {f : Nat → Int32} {w : Nat} {T : Nat → Nat → Int32} : HC f w (0, T) := fun i hi => absurd hi (Nat.not_lt_zero i)
theorem HR.zero {f : Nat → Int32} {b w : Nat} {T : Nat → Nat → Int32} : HR f b w (0, T) := fun i hi => absurd hi (Nat.not_lt_zero i)
/-- a row is laid behind the others -/
theorem HC.app {f f' : Nat → Int32} {w : Nat} {A : Tab} {r : Nat → Int32} (h : HC f w A) (hk : ∀ j, j < A.1 * w → f' j = f j) (hr : ∀ c, c < w → f' (A.1 * w + c) = r c) : HC f' w (tap A r) := by
  intro i hi c hc
  have hi' : i < A.1 + 1 := hi
  by_cases he : i = A.1
  · subst he
    show f' (A.1 * w + c) = va_up A.2 A.1 r A.1 c
    rw [va_up_self]
    exact hr c hc
  · have hlt : i < A.1 := by omega
    show f' (i * w + c) = va_up A.2 A.1 r i c
    rw [va_up_ne _ _ he, hk _ (idx_lt hlt hc)]
    exact h i hlt c hc
theorem HR.app {f f' : Nat → Int32} {b w : Nat} {A : Tab} {r : Nat → Int32} (h : HR f b w A) (hw : w ≤ 6) (hk : ∀ j, j < b + 6 * A.1 → f' j = f j) (hr : ∀ c, c < w → f' (b + 6 * A.1 + c) = r c) : HR f' b w (tap A r) := by
  intro i hi c hc
  have hi' : i < A.1 + 1 := hi
  by_cases he : i = A.1
  · subst he
    show f' (b + 6 * A.1 + c) = va_up A.2 A.1 r A.1 c
    rw [va_up_self]
    exact hr c hc
  · have hlt : i < A.1 := by omega
    show f' (b + 6 * i + c) = va_up A.2 A.1 r i c
    rw [va_up_ne _ _ he, hk _ (by omega)]
    exact h i hlt c hc
/-- a filter's test -/
def tst (t : Nat) (v x : Int32) : Bool := if t = 0 then decide (v < x) else if t = 1 then decide (v = x) else decide (x < v)
def fltT (co t : Nat) (x : Int32) (A : Tab) : Nat → Tab
  | 0 => tb0
  | i + 1 => if tst t (A.2 i co) x = true then tap (fltT co t x A i) (A.2 i) else fltT co t x A i
theorem fltT_le (co t : Nat) (x : Int32) (A : Tab) : ∀ i, (fltT co t x A i).1 ≤ i
  | 0 => Nat.le_refl _
  | i + 1 => by
    have ih := fltT_le co t x A i
    unfold fltT
    split
    · show (fltT co t x A i).1 + 1 ≤ i + 1
      omega
    · omega
/-- a map's number -/
def opv (o : Nat) (a b : Int32) : Int64 := if o = 0 then a.toInt64 + b.toInt64 else if o = 1 then a.toInt64 - b.toInt64 else a.toInt64 * b.toInt64
def okI (v : Int64) : Bool := decide (v = v.toInt32.toInt64)
def mapT (co o se : Nat) (A : Tab) : Nat → Option Tab
  | 0 => some tb0
  | i + 1 => match mapT co o se A i with
    | none => none
    | some B => if okI (opv o (A.2 i co) (A.2 i se)) = true then some (tap B (upd (A.2 i) co (opv o (A.2 i co) (A.2 i se)).toInt32)) else none
theorem mapT_len (co o se : Nat) (A : Tab) : ∀ i B, mapT co o se A i = some B → B.1 = i
  | 0, B, h => by cases h; rfl
  | i + 1, B, h => by
    unfold mapT at h
    cases hm : mapT co o se A i with
    | none => rw [hm] at h; cases h
    | some C =>
      rw [hm] at h
      have ih := mapT_len co o se A i C hm
      by_cases hk : okI (opv o (A.2 i co) (A.2 i se)) = true
      · simp only [hk, if_true] at h
        cases h
        show C.1 + 1 = i + 1
        rw [ih]
      · simp only [hk] at h
        cases h
/-- a join's pairs -/
def pairR (wl : Nat) (l r : Nat → Int32) : Nat → Int32 := fun c => if c < wl then l c else r (c - wl)
def joinR (l : Nat → Int32) (lc rc wl : Nat) (B : Tab) (S : Option Tab) : Nat → Option Tab
  | 0 => S
  | j + 1 => match joinR l lc rc wl B S j with
    | none => none
    | some C => if B.2 j rc = l lc then (if 128 ≤ C.1 then none else some (tap C (pairR wl l (B.2 j)))) else some C
def joinT (lc rc wl : Nat) (A B : Tab) : Nat → Option Tab
  | 0 => some tb0
  | i + 1 => joinR (A.2 i) lc rc wl B (joinT lc rc wl A B i) B.1
theorem joinR_none (l : Nat → Int32) (lc rc wl : Nat) (B : Tab) : ∀ j, joinR l lc rc wl B none j = none
  | 0 => rfl
  | j + 1 => by unfold joinR; rw [joinR_none l lc rc wl B j]
theorem joinR_le (l : Nat → Int32) (lc rc wl : Nat) (B : Tab) (S : Option Tab) (hS : ∀ C, S = some C → C.1 ≤ 128) : ∀ j C, joinR l lc rc wl B S j = some C → C.1 ≤ 128
  | 0, C, h => hS C h
  | j + 1, C, h => by
    unfold joinR at h
    cases hm : joinR l lc rc wl B S j with
    | none => rw [hm] at h; cases h
    | some E =>
      rw [hm] at h
      have ih := joinR_le l lc rc wl B S hS j E hm
      by_cases h1 : B.2 j rc = l lc
      · simp only [h1, if_true] at h
        by_cases h2 : 128 ≤ E.1
        · simp only [h2, if_true] at h
          cases h
        · simp only [h2, if_false] at h
          cases h
          show E.1 + 1 ≤ 128
          omega
      · simp only [h1, if_false] at h
        cases h
        exact ih
/-- a group's rows: was the key x among the first q rows; how many rows have it, and their sum -/
def seen (A : Tab) (k : Nat) (x : Int32) : Nat → Bool
  | 0 => false
  | q + 1 => seen A k x q || decide (A.2 q k = x)
def cntS (A : Tab) (k v : Nat) (x : Int32) : Nat → Int32 × Int64
  | 0 => (0, 0)
  | q + 1 => if A.2 q k = x then ((cntS A k v x q).1 + 1, (cntS A k v x q).2 + (A.2 q v).toInt64) else cntS A k v x q
theorem cntS_zero (A : Tab) (k v : Nat) (x : Int32) : ∀ q, seen A k x q = false → cntS A k v x q = (0, 0)
  | 0, _ => rfl
  | q + 1, h => by
    unfold seen at h
    rw [Bool.or_eq_false_iff] at h
    unfold cntS
    rw [if_neg (of_decide_eq_false h.2)]
    exact cntS_zero A k v x q h.1
def row3 (a b c : Int32) : Nat → Int32 := fun j => if j = 0 then a else if j = 1 then b else c
def grpT (k v : Nat) (A : Tab) : Nat → Option Tab
  | 0 => some tb0
  | r + 1 => match grpT k v A r with
    | none => none
    | some B => if seen A k (A.2 r k) r = true then some B else
      if okI (cntS A k v (A.2 r k) A.1).2 = true then some (tap B (row3 (A.2 r k) (cntS A k v (A.2 r k) A.1).1 (cntS A k v (A.2 r k) A.1).2.toInt32)) else none
theorem grpT_le (k v : Nat) (A : Tab) : ∀ r B, grpT k v A r = some B → B.1 ≤ r
  | 0, B, h => by cases h; exact Nat.le_refl _
  | r + 1, B, h => by
    unfold grpT at h
    cases hm : grpT k v A r with
    | none => rw [hm] at h; cases h
    | some C =>
      rw [hm] at h
      have ih := grpT_le k v A r C hm
      by_cases h1 : seen A k (A.2 r k) r = true
      · simp only [h1, if_true] at h
        cases h
        omega
      · simp only [h1] at h
        by_cases h2 : okI (cntS A k v (A.2 r k) A.1).2 = true
        · simp only [h2, if_true] at h
          cases h
          show C.1 + 1 ≤ r + 1
          omega
        · simp only [h2] at h
          cases h
/-- the first column of a group's rows holds the keys that were seen -/
def hasC (B : Tab) (c : Nat) (x : Int32) : Nat → Bool
  | 0 => false
  | i + 1 => hasC B c x i || decide (B.2 i c = x)
theorem hasC_tap (B : Tab) (c : Nat) (x : Int32) (r : Nat → Int32) : ∀ i, i ≤ B.1 → hasC (tap B r) c x i = hasC B c x i
  | 0, _ => rfl
  | i + 1, h => by
    unfold hasC
    rw [hasC_tap B c x r i (by omega)]
    show (hasC B c x i || decide (va_up B.2 B.1 r i c = x)) = _
    rw [va_up_ne _ _ (by omega)]
theorem grpT_has (k v : Nat) (A : Tab) (x : Int32) : ∀ r B, grpT k v A r = some B → hasC B 0 x B.1 = seen A k x r
  | 0, B, h => by cases h; rfl
  | r + 1, B, h => by
    unfold grpT at h
    cases hm : grpT k v A r with
    | none => rw [hm] at h; cases h
    | some C =>
      rw [hm] at h
      have ih := fun y => grpT_has k v A y r C hm
      by_cases h1 : seen A k (A.2 r k) r = true
      · simp only [h1, if_true] at h
        cases h
        unfold seen
        rw [ih x]
        by_cases hx : A.2 r k = x
        · subst hx
          rw [h1]; rfl
        · simp [hx]
      · simp only [h1] at h
        by_cases h2 : okI (cntS A k v (A.2 r k) A.1).2 = true
        · simp only [h2, if_true] at h
          cases h
          unfold seen
          show (hasC (tap C _) 0 x C.1 || decide ((tap C _).2 C.1 0 = x)) = _
          rw [hasC_tap _ _ _ _ _ (Nat.le_refl _), ih x]
          show (_ || decide (va_up C.2 C.1 _ C.1 0 = x)) = _
          rw [va_up_self]
          rfl
        · simp only [h2] at h
          cases h
/-- the order of rows: the first column that differs decides -/
def lessR (w : Nat) (a b : Nat → Int32) : Nat → Bool
  | 0 => false
  | n + 1 => if a (w - (n + 1)) = b (w - (n + 1)) then lessR w a b n else decide (a (w - (n + 1)) < b (w - (n + 1)))
def placeR (w : Nat) (T : Nat → Nat → Int32) (a : Nat → Int32) : Nat → Nat
  | 0 => 0
  | n + 1 => if lessR w a (T n) w = true then placeR w T a n else n + 1
theorem placeR_le (w : Nat) (T : Nat → Nat → Int32) (a : Nat → Int32) : ∀ n, placeR w T a n ≤ n
  | 0 => Nat.le_refl _
  | n + 1 => by
    have ih := placeR_le w T a n
    unfold placeR
    split <;> omega
def insT (w : Nat) (A : Tab) (a : Nat → Int32) : Tab := (A.1 + 1, fun i => if i < placeR w A.2 a A.1 then A.2 i else if i = placeR w A.2 a A.1 then a else A.2 (i - 1))
def sortT (w : Nat) (A : Tab) : Nat → Tab
  | 0 => tb0
  | i + 1 => insT w (sortT w A i) (A.2 i)
theorem sortT_len (w : Nat) (A : Tab) : ∀ i, (sortT w A i).1 = i
  | 0 => rfl
  | i + 1 => by
    show (sortT w A i).1 + 1 = i + 1
    rw [sortT_len w A i]
end
section
def T_R : u_T := fun k => match k with
  | 0 => ("BatchPlans$Rows", "cells", "[I", true)
  | 1 => ("BatchPlans$Rows", "columns", "I", false)
  | _ => ("BatchPlans$Rows", "count", "I", false)
def ty_R : Nat → FieldType := fun k => match k with
  | 0 => .array .int
  | 1 => .int
  | _ => .int
def T_Pa : u_T := fun k => match k with
  | _ => ("BatchPlans$Parts", "before", "[I", true)
def ty_Pa : Nat → FieldType := fun k => match k with
  | _ => .array .int
def T_C : u_T := fun k => match k with
  | 0 => ("BatchPlans$Cost", "batch", "I", true)
  | 1 => ("BatchPlans$Cost", "memory", "I", true)
  | 2 => ("BatchPlans$Cost", "streamed", "LBatchPlans$Parts;", true)
  | 3 => ("BatchPlans$Cost", "kept", "LBatchPlans$Parts;", true)
  | 4 => ("BatchPlans$Cost", "batches", "I", false)
  | 5 => ("BatchPlans$Cost", "written", "I", false)
  | _ => ("BatchPlans$Cost", "held", "I", false)
def ty_C : Nat → FieldType := fun k => match k with
  | 0 => .int
  | 1 => .int
  | 2 => .object "BatchPlans$Parts"
  | 3 => .object "BatchPlans$Parts"
  | 4 => .int
  | 5 => .int
  | _ => .int
def T_NS : u_T := fun k => match k with
  | 0 => ("BatchPlans$Node", "columns", "I", true)
  | 1 => ("BatchPlans$Node", "output", "LBatchPlans$Rows;", true)
  | _ => ("BatchPlans$Node", "madeOf", "I", true)
def ty_NS : Nat → FieldType := fun k => match k with
  | 0 => .int
  | 1 => .object "BatchPlans$Rows"
  | _ => .int
def T_NF : u_T := fun k => match k with
  | 0 => ("BatchPlans$Node", "columns", "I", true)
  | 1 => ("BatchPlans$Node", "output", "LBatchPlans$Rows;", true)
  | 2 => ("BatchPlans$Node", "madeOf", "I", true)
  | 3 => ("BatchPlans$FilterNode", "input", "LBatchPlans$Rows;", true)
  | 4 => ("BatchPlans$FilterNode", "column", "I", true)
  | 5 => ("BatchPlans$FilterNode", "test", "I", true)
  | _ => ("BatchPlans$FilterNode", "number", "I", true)
def ty_NF : Nat → FieldType := fun k => match k with
  | 0 => .int
  | 1 => .object "BatchPlans$Rows"
  | 2 => .int
  | 3 => .object "BatchPlans$Rows"
  | 4 => .int
  | 5 => .int
  | _ => .int
def T_NM : u_T := fun k => match k with
  | 0 => ("BatchPlans$Node", "columns", "I", true)
  | 1 => ("BatchPlans$Node", "output", "LBatchPlans$Rows;", true)
  | 2 => ("BatchPlans$Node", "madeOf", "I", true)
  | 3 => ("BatchPlans$MapNode", "input", "LBatchPlans$Rows;", true)
  | 4 => ("BatchPlans$MapNode", "column", "I", true)
  | 5 => ("BatchPlans$MapNode", "operation", "I", true)
  | _ => ("BatchPlans$MapNode", "other", "I", true)
def ty_NM : Nat → FieldType := fun k => match k with
  | 0 => .int
  | 1 => .object "BatchPlans$Rows"
  | 2 => .int
  | 3 => .object "BatchPlans$Rows"
  | 4 => .int
  | 5 => .int
  | _ => .int
def T_NJ : u_T := fun k => match k with
  | 0 => ("BatchPlans$Node", "columns", "I", true)
  | 1 => ("BatchPlans$Node", "output", "LBatchPlans$Rows;", true)
  | 2 => ("BatchPlans$Node", "madeOf", "I", true)
  | 3 => ("BatchPlans$JoinNode", "left", "LBatchPlans$Rows;", true)
  | 4 => ("BatchPlans$JoinNode", "right", "LBatchPlans$Rows;", true)
  | 5 => ("BatchPlans$JoinNode", "leftColumn", "I", true)
  | _ => ("BatchPlans$JoinNode", "rightColumn", "I", true)
def ty_NJ : Nat → FieldType := fun k => match k with
  | 0 => .int
  | 1 => .object "BatchPlans$Rows"
  | 2 => .int
  | 3 => .object "BatchPlans$Rows"
  | 4 => .object "BatchPlans$Rows"
  | 5 => .int
  | _ => .int
def T_NG : u_T := fun k => match k with
  | 0 => ("BatchPlans$Node", "columns", "I", true)
  | 1 => ("BatchPlans$Node", "output", "LBatchPlans$Rows;", true)
  | 2 => ("BatchPlans$Node", "madeOf", "I", true)
  | 3 => ("BatchPlans$GroupNode", "input", "LBatchPlans$Rows;", true)
  | 4 => ("BatchPlans$GroupNode", "key", "I", true)
  | _ => ("BatchPlans$GroupNode", "value", "I", true)
def ty_NG : Nat → FieldType := fun k => match k with
  | 0 => .int
  | 1 => .object "BatchPlans$Rows"
  | 2 => .int
  | 3 => .object "BatchPlans$Rows"
  | 4 => .int
  | _ => .int
def T_P : u_T := fun k => match k with
  | 0 => ("BatchPlans", "tables", "[LBatchPlans$Rows;", true)
  | 1 => ("BatchPlans", "outputs", "[LBatchPlans$Rows;", true)
  | 2 => ("BatchPlans", "plan", "Ljava/util/ArrayList;", true)
  | 3 => ("BatchPlans", "cost", "LBatchPlans$Cost;", true)
  | 4 => ("BatchPlans", "result", "LBatchPlans$Rows;", true)
  | 5 => ("BatchPlans", "batches", "I", false)
  | 6 => ("BatchPlans", "written", "I", false)
  | _ => ("BatchPlans", "held", "I", false)
def ty_P : Nat → FieldType := fun k => match k with
  | 0 => .array (.object "BatchPlans$Rows")
  | 1 => .array (.object "BatchPlans$Rows")
  | 2 => .object "java/util/ArrayList"
  | 3 => .object "BatchPlans$Cost"
  | 4 => .object "BatchPlans$Rows"
  | 5 => .int
  | 6 => .int
  | _ => .int
def T_JArrayList : u_T := fun k => match k with
  | 0 => ("java/util/AbstractList", "modCount", "I", false)
  | 1 => ("java/util/ArrayList", "elementData", "[Ljava/lang/Object;", false)
  | _ => ("java/util/ArrayList", "size", "I", false)
def ty_JArrayList : Nat → FieldType := fun k => match k with
  | 0 => .int
  | 1 => .array (.object "java/lang/Object")
  | _ => .int
def T_M : u_T := fun k => match k with
  | 0 => ("BatchPlansModel", "thrown", "I", false)
  | 1 => ("BatchPlansModel", "batch", "I", true)
  | 2 => ("BatchPlansModel", "memory", "I", true)
  | 3 => ("BatchPlansModel", "tables", "[I", true)
  | 4 => ("BatchPlansModel", "tableRows", "[I", true)
  | 5 => ("BatchPlansModel", "count", "I", false)
  | 6 => ("BatchPlansModel", "kind", "[I", true)
  | 7 => ("BatchPlansModel", "from", "[I", true)
  | 8 => ("BatchPlansModel", "other", "[I", true)
  | 9 => ("BatchPlansModel", "column", "[I", true)
  | 10 => ("BatchPlansModel", "second", "[I", true)
  | 11 => ("BatchPlansModel", "way", "[I", true)
  | 12 => ("BatchPlansModel", "number", "[I", true)
  | 13 => ("BatchPlansModel", "wide", "[I", true)
  | 14 => ("BatchPlansModel", "needed", "[Z", true)
  | 15 => ("BatchPlansModel", "out", "[I", true)
  | 16 => ("BatchPlansModel", "outRows", "[I", true)
  | 17 => ("BatchPlansModel", "reached", "[Z", true)
  | 18 => ("BatchPlansModel", "readNow", "I", false)
  | 19 => ("BatchPlansModel", "writtenNow", "I", false)
  | 20 => ("BatchPlansModel", "heldNow", "I", false)
  | 21 => ("BatchPlansModel", "result", "[I", true)
  | 22 => ("BatchPlansModel", "resultRows", "I", false)
  | 23 => ("BatchPlansModel", "resultWide", "I", false)
  | 24 => ("BatchPlansModel", "readThen", "I", false)
  | 25 => ("BatchPlansModel", "writtenThen", "I", false)
  | _ => ("BatchPlansModel", "heldThen", "I", false)
def ty_M : Nat → FieldType := fun k => match k with
  | 0 => .int
  | 1 => .int
  | 2 => .int
  | 3 => .array .int
  | 4 => .array .int
  | 5 => .int
  | 6 => .array .int
  | 7 => .array .int
  | 8 => .array .int
  | 9 => .array .int
  | 10 => .array .int
  | 11 => .array .int
  | 12 => .array .int
  | 13 => .array .int
  | 14 => .array .boolean
  | 15 => .array .int
  | 16 => .array .int
  | 17 => .array .boolean
  | 18 => .int
  | 19 => .int
  | 20 => .int
  | 21 => .array .int
  | 22 => .int
  | 23 => .int
  | 24 => .int
  | 25 => .int
  | _ => .int
def T_X : u_T := fun _ => ("", "", "", false)
abbrev vwCl : List vw_C := [("BatchPlans$Rows", T_R, 3), ("BatchPlans$Parts", T_Pa, 1), ("BatchPlans$Cost", T_C, 7), ("BatchPlans$ScanNode", T_NS, 3), ("BatchPlans$FilterNode", T_NF, 7), ("BatchPlans$MapNode", T_NM, 7), ("BatchPlans$JoinNode", T_NJ, 7), ("BatchPlans$GroupNode", T_NG, 6), ("BatchPlans", T_P, 8), ("java/util/ArrayList", T_JArrayList, 3), ("BatchPlansModel", T_M, 27), ("java/lang/IllegalArgumentException", T_X, 0), ("java/lang/IllegalStateException", T_X, 0), ("java/lang/ArithmeticException", T_X, 0), ("java/lang/IndexOutOfBoundsException", T_X, 0)]
theorem kw_55 : (Jvm.Cond.laysFinal "BatchPlans$Rows" "BatchPlans$Rows" "cells" "[I") ∈ TB := tb_mem (tb_s1 _ (List.mem_of_getElem? (i := 55) (by decide +kernel))) (by decide +kernel)
theorem kw_57 : (Jvm.Cond.lays "BatchPlans$Rows" "BatchPlans$Rows" "columns" "I") ∈ TB := tb_mem (tb_s1 _ (List.mem_of_getElem? (i := 57) (by decide +kernel))) (by decide +kernel)
theorem kw_59 : (Jvm.Cond.lays "BatchPlans$Rows" "BatchPlans$Rows" "count" "I") ∈ TB := tb_mem (tb_s1 _ (List.mem_of_getElem? (i := 59) (by decide +kernel))) (by decide +kernel)
set_option maxRecDepth 100000 in
theorem in_R : ∀ w ∈ u_ws "BatchPlans$Rows" T_R 3, w ∈ TB := List.forall_mem_cons.mpr ⟨kw_55, List.forall_mem_cons.mpr ⟨kw_57, List.forall_mem_cons.mpr ⟨kw_59, fun _ h => absurd h List.not_mem_nil⟩⟩⟩
set_option maxRecDepth 100000 in
theorem cl_R : Cl TB vwCl 0 "BatchPlans$Rows" T_R 3 ty_R := ⟨rfl, in_R, by decide +kernel, by decide +kernel⟩
theorem kw_115 : (Jvm.Cond.laysFinal "BatchPlans$Parts" "BatchPlans$Parts" "before" "[I") ∈ TB := tb_mem (tb_s1 _ (List.mem_of_getElem? (i := 115) (by decide +kernel))) (by decide +kernel)
set_option maxRecDepth 100000 in
theorem in_Pa : ∀ w ∈ u_ws "BatchPlans$Parts" T_Pa 1, w ∈ TB := List.forall_mem_cons.mpr ⟨kw_115, fun _ h => absurd h List.not_mem_nil⟩
set_option maxRecDepth 100000 in
theorem cl_Pa : Cl TB vwCl 1 "BatchPlans$Parts" T_Pa 1 ty_Pa := ⟨rfl, in_Pa, by decide +kernel, by decide +kernel⟩
theorem kw_128 : (Jvm.Cond.laysFinal "BatchPlans$Cost" "BatchPlans$Cost" "batch" "I") ∈ TB := tb_mem (tb_s1 _ (List.mem_of_getElem? (i := 128) (by decide +kernel))) (by decide +kernel)
theorem kw_130 : (Jvm.Cond.laysFinal "BatchPlans$Cost" "BatchPlans$Cost" "memory" "I") ∈ TB := tb_mem (tb_s1 _ (List.mem_of_getElem? (i := 130) (by decide +kernel))) (by decide +kernel)
theorem kw_132 : (Jvm.Cond.laysFinal "BatchPlans$Cost" "BatchPlans$Cost" "streamed" "LBatchPlans$Parts;") ∈ TB := tb_mem (tb_s1 _ (List.mem_of_getElem? (i := 132) (by decide +kernel))) (by decide +kernel)
theorem kw_134 : (Jvm.Cond.laysFinal "BatchPlans$Cost" "BatchPlans$Cost" "kept" "LBatchPlans$Parts;") ∈ TB := tb_mem (tb_s1 _ (List.mem_of_getElem? (i := 134) (by decide +kernel))) (by decide +kernel)
theorem kw_136 : (Jvm.Cond.lays "BatchPlans$Cost" "BatchPlans$Cost" "batches" "I") ∈ TB := tb_mem (tb_s1 _ (List.mem_of_getElem? (i := 136) (by decide +kernel))) (by decide +kernel)
theorem kw_138 : (Jvm.Cond.lays "BatchPlans$Cost" "BatchPlans$Cost" "written" "I") ∈ TB := tb_mem (tb_s1 _ (List.mem_of_getElem? (i := 138) (by decide +kernel))) (by decide +kernel)
theorem kw_140 : (Jvm.Cond.lays "BatchPlans$Cost" "BatchPlans$Cost" "held" "I") ∈ TB := tb_mem (tb_s1 _ (List.mem_of_getElem? (i := 140) (by decide +kernel))) (by decide +kernel)
set_option maxRecDepth 100000 in
theorem in_C : ∀ w ∈ u_ws "BatchPlans$Cost" T_C 7, w ∈ TB := List.forall_mem_cons.mpr ⟨kw_128, List.forall_mem_cons.mpr ⟨kw_130, List.forall_mem_cons.mpr ⟨kw_132, List.forall_mem_cons.mpr ⟨kw_134, List.forall_mem_cons.mpr ⟨kw_136, List.forall_mem_cons.mpr ⟨kw_138, List.forall_mem_cons.mpr ⟨kw_140, fun _ h => absurd h List.not_mem_nil⟩⟩⟩⟩⟩⟩⟩
set_option maxRecDepth 100000 in
theorem cl_C : Cl TB vwCl 2 "BatchPlans$Cost" T_C 7 ty_C := ⟨rfl, in_C, by decide +kernel, by decide +kernel⟩
theorem kw_363 : (Jvm.Cond.laysFinal "BatchPlans$ScanNode" "BatchPlans$Node" "columns" "I") ∈ TB := tb_mem (tb_s2 _ (List.mem_of_getElem? (i := 123) (by decide +kernel))) (by decide +kernel)
theorem kw_365 : (Jvm.Cond.laysFinal "BatchPlans$ScanNode" "BatchPlans$Node" "output" "LBatchPlans$Rows;") ∈ TB := tb_mem (tb_s2 _ (List.mem_of_getElem? (i := 125) (by decide +kernel))) (by decide +kernel)
theorem kw_367 : (Jvm.Cond.laysFinal "BatchPlans$ScanNode" "BatchPlans$Node" "madeOf" "I") ∈ TB := tb_mem (tb_s2 _ (List.mem_of_getElem? (i := 127) (by decide +kernel))) (by decide +kernel)
set_option maxRecDepth 100000 in
theorem in_NS : ∀ w ∈ u_ws "BatchPlans$ScanNode" T_NS 3, w ∈ TB := List.forall_mem_cons.mpr ⟨kw_363, List.forall_mem_cons.mpr ⟨kw_365, List.forall_mem_cons.mpr ⟨kw_367, fun _ h => absurd h List.not_mem_nil⟩⟩⟩
set_option maxRecDepth 100000 in
theorem cl_NS : Cl TB vwCl 3 "BatchPlans$ScanNode" T_NS 3 ty_NS := ⟨rfl, in_NS, by decide +kernel, by decide +kernel⟩
theorem kw_481 : (Jvm.Cond.laysFinal "BatchPlans$FilterNode" "BatchPlans$Node" "columns" "I") ∈ TB := tb_mem (tb_s3 _ (List.mem_of_getElem? (i := 1) (by decide +kernel))) (by decide +kernel)
theorem kw_482 : (Jvm.Cond.laysFinal "BatchPlans$FilterNode" "BatchPlans$Node" "output" "LBatchPlans$Rows;") ∈ TB := tb_mem (tb_s3 _ (List.mem_of_getElem? (i := 2) (by decide +kernel))) (by decide +kernel)
theorem kw_483 : (Jvm.Cond.laysFinal "BatchPlans$FilterNode" "BatchPlans$Node" "madeOf" "I") ∈ TB := tb_mem (tb_s3 _ (List.mem_of_getElem? (i := 3) (by decide +kernel))) (by decide +kernel)
theorem kw_473 : (Jvm.Cond.laysFinal "BatchPlans$FilterNode" "BatchPlans$FilterNode" "input" "LBatchPlans$Rows;") ∈ TB := tb_mem (tb_s2 _ (List.mem_of_getElem? (i := 233) (by decide +kernel))) (by decide +kernel)
theorem kw_475 : (Jvm.Cond.laysFinal "BatchPlans$FilterNode" "BatchPlans$FilterNode" "column" "I") ∈ TB := tb_mem (tb_s2 _ (List.mem_of_getElem? (i := 235) (by decide +kernel))) (by decide +kernel)
theorem kw_477 : (Jvm.Cond.laysFinal "BatchPlans$FilterNode" "BatchPlans$FilterNode" "test" "I") ∈ TB := tb_mem (tb_s2 _ (List.mem_of_getElem? (i := 237) (by decide +kernel))) (by decide +kernel)
theorem kw_479 : (Jvm.Cond.laysFinal "BatchPlans$FilterNode" "BatchPlans$FilterNode" "number" "I") ∈ TB := tb_mem (tb_s2 _ (List.mem_of_getElem? (i := 239) (by decide +kernel))) (by decide +kernel)
set_option maxRecDepth 100000 in
theorem in_NF : ∀ w ∈ u_ws "BatchPlans$FilterNode" T_NF 7, w ∈ TB := List.forall_mem_cons.mpr ⟨kw_481, List.forall_mem_cons.mpr ⟨kw_482, List.forall_mem_cons.mpr ⟨kw_483, List.forall_mem_cons.mpr ⟨kw_473, List.forall_mem_cons.mpr ⟨kw_475, List.forall_mem_cons.mpr ⟨kw_477, List.forall_mem_cons.mpr ⟨kw_479, fun _ h => absurd h List.not_mem_nil⟩⟩⟩⟩⟩⟩⟩
set_option maxRecDepth 100000 in
theorem cl_NF : Cl TB vwCl 4 "BatchPlans$FilterNode" T_NF 7 ty_NF := ⟨rfl, in_NF, by decide +kernel, by decide +kernel⟩
theorem kw_510 : (Jvm.Cond.laysFinal "BatchPlans$MapNode" "BatchPlans$Node" "columns" "I") ∈ TB := tb_mem (tb_s3 _ (List.mem_of_getElem? (i := 30) (by decide +kernel))) (by decide +kernel)
theorem kw_511 : (Jvm.Cond.laysFinal "BatchPlans$MapNode" "BatchPlans$Node" "output" "LBatchPlans$Rows;") ∈ TB := tb_mem (tb_s3 _ (List.mem_of_getElem? (i := 31) (by decide +kernel))) (by decide +kernel)
theorem kw_512 : (Jvm.Cond.laysFinal "BatchPlans$MapNode" "BatchPlans$Node" "madeOf" "I") ∈ TB := tb_mem (tb_s3 _ (List.mem_of_getElem? (i := 32) (by decide +kernel))) (by decide +kernel)
theorem kw_502 : (Jvm.Cond.laysFinal "BatchPlans$MapNode" "BatchPlans$MapNode" "input" "LBatchPlans$Rows;") ∈ TB := tb_mem (tb_s3 _ (List.mem_of_getElem? (i := 22) (by decide +kernel))) (by decide +kernel)
theorem kw_504 : (Jvm.Cond.laysFinal "BatchPlans$MapNode" "BatchPlans$MapNode" "column" "I") ∈ TB := tb_mem (tb_s3 _ (List.mem_of_getElem? (i := 24) (by decide +kernel))) (by decide +kernel)
theorem kw_506 : (Jvm.Cond.laysFinal "BatchPlans$MapNode" "BatchPlans$MapNode" "operation" "I") ∈ TB := tb_mem (tb_s3 _ (List.mem_of_getElem? (i := 26) (by decide +kernel))) (by decide +kernel)
theorem kw_508 : (Jvm.Cond.laysFinal "BatchPlans$MapNode" "BatchPlans$MapNode" "other" "I") ∈ TB := tb_mem (tb_s3 _ (List.mem_of_getElem? (i := 28) (by decide +kernel))) (by decide +kernel)
set_option maxRecDepth 100000 in
theorem in_NM : ∀ w ∈ u_ws "BatchPlans$MapNode" T_NM 7, w ∈ TB := List.forall_mem_cons.mpr ⟨kw_510, List.forall_mem_cons.mpr ⟨kw_511, List.forall_mem_cons.mpr ⟨kw_512, List.forall_mem_cons.mpr ⟨kw_502, List.forall_mem_cons.mpr ⟨kw_504, List.forall_mem_cons.mpr ⟨kw_506, List.forall_mem_cons.mpr ⟨kw_508, fun _ h => absurd h List.not_mem_nil⟩⟩⟩⟩⟩⟩⟩
set_option maxRecDepth 100000 in
theorem cl_NM : Cl TB vwCl 5 "BatchPlans$MapNode" T_NM 7 ty_NM := ⟨rfl, in_NM, by decide +kernel, by decide +kernel⟩
theorem kw_540 : (Jvm.Cond.laysFinal "BatchPlans$JoinNode" "BatchPlans$Node" "columns" "I") ∈ TB := tb_mem (tb_s3 _ (List.mem_of_getElem? (i := 60) (by decide +kernel))) (by decide +kernel)
theorem kw_541 : (Jvm.Cond.laysFinal "BatchPlans$JoinNode" "BatchPlans$Node" "output" "LBatchPlans$Rows;") ∈ TB := tb_mem (tb_s3 _ (List.mem_of_getElem? (i := 61) (by decide +kernel))) (by decide +kernel)
theorem kw_542 : (Jvm.Cond.laysFinal "BatchPlans$JoinNode" "BatchPlans$Node" "madeOf" "I") ∈ TB := tb_mem (tb_s3 _ (List.mem_of_getElem? (i := 62) (by decide +kernel))) (by decide +kernel)
theorem kw_532 : (Jvm.Cond.laysFinal "BatchPlans$JoinNode" "BatchPlans$JoinNode" "left" "LBatchPlans$Rows;") ∈ TB := tb_mem (tb_s3 _ (List.mem_of_getElem? (i := 52) (by decide +kernel))) (by decide +kernel)
theorem kw_534 : (Jvm.Cond.laysFinal "BatchPlans$JoinNode" "BatchPlans$JoinNode" "right" "LBatchPlans$Rows;") ∈ TB := tb_mem (tb_s3 _ (List.mem_of_getElem? (i := 54) (by decide +kernel))) (by decide +kernel)
theorem kw_536 : (Jvm.Cond.laysFinal "BatchPlans$JoinNode" "BatchPlans$JoinNode" "leftColumn" "I") ∈ TB := tb_mem (tb_s3 _ (List.mem_of_getElem? (i := 56) (by decide +kernel))) (by decide +kernel)
theorem kw_538 : (Jvm.Cond.laysFinal "BatchPlans$JoinNode" "BatchPlans$JoinNode" "rightColumn" "I") ∈ TB := tb_mem (tb_s3 _ (List.mem_of_getElem? (i := 58) (by decide +kernel))) (by decide +kernel)
set_option maxRecDepth 100000 in
theorem in_NJ : ∀ w ∈ u_ws "BatchPlans$JoinNode" T_NJ 7, w ∈ TB := List.forall_mem_cons.mpr ⟨kw_540, List.forall_mem_cons.mpr ⟨kw_541, List.forall_mem_cons.mpr ⟨kw_542, List.forall_mem_cons.mpr ⟨kw_532, List.forall_mem_cons.mpr ⟨kw_534, List.forall_mem_cons.mpr ⟨kw_536, List.forall_mem_cons.mpr ⟨kw_538, fun _ h => absurd h List.not_mem_nil⟩⟩⟩⟩⟩⟩⟩
set_option maxRecDepth 100000 in
theorem cl_NJ : Cl TB vwCl 6 "BatchPlans$JoinNode" T_NJ 7 ty_NJ := ⟨rfl, in_NJ, by decide +kernel, by decide +kernel⟩
theorem kw_566 : (Jvm.Cond.laysFinal "BatchPlans$GroupNode" "BatchPlans$Node" "columns" "I") ∈ TB := tb_mem (tb_s3 _ (List.mem_of_getElem? (i := 86) (by decide +kernel))) (by decide +kernel)
theorem kw_567 : (Jvm.Cond.laysFinal "BatchPlans$GroupNode" "BatchPlans$Node" "output" "LBatchPlans$Rows;") ∈ TB := tb_mem (tb_s3 _ (List.mem_of_getElem? (i := 87) (by decide +kernel))) (by decide +kernel)
theorem kw_568 : (Jvm.Cond.laysFinal "BatchPlans$GroupNode" "BatchPlans$Node" "madeOf" "I") ∈ TB := tb_mem (tb_s3 _ (List.mem_of_getElem? (i := 88) (by decide +kernel))) (by decide +kernel)
theorem kw_560 : (Jvm.Cond.laysFinal "BatchPlans$GroupNode" "BatchPlans$GroupNode" "input" "LBatchPlans$Rows;") ∈ TB := tb_mem (tb_s3 _ (List.mem_of_getElem? (i := 80) (by decide +kernel))) (by decide +kernel)
theorem kw_562 : (Jvm.Cond.laysFinal "BatchPlans$GroupNode" "BatchPlans$GroupNode" "key" "I") ∈ TB := tb_mem (tb_s3 _ (List.mem_of_getElem? (i := 82) (by decide +kernel))) (by decide +kernel)
theorem kw_564 : (Jvm.Cond.laysFinal "BatchPlans$GroupNode" "BatchPlans$GroupNode" "value" "I") ∈ TB := tb_mem (tb_s3 _ (List.mem_of_getElem? (i := 84) (by decide +kernel))) (by decide +kernel)
set_option maxRecDepth 100000 in
theorem in_NG : ∀ w ∈ u_ws "BatchPlans$GroupNode" T_NG 6, w ∈ TB := List.forall_mem_cons.mpr ⟨kw_566, List.forall_mem_cons.mpr ⟨kw_567, List.forall_mem_cons.mpr ⟨kw_568, List.forall_mem_cons.mpr ⟨kw_560, List.forall_mem_cons.mpr ⟨kw_562, List.forall_mem_cons.mpr ⟨kw_564, fun _ h => absurd h List.not_mem_nil⟩⟩⟩⟩⟩⟩
set_option maxRecDepth 100000 in
theorem cl_NG : Cl TB vwCl 7 "BatchPlans$GroupNode" T_NG 6 ty_NG := ⟨rfl, in_NG, by decide +kernel, by decide +kernel⟩
theorem kw_151 : (Jvm.Cond.laysFinal "BatchPlans" "BatchPlans" "tables" "[LBatchPlans$Rows;") ∈ TB := tb_mem (tb_s1 _ (List.mem_of_getElem? (i := 151) (by decide +kernel))) (by decide +kernel)
theorem kw_153 : (Jvm.Cond.laysFinal "BatchPlans" "BatchPlans" "outputs" "[LBatchPlans$Rows;") ∈ TB := tb_mem (tb_s1 _ (List.mem_of_getElem? (i := 153) (by decide +kernel))) (by decide +kernel)
theorem kw_155 : (Jvm.Cond.laysFinal "BatchPlans" "BatchPlans" "plan" "Ljava/util/ArrayList;") ∈ TB := tb_mem (tb_s1 _ (List.mem_of_getElem? (i := 155) (by decide +kernel))) (by decide +kernel)
theorem kw_157 : (Jvm.Cond.laysFinal "BatchPlans" "BatchPlans" "cost" "LBatchPlans$Cost;") ∈ TB := tb_mem (tb_s1 _ (List.mem_of_getElem? (i := 157) (by decide +kernel))) (by decide +kernel)
theorem kw_159 : (Jvm.Cond.laysFinal "BatchPlans" "BatchPlans" "result" "LBatchPlans$Rows;") ∈ TB := tb_mem (tb_s1 _ (List.mem_of_getElem? (i := 159) (by decide +kernel))) (by decide +kernel)
theorem kw_161 : (Jvm.Cond.lays "BatchPlans" "BatchPlans" "batches" "I") ∈ TB := tb_mem (tb_s1 _ (List.mem_of_getElem? (i := 161) (by decide +kernel))) (by decide +kernel)
theorem kw_163 : (Jvm.Cond.lays "BatchPlans" "BatchPlans" "written" "I") ∈ TB := tb_mem (tb_s1 _ (List.mem_of_getElem? (i := 163) (by decide +kernel))) (by decide +kernel)
theorem kw_165 : (Jvm.Cond.lays "BatchPlans" "BatchPlans" "held" "I") ∈ TB := tb_mem (tb_s1 _ (List.mem_of_getElem? (i := 165) (by decide +kernel))) (by decide +kernel)
set_option maxRecDepth 100000 in
theorem in_P : ∀ w ∈ u_ws "BatchPlans" T_P 8, w ∈ TB := List.forall_mem_cons.mpr ⟨kw_151, List.forall_mem_cons.mpr ⟨kw_153, List.forall_mem_cons.mpr ⟨kw_155, List.forall_mem_cons.mpr ⟨kw_157, List.forall_mem_cons.mpr ⟨kw_159, List.forall_mem_cons.mpr ⟨kw_161, List.forall_mem_cons.mpr ⟨kw_163, List.forall_mem_cons.mpr ⟨kw_165, fun _ h => absurd h List.not_mem_nil⟩⟩⟩⟩⟩⟩⟩⟩
set_option maxRecDepth 100000 in
theorem cl_P : Cl TB vwCl 8 "BatchPlans" T_P 8 ty_P := ⟨rfl, in_P, by decide +kernel, by decide +kernel⟩
theorem kw_90 : (Jvm.Cond.lays "java/util/ArrayList" "java/util/AbstractList" "modCount" "I") ∈ TB := tb_mem (tb_s1 _ (List.mem_of_getElem? (i := 90) (by decide +kernel))) (by decide +kernel)
theorem kw_86 : (Jvm.Cond.lays "java/util/ArrayList" "java/util/ArrayList" "elementData" "[Ljava/lang/Object;") ∈ TB := tb_mem (tb_s1 _ (List.mem_of_getElem? (i := 86) (by decide +kernel))) (by decide +kernel)
theorem kw_88 : (Jvm.Cond.lays "java/util/ArrayList" "java/util/ArrayList" "size" "I") ∈ TB := tb_mem (tb_s1 _ (List.mem_of_getElem? (i := 88) (by decide +kernel))) (by decide +kernel)
set_option maxRecDepth 100000 in
theorem in_JArrayList : ∀ w ∈ u_ws "java/util/ArrayList" T_JArrayList 3, w ∈ TB := List.forall_mem_cons.mpr ⟨kw_90, List.forall_mem_cons.mpr ⟨kw_86, List.forall_mem_cons.mpr ⟨kw_88, fun _ h => absurd h List.not_mem_nil⟩⟩⟩
set_option maxRecDepth 100000 in
theorem cl_JArrayList : Cl TB vwCl 9 "java/util/ArrayList" T_JArrayList 3 ty_JArrayList := ⟨rfl, in_JArrayList, by decide +kernel, by decide +kernel⟩
theorem kw_797 : (Jvm.Cond.lays "BatchPlansModel" "BatchPlansModel" "thrown" "I") ∈ TB := tb_mem (tb_s4 _ (List.mem_of_getElem? (i := 77) (by decide +kernel))) (by decide +kernel)
theorem kw_799 : (Jvm.Cond.laysFinal "BatchPlansModel" "BatchPlansModel" "batch" "I") ∈ TB := tb_mem (tb_s4 _ (List.mem_of_getElem? (i := 79) (by decide +kernel))) (by decide +kernel)
theorem kw_801 : (Jvm.Cond.laysFinal "BatchPlansModel" "BatchPlansModel" "memory" "I") ∈ TB := tb_mem (tb_s4 _ (List.mem_of_getElem? (i := 81) (by decide +kernel))) (by decide +kernel)
theorem kw_803 : (Jvm.Cond.laysFinal "BatchPlansModel" "BatchPlansModel" "tables" "[I") ∈ TB := tb_mem (tb_s4 _ (List.mem_of_getElem? (i := 83) (by decide +kernel))) (by decide +kernel)
theorem kw_805 : (Jvm.Cond.laysFinal "BatchPlansModel" "BatchPlansModel" "tableRows" "[I") ∈ TB := tb_mem (tb_s4 _ (List.mem_of_getElem? (i := 85) (by decide +kernel))) (by decide +kernel)
theorem kw_807 : (Jvm.Cond.lays "BatchPlansModel" "BatchPlansModel" "count" "I") ∈ TB := tb_mem (tb_s4 _ (List.mem_of_getElem? (i := 87) (by decide +kernel))) (by decide +kernel)
theorem kw_809 : (Jvm.Cond.laysFinal "BatchPlansModel" "BatchPlansModel" "kind" "[I") ∈ TB := tb_mem (tb_s4 _ (List.mem_of_getElem? (i := 89) (by decide +kernel))) (by decide +kernel)
theorem kw_811 : (Jvm.Cond.laysFinal "BatchPlansModel" "BatchPlansModel" "from" "[I") ∈ TB := tb_mem (tb_s4 _ (List.mem_of_getElem? (i := 91) (by decide +kernel))) (by decide +kernel)
theorem kw_813 : (Jvm.Cond.laysFinal "BatchPlansModel" "BatchPlansModel" "other" "[I") ∈ TB := tb_mem (tb_s4 _ (List.mem_of_getElem? (i := 93) (by decide +kernel))) (by decide +kernel)
theorem kw_815 : (Jvm.Cond.laysFinal "BatchPlansModel" "BatchPlansModel" "column" "[I") ∈ TB := tb_mem (tb_s4 _ (List.mem_of_getElem? (i := 95) (by decide +kernel))) (by decide +kernel)
theorem kw_817 : (Jvm.Cond.laysFinal "BatchPlansModel" "BatchPlansModel" "second" "[I") ∈ TB := tb_mem (tb_s4 _ (List.mem_of_getElem? (i := 97) (by decide +kernel))) (by decide +kernel)
theorem kw_819 : (Jvm.Cond.laysFinal "BatchPlansModel" "BatchPlansModel" "way" "[I") ∈ TB := tb_mem (tb_s4 _ (List.mem_of_getElem? (i := 99) (by decide +kernel))) (by decide +kernel)
theorem kw_821 : (Jvm.Cond.laysFinal "BatchPlansModel" "BatchPlansModel" "number" "[I") ∈ TB := tb_mem (tb_s4 _ (List.mem_of_getElem? (i := 101) (by decide +kernel))) (by decide +kernel)
theorem kw_823 : (Jvm.Cond.laysFinal "BatchPlansModel" "BatchPlansModel" "wide" "[I") ∈ TB := tb_mem (tb_s4 _ (List.mem_of_getElem? (i := 103) (by decide +kernel))) (by decide +kernel)
theorem kw_825 : (Jvm.Cond.laysFinal "BatchPlansModel" "BatchPlansModel" "needed" "[Z") ∈ TB := tb_mem (tb_s4 _ (List.mem_of_getElem? (i := 105) (by decide +kernel))) (by decide +kernel)
theorem kw_827 : (Jvm.Cond.laysFinal "BatchPlansModel" "BatchPlansModel" "out" "[I") ∈ TB := tb_mem (tb_s4 _ (List.mem_of_getElem? (i := 107) (by decide +kernel))) (by decide +kernel)
theorem kw_829 : (Jvm.Cond.laysFinal "BatchPlansModel" "BatchPlansModel" "outRows" "[I") ∈ TB := tb_mem (tb_s4 _ (List.mem_of_getElem? (i := 109) (by decide +kernel))) (by decide +kernel)
theorem kw_831 : (Jvm.Cond.laysFinal "BatchPlansModel" "BatchPlansModel" "reached" "[Z") ∈ TB := tb_mem (tb_s4 _ (List.mem_of_getElem? (i := 111) (by decide +kernel))) (by decide +kernel)
theorem kw_833 : (Jvm.Cond.lays "BatchPlansModel" "BatchPlansModel" "readNow" "I") ∈ TB := tb_mem (tb_s4 _ (List.mem_of_getElem? (i := 113) (by decide +kernel))) (by decide +kernel)
theorem kw_835 : (Jvm.Cond.lays "BatchPlansModel" "BatchPlansModel" "writtenNow" "I") ∈ TB := tb_mem (tb_s4 _ (List.mem_of_getElem? (i := 115) (by decide +kernel))) (by decide +kernel)
theorem kw_837 : (Jvm.Cond.lays "BatchPlansModel" "BatchPlansModel" "heldNow" "I") ∈ TB := tb_mem (tb_s4 _ (List.mem_of_getElem? (i := 117) (by decide +kernel))) (by decide +kernel)
theorem kw_839 : (Jvm.Cond.laysFinal "BatchPlansModel" "BatchPlansModel" "result" "[I") ∈ TB := tb_mem (tb_s4 _ (List.mem_of_getElem? (i := 119) (by decide +kernel))) (by decide +kernel)
theorem kw_841 : (Jvm.Cond.lays "BatchPlansModel" "BatchPlansModel" "resultRows" "I") ∈ TB := tb_mem (tb_s4 _ (List.mem_of_getElem? (i := 121) (by decide +kernel))) (by decide +kernel)
theorem kw_843 : (Jvm.Cond.lays "BatchPlansModel" "BatchPlansModel" "resultWide" "I") ∈ TB := tb_mem (tb_s4 _ (List.mem_of_getElem? (i := 123) (by decide +kernel))) (by decide +kernel)
theorem kw_845 : (Jvm.Cond.lays "BatchPlansModel" "BatchPlansModel" "readThen" "I") ∈ TB := tb_mem (tb_s4 _ (List.mem_of_getElem? (i := 125) (by decide +kernel))) (by decide +kernel)
theorem kw_847 : (Jvm.Cond.lays "BatchPlansModel" "BatchPlansModel" "writtenThen" "I") ∈ TB := tb_mem (tb_s4 _ (List.mem_of_getElem? (i := 127) (by decide +kernel))) (by decide +kernel)
theorem kw_849 : (Jvm.Cond.lays "BatchPlansModel" "BatchPlansModel" "heldThen" "I") ∈ TB := tb_mem (tb_s4 _ (List.mem_of_getElem? (i := 129) (by decide +kernel))) (by decide +kernel)
set_option maxRecDepth 100000 in
theorem in_M : ∀ w ∈ u_ws "BatchPlansModel" T_M 27, w ∈ TB := List.forall_mem_cons.mpr ⟨kw_797, List.forall_mem_cons.mpr ⟨kw_799, List.forall_mem_cons.mpr ⟨kw_801, List.forall_mem_cons.mpr ⟨kw_803, List.forall_mem_cons.mpr ⟨kw_805, List.forall_mem_cons.mpr ⟨kw_807, List.forall_mem_cons.mpr ⟨kw_809, List.forall_mem_cons.mpr ⟨kw_811, List.forall_mem_cons.mpr ⟨kw_813, List.forall_mem_cons.mpr ⟨kw_815, List.forall_mem_cons.mpr ⟨kw_817, List.forall_mem_cons.mpr ⟨kw_819, List.forall_mem_cons.mpr ⟨kw_821, List.forall_mem_cons.mpr ⟨kw_823, List.forall_mem_cons.mpr ⟨kw_825, List.forall_mem_cons.mpr ⟨kw_827, List.forall_mem_cons.mpr ⟨kw_829, List.forall_mem_cons.mpr ⟨kw_831, List.forall_mem_cons.mpr ⟨kw_833, List.forall_mem_cons.mpr ⟨kw_835, List.forall_mem_cons.mpr ⟨kw_837, List.forall_mem_cons.mpr ⟨kw_839, List.forall_mem_cons.mpr ⟨kw_841, List.forall_mem_cons.mpr ⟨kw_843, List.forall_mem_cons.mpr ⟨kw_845, List.forall_mem_cons.mpr ⟨kw_847, List.forall_mem_cons.mpr ⟨kw_849, fun _ h => absurd h List.not_mem_nil⟩⟩⟩⟩⟩⟩⟩⟩⟩⟩⟩⟩⟩⟩⟩⟩⟩⟩⟩⟩⟩⟩⟩⟩⟩⟩⟩
set_option maxRecDepth 100000 in
theorem cl_M : Cl TB vwCl 10 "BatchPlansModel" T_M 27 ty_M := ⟨rfl, in_M, by decide +kernel, by decide +kernel⟩
/-- the numbers of the classes and of the arrays' kinds -/
abbrev hGt : Type := va_G × (Nat → ClassId)
def hT (G : hGt) : List (ClassId × FieldType) := [(G.2 0, .int), (G.2 1, .long), (G.2 2, .boolean), (G.2 3, .object "BatchPlans$Rows"), (G.2 4, .object "java/lang/Object")]
abbrev aI (G : hGt) (n : Nat) (f : Nat → Int32) : va_E := .inl (G.2 0, n, .inl f)
abbrev aJ (G : hGt) (n : Nat) (f : Nat → Int64) : va_E := .inl (G.2 1, n, .inr (.inl f))
abbrev aZ (G : hGt) (n : Nat) (f : Nat → Int32) : va_E := .inl (G.2 2, n, .inl f)
abbrev aQ (G : hGt) (n : Nat) (f : Nat → Option Nat) : va_E := .inl (G.2 3, n, .inr (.inr (.inr (.inr f))))
abbrev aO (G : hGt) (n : Nat) (f : Nat → Option Nat) : va_E := .inl (G.2 4, n, .inr (.inr (.inr (.inr f))))
/-- what stays true of the tables and of the old cells while the script runs -/
def Ev (G : hGt) (a0 : Nat) (U : State) : Prop := va_K G.1 vwCl (hT G) U ∧ (∀ w ∈ NW, va_Nw w U) ∧ True
def nw_ok (w : Cond) : Prop := (∃ a i b n d h, w = .fieldLinkNest a i b n d h) ∨ (∃ a i x h, w = .methodLinkNest a i x h) ∨ (∃ a b, w = .castable a b) ∨ ∃ x, w = .declares x
theorem nw_keep {w : Cond} (h : nw_ok w) {s t : State} (hW : s.WarmedH t.vm) (hw : va_Nw w s) : va_Nw w t := by
  rcases h with ⟨a, i, b, n, d, h, rfl⟩ | ⟨a, i, x, h, rfl⟩ | ⟨a, b, rfl⟩ | ⟨x, rfl⟩
  · exact va_Nw.warmF hW hw
  · exact va_Nw.warmM hW hw
  · exact va_Nw.warmC hW hw
  · exact va_Nw.warmD hW hw
theorem nw_all : ∀ w ∈ NW, nw_ok w := List.forall_mem_cons.mpr ⟨Or.inl ⟨_, _, _, _, _, _, rfl⟩, List.forall_mem_cons.mpr ⟨Or.inl ⟨_, _, _, _, _, _, rfl⟩, List.forall_mem_cons.mpr ⟨Or.inl ⟨_, _, _, _, _, _, rfl⟩, List.forall_mem_cons.mpr ⟨Or.inl ⟨_, _, _, _, _, _, rfl⟩, List.forall_mem_cons.mpr ⟨Or.inl ⟨_, _, _, _, _, _, rfl⟩, List.forall_mem_cons.mpr ⟨Or.inl ⟨_, _, _, _, _, _, rfl⟩, List.forall_mem_cons.mpr ⟨Or.inl ⟨_, _, _, _, _, _, rfl⟩, List.forall_mem_cons.mpr ⟨Or.inl ⟨_, _, _, _, _, _, rfl⟩, List.forall_mem_cons.mpr ⟨Or.inr (Or.inl ⟨_, _, _, _, rfl⟩), List.forall_mem_cons.mpr ⟨Or.inl ⟨_, _, _, _, _, _, rfl⟩, List.forall_mem_cons.mpr ⟨Or.inl ⟨_, _, _, _, _, _, rfl⟩, List.forall_mem_cons.mpr ⟨Or.inl ⟨_, _, _, _, _, _, rfl⟩, List.forall_mem_cons.mpr ⟨Or.inr (Or.inr (Or.inl ⟨_, _, rfl⟩)), List.forall_mem_cons.mpr ⟨Or.inr (Or.inr (Or.inr ⟨_, rfl⟩)), List.forall_mem_cons.mpr ⟨Or.inr (Or.inr (Or.inr ⟨_, rfl⟩)), List.forall_mem_cons.mpr ⟨Or.inr (Or.inr (Or.inr ⟨_, rfl⟩)), List.forall_mem_cons.mpr ⟨Or.inr (Or.inr (Or.inr ⟨_, rfl⟩)), List.forall_mem_cons.mpr ⟨Or.inr (Or.inr (Or.inr ⟨_, rfl⟩)), List.forall_mem_cons.mpr ⟨Or.inr (Or.inr (Or.inr ⟨_, rfl⟩)), List.forall_mem_cons.mpr ⟨Or.inr (Or.inr (Or.inl ⟨_, _, rfl⟩)), List.forall_mem_cons.mpr ⟨Or.inr (Or.inr (Or.inr ⟨_, rfl⟩)), List.forall_mem_cons.mpr ⟨Or.inr (Or.inr (Or.inl ⟨_, _, rfl⟩)), List.forall_mem_cons.mpr ⟨Or.inr (Or.inr (Or.inl ⟨_, _, rfl⟩)), List.forall_mem_cons.mpr ⟨Or.inr (Or.inr (Or.inl ⟨_, _, rfl⟩)), List.forall_mem_cons.mpr ⟨Or.inr (Or.inr (Or.inl ⟨_, _, rfl⟩)), List.forall_mem_cons.mpr ⟨Or.inr (Or.inr (Or.inl ⟨_, _, rfl⟩)), List.forall_mem_cons.mpr ⟨Or.inr (Or.inr (Or.inl ⟨_, _, rfl⟩)), List.forall_mem_cons.mpr ⟨Or.inr (Or.inr (Or.inl ⟨_, _, rfl⟩)), List.forall_mem_cons.mpr ⟨Or.inr (Or.inr (Or.inr ⟨_, rfl⟩)), List.forall_mem_cons.mpr ⟨Or.inr (Or.inr (Or.inl ⟨_, _, rfl⟩)), List.forall_mem_cons.mpr ⟨Or.inr (Or.inr (Or.inl ⟨_, _, rfl⟩)), List.forall_mem_cons.mpr ⟨Or.inr (Or.inr (Or.inl ⟨_, _, rfl⟩)), List.forall_mem_cons.mpr ⟨Or.inr (Or.inr (Or.inl ⟨_, _, rfl⟩)), List.forall_mem_cons.mpr ⟨Or.inr (Or.inr (Or.inl ⟨_, _, rfl⟩)), List.forall_mem_cons.mpr ⟨Or.inr (Or.inr (Or.inl ⟨_, _, rfl⟩)), List.forall_mem_cons.mpr ⟨Or.inr (Or.inr (Or.inl ⟨_, _, rfl⟩)), List.forall_mem_cons.mpr ⟨Or.inr (Or.inr (Or.inl ⟨_, _, rfl⟩)), List.forall_mem_cons.mpr ⟨Or.inr (Or.inr (Or.inl ⟨_, _, rfl⟩)), List.forall_mem_cons.mpr ⟨Or.inr (Or.inr (Or.inl ⟨_, _, rfl⟩)), List.forall_mem_cons.mpr ⟨Or.inr (Or.inr (Or.inl ⟨_, _, rfl⟩)), fun _ h => absurd h List.not_mem_nil⟩⟩⟩⟩⟩⟩⟩⟩⟩⟩⟩⟩⟩⟩⟩⟩⟩⟩⟩⟩⟩⟩⟩⟩⟩⟩⟩⟩⟩⟩⟩⟩⟩⟩⟩⟩⟩⟩⟩⟩
theorem ev_keep (G : hGt) (a0 : Nat) : hKeep a0 (Ev G a0) := fun s t h hW _ => ⟨va_K.moved hW.alike h.1, fun w hw => nw_keep (nw_all w hw) hW (h.2.1 w hw), trivial⟩
end
section
def y_R_at : MethodName := ⟨"BatchPlans$Rows", "at", "(II)I"⟩
theorem kw_605 : (Jvm.Cond.code ({ cls := "BatchPlans$Rows", name := "at", desc := "(II)I" } : Jvm.MethodName) prog_9_method_3_code (3 : Nat) (Option.some Jvm.ClassFile.FieldType.int)) ∈ TB := tb_mem (tb_s3 _ (List.mem_of_getElem? (i := 125) (by decide +kernel))) (by decide +kernel)
theorem d_R_at_0 : decode prog_9_method_3_code 0 = .ok (.aload_n 0, 1) := by decide +kernel
theorem d_R_at_1 : decode prog_9_method_3_code 1 = .ok (.getfield 7, 3) := by decide +kernel
theorem d_R_at_4 : decode prog_9_method_3_code 4 = .ok (.iload_n 1, 1) := by decide +kernel
theorem d_R_at_5 : decode prog_9_method_3_code 5 = .ok (.aload_n 0, 1) := by decide +kernel
theorem d_R_at_6 : decode prog_9_method_3_code 6 = .ok (.getfield 13, 3) := by decide +kernel
theorem d_R_at_9 : decode prog_9_method_3_code 9 = .ok (.imul, 1) := by decide +kernel
theorem d_R_at_10 : decode prog_9_method_3_code 10 = .ok (.iload_n 2, 1) := by decide +kernel
theorem d_R_at_11 : decode prog_9_method_3_code 11 = .ok (.iadd, 1) := by decide +kernel
theorem d_R_at_12 : decode prog_9_method_3_code 12 = .ok (.iaload, 1) := by decide +kernel
theorem d_R_at_13 : decode prog_9_method_3_code 13 = .ok (.ireturn, 1) := by decide +kernel
def y_R_empty : MethodName := ⟨"BatchPlans$Rows", "empty", "(I)V"⟩
theorem kw_66 : (Jvm.Cond.code ({ cls := "BatchPlans$Rows", name := "empty", desc := "(I)V" } : Jvm.MethodName) prog_9_method_2_code (2 : Nat) (Option.none : Option Jvm.ClassFile.FieldType)) ∈ TB := tb_mem (tb_s1 _ (List.mem_of_getElem? (i := 66) (by decide +kernel))) (by decide +kernel)
theorem d_R_empty_0 : decode prog_9_method_2_code 0 = .ok (.aload_n 0, 1) := by decide +kernel
theorem d_R_empty_1 : decode prog_9_method_2_code 1 = .ok (.iload_n 1, 1) := by decide +kernel
theorem d_R_empty_2 : decode prog_9_method_2_code 2 = .ok (.putfield 13, 3) := by decide +kernel
theorem d_R_empty_5 : decode prog_9_method_2_code 5 = .ok (.aload_n 0, 1) := by decide +kernel
theorem d_R_empty_6 : decode prog_9_method_2_code 6 = .ok (.iconst 0, 1) := by decide +kernel
theorem d_R_empty_7 : decode prog_9_method_2_code 7 = .ok (.putfield 17, 3) := by decide +kernel
theorem d_R_empty_10 : decode prog_9_method_2_code 10 = .ok (.return_, 1) := by decide +kernel
def y_R_put : MethodName := ⟨"BatchPlans$Rows", "put", "(III)V"⟩
theorem kw_719 : (Jvm.Cond.code ({ cls := "BatchPlans$Rows", name := "put", desc := "(III)V" } : Jvm.MethodName) prog_9_method_4_code (4 : Nat) (Option.none : Option Jvm.ClassFile.FieldType)) ∈ TB := tb_mem (tb_s3 _ (List.mem_of_getElem? (i := 239) (by decide +kernel))) (by decide +kernel)
theorem d_R_put_0 : decode prog_9_method_4_code 0 = .ok (.aload_n 0, 1) := by decide +kernel
theorem d_R_put_1 : decode prog_9_method_4_code 1 = .ok (.getfield 7, 3) := by decide +kernel
theorem d_R_put_4 : decode prog_9_method_4_code 4 = .ok (.iload_n 1, 1) := by decide +kernel
theorem d_R_put_5 : decode prog_9_method_4_code 5 = .ok (.aload_n 0, 1) := by decide +kernel
theorem d_R_put_6 : decode prog_9_method_4_code 6 = .ok (.getfield 13, 3) := by decide +kernel
theorem d_R_put_9 : decode prog_9_method_4_code 9 = .ok (.imul, 1) := by decide +kernel
theorem d_R_put_10 : decode prog_9_method_4_code 10 = .ok (.iload_n 2, 1) := by decide +kernel
theorem d_R_put_11 : decode prog_9_method_4_code 11 = .ok (.iadd, 1) := by decide +kernel
theorem d_R_put_12 : decode prog_9_method_4_code 12 = .ok (.iload_n 3, 1) := by decide +kernel
theorem d_R_put_13 : decode prog_9_method_4_code 13 = .ok (.iastore, 1) := by decide +kernel
theorem d_R_put_14 : decode prog_9_method_4_code 14 = .ok (.return_, 1) := by decide +kernel
def y_R_addThree : MethodName := ⟨"BatchPlans$Rows", "addThree", "(III)V"⟩
theorem kw_307 : (Jvm.Cond.code ({ cls := "BatchPlans$Rows", name := "addThree", desc := "(III)V" } : Jvm.MethodName) prog_9_method_5_code (5 : Nat) (Option.none : Option Jvm.ClassFile.FieldType)) ∈ TB := tb_mem (tb_s2 _ (List.mem_of_getElem? (i := 67) (by decide +kernel))) (by decide +kernel)
theorem d_R_addThree_0 : decode prog_9_method_5_code 0 = .ok (.aload_n 0, 1) := by decide +kernel
theorem d_R_addThree_1 : decode prog_9_method_5_code 1 = .ok (.getfield 17, 3) := by decide +kernel
theorem d_R_addThree_4 : decode prog_9_method_5_code 4 = .ok (.aload_n 0, 1) := by decide +kernel
theorem d_R_addThree_5 : decode prog_9_method_5_code 5 = .ok (.getfield 13, 3) := by decide +kernel
theorem d_R_addThree_8 : decode prog_9_method_5_code 8 = .ok (.imul, 1) := by decide +kernel
theorem d_R_addThree_9 : decode prog_9_method_5_code 9 = .ok (.istore 4, 2) := by decide +kernel
theorem d_R_addThree_11 : decode prog_9_method_5_code 11 = .ok (.aload_n 0, 1) := by decide +kernel
theorem d_R_addThree_12 : decode prog_9_method_5_code 12 = .ok (.getfield 7, 3) := by decide +kernel
theorem d_R_addThree_15 : decode prog_9_method_5_code 15 = .ok (.iload 4, 2) := by decide +kernel
theorem d_R_addThree_17 : decode prog_9_method_5_code 17 = .ok (.iload_n 1, 1) := by decide +kernel
theorem d_R_addThree_18 : decode prog_9_method_5_code 18 = .ok (.iastore, 1) := by decide +kernel
theorem d_R_addThree_19 : decode prog_9_method_5_code 19 = .ok (.aload_n 0, 1) := by decide +kernel
theorem d_R_addThree_20 : decode prog_9_method_5_code 20 = .ok (.getfield 7, 3) := by decide +kernel
theorem d_R_addThree_23 : decode prog_9_method_5_code 23 = .ok (.iload 4, 2) := by decide +kernel
theorem d_R_addThree_25 : decode prog_9_method_5_code 25 = .ok (.iconst 1, 1) := by decide +kernel
theorem d_R_addThree_26 : decode prog_9_method_5_code 26 = .ok (.iadd, 1) := by decide +kernel
theorem d_R_addThree_27 : decode prog_9_method_5_code 27 = .ok (.iload_n 2, 1) := by decide +kernel
theorem d_R_addThree_28 : decode prog_9_method_5_code 28 = .ok (.iastore, 1) := by decide +kernel
theorem d_R_addThree_29 : decode prog_9_method_5_code 29 = .ok (.aload_n 0, 1) := by decide +kernel
theorem d_R_addThree_30 : decode prog_9_method_5_code 30 = .ok (.getfield 7, 3) := by decide +kernel
theorem d_R_addThree_33 : decode prog_9_method_5_code 33 = .ok (.iload 4, 2) := by decide +kernel
theorem d_R_addThree_35 : decode prog_9_method_5_code 35 = .ok (.iconst 2, 1) := by decide +kernel
theorem d_R_addThree_36 : decode prog_9_method_5_code 36 = .ok (.iadd, 1) := by decide +kernel
theorem d_R_addThree_37 : decode prog_9_method_5_code 37 = .ok (.iload_n 3, 1) := by decide +kernel
theorem d_R_addThree_38 : decode prog_9_method_5_code 38 = .ok (.iastore, 1) := by decide +kernel
theorem d_R_addThree_39 : decode prog_9_method_5_code 39 = .ok (.aload_n 0, 1) := by decide +kernel
theorem d_R_addThree_40 : decode prog_9_method_5_code 40 = .ok (.dup, 1) := by decide +kernel
theorem d_R_addThree_41 : decode prog_9_method_5_code 41 = .ok (.getfield 17, 3) := by decide +kernel
theorem d_R_addThree_44 : decode prog_9_method_5_code 44 = .ok (.iconst 1, 1) := by decide +kernel
theorem d_R_addThree_45 : decode prog_9_method_5_code 45 = .ok (.iadd, 1) := by decide +kernel
theorem d_R_addThree_46 : decode prog_9_method_5_code 46 = .ok (.putfield 17, 3) := by decide +kernel
theorem d_R_addThree_49 : decode prog_9_method_5_code 49 = .ok (.return_, 1) := by decide +kernel
def y_R_addCopy : MethodName := ⟨"BatchPlans$Rows", "addCopy", "(LBatchPlans$Rows;I)V"⟩
theorem kw_613 : (Jvm.Cond.code ({ cls := "BatchPlans$Rows", name := "addCopy", desc := "(LBatchPlans$Rows;I)V" } : Jvm.MethodName) prog_9_method_6_code (3 : Nat) (Option.none : Option Jvm.ClassFile.FieldType)) ∈ TB := tb_mem (tb_s3 _ (List.mem_of_getElem? (i := 133) (by decide +kernel))) (by decide +kernel)
theorem d_R_addCopy_0 : decode prog_9_method_6_code 0 = .ok (.aload_n 1, 1) := by decide +kernel
theorem d_R_addCopy_1 : decode prog_9_method_6_code 1 = .ok (.getfield 7, 3) := by decide +kernel
theorem d_R_addCopy_4 : decode prog_9_method_6_code 4 = .ok (.iload_n 2, 1) := by decide +kernel
theorem d_R_addCopy_5 : decode prog_9_method_6_code 5 = .ok (.aload_n 0, 1) := by decide +kernel
theorem d_R_addCopy_6 : decode prog_9_method_6_code 6 = .ok (.getfield 13, 3) := by decide +kernel
theorem d_R_addCopy_9 : decode prog_9_method_6_code 9 = .ok (.imul, 1) := by decide +kernel
theorem d_R_addCopy_10 : decode prog_9_method_6_code 10 = .ok (.aload_n 0, 1) := by decide +kernel
theorem d_R_addCopy_11 : decode prog_9_method_6_code 11 = .ok (.getfield 7, 3) := by decide +kernel
theorem d_R_addCopy_14 : decode prog_9_method_6_code 14 = .ok (.aload_n 0, 1) := by decide +kernel
theorem d_R_addCopy_15 : decode prog_9_method_6_code 15 = .ok (.getfield 17, 3) := by decide +kernel
theorem d_R_addCopy_18 : decode prog_9_method_6_code 18 = .ok (.aload_n 0, 1) := by decide +kernel
theorem d_R_addCopy_19 : decode prog_9_method_6_code 19 = .ok (.getfield 13, 3) := by decide +kernel
theorem d_R_addCopy_22 : decode prog_9_method_6_code 22 = .ok (.imul, 1) := by decide +kernel
theorem d_R_addCopy_23 : decode prog_9_method_6_code 23 = .ok (.aload_n 0, 1) := by decide +kernel
theorem d_R_addCopy_24 : decode prog_9_method_6_code 24 = .ok (.getfield 13, 3) := by decide +kernel
theorem d_R_addCopy_27 : decode prog_9_method_6_code 27 = .ok (.invokestatic 20, 3) := by decide +kernel
theorem d_R_addCopy_30 : decode prog_9_method_6_code 30 = .ok (.aload_n 0, 1) := by decide +kernel
theorem d_R_addCopy_31 : decode prog_9_method_6_code 31 = .ok (.dup, 1) := by decide +kernel
theorem d_R_addCopy_32 : decode prog_9_method_6_code 32 = .ok (.getfield 17, 3) := by decide +kernel
theorem d_R_addCopy_35 : decode prog_9_method_6_code 35 = .ok (.iconst 1, 1) := by decide +kernel
theorem d_R_addCopy_36 : decode prog_9_method_6_code 36 = .ok (.iadd, 1) := by decide +kernel
theorem d_R_addCopy_37 : decode prog_9_method_6_code 37 = .ok (.putfield 17, 3) := by decide +kernel
theorem d_R_addCopy_40 : decode prog_9_method_6_code 40 = .ok (.return_, 1) := by decide +kernel
def y_R_has : MethodName := ⟨"BatchPlans$Rows", "has", "(II)Z"⟩
theorem kw_624 : (Jvm.Cond.code ({ cls := "BatchPlans$Rows", name := "has", desc := "(II)Z" } : Jvm.MethodName) prog_9_method_9_code (4 : Nat) (Option.some Jvm.ClassFile.FieldType.boolean)) ∈ TB := tb_mem (tb_s3 _ (List.mem_of_getElem? (i := 144) (by decide +kernel))) (by decide +kernel)
theorem d_R_has_0 : decode prog_9_method_9_code 0 = .ok (.iconst 0, 1) := by decide +kernel
theorem d_R_has_1 : decode prog_9_method_9_code 1 = .ok (.istore_n 3, 1) := by decide +kernel
theorem d_R_has_2 : decode prog_9_method_9_code 2 = .ok (.iload_n 3, 1) := by decide +kernel
theorem d_R_has_3 : decode prog_9_method_9_code 3 = .ok (.aload_n 0, 1) := by decide +kernel
theorem d_R_has_4 : decode prog_9_method_9_code 4 = .ok (.getfield 17, 3) := by decide +kernel
theorem d_R_has_7 : decode prog_9_method_9_code 7 = .ok (.if_icmp .ge 21, 3) := by decide +kernel
theorem d_R_has_10 : decode prog_9_method_9_code 10 = .ok (.aload_n 0, 1) := by decide +kernel
theorem d_R_has_11 : decode prog_9_method_9_code 11 = .ok (.iload_n 3, 1) := by decide +kernel
theorem d_R_has_12 : decode prog_9_method_9_code 12 = .ok (.iload_n 1, 1) := by decide +kernel
theorem d_R_has_13 : decode prog_9_method_9_code 13 = .ok (.invokevirtual 30, 3) := by decide +kernel
theorem d_R_has_16 : decode prog_9_method_9_code 16 = .ok (.iload_n 2, 1) := by decide +kernel
theorem d_R_has_17 : decode prog_9_method_9_code 17 = .ok (.if_icmp .ne 5, 3) := by decide +kernel
theorem d_R_has_20 : decode prog_9_method_9_code 20 = .ok (.iconst 1, 1) := by decide +kernel
theorem d_R_has_21 : decode prog_9_method_9_code 21 = .ok (.ireturn, 1) := by decide +kernel
theorem d_R_has_22 : decode prog_9_method_9_code 22 = .ok (.iinc 3 1, 3) := by decide +kernel
theorem d_R_has_25 : decode prog_9_method_9_code 25 = .ok (.goto (-23), 3) := by decide +kernel
theorem d_R_has_28 : decode prog_9_method_9_code 28 = .ok (.iconst 0, 1) := by decide +kernel
theorem d_R_has_29 : decode prog_9_method_9_code 29 = .ok (.ireturn, 1) := by decide +kernel
def y_R_isLess : MethodName := ⟨"BatchPlans$Rows", "isLess", "(LBatchPlans$Rows;II)Z"⟩
theorem kw_735 : (Jvm.Cond.code ({ cls := "BatchPlans$Rows", name := "isLess", desc := "(LBatchPlans$Rows;II)Z" } : Jvm.MethodName) prog_9_method_10_code (6 : Nat) (Option.some Jvm.ClassFile.FieldType.boolean)) ∈ TB := tb_mem (tb_s4 _ (List.mem_of_getElem? (i := 15) (by decide +kernel))) (by decide +kernel)
theorem d_R_isLess_0 : decode prog_9_method_10_code 0 = .ok (.iconst 0, 1) := by decide +kernel
theorem d_R_isLess_1 : decode prog_9_method_10_code 1 = .ok (.istore 4, 2) := by decide +kernel
theorem d_R_isLess_3 : decode prog_9_method_10_code 3 = .ok (.iload 4, 2) := by decide +kernel
theorem d_R_isLess_5 : decode prog_9_method_10_code 5 = .ok (.aload_n 0, 1) := by decide +kernel
theorem d_R_isLess_6 : decode prog_9_method_10_code 6 = .ok (.getfield 13, 3) := by decide +kernel
theorem d_R_isLess_9 : decode prog_9_method_10_code 9 = .ok (.if_icmp .ge 44, 3) := by decide +kernel
theorem d_R_isLess_12 : decode prog_9_method_10_code 12 = .ok (.aload_n 1, 1) := by decide +kernel
theorem d_R_isLess_13 : decode prog_9_method_10_code 13 = .ok (.iload_n 2, 1) := by decide +kernel
theorem d_R_isLess_14 : decode prog_9_method_10_code 14 = .ok (.iload 4, 2) := by decide +kernel
theorem d_R_isLess_16 : decode prog_9_method_10_code 16 = .ok (.invokevirtual 30, 3) := by decide +kernel
theorem d_R_isLess_19 : decode prog_9_method_10_code 19 = .ok (.aload_n 0, 1) := by decide +kernel
theorem d_R_isLess_20 : decode prog_9_method_10_code 20 = .ok (.iload_n 3, 1) := by decide +kernel
theorem d_R_isLess_21 : decode prog_9_method_10_code 21 = .ok (.iload 4, 2) := by decide +kernel
theorem d_R_isLess_23 : decode prog_9_method_10_code 23 = .ok (.invokevirtual 30, 3) := by decide +kernel
theorem d_R_isLess_26 : decode prog_9_method_10_code 26 = .ok (.invokestatic 34, 3) := by decide +kernel
theorem d_R_isLess_29 : decode prog_9_method_10_code 29 = .ok (.istore 5, 2) := by decide +kernel
theorem d_R_isLess_31 : decode prog_9_method_10_code 31 = .ok (.iload 5, 2) := by decide +kernel
theorem d_R_isLess_33 : decode prog_9_method_10_code 33 = .ok (.ifCond .eq 14, 3) := by decide +kernel
theorem d_R_isLess_36 : decode prog_9_method_10_code 36 = .ok (.iload 5, 2) := by decide +kernel
theorem d_R_isLess_38 : decode prog_9_method_10_code 38 = .ok (.ifCond .ge 7, 3) := by decide +kernel
theorem d_R_isLess_41 : decode prog_9_method_10_code 41 = .ok (.iconst 1, 1) := by decide +kernel
theorem d_R_isLess_42 : decode prog_9_method_10_code 42 = .ok (.goto 4, 3) := by decide +kernel
theorem d_R_isLess_45 : decode prog_9_method_10_code 45 = .ok (.iconst 0, 1) := by decide +kernel
theorem d_R_isLess_46 : decode prog_9_method_10_code 46 = .ok (.ireturn, 1) := by decide +kernel
theorem d_R_isLess_47 : decode prog_9_method_10_code 47 = .ok (.iinc 4 1, 3) := by decide +kernel
theorem d_R_isLess_50 : decode prog_9_method_10_code 50 = .ok (.goto (-47), 3) := by decide +kernel
theorem d_R_isLess_53 : decode prog_9_method_10_code 53 = .ok (.iconst 0, 1) := by decide +kernel
theorem d_R_isLess_54 : decode prog_9_method_10_code 54 = .ok (.ireturn, 1) := by decide +kernel
def y_R_addPair : MethodName := ⟨"BatchPlans$Rows", "addPair", "(LBatchPlans$Rows;ILBatchPlans$Rows;I)V"⟩
theorem kw_698 : (Jvm.Cond.code ({ cls := "BatchPlans$Rows", name := "addPair", desc := "(LBatchPlans$Rows;ILBatchPlans$Rows;I)V" } : Jvm.MethodName) prog_9_method_7_code (6 : Nat) (Option.none : Option Jvm.ClassFile.FieldType)) ∈ TB := tb_mem (tb_s3 _ (List.mem_of_getElem? (i := 218) (by decide +kernel))) (by decide +kernel)
theorem d_R_addPair_0 : decode prog_9_method_7_code 0 = .ok (.aload_n 0, 1) := by decide +kernel
theorem d_R_addPair_1 : decode prog_9_method_7_code 1 = .ok (.getfield 17, 3) := by decide +kernel
theorem d_R_addPair_4 : decode prog_9_method_7_code 4 = .ok (.aload_n 0, 1) := by decide +kernel
theorem d_R_addPair_5 : decode prog_9_method_7_code 5 = .ok (.getfield 13, 3) := by decide +kernel
theorem d_R_addPair_8 : decode prog_9_method_7_code 8 = .ok (.imul, 1) := by decide +kernel
theorem d_R_addPair_9 : decode prog_9_method_7_code 9 = .ok (.istore 5, 2) := by decide +kernel
theorem d_R_addPair_11 : decode prog_9_method_7_code 11 = .ok (.aload_n 1, 1) := by decide +kernel
theorem d_R_addPair_12 : decode prog_9_method_7_code 12 = .ok (.getfield 7, 3) := by decide +kernel
theorem d_R_addPair_15 : decode prog_9_method_7_code 15 = .ok (.iload_n 2, 1) := by decide +kernel
theorem d_R_addPair_16 : decode prog_9_method_7_code 16 = .ok (.aload_n 1, 1) := by decide +kernel
theorem d_R_addPair_17 : decode prog_9_method_7_code 17 = .ok (.getfield 13, 3) := by decide +kernel
theorem d_R_addPair_20 : decode prog_9_method_7_code 20 = .ok (.imul, 1) := by decide +kernel
theorem d_R_addPair_21 : decode prog_9_method_7_code 21 = .ok (.aload_n 0, 1) := by decide +kernel
theorem d_R_addPair_22 : decode prog_9_method_7_code 22 = .ok (.getfield 7, 3) := by decide +kernel
theorem d_R_addPair_25 : decode prog_9_method_7_code 25 = .ok (.iload 5, 2) := by decide +kernel
theorem d_R_addPair_27 : decode prog_9_method_7_code 27 = .ok (.aload_n 1, 1) := by decide +kernel
theorem d_R_addPair_28 : decode prog_9_method_7_code 28 = .ok (.getfield 13, 3) := by decide +kernel
theorem d_R_addPair_31 : decode prog_9_method_7_code 31 = .ok (.invokestatic 20, 3) := by decide +kernel
theorem d_R_addPair_34 : decode prog_9_method_7_code 34 = .ok (.aload_n 3, 1) := by decide +kernel
theorem d_R_addPair_35 : decode prog_9_method_7_code 35 = .ok (.getfield 7, 3) := by decide +kernel
theorem d_R_addPair_38 : decode prog_9_method_7_code 38 = .ok (.iload 4, 2) := by decide +kernel
theorem d_R_addPair_40 : decode prog_9_method_7_code 40 = .ok (.aload_n 3, 1) := by decide +kernel
theorem d_R_addPair_41 : decode prog_9_method_7_code 41 = .ok (.getfield 13, 3) := by decide +kernel
theorem d_R_addPair_44 : decode prog_9_method_7_code 44 = .ok (.imul, 1) := by decide +kernel
theorem d_R_addPair_45 : decode prog_9_method_7_code 45 = .ok (.aload_n 0, 1) := by decide +kernel
theorem d_R_addPair_46 : decode prog_9_method_7_code 46 = .ok (.getfield 7, 3) := by decide +kernel
theorem d_R_addPair_49 : decode prog_9_method_7_code 49 = .ok (.iload 5, 2) := by decide +kernel
theorem d_R_addPair_51 : decode prog_9_method_7_code 51 = .ok (.aload_n 1, 1) := by decide +kernel
theorem d_R_addPair_52 : decode prog_9_method_7_code 52 = .ok (.getfield 13, 3) := by decide +kernel
theorem d_R_addPair_55 : decode prog_9_method_7_code 55 = .ok (.iadd, 1) := by decide +kernel
theorem d_R_addPair_56 : decode prog_9_method_7_code 56 = .ok (.aload_n 3, 1) := by decide +kernel
theorem d_R_addPair_57 : decode prog_9_method_7_code 57 = .ok (.getfield 13, 3) := by decide +kernel
theorem d_R_addPair_60 : decode prog_9_method_7_code 60 = .ok (.invokestatic 20, 3) := by decide +kernel
theorem d_R_addPair_63 : decode prog_9_method_7_code 63 = .ok (.aload_n 0, 1) := by decide +kernel
theorem d_R_addPair_64 : decode prog_9_method_7_code 64 = .ok (.dup, 1) := by decide +kernel
theorem d_R_addPair_65 : decode prog_9_method_7_code 65 = .ok (.getfield 17, 3) := by decide +kernel
theorem d_R_addPair_68 : decode prog_9_method_7_code 68 = .ok (.iconst 1, 1) := by decide +kernel
theorem d_R_addPair_69 : decode prog_9_method_7_code 69 = .ok (.iadd, 1) := by decide +kernel
theorem d_R_addPair_70 : decode prog_9_method_7_code 70 = .ok (.putfield 17, 3) := by decide +kernel
theorem d_R_addPair_73 : decode prog_9_method_7_code 73 = .ok (.return_, 1) := by decide +kernel
def y_R_addInOrder : MethodName := ⟨"BatchPlans$Rows", "addInOrder", "(LBatchPlans$Rows;I)V"⟩
theorem kw_731 : (Jvm.Cond.code ({ cls := "BatchPlans$Rows", name := "addInOrder", desc := "(LBatchPlans$Rows;I)V" } : Jvm.MethodName) prog_9_method_8_code (5 : Nat) (Option.none : Option Jvm.ClassFile.FieldType)) ∈ TB := tb_mem (tb_s4 _ (List.mem_of_getElem? (i := 11) (by decide +kernel))) (by decide +kernel)
theorem d_R_addInOrder_0 : decode prog_9_method_8_code 0 = .ok (.aload_n 0, 1) := by decide +kernel
theorem d_R_addInOrder_1 : decode prog_9_method_8_code 1 = .ok (.getfield 17, 3) := by decide +kernel
theorem d_R_addInOrder_4 : decode prog_9_method_8_code 4 = .ok (.istore_n 3, 1) := by decide +kernel
theorem d_R_addInOrder_5 : decode prog_9_method_8_code 5 = .ok (.iload_n 3, 1) := by decide +kernel
theorem d_R_addInOrder_6 : decode prog_9_method_8_code 6 = .ok (.ifCond .le 21, 3) := by decide +kernel
theorem d_R_addInOrder_9 : decode prog_9_method_8_code 9 = .ok (.aload_n 0, 1) := by decide +kernel
theorem d_R_addInOrder_10 : decode prog_9_method_8_code 10 = .ok (.aload_n 1, 1) := by decide +kernel
theorem d_R_addInOrder_11 : decode prog_9_method_8_code 11 = .ok (.iload_n 2, 1) := by decide +kernel
theorem d_R_addInOrder_12 : decode prog_9_method_8_code 12 = .ok (.iload_n 3, 1) := by decide +kernel
theorem d_R_addInOrder_13 : decode prog_9_method_8_code 13 = .ok (.iconst 1, 1) := by decide +kernel
theorem d_R_addInOrder_14 : decode prog_9_method_8_code 14 = .ok (.isub, 1) := by decide +kernel
theorem d_R_addInOrder_15 : decode prog_9_method_8_code 15 = .ok (.invokevirtual 26, 3) := by decide +kernel
theorem d_R_addInOrder_18 : decode prog_9_method_8_code 18 = .ok (.ifCond .eq 9, 3) := by decide +kernel
theorem d_R_addInOrder_21 : decode prog_9_method_8_code 21 = .ok (.iinc 3 (-1), 3) := by decide +kernel
theorem d_R_addInOrder_24 : decode prog_9_method_8_code 24 = .ok (.goto (-19), 3) := by decide +kernel
theorem d_R_addInOrder_27 : decode prog_9_method_8_code 27 = .ok (.iload_n 3, 1) := by decide +kernel
theorem d_R_addInOrder_28 : decode prog_9_method_8_code 28 = .ok (.aload_n 0, 1) := by decide +kernel
theorem d_R_addInOrder_29 : decode prog_9_method_8_code 29 = .ok (.getfield 13, 3) := by decide +kernel
theorem d_R_addInOrder_32 : decode prog_9_method_8_code 32 = .ok (.imul, 1) := by decide +kernel
theorem d_R_addInOrder_33 : decode prog_9_method_8_code 33 = .ok (.istore 4, 2) := by decide +kernel
theorem d_R_addInOrder_35 : decode prog_9_method_8_code 35 = .ok (.aload_n 0, 1) := by decide +kernel
theorem d_R_addInOrder_36 : decode prog_9_method_8_code 36 = .ok (.getfield 7, 3) := by decide +kernel
theorem d_R_addInOrder_39 : decode prog_9_method_8_code 39 = .ok (.iload 4, 2) := by decide +kernel
theorem d_R_addInOrder_41 : decode prog_9_method_8_code 41 = .ok (.aload_n 0, 1) := by decide +kernel
theorem d_R_addInOrder_42 : decode prog_9_method_8_code 42 = .ok (.getfield 7, 3) := by decide +kernel
theorem d_R_addInOrder_45 : decode prog_9_method_8_code 45 = .ok (.iload 4, 2) := by decide +kernel
theorem d_R_addInOrder_47 : decode prog_9_method_8_code 47 = .ok (.aload_n 0, 1) := by decide +kernel
theorem d_R_addInOrder_48 : decode prog_9_method_8_code 48 = .ok (.getfield 13, 3) := by decide +kernel
theorem d_R_addInOrder_51 : decode prog_9_method_8_code 51 = .ok (.iadd, 1) := by decide +kernel
theorem d_R_addInOrder_52 : decode prog_9_method_8_code 52 = .ok (.aload_n 0, 1) := by decide +kernel
theorem d_R_addInOrder_53 : decode prog_9_method_8_code 53 = .ok (.getfield 17, 3) := by decide +kernel
theorem d_R_addInOrder_56 : decode prog_9_method_8_code 56 = .ok (.iload_n 3, 1) := by decide +kernel
theorem d_R_addInOrder_57 : decode prog_9_method_8_code 57 = .ok (.isub, 1) := by decide +kernel
theorem d_R_addInOrder_58 : decode prog_9_method_8_code 58 = .ok (.aload_n 0, 1) := by decide +kernel
theorem d_R_addInOrder_59 : decode prog_9_method_8_code 59 = .ok (.getfield 13, 3) := by decide +kernel
theorem d_R_addInOrder_62 : decode prog_9_method_8_code 62 = .ok (.imul, 1) := by decide +kernel
theorem d_R_addInOrder_63 : decode prog_9_method_8_code 63 = .ok (.invokestatic 20, 3) := by decide +kernel
theorem d_R_addInOrder_66 : decode prog_9_method_8_code 66 = .ok (.aload_n 1, 1) := by decide +kernel
theorem d_R_addInOrder_67 : decode prog_9_method_8_code 67 = .ok (.getfield 7, 3) := by decide +kernel
theorem d_R_addInOrder_70 : decode prog_9_method_8_code 70 = .ok (.iload_n 2, 1) := by decide +kernel
theorem d_R_addInOrder_71 : decode prog_9_method_8_code 71 = .ok (.aload_n 0, 1) := by decide +kernel
theorem d_R_addInOrder_72 : decode prog_9_method_8_code 72 = .ok (.getfield 13, 3) := by decide +kernel
theorem d_R_addInOrder_75 : decode prog_9_method_8_code 75 = .ok (.imul, 1) := by decide +kernel
theorem d_R_addInOrder_76 : decode prog_9_method_8_code 76 = .ok (.aload_n 0, 1) := by decide +kernel
theorem d_R_addInOrder_77 : decode prog_9_method_8_code 77 = .ok (.getfield 7, 3) := by decide +kernel
theorem d_R_addInOrder_80 : decode prog_9_method_8_code 80 = .ok (.iload 4, 2) := by decide +kernel
theorem d_R_addInOrder_82 : decode prog_9_method_8_code 82 = .ok (.aload_n 0, 1) := by decide +kernel
theorem d_R_addInOrder_83 : decode prog_9_method_8_code 83 = .ok (.getfield 13, 3) := by decide +kernel
theorem d_R_addInOrder_86 : decode prog_9_method_8_code 86 = .ok (.invokestatic 20, 3) := by decide +kernel
theorem d_R_addInOrder_89 : decode prog_9_method_8_code 89 = .ok (.aload_n 0, 1) := by decide +kernel
theorem d_R_addInOrder_90 : decode prog_9_method_8_code 90 = .ok (.dup, 1) := by decide +kernel
theorem d_R_addInOrder_91 : decode prog_9_method_8_code 91 = .ok (.getfield 17, 3) := by decide +kernel
theorem d_R_addInOrder_94 : decode prog_9_method_8_code 94 = .ok (.iconst 1, 1) := by decide +kernel
theorem d_R_addInOrder_95 : decode prog_9_method_8_code 95 = .ok (.iadd, 1) := by decide +kernel
theorem d_R_addInOrder_96 : decode prog_9_method_8_code 96 = .ok (.putfield 17, 3) := by decide +kernel
theorem d_R_addInOrder_99 : decode prog_9_method_8_code 99 = .ok (.return_, 1) := by decide +kernel
def y_JInteger_compare : MethodName := ⟨"java/lang/Integer", "compare", "(II)I"⟩
theorem kw_738 : (Jvm.Cond.code ({ cls := "java/lang/Integer", name := "compare", desc := "(II)I" } : Jvm.MethodName) prog_20_method_40_code (2 : Nat) (Option.some Jvm.ClassFile.FieldType.int)) ∈ TB := tb_mem (tb_s4 _ (List.mem_of_getElem? (i := 18) (by decide +kernel))) (by decide +kernel)
theorem d_JInteger_compare_0 : decode prog_20_method_40_code 0 = .ok (.iload_n 0, 1) := by decide +kernel
theorem d_JInteger_compare_1 : decode prog_20_method_40_code 1 = .ok (.iload_n 1, 1) := by decide +kernel
theorem d_JInteger_compare_2 : decode prog_20_method_40_code 2 = .ok (.if_icmp .ge 7, 3) := by decide +kernel
theorem d_JInteger_compare_5 : decode prog_20_method_40_code 5 = .ok (.iconst (-1), 1) := by decide +kernel
theorem d_JInteger_compare_6 : decode prog_20_method_40_code 6 = .ok (.goto 13, 3) := by decide +kernel
theorem d_JInteger_compare_9 : decode prog_20_method_40_code 9 = .ok (.iload_n 0, 1) := by decide +kernel
theorem d_JInteger_compare_10 : decode prog_20_method_40_code 10 = .ok (.iload_n 1, 1) := by decide +kernel
theorem d_JInteger_compare_11 : decode prog_20_method_40_code 11 = .ok (.if_icmp .ne 7, 3) := by decide +kernel
theorem d_JInteger_compare_14 : decode prog_20_method_40_code 14 = .ok (.iconst 0, 1) := by decide +kernel
theorem d_JInteger_compare_15 : decode prog_20_method_40_code 15 = .ok (.goto 4, 3) := by decide +kernel
theorem d_JInteger_compare_18 : decode prog_20_method_40_code 18 = .ok (.iconst 1, 1) := by decide +kernel
theorem d_JInteger_compare_19 : decode prog_20_method_40_code 19 = .ok (.ireturn, 1) := by decide +kernel
theorem kw_44 : (Jvm.Cond.fieldLink "BatchPlans$Rows" (7 : Nat) "BatchPlans$Rows" "cells" "[I") ∈ TB := tb_mem (tb_s1 _ (List.mem_of_getElem? (i := 44) (by decide +kernel))) (by decide +kernel)
theorem kw_45 : (Jvm.Cond.fieldLink "BatchPlans$Rows" (13 : Nat) "BatchPlans$Rows" "columns" "I") ∈ TB := tb_mem (tb_s1 _ (List.mem_of_getElem? (i := 45) (by decide +kernel))) (by decide +kernel)
theorem kw_47 : (Jvm.Cond.fieldLink "BatchPlans$Rows" (17 : Nat) "BatchPlans$Rows" "count" "I") ∈ TB := tb_mem (tb_s1 _ (List.mem_of_getElem? (i := 47) (by decide +kernel))) (by decide +kernel)
theorem kw_614 : (Jvm.Cond.methodLink "BatchPlans$Rows" (20 : Nat) ({ cls := "java/lang/System", name := "arraycopy", desc := "(Ljava/lang/Object;ILjava/lang/Object;II)V" } : Jvm.MethodName)) ∈ TB := tb_mem (tb_s3 _ (List.mem_of_getElem? (i := 134) (by decide +kernel))) (by decide +kernel)
theorem kw_429 : (Jvm.Cond.native ({ cls := "java/lang/System", name := "arraycopy", desc := "(Ljava/lang/Object;ILjava/lang/Object;II)V" } : Jvm.MethodName)) ∈ TB := tb_mem (tb_s2 _ (List.mem_of_getElem? (i := 189) (by decide +kernel))) (by decide +kernel)
theorem kw_428 : (Jvm.Cond.static ({ cls := "java/lang/System", name := "arraycopy", desc := "(Ljava/lang/Object;ILjava/lang/Object;II)V" } : Jvm.MethodName)) ∈ TB := tb_mem (tb_s2 _ (List.mem_of_getElem? (i := 188) (by decide +kernel))) (by decide +kernel)
theorem kw_19 : (Jvm.Cond.initialized "java/lang/System") ∈ TB := tb_mem (tb_s1 _ (List.mem_of_getElem? (i := 19) (by decide +kernel))) (by decide +kernel)
theorem kw_2 : (Jvm.Cond.initialized "BatchPlans$Rows") ∈ TB := tb_mem (tb_s1 _ (List.mem_of_getElem? (i := 2) (by decide +kernel))) (by decide +kernel)
theorem kw_625 : (Jvm.Cond.methodLink "BatchPlans$Rows" (30 : Nat) ({ cls := "BatchPlans$Rows", name := "at", desc := "(II)I" } : Jvm.MethodName)) ∈ TB := tb_mem (tb_s3 _ (List.mem_of_getElem? (i := 145) (by decide +kernel))) (by decide +kernel)
theorem kw_603 : (Jvm.Cond.instanceMethod ({ cls := "BatchPlans$Rows", name := "at", desc := "(II)I" } : Jvm.MethodName)) ∈ TB := tb_mem (tb_s3 _ (List.mem_of_getElem? (i := 123) (by decide +kernel))) (by decide +kernel)
theorem kw_604 : (Jvm.Cond.selects "BatchPlans$Rows" ({ cls := "BatchPlans$Rows", name := "at", desc := "(II)I" } : Jvm.MethodName) ({ cls := "BatchPlans$Rows", name := "at", desc := "(II)I" } : Jvm.MethodName)) ∈ TB := tb_mem (tb_s3 _ (List.mem_of_getElem? (i := 124) (by decide +kernel))) (by decide +kernel)
theorem kw_27 : (Jvm.Cond.initialized "java/lang/Integer") ∈ TB := tb_mem (tb_s1 _ (List.mem_of_getElem? (i := 27) (by decide +kernel))) (by decide +kernel)
theorem kw_736 : (Jvm.Cond.methodLink "BatchPlans$Rows" (34 : Nat) ({ cls := "java/lang/Integer", name := "compare", desc := "(II)I" } : Jvm.MethodName)) ∈ TB := tb_mem (tb_s4 _ (List.mem_of_getElem? (i := 16) (by decide +kernel))) (by decide +kernel)
theorem kw_737 : (Jvm.Cond.static ({ cls := "java/lang/Integer", name := "compare", desc := "(II)I" } : Jvm.MethodName)) ∈ TB := tb_mem (tb_s4 _ (List.mem_of_getElem? (i := 17) (by decide +kernel))) (by decide +kernel)
theorem kw_732 : (Jvm.Cond.methodLink "BatchPlans$Rows" (26 : Nat) ({ cls := "BatchPlans$Rows", name := "isLess", desc := "(LBatchPlans$Rows;II)Z" } : Jvm.MethodName)) ∈ TB := tb_mem (tb_s4 _ (List.mem_of_getElem? (i := 12) (by decide +kernel))) (by decide +kernel)
theorem kw_734 : (Jvm.Cond.instanceMethod ({ cls := "BatchPlans$Rows", name := "isLess", desc := "(LBatchPlans$Rows;II)Z" } : Jvm.MethodName)) ∈ TB := tb_mem (tb_s4 _ (List.mem_of_getElem? (i := 14) (by decide +kernel))) (by decide +kernel)
theorem ks_BatchPlansRowsisLessLBatchPlansRowsIIZ : Cond.selects "BatchPlans$Rows" ⟨"BatchPlans$Rows", "isLess", "(LBatchPlans$Rows;II)Z"⟩ ⟨"BatchPlans$Rows", "isLess", "(LBatchPlans$Rows;II)Z"⟩ ∈ TB := tb_memS (by decide +kernel) (by decide +kernel)
set_option maxHeartbeats 4000000 in
set_option maxRecDepth 100000 in
theorem c_R_at (l : Launch) {G : hGt} {a0 : Nat} {M : hMp} {h q w n k i c : Nat} {f : Nat → Int32} (hh : M h = some (.inr (0, [.ref q, .int (nI w), .int (nI n)]))) (hq : M q = some (aI G k f)) (hi : i * w + c < k) (hk : k ≤ 65536) : MX l y_R_at TB ({ frames := 0, cells := 0, slots := 0, locals := 0 }) (va_Pc [.ref h, .int (nI i), .int (nI c)] (hU (Ev G a0) G.1 vwCl a0 M)) (hR G.1 vwCl a0 M (fun r => r = some (.int (f (i * w + c)))) (fun _ => False)) 0 0 (fun _ => False) := by
  refine MX.ofW tb_good (by decide) kw_605 (Nat.le_of_ble_eq_true rfl) ?_
  intro p e s m below meth cd ls C0 hr hlk hnm hxt hV hS hl
  have hx := C0.1
  have hb := C0.2.1
  have hK : va_K G.1 vwCl (hT G) s := C0.2.2.2.2.2.1.1
  have hN := C0.2.2.2.2.2.1.2.1
  have hl : lv_has ls 3 [(0, .ref h), (1, .int (nI i)), (2, .int (nI c))] := hl
  refine lv_aload_n hx hb d_R_at_0 rfl (lv_at hl 0 rfl) ?_
  refine hp_get C0 hK cl_R hV hh 0 (by decide) kw_44 (fun _ h => h) rfl d_R_at_1 ?_
  refine lv_iload_n hx hb d_R_at_4 rfl (lv_at hl 1 rfl) ?_
  refine lv_aload_n hx hb d_R_at_5 rfl (lv_at hl 0 rfl) ?_
  refine hp_get C0 hK cl_R hV hh 1 (by decide) kw_45 (fun _ h => h) rfl d_R_at_6 ?_
  refine lv_imul hx hb d_R_at_9 ?_
  refine lv_rei (y := nI (i * w)) (pk_mul _ _) ?_
  refine lv_iload_n hx hb d_R_at_10 rfl (lv_at hl 2 rfl) ?_
  refine lv_iadd hx hb d_R_at_11 ?_
  refine lv_rei (y := nI ((i * w) + c)) (nI_add _ _) ?_
  refine hp_iald C0 hK 0 rfl hV hq ((i * w) + c) rfl hi (by omega) d_R_at_12 ?_
  exact hr_iret C0 hr hlk d_R_at_13 rfl
set_option maxHeartbeats 4000000 in
set_option maxRecDepth 100000 in
theorem c_R_empty (l : Launch) {G : hGt} {a0 : Nat} {M : hMp} {h q : Nat} {w0 n0 w : Int32} (hh : M h = some (.inr (0, [.ref q, .int w0, .int n0]))) : MX l y_R_empty TB ({ frames := 0, cells := 0, slots := 0, locals := 0 }) (va_Pc [.ref h, .int w] (hU (Ev G a0) G.1 vwCl a0 M)) (hQ G.1 vwCl a0 (fun oc M' => oc = .returned none ∧ M' = va_up M h (some (.inr (0, [.ref q, .int w, .int (nI 0)]))))) 0 0 (hA a0) := by
  refine MX.ofW tb_good (by decide) kw_66 (Nat.le_of_ble_eq_true rfl) ?_
  intro p e s m below meth cd ls C0 hr hlk hnm hxt hV hS hl
  have hx := C0.1
  have hb := C0.2.1
  have hK : va_K G.1 vwCl (hT G) s := C0.2.2.2.2.2.1.1
  have hN := C0.2.2.2.2.2.1.2.1
  have hl : lv_has ls 2 [(0, .ref h), (1, .int w)] := hl
  refine lv_aload_n hx hb d_R_empty_0 rfl (lv_at hl 0 rfl) ?_
  refine lv_iload_n hx hb d_R_empty_1 rfl (lv_at hl 1 rfl) ?_
  refine hp_put C0 hK cl_R hV hS hh 1 (by decide) kw_45 (fun _ h => h) rfl rfl rfl (Nat.le_of_ble_eq_true rfl) d_R_empty_2 (fun H locs hV hS => ?_)
  have hV : hv G.1 vwCl a0 (va_up M h (some (.inr (0, [.ref q, .int w, .int n0])))) H := hV
  have hh : (va_up M h (some (.inr (0, [.ref q, .int w, .int n0])))) h = some (.inr (0, [.ref q, .int w, .int n0])) := va_up_self _ _ _
  refine lv_aload_n hx hb d_R_empty_5 rfl (lv_at hl 0 rfl) ?_
  refine lv_iconst (v := nI 0) hx hb d_R_empty_6 (by decide) ?_
  refine hp_put C0 hK cl_R hV hS hh 2 (by decide) kw_47 (fun _ h => h) rfl rfl rfl (Nat.le_of_ble_eq_true rfl) d_R_empty_7 (fun H locs hV hS => ?_)
  have hV : hv G.1 vwCl a0 (va_up (va_up M h (some (.inr (0, [.ref q, .int w, .int n0])))) h (some (.inr (0, [.ref q, .int w, .int (nI 0)])))) H := hV
  have hh : (va_up (va_up M h (some (.inr (0, [.ref q, .int w, .int n0])))) h (some (.inr (0, [.ref q, .int w, .int (nI 0)])))) h = some (.inr (0, [.ref q, .int w, .int (nI 0)])) := va_up_self _ _ _
  exact hx_vret C0 hr hlk hV hS d_R_empty_10 ⟨rfl, bx_uu _ _ _ _⟩
set_option maxHeartbeats 4000000 in
set_option maxRecDepth 100000 in
theorem c_R_put (l : Launch) {G : hGt} {a0 : Nat} {M : hMp} {h q w n k i c : Nat} {f : Nat → Int32} {x : Int32} (hh : M h = some (.inr (0, [.ref q, .int (nI w), .int (nI n)]))) (hq : M q = some (aI G k f)) (hi : i * w + c < k) (hk : k ≤ 65536) : MX l y_R_put TB ({ frames := 0, cells := 0, slots := 0, locals := 0 }) (va_Pc [.ref h, .int (nI i), .int (nI c), .int x] (hU (Ev G a0) G.1 vwCl a0 M)) (hQ G.1 vwCl a0 (fun oc M' => oc = .returned none ∧ M' = va_up M q (some (aI G k (upd f (i * w + c) x))))) 0 0 (hA a0) := by
  refine MX.ofW tb_good (by decide) kw_719 (Nat.le_of_ble_eq_true rfl) ?_
  intro p e s m below meth cd ls C0 hr hlk hnm hxt hV hS hl
  have hx := C0.1
  have hb := C0.2.1
  have hK : va_K G.1 vwCl (hT G) s := C0.2.2.2.2.2.1.1
  have hN := C0.2.2.2.2.2.1.2.1
  have hl : lv_has ls 4 [(0, .ref h), (1, .int (nI i)), (2, .int (nI c)), (3, .int x)] := hl
  refine lv_aload_n hx hb d_R_put_0 rfl (lv_at hl 0 rfl) ?_
  refine hp_get C0 hK cl_R hV hh 0 (by decide) kw_44 (fun _ h => h) rfl d_R_put_1 ?_
  refine lv_iload_n hx hb d_R_put_4 rfl (lv_at hl 1 rfl) ?_
  refine lv_aload_n hx hb d_R_put_5 rfl (lv_at hl 0 rfl) ?_
  refine hp_get C0 hK cl_R hV hh 1 (by decide) kw_45 (fun _ h => h) rfl d_R_put_6 ?_
  refine lv_imul hx hb d_R_put_9 ?_
  refine lv_rei (y := nI (i * w)) (pk_mul _ _) ?_
  refine lv_iload_n hx hb d_R_put_10 rfl (lv_at hl 2 rfl) ?_
  refine lv_iadd hx hb d_R_put_11 ?_
  refine lv_rei (y := nI ((i * w) + c)) (nI_add _ _) ?_
  refine lv_iload_n hx hb d_R_put_12 rfl (lv_at hl 3 rfl) ?_
  refine hp_iast C0 hK 0 rfl hV hS hq ((i * w) + c) rfl hi (by omega) d_R_put_13 (fun H locs hV hS => ?_)
  have hV : hv G.1 vwCl a0 (va_up M q (some (aI G k (upd f ((i * w) + c) x)))) H := hV
  have hh : (va_up M q (some (aI G k (upd f ((i * w) + c) x)))) h = some (.inr (0, [.ref q, .int (nI w), .int (nI n)])) := (va_up_ne _ _ (hm_oa hh hq)).trans hh
  have hq : (va_up M q (some (aI G k (upd f ((i * w) + c) x)))) q = some (aI G k (upd f ((i * w) + c) x)) := va_up_self _ _ _
  exact hx_vret C0 hr hlk hV hS d_R_put_14 ⟨rfl, rfl⟩
set_option maxHeartbeats 4000000 in
set_option maxRecDepth 100000 in
theorem c_R_addThree (l : Launch) {G : hGt} {a0 : Nat} {M : hMp} {h q n k : Nat} {f : Nat → Int32} {x y z : Int32} (hh : M h = some (.inr (0, [.ref q, .int (nI 3), .int (nI n)]))) (hq : M q = some (aI G k f)) (hi : n * 3 + 2 < k) (hk : k ≤ 65536) : MX l y_R_addThree TB ({ frames := 0, cells := 0, slots := 0, locals := 0 }) (va_Pc [.ref h, .int x, .int y, .int z] (hU (Ev G a0) G.1 vwCl a0 M)) (hQ G.1 vwCl a0 (fun oc M' => oc = .returned none ∧ M' = va_up (va_up M q (some (aI G k (upd (upd (upd f (n * 3) x) (n * 3 + 1) y) (n * 3 + 2) z)))) h (some (.inr (0, [.ref q, .int (nI 3), .int (nI (n + 1))]))))) 0 0 (hA a0) := by
  refine MX.ofW tb_good (by decide) kw_307 (Nat.le_of_ble_eq_true rfl) ?_
  intro p e s m below meth cd ls C0 hr hlk hnm hxt hV hS hl
  have hx := C0.1
  have hb := C0.2.1
  have hK : va_K G.1 vwCl (hT G) s := C0.2.2.2.2.2.1.1
  have hN := C0.2.2.2.2.2.1.2.1
  have hl : lv_has ls 5 [(0, .ref h), (1, .int x), (2, .int y), (3, .int z)] := hl
  refine lv_aload_n hx hb d_R_addThree_0 rfl (lv_at hl 0 rfl) ?_
  refine hp_get C0 hK cl_R hV hh 2 (by decide) kw_47 (fun _ h => h) rfl d_R_addThree_1 ?_
  refine lv_aload_n hx hb d_R_addThree_4 rfl (lv_at hl 0 rfl) ?_
  refine hp_get C0 hK cl_R hV hh 1 (by decide) kw_45 (fun _ h => h) rfl d_R_addThree_5 ?_
  refine lv_imul hx hb d_R_addThree_8 ?_
  refine lv_rei (y := nI (n * 3)) (pk_mul _ _) ?_
  refine lv_istore (lv' := [(4, .int (nI (n * 3))), (0, .ref h), (1, .int x), (2, .int y), (3, .int z)]) hx hb d_R_addThree_9 hl (by decide) rfl (fun ls hl => ?_)
  refine lv_aload_n hx hb d_R_addThree_11 rfl (lv_at hl 1 rfl) ?_
  refine hp_get C0 hK cl_R hV hh 0 (by decide) kw_44 (fun _ h => h) rfl d_R_addThree_12 ?_
  refine lv_iload hx hb d_R_addThree_15 (lv_at hl 0 rfl) ?_
  refine lv_iload_n hx hb d_R_addThree_17 rfl (lv_at hl 2 rfl) ?_
  refine hp_iast C0 hK 0 rfl hV hS hq (n * 3) rfl (by omega) (by omega) d_R_addThree_18 (fun H locs hV hS => ?_)
  have hV : hv G.1 vwCl a0 (va_up M q (some (aI G k (upd f (n * 3) x)))) H := hV
  have hh : (va_up M q (some (aI G k (upd f (n * 3) x)))) h = some (.inr (0, [.ref q, .int (nI 3), .int (nI n)])) := (va_up_ne _ _ (hm_oa hh hq)).trans hh
  have hq : (va_up M q (some (aI G k (upd f (n * 3) x)))) q = some (aI G k (upd f (n * 3) x)) := va_up_self _ _ _
  refine lv_aload_n hx hb d_R_addThree_19 rfl (lv_at hl 1 rfl) ?_
  refine hp_get C0 hK cl_R hV hh 0 (by decide) kw_44 (fun _ h => h) rfl d_R_addThree_20 ?_
  refine lv_iload hx hb d_R_addThree_23 (lv_at hl 0 rfl) ?_
  refine lv_iconst (v := nI 1) hx hb d_R_addThree_25 (by decide) ?_
  refine lv_iadd hx hb d_R_addThree_26 ?_
  refine lv_rei (y := nI ((n * 3) + 1)) (nI_add _ _) ?_
  refine lv_iload_n hx hb d_R_addThree_27 rfl (lv_at hl 3 rfl) ?_
  refine hp_iast C0 hK 0 rfl hV hS hq ((n * 3) + 1) rfl (by omega) (by omega) d_R_addThree_28 (fun H locs hV hS => ?_)
  have hV : hv G.1 vwCl a0 (va_up (va_up M q (some (aI G k (upd f (n * 3) x)))) q (some (aI G k (upd (upd f (n * 3) x) ((n * 3) + 1) y)))) H := hV
  have hh : (va_up (va_up M q (some (aI G k (upd f (n * 3) x)))) q (some (aI G k (upd (upd f (n * 3) x) ((n * 3) + 1) y)))) h = some (.inr (0, [.ref q, .int (nI 3), .int (nI n)])) := (va_up_ne _ _ (hm_oa hh hq)).trans hh
  have hq : (va_up (va_up M q (some (aI G k (upd f (n * 3) x)))) q (some (aI G k (upd (upd f (n * 3) x) ((n * 3) + 1) y)))) q = some (aI G k (upd (upd f (n * 3) x) ((n * 3) + 1) y)) := va_up_self _ _ _
  refine lv_aload_n hx hb d_R_addThree_29 rfl (lv_at hl 1 rfl) ?_
  refine hp_get C0 hK cl_R hV hh 0 (by decide) kw_44 (fun _ h => h) rfl d_R_addThree_30 ?_
  refine lv_iload hx hb d_R_addThree_33 (lv_at hl 0 rfl) ?_
  refine lv_iconst (v := nI 2) hx hb d_R_addThree_35 (by decide) ?_
  refine lv_iadd hx hb d_R_addThree_36 ?_
  refine lv_rei (y := nI ((n * 3) + 2)) (nI_add _ _) ?_
  refine lv_iload_n hx hb d_R_addThree_37 rfl (lv_at hl 4 rfl) ?_
  refine hp_iast C0 hK 0 rfl hV hS hq ((n * 3) + 2) rfl (by omega) (by omega) d_R_addThree_38 (fun H locs hV hS => ?_)
  have hV : hv G.1 vwCl a0 (va_up (va_up (va_up M q (some (aI G k (upd f (n * 3) x)))) q (some (aI G k (upd (upd f (n * 3) x) ((n * 3) + 1) y)))) q (some (aI G k (upd (upd (upd f (n * 3) x) ((n * 3) + 1) y) ((n * 3) + 2) z)))) H := hV
  have hh : (va_up (va_up (va_up M q (some (aI G k (upd f (n * 3) x)))) q (some (aI G k (upd (upd f (n * 3) x) ((n * 3) + 1) y)))) q (some (aI G k (upd (upd (upd f (n * 3) x) ((n * 3) + 1) y) ((n * 3) + 2) z)))) h = some (.inr (0, [.ref q, .int (nI 3), .int (nI n)])) := (va_up_ne _ _ (hm_oa hh hq)).trans hh
  have hq : (va_up (va_up (va_up M q (some (aI G k (upd f (n * 3) x)))) q (some (aI G k (upd (upd f (n * 3) x) ((n * 3) + 1) y)))) q (some (aI G k (upd (upd (upd f (n * 3) x) ((n * 3) + 1) y) ((n * 3) + 2) z)))) q = some (aI G k (upd (upd (upd f (n * 3) x) ((n * 3) + 1) y) ((n * 3) + 2) z)) := va_up_self _ _ _
  refine lv_aload_n hx hb d_R_addThree_39 rfl (lv_at hl 1 rfl) ?_
  refine lv_dup hx hb d_R_addThree_40 rfl ?_
  refine hp_get C0 hK cl_R hV hh 2 (by decide) kw_47 (fun _ h => h) rfl d_R_addThree_41 ?_
  refine lv_iconst (v := nI 1) hx hb d_R_addThree_44 (by decide) ?_
  refine lv_iadd hx hb d_R_addThree_45 ?_
  refine lv_rei (y := nI (n + 1)) (nI_add _ _) ?_
  refine hp_put C0 hK cl_R hV hS hh 2 (by decide) kw_47 (fun _ h => h) rfl rfl rfl (Nat.le_of_ble_eq_true rfl) d_R_addThree_46 (fun H locs hV hS => ?_)
  have hV : hv G.1 vwCl a0 (va_up (va_up (va_up (va_up M q (some (aI G k (upd f (n * 3) x)))) q (some (aI G k (upd (upd f (n * 3) x) ((n * 3) + 1) y)))) q (some (aI G k (upd (upd (upd f (n * 3) x) ((n * 3) + 1) y) ((n * 3) + 2) z)))) h (some (.inr (0, [.ref q, .int (nI 3), .int (nI (n + 1))])))) H := hV
  have hq : (va_up (va_up (va_up (va_up M q (some (aI G k (upd f (n * 3) x)))) q (some (aI G k (upd (upd f (n * 3) x) ((n * 3) + 1) y)))) q (some (aI G k (upd (upd (upd f (n * 3) x) ((n * 3) + 1) y) ((n * 3) + 2) z)))) h (some (.inr (0, [.ref q, .int (nI 3), .int (nI (n + 1))])))) q = some (aI G k (upd (upd (upd f (n * 3) x) ((n * 3) + 1) y) ((n * 3) + 2) z)) := (va_up_ne _ _ (hm_ao hq hh)).trans hq
  have hh : (va_up (va_up (va_up (va_up M q (some (aI G k (upd f (n * 3) x)))) q (some (aI G k (upd (upd f (n * 3) x) ((n * 3) + 1) y)))) q (some (aI G k (upd (upd (upd f (n * 3) x) ((n * 3) + 1) y) ((n * 3) + 2) z)))) h (some (.inr (0, [.ref q, .int (nI 3), .int (nI (n + 1))])))) h = some (.inr (0, [.ref q, .int (nI 3), .int (nI (n + 1))])) := va_up_self _ _ _
  exact hx_vret C0 hr hlk hV hS d_R_addThree_49 ⟨rfl, by rw [bx_uu, bx_uu]⟩
set_option maxHeartbeats 4000000 in
set_option maxRecDepth 100000 in
theorem c_R_addCopy (l : Launch) {G : hGt} {a0 : Nat} {M : hMp} {h q h2 q2 w n k k2 i : Nat} {w2 n2 : Int32} {f g : Nat → Int32} (hh : M h = some (.inr (0, [.ref q, .int (nI w), .int (nI n)]))) (hq : M q = some (aI G k f)) (hh2 : M h2 = some (.inr (0, [.ref q2, .int w2, .int n2]))) (hq2 : M q2 = some (aI G k2 g)) (hne : h2 ≠ h) (hnq : q2 ≠ q) (hi : n * w + w ≤ k) (hj : i * w + w ≤ k2) (hk : k ≤ 65536) (hk2 : k2 ≤ 65536) : MX l y_R_addCopy TB ({ frames := 1, cells := 0, slots := 0, locals := 40 }) (va_Pc [.ref h, .ref h2, .int (nI i)] (hU (Ev G a0) G.1 vwCl a0 M)) (hQ G.1 vwCl a0 (fun oc M' => oc = .returned none ∧ M' = va_up (va_up M q (some (aI G k (va_cpy g f (i * w) (n * w) w)))) h (some (.inr (0, [.ref q, .int (nI w), .int (nI (n + 1))]))))) 0 0 (hA a0) := by
  refine MX.ofW tb_good (by decide) kw_613 (Nat.le_of_ble_eq_true rfl) ?_
  intro p e s m below meth cd ls C0 hr hlk hnm hxt hV hS hl
  have hx := C0.1
  have hb := C0.2.1
  have hK : va_K G.1 vwCl (hT G) s := C0.2.2.2.2.2.1.1
  have hN := C0.2.2.2.2.2.1.2.1
  have hl : lv_has ls 3 [(0, .ref h), (1, .ref h2), (2, .int (nI i))] := hl
  refine lv_aload_n hx hb d_R_addCopy_0 rfl (lv_at hl 1 rfl) ?_
  refine hp_get C0 hK cl_R hV hh2 0 (by decide) kw_44 (fun _ h => h) rfl d_R_addCopy_1 ?_
  refine lv_iload_n hx hb d_R_addCopy_4 rfl (lv_at hl 2 rfl) ?_
  refine lv_aload_n hx hb d_R_addCopy_5 rfl (lv_at hl 0 rfl) ?_
  refine hp_get C0 hK cl_R hV hh 1 (by decide) kw_45 (fun _ h => h) rfl d_R_addCopy_6 ?_
  refine lv_imul hx hb d_R_addCopy_9 ?_
  refine lv_rei (y := nI (i * w)) (pk_mul _ _) ?_
  refine lv_aload_n hx hb d_R_addCopy_10 rfl (lv_at hl 0 rfl) ?_
  refine hp_get C0 hK cl_R hV hh 0 (by decide) kw_44 (fun _ h => h) rfl d_R_addCopy_11 ?_
  refine lv_aload_n hx hb d_R_addCopy_14 rfl (lv_at hl 0 rfl) ?_
  refine hp_get C0 hK cl_R hV hh 2 (by decide) kw_47 (fun _ h => h) rfl d_R_addCopy_15 ?_
  refine lv_aload_n hx hb d_R_addCopy_18 rfl (lv_at hl 0 rfl) ?_
  refine hp_get C0 hK cl_R hV hh 1 (by decide) kw_45 (fun _ h => h) rfl d_R_addCopy_19 ?_
  refine lv_imul hx hb d_R_addCopy_22 ?_
  refine lv_rei (y := nI (n * w)) (pk_mul _ _) ?_
  refine lv_aload_n hx hb d_R_addCopy_23 rfl (lv_at hl 0 rfl) ?_
  refine hp_get C0 hK cl_R hV hh 1 (by decide) kw_45 (fun _ h => h) rfl d_R_addCopy_24 ?_
  refine hp_copyi C0 hK hl.1 kw_614 kw_429 kw_428 kw_19 0 rfl hV hS hq2 hq (i * w) (n * w) w rfl rfl rfl hj hi (by omega) (by omega) (Nat.le_of_ble_eq_true rfl) (Nat.le_of_ble_eq_true rfl) d_R_addCopy_27 (fun H locs hV hS => ?_)
  have hV : hv G.1 vwCl a0 (va_up M q (some (aI G k (va_cpy g f (i * w) (n * w) w)))) H := hV
  have hh : (va_up M q (some (aI G k (va_cpy g f (i * w) (n * w) w)))) h = some (.inr (0, [.ref q, .int (nI w), .int (nI n)])) := (va_up_ne _ _ (hm_oa hh hq)).trans hh
  have hh2 : (va_up M q (some (aI G k (va_cpy g f (i * w) (n * w) w)))) h2 = some (.inr (0, [.ref q2, .int w2, .int n2])) := (va_up_ne _ _ (hm_oa hh2 hq)).trans hh2
  have hq2 : (va_up M q (some (aI G k (va_cpy g f (i * w) (n * w) w)))) q2 = some (aI G k2 g) := (va_up_ne _ _ hnq).trans hq2
  have hq : (va_up M q (some (aI G k (va_cpy g f (i * w) (n * w) w)))) q = some (aI G k (va_cpy g f (i * w) (n * w) w)) := va_up_self _ _ _
  refine lv_aload_n hx hb d_R_addCopy_30 rfl (lv_at hl 0 rfl) ?_
  refine lv_dup hx hb d_R_addCopy_31 rfl ?_
  refine hp_get C0 hK cl_R hV hh 2 (by decide) kw_47 (fun _ h => h) rfl d_R_addCopy_32 ?_
  refine lv_iconst (v := nI 1) hx hb d_R_addCopy_35 (by decide) ?_
  refine lv_iadd hx hb d_R_addCopy_36 ?_
  refine lv_rei (y := nI (n + 1)) (nI_add _ _) ?_
  refine hp_put C0 hK cl_R hV hS hh 2 (by decide) kw_47 (fun _ h => h) rfl rfl rfl (Nat.le_of_ble_eq_true rfl) d_R_addCopy_37 (fun H locs hV hS => ?_)
  have hV : hv G.1 vwCl a0 (va_up (va_up M q (some (aI G k (va_cpy g f (i * w) (n * w) w)))) h (some (.inr (0, [.ref q, .int (nI w), .int (nI (n + 1))])))) H := hV
  have hq : (va_up (va_up M q (some (aI G k (va_cpy g f (i * w) (n * w) w)))) h (some (.inr (0, [.ref q, .int (nI w), .int (nI (n + 1))])))) q = some (aI G k (va_cpy g f (i * w) (n * w) w)) := (va_up_ne _ _ (hm_ao hq hh)).trans hq
  have hh2 : (va_up (va_up M q (some (aI G k (va_cpy g f (i * w) (n * w) w)))) h (some (.inr (0, [.ref q, .int (nI w), .int (nI (n + 1))])))) h2 = some (.inr (0, [.ref q2, .int w2, .int n2])) := (va_up_ne _ _ hne).trans hh2
  have hq2 : (va_up (va_up M q (some (aI G k (va_cpy g f (i * w) (n * w) w)))) h (some (.inr (0, [.ref q, .int (nI w), .int (nI (n + 1))])))) q2 = some (aI G k2 g) := (va_up_ne _ _ (hm_ao hq2 hh)).trans hq2
  have hh : (va_up (va_up M q (some (aI G k (va_cpy g f (i * w) (n * w) w)))) h (some (.inr (0, [.ref q, .int (nI w), .int (nI (n + 1))])))) h = some (.inr (0, [.ref q, .int (nI w), .int (nI (n + 1))])) := va_up_self _ _ _
  exact hx_vret C0 hr hlk hV hS d_R_addCopy_40 ⟨rfl, rfl⟩
/-- is x in the column c of the first n rows -/
def hasF (f : Nat → Int32) (w c : Nat) (x : Int32) : Nat → Bool
  | 0 => false
  | i + 1 => hasF f w c x i || decide (f (i * w + c) = x)
theorem hasF_mono {f : Nat → Int32} {w c : Nat} {x : Int32} {i : Nat} (h : hasF f w c x i = true) : ∀ k, hasF f w c x (i + k) = true
  | 0 => h
  | k + 1 => by
    show (hasF f w c x (i + k) || _) = true
    rw [hasF_mono h k]
    rfl
set_option maxHeartbeats 4000000 in
set_option maxRecDepth 100000 in
theorem c_R_has (l : Launch) {G : hGt} {a0 : Nat} {M : hMp} {h q w n k c : Nat} {f : Nat → Int32} {x : Int32} (hh : M h = some (.inr (0, [.ref q, .int (nI w), .int (nI n)]))) (hq : M q = some (aI G k f)) (hc : c < w) (hi : n * w ≤ k) (hk : k ≤ 65536) (hn : n ≤ 65536) : MX l y_R_has TB ({ frames := 1, cells := 0, slots := 0, locals := 40 }) (va_Pc [.ref h, .int (nI c), .int x] (hU (Ev G a0) G.1 vwCl a0 M)) (hR G.1 vwCl a0 M (fun r => r = some (.int (if hasF f w c x n = true then 1 else 0))) (fun _ => False)) 0 0 (fun _ => False) := by
  refine MX.ofW tb_good (by decide) kw_624 (Nat.le_of_ble_eq_true rfl) ?_
  intro p e s m below meth cd ls C0 hr hlk hnm hxt hV hS hl
  have hx := C0.1
  have hb := C0.2.1
  have hK : va_K G.1 vwCl (hT G) s := C0.2.2.2.2.2.1.1
  have hN := C0.2.2.2.2.2.1.2.1
  have hl : lv_has ls 4 [(0, .ref h), (1, .int (nI c)), (2, .int x)] := hl
  refine lv_iconst (v := nI 0) hx hb d_R_has_0 (by decide) ?_
  refine lv_istore_n (lv' := [(3, .int (nI 0)), (0, .ref h), (1, .int (nI c)), (2, .int x)]) hx hb d_R_has_1 rfl hl (by decide) rfl (fun ls hl => ?_)
  refine W.lp (nL := 4) (P := fun j => hasF f w c x j = false) (lv := fun j => [(3, .int (nI j)), (0, .ref h), (1, .int (nI c)), (2, .int x)]) n (fun j ls hj hP hl ih => ?_) 0 ls (Nat.zero_le _) rfl hl
  have hl : lv_has ls 4 [(3, .int (nI j)), (0, .ref h), (1, .int (nI c)), (2, .int x)] := hl
  refine lv_iload_n hx hb d_R_has_2 rfl (lv_at hl 0 rfl) ?_
  refine lv_aload_n hx hb d_R_has_3 rfl (lv_at hl 1 rfl) ?_
  refine hp_get C0 hK cl_R hV hh 2 (by decide) kw_47 (fun _ h => h) rfl d_R_has_4 ?_
  refine nb_ge C0 d_R_has_7 rfl (by omega) (by omega) (fun h1 => ?_) (fun h1 => ?_)
  · have hj0 : j = n := by omega
    subst hj0
    refine lv_iconst (v := 0) hx hb d_R_has_28 (by decide) ?_
    exact hr_zret C0 hr hlk d_R_has_29 rfl (by rw [hP]; rfl)
  · have hin := idx_le (N := k) h1 hc hi
    refine lv_aload_n hx hb d_R_has_10 rfl (lv_at hl 1 rfl) ?_
    refine lv_iload_n hx hb d_R_has_11 rfl (lv_at hl 0 rfl) ?_
    refine lv_iload_n hx hb d_R_has_12 rfl (lv_at hl 2 rfl) ?_
    refine cr_V (C := "BatchPlans$Rows") (host := "") (b := h) (As := [.int (nI j), .int (nI c)]) (rest := []) C0 (ev_keep G a0) (c_R_at l hh hq hin hk) (Cy.of C0.2.2.2.2.1 kw_605 kw_2 2 (by decide +kernel) ⟨(Nat.le_of_ble_eq_true rfl), (Nat.le_of_ble_eq_true rfl)⟩) (C0.ts _ kw_625) kw_603 (C0.ts _ kw_604) hV hS (hp_recv hK hV rfl hh) rfl hl.1 rfl (Nat.le_of_ble_eq_true rfl) d_R_has_13 ⟨(Nat.le_of_ble_eq_true rfl), (Nat.le_of_ble_eq_true rfl)⟩ (fun v hv9 => ?_) (fun x ci H1 h9 => absurd h9 id)
    subst hv9
    refine W.eq (g2 := F0 m 16 ls [.int (f (j * w + c))]) rfl ?_
    refine lv_iload_n hx hb d_R_has_16 rfl (lv_at hl 3 rfl) ?_
    refine lv_icmp_ne (tgt := 22) hx hb d_R_has_17 rfl (fun h2 => ?_) (fun h2 => ?_)
    · have hP1 : hasF f w c x (j + 1) = false := by unfold hasF; rw [hP, decide_eq_false h2]; rfl
      refine lv_iinc (k := 0) (v := nI (j + 1)) (lv' := [(3, .int (nI (j + 1))), (0, .ref h), (1, .int (nI c)), (2, .int x)]) hx hb d_R_has_22 hl rfl (nI_1 _) (by decide) rfl (fun ls hl => ?_)
      refine lv_goto (tgt := 2) hx hb d_R_has_25 rfl ?_
      exact ih ls h1 hP1 hl
    · have hP1 : hasF f w c x (j + 1) = true := by unfold hasF; rw [h2, decide_eq_true rfl, Bool.or_true]
      have hP2 : hasF f w c x n = true := by have := hasF_mono hP1 (n - (j + 1)); rw [show j + 1 + (n - (j + 1)) = n by omega] at this; exact this
      refine lv_iconst (v := 1) hx hb d_R_has_20 (by decide) ?_
      exact hr_zret C0 hr hlk d_R_has_21 rfl (by rw [hP2]; rfl)
def cmpI (x y : Int32) : Int32 := if x < y then -1 else if x = y then 0 else 1
theorem cmpI_3 (x y : Int32) : (x < y ∧ cmpI x y = -1) ∨ (x = y ∧ cmpI x y = 0) ∨ (¬ x < y ∧ ¬ x = y ∧ cmpI x y = 1) := by
  unfold cmpI
  by_cases h1 : x < y
  · exact Or.inl ⟨h1, if_pos h1⟩
  · by_cases h2 : x = y
    · exact Or.inr (Or.inl ⟨h2, by rw [if_neg h1, if_pos h2]⟩)
    · exact Or.inr (Or.inr ⟨h1, h2, by rw [if_neg h1, if_neg h2]⟩)
set_option maxHeartbeats 4000000 in
set_option maxRecDepth 100000 in
theorem c_J_compare (l : Launch) {G : hGt} {a0 : Nat} {M : hMp} {x y : Int32}  : MX l y_JInteger_compare TB ({ frames := 0, cells := 0, slots := 0, locals := 0 }) (va_Pc [.int x, .int y] (hU (Ev G a0) G.1 vwCl a0 M)) (hR G.1 vwCl a0 M (fun r => r = some (.int (cmpI x y))) (fun _ => False)) 0 0 (fun _ => False) := by
  refine MX.ofW tb_good (by decide) kw_738 (Nat.le_of_ble_eq_true rfl) ?_
  intro p e s m below meth cd ls C0 hr hlk hnm hxt hV hS hl
  have hx := C0.1
  have hb := C0.2.1
  have hK : va_K G.1 vwCl (hT G) s := C0.2.2.2.2.2.1.1
  have hN := C0.2.2.2.2.2.1.2.1
  have hl : lv_has ls 2 [(0, .int x), (1, .int y)] := hl
  refine lv_iload_n hx hb d_JInteger_compare_0 rfl (lv_at hl 0 rfl) ?_
  refine lv_iload_n hx hb d_JInteger_compare_1 rfl (lv_at hl 1 rfl) ?_
  refine lv_icmp_ge (tgt := 9) hx hb d_JInteger_compare_2 rfl (fun h1 => ?_) (fun h1 => ?_)
  · have h1 : ¬ x < y := Int32.not_lt.mpr h1
    refine lv_iload_n hx hb d_JInteger_compare_9 rfl (lv_at hl 0 rfl) ?_
    refine lv_iload_n hx hb d_JInteger_compare_10 rfl (lv_at hl 1 rfl) ?_
    refine lv_icmp_ne (tgt := 18) hx hb d_JInteger_compare_11 rfl (fun h2 => ?_) (fun h2 => ?_)
    · have h3 : cmpI x y = 1 := by unfold cmpI; rw [if_neg h1, if_neg h2]
      refine lv_iconst (v := 1) hx hb d_JInteger_compare_18 (by decide) ?_
      exact hr_iret C0 hr hlk d_JInteger_compare_19 (by rw [h3])
    · have h3 : cmpI x y = 0 := by unfold cmpI; rw [if_neg h1, if_pos h2]
      refine lv_iconst (v := 0) hx hb d_JInteger_compare_14 (by decide) ?_
      refine lv_goto (tgt := 19) hx hb d_JInteger_compare_15 rfl ?_
      exact hr_iret C0 hr hlk d_JInteger_compare_19 (by rw [h3])
  · have h1 : x < y := Int32.not_le.mp h1
    have h3 : cmpI x y = -1 := by unfold cmpI; rw [if_pos h1]
    refine lv_iconst (v := -1) hx hb d_JInteger_compare_5 (by decide) ?_
    refine lv_goto (tgt := 19) hx hb d_JInteger_compare_6 rfl ?_
    exact hr_iret C0 hr hlk d_JInteger_compare_19 (by rw [h3])
theorem lessR_step {w j : Nat} {a b : Nat → Int32} (h : j < w) : lessR w a b (w - j) = if a j = b j then lessR w a b (w - (j + 1)) else decide (a j < b j) := by
  have e1 : w - j = (w - (j + 1)) + 1 := by omega
  have e2 : w - ((w - (j + 1)) + 1) = j := by omega
  rw [e1]
  show (if a (w - ((w - (j + 1)) + 1)) = b (w - ((w - (j + 1)) + 1)) then lessR w a b (w - (j + 1)) else decide (a (w - ((w - (j + 1)) + 1)) < b (w - ((w - (j + 1)) + 1)))) = _
  rw [e2]
set_option maxHeartbeats 4000000 in
set_option maxRecDepth 100000 in
theorem c_R_isLess (l : Launch) {G : hGt} {a0 : Nat} {M : hMp} {h q h2 q2 w n n2 k k2 i o : Nat} {f g : Nat → Int32} (hh : M h = some (.inr (0, [.ref q, .int (nI w), .int (nI n)]))) (hq : M q = some (aI G k f)) (hh2 : M h2 = some (.inr (0, [.ref q2, .int (nI w), .int (nI n2)]))) (hq2 : M q2 = some (aI G k2 g)) (ho : o * w + w ≤ k) (hi : i * w + w ≤ k2) (hk : k ≤ 65536) (hk2 : k2 ≤ 65536) (hw : w ≤ 65536) : MX l y_R_isLess TB ({ frames := 1, cells := 0, slots := 0, locals := 40 }) (va_Pc [.ref h, .ref h2, .int (nI i), .int (nI o)] (hU (Ev G a0) G.1 vwCl a0 M)) (hR G.1 vwCl a0 M (fun r => r = some (.int (if lessR w (fun c => g (i * w + c)) (fun c => f (o * w + c)) w = true then 1 else 0))) (fun _ => False)) 0 0 (fun _ => False) := by
  refine MX.ofW tb_good (by decide) kw_735 (Nat.le_of_ble_eq_true rfl) ?_
  intro p e s m below meth cd ls C0 hr hlk hnm hxt hV hS hl
  have hx := C0.1
  have hb := C0.2.1
  have hK : va_K G.1 vwCl (hT G) s := C0.2.2.2.2.2.1.1
  have hN := C0.2.2.2.2.2.1.2.1
  have hl : lv_has ls 6 [(0, .ref h), (1, .ref h2), (2, .int (nI i)), (3, .int (nI o))] := hl
  refine lv_iconst (v := nI 0) hx hb d_R_isLess_0 (by decide) ?_
  refine lv_istore (lv' := [(4, .int (nI 0)), (0, .ref h), (1, .ref h2), (2, .int (nI i)), (3, .int (nI o))]) hx hb d_R_isLess_1 hl (by decide) rfl (fun ls hl => ?_)
  refine W.lp (nL := 6) (P := fun j => lessR w (fun c => g (i * w + c)) (fun c => f (o * w + c)) w = lessR w (fun c => g (i * w + c)) (fun c => f (o * w + c)) (w - j)) (lv := fun j => [(4, .int (nI j)), (0, .ref h), (1, .ref h2), (2, .int (nI i)), (3, .int (nI o))]) w (fun j ls hj hP hl ih => ?_) 0 ls (Nat.zero_le _) rfl hl
  have hl : lv_has ls 6 [(4, .int (nI j)), (0, .ref h), (1, .ref h2), (2, .int (nI i)), (3, .int (nI o))] := hl
  refine lv_iload hx hb d_R_isLess_3 (lv_at hl 0 rfl) ?_
  refine lv_aload_n hx hb d_R_isLess_5 rfl (lv_at hl 1 rfl) ?_
  refine hp_get C0 hK cl_R hV hh 1 (by decide) kw_45 (fun _ h => h) rfl d_R_isLess_6 ?_
  refine nb_ge C0 d_R_isLess_9 rfl (by omega) (by omega) (fun h1 => ?_) (fun h1 => ?_)
  · have hz : w - j = 0 := by omega
    have hP : lessR w (fun c => g (i * w + c)) (fun c => f (o * w + c)) w = false := by rw [hP, hz]; rfl
    refine lv_iconst (v := 0) hx hb d_R_isLess_53 (by decide) ?_
    exact hr_zret C0 hr hlk d_R_isLess_54 rfl (by rw [hP]; rfl)
  · rw [lessR_step h1] at hP
    refine lv_aload_n hx hb d_R_isLess_12 rfl (lv_at hl 2 rfl) ?_
    refine lv_iload_n hx hb d_R_isLess_13 rfl (lv_at hl 3 rfl) ?_
    refine lv_iload hx hb d_R_isLess_14 (lv_at hl 0 rfl) ?_
    refine cr_V (C := "BatchPlans$Rows") (host := "") (b := h2) (As := [.int (nI i), .int (nI j)]) (rest := []) C0 (ev_keep G a0) (c_R_at l hh2 hq2 (show i * w + j < k2 by omega) hk2) (Cy.of C0.2.2.2.2.1 kw_605 kw_2 2 (by decide +kernel) ⟨(Nat.le_of_ble_eq_true rfl), (Nat.le_of_ble_eq_true rfl)⟩) (C0.ts _ kw_625) kw_603 (C0.ts _ kw_604) hV hS (hp_recv hK hV rfl hh2) rfl hl.1 rfl (Nat.le_of_ble_eq_true rfl) d_R_isLess_16 ⟨(Nat.le_of_ble_eq_true rfl), (Nat.le_of_ble_eq_true rfl)⟩ (fun v hv9 => ?_) (fun x ci H1 h9 => absurd h9 id)
    subst hv9
    refine W.eq (g2 := F0 m 19 ls [.int (g (i * w + j))]) rfl ?_
    refine lv_aload_n hx hb d_R_isLess_19 rfl (lv_at hl 1 rfl) ?_
    refine lv_iload_n hx hb d_R_isLess_20 rfl (lv_at hl 4 rfl) ?_
    refine lv_iload hx hb d_R_isLess_21 (lv_at hl 0 rfl) ?_
    refine cr_V (C := "BatchPlans$Rows") (host := "") (b := h) (As := [.int (nI o), .int (nI j)]) (rest := [.int (g (i * w + j))]) C0 (ev_keep G a0) (c_R_at l hh hq (show o * w + j < k by omega) hk) (Cy.of C0.2.2.2.2.1 kw_605 kw_2 2 (by decide +kernel) ⟨(Nat.le_of_ble_eq_true rfl), (Nat.le_of_ble_eq_true rfl)⟩) (C0.ts _ kw_625) kw_603 (C0.ts _ kw_604) hV hS (hp_recv hK hV rfl hh) rfl hl.1 rfl (Nat.le_of_ble_eq_true rfl) d_R_isLess_23 ⟨(Nat.le_of_ble_eq_true rfl), (Nat.le_of_ble_eq_true rfl)⟩ (fun v hv9 => ?_) (fun x ci H1 h9 => absurd h9 id)
    subst hv9
    refine W.eq (g2 := F0 m 26 ls [.int (f (o * w + j)), .int (g (i * w + j))]) rfl ?_
    obtain ⟨mk0, hmk0⟩ := Cond.code_named (C0.ts (args := #[]) _ kw_738)
    refine cr_S (host := "") (vs := [.int (g (i * w + j)), .int (f (o * w + j))]) (rest := []) C0 (ev_keep G a0) (c_J_compare l) (Cy.of C0.2.2.2.2.1 kw_738 kw_27 2 (by decide +kernel) ⟨(Nat.le_of_ble_eq_true rfl), (Nat.le_of_ble_eq_true rfl)⟩) (C0.ts _ kw_736) kw_737 hV hS hmk0 rfl hl.1 rfl (Nat.le_of_ble_eq_true rfl) d_R_isLess_26 ⟨(Nat.le_of_ble_eq_true rfl), (Nat.le_of_ble_eq_true rfl)⟩ (fun v hv9 => ?_) (fun x ci H1 h9 => absurd h9 id)
    subst hv9
    refine W.eq (g2 := F0 m 29 ls [.int (cmpI (g (i * w + j)) (f (o * w + j)))]) rfl ?_
    rcases cmpI_3 (g (i * w + j)) (f (o * w + j)) with ⟨z2, z3⟩ | ⟨z2, z3⟩ | ⟨z2, z4, z3⟩
    · refine lv_rei (y := -1) z3 ?_
      refine lv_istore (lv' := [(5, .int (-1)), (4, .int (nI j)), (0, .ref h), (1, .ref h2), (2, .int (nI i)), (3, .int (nI o))]) hx hb d_R_isLess_29 hl (by decide) rfl (fun ls hl => ?_)
      refine lv_iload hx hb d_R_isLess_31 (lv_at hl 0 rfl) ?_
      refine lv_if_eq (tgt := 47) hx hb d_R_isLess_33 rfl (fun h9 => absurd h9 (by decide)) (fun _ => ?_)
      refine lv_iload hx hb d_R_isLess_36 (lv_at hl 0 rfl) ?_
      refine lv_if_ge (tgt := 45) hx hb d_R_isLess_38 rfl (fun h9 => absurd h9 (by decide)) (fun _ => ?_)
      have hne : ¬ g (i * w + j) = f (o * w + j) := fun z => by rw [z] at z2; exact Int32.lt_irrefl z2
      have hP1 : lessR w (fun c => g (i * w + c)) (fun c => f (o * w + c)) w = true := by rw [hP, if_neg hne]; exact decide_eq_true z2
      refine lv_iconst (v := 1) hx hb d_R_isLess_41 (by decide) ?_
      refine lv_goto (tgt := 46) hx hb d_R_isLess_42 rfl ?_
      exact hr_zret C0 hr hlk d_R_isLess_46 rfl (by rw [hP1]; rfl)
    · refine lv_rei (y := 0) z3 ?_
      refine lv_istore (lv' := [(5, .int 0), (4, .int (nI j)), (0, .ref h), (1, .ref h2), (2, .int (nI i)), (3, .int (nI o))]) hx hb d_R_isLess_29 hl (by decide) rfl (fun ls hl => ?_)
      refine lv_iload hx hb d_R_isLess_31 (lv_at hl 0 rfl) ?_
      refine lv_if_eq (tgt := 47) hx hb d_R_isLess_33 rfl (fun _ => ?_) (fun h9 => absurd rfl h9)
      have hP1 : lessR w (fun c => g (i * w + c)) (fun c => f (o * w + c)) w = lessR w (fun c => g (i * w + c)) (fun c => f (o * w + c)) (w - (j + 1)) := by rw [hP, if_pos z2]
      refine lv_iinc (k := 1) (v := nI (j + 1)) (lv' := [(4, .int (nI (j + 1))), (5, .int 0), (0, .ref h), (1, .ref h2), (2, .int (nI i)), (3, .int (nI o))]) hx hb d_R_isLess_47 hl rfl (nI_1 _) (by decide) rfl (fun ls hl => ?_)
      refine lv_goto (tgt := 3) hx hb d_R_isLess_50 rfl ?_
      have hl : lv_has ls 6 [(4, .int (nI (j + 1))), (0, .ref h), (1, .ref h2), (2, .int (nI i)), (3, .int (nI o))] := lv_sub hl [0, 2, 3, 4, 5] rfl
      exact ih ls h1 hP1 hl
    · refine lv_rei (y := 1) z3 ?_
      refine lv_istore (lv' := [(5, .int 1), (4, .int (nI j)), (0, .ref h), (1, .ref h2), (2, .int (nI i)), (3, .int (nI o))]) hx hb d_R_isLess_29 hl (by decide) rfl (fun ls hl => ?_)
      refine lv_iload hx hb d_R_isLess_31 (lv_at hl 0 rfl) ?_
      refine lv_if_eq (tgt := 47) hx hb d_R_isLess_33 rfl (fun h9 => absurd h9 (by decide)) (fun _ => ?_)
      refine lv_iload hx hb d_R_isLess_36 (lv_at hl 0 rfl) ?_
      refine lv_if_ge (tgt := 45) hx hb d_R_isLess_38 rfl (fun _ => ?_) (fun h9 => absurd (by decide) h9)
      have hP1 : lessR w (fun c => g (i * w + c)) (fun c => f (o * w + c)) w = false := by rw [hP, if_neg z4]; exact decide_eq_false z2
      refine lv_iconst (v := 0) hx hb d_R_isLess_45 (by decide) ?_
      exact hr_zret C0 hr hlk d_R_isLess_46 rfl (by rw [hP1]; rfl)
set_option maxHeartbeats 4000000 in
set_option maxRecDepth 100000 in
theorem c_R_addPair (l : Launch) {G : hGt} {a0 : Nat} {M : hMp} {h q x1 y1 x2 y2 w n k w1 k1 w2 k2 i j : Nat} {n1 n2 : Int32} {f g1 g2 : Nat → Int32} (hh : M h = some (.inr (0, [.ref q, .int (nI w), .int (nI n)]))) (hq : M q = some (aI G k f)) (hx1 : M x1 = some (.inr (0, [.ref y1, .int (nI w1), .int n1]))) (hy1 : M y1 = some (aI G k1 g1)) (hx2 : M x2 = some (.inr (0, [.ref y2, .int (nI w2), .int n2]))) (hy2 : M y2 = some (aI G k2 g2)) (ne1 : x1 ≠ h) (ne2 : x2 ≠ h) (nq1 : y1 ≠ q) (nq2 : y2 ≠ q) (ho : n * w + w1 + w2 ≤ k) (hi : i * w1 + w1 ≤ k1) (hj : j * w2 + w2 ≤ k2) (hk : k ≤ 65536) (hk1 : k1 ≤ 65536) (hk2 : k2 ≤ 65536) : MX l y_R_addPair TB ({ frames := 1, cells := 0, slots := 0, locals := 40 }) (va_Pc [.ref h, .ref x1, .int (nI i), .ref x2, .int (nI j)] (hU (Ev G a0) G.1 vwCl a0 M)) (hQ G.1 vwCl a0 (fun oc M' => oc = .returned none ∧ M' = va_up (va_up M q (some (aI G k (va_cpy g2 (va_cpy g1 f (i * w1) (n * w) w1) (j * w2) (n * w + w1) w2)))) h (some (.inr (0, [.ref q, .int (nI w), .int (nI (n + 1))]))))) 0 0 (hA a0) := by
  refine MX.ofW tb_good (by decide) kw_698 (Nat.le_of_ble_eq_true rfl) ?_
  intro p e s m below meth cd ls C0 hr hlk hnm hxt hV hS hl
  have hx := C0.1
  have hb := C0.2.1
  have hK : va_K G.1 vwCl (hT G) s := C0.2.2.2.2.2.1.1
  have hN := C0.2.2.2.2.2.1.2.1
  have hl : lv_has ls 6 [(0, .ref h), (1, .ref x1), (2, .int (nI i)), (3, .ref x2), (4, .int (nI j))] := hl
  refine lv_aload_n hx hb d_R_addPair_0 rfl (lv_at hl 0 rfl) ?_
  refine hp_get C0 hK cl_R hV hh 2 (by decide) kw_47 (fun _ h => h) rfl d_R_addPair_1 ?_
  refine lv_aload_n hx hb d_R_addPair_4 rfl (lv_at hl 0 rfl) ?_
  refine hp_get C0 hK cl_R hV hh 1 (by decide) kw_45 (fun _ h => h) rfl d_R_addPair_5 ?_
  refine lv_imul hx hb d_R_addPair_8 ?_
  refine lv_rei (y := nI (n * w)) (pk_mul _ _) ?_
  refine lv_istore (lv' := [(5, .int (nI (n * w))), (0, .ref h), (1, .ref x1), (2, .int (nI i)), (3, .ref x2), (4, .int (nI j))]) hx hb d_R_addPair_9 hl (by decide) rfl (fun ls hl => ?_)
  refine lv_aload_n hx hb d_R_addPair_11 rfl (lv_at hl 2 rfl) ?_
  refine hp_get C0 hK cl_R hV hx1 0 (by decide) kw_44 (fun _ h => h) rfl d_R_addPair_12 ?_
  refine lv_iload_n hx hb d_R_addPair_15 rfl (lv_at hl 3 rfl) ?_
  refine lv_aload_n hx hb d_R_addPair_16 rfl (lv_at hl 2 rfl) ?_
  refine hp_get C0 hK cl_R hV hx1 1 (by decide) kw_45 (fun _ h => h) rfl d_R_addPair_17 ?_
  refine lv_imul hx hb d_R_addPair_20 ?_
  refine lv_rei (y := nI (i * w1)) (pk_mul _ _) ?_
  refine lv_aload_n hx hb d_R_addPair_21 rfl (lv_at hl 1 rfl) ?_
  refine hp_get C0 hK cl_R hV hh 0 (by decide) kw_44 (fun _ h => h) rfl d_R_addPair_22 ?_
  refine lv_iload hx hb d_R_addPair_25 (lv_at hl 0 rfl) ?_
  refine lv_aload_n hx hb d_R_addPair_27 rfl (lv_at hl 2 rfl) ?_
  refine hp_get C0 hK cl_R hV hx1 1 (by decide) kw_45 (fun _ h => h) rfl d_R_addPair_28 ?_
  refine hp_copyi C0 hK hl.1 kw_614 kw_429 kw_428 kw_19 0 rfl hV hS hy1 hq (i * w1) (n * w) w1 rfl rfl rfl hi (by omega) (by omega) (by omega) (Nat.le_of_ble_eq_true rfl) (Nat.le_of_ble_eq_true rfl) d_R_addPair_31 (fun H locs hV hS => ?_)
  have hV : hv G.1 vwCl a0 (va_up M q (some (aI G k (va_cpy g1 f (i * w1) (n * w) w1)))) H := hV
  have hh : (va_up M q (some (aI G k (va_cpy g1 f (i * w1) (n * w) w1)))) h = some (.inr (0, [.ref q, .int (nI w), .int (nI n)])) := (va_up_ne _ _ (hm_oa hh hq)).trans hh
  have hx1 : (va_up M q (some (aI G k (va_cpy g1 f (i * w1) (n * w) w1)))) x1 = some (.inr (0, [.ref y1, .int (nI w1), .int n1])) := (va_up_ne _ _ (hm_oa hx1 hq)).trans hx1
  have hy1 : (va_up M q (some (aI G k (va_cpy g1 f (i * w1) (n * w) w1)))) y1 = some (aI G k1 g1) := (va_up_ne _ _ nq1).trans hy1
  have hx2 : (va_up M q (some (aI G k (va_cpy g1 f (i * w1) (n * w) w1)))) x2 = some (.inr (0, [.ref y2, .int (nI w2), .int n2])) := (va_up_ne _ _ (hm_oa hx2 hq)).trans hx2
  have hy2 : (va_up M q (some (aI G k (va_cpy g1 f (i * w1) (n * w) w1)))) y2 = some (aI G k2 g2) := (va_up_ne _ _ nq2).trans hy2
  have hq : (va_up M q (some (aI G k (va_cpy g1 f (i * w1) (n * w) w1)))) q = some (aI G k (va_cpy g1 f (i * w1) (n * w) w1)) := va_up_self _ _ _
  refine lv_aload_n hx hb d_R_addPair_34 rfl (lv_at hl 4 rfl) ?_
  refine hp_get C0 hK cl_R hV hx2 0 (by decide) kw_44 (fun _ h => h) rfl d_R_addPair_35 ?_
  refine lv_iload hx hb d_R_addPair_38 (lv_at hl 5 rfl) ?_
  refine lv_aload_n hx hb d_R_addPair_40 rfl (lv_at hl 4 rfl) ?_
  refine hp_get C0 hK cl_R hV hx2 1 (by decide) kw_45 (fun _ h => h) rfl d_R_addPair_41 ?_
  refine lv_imul hx hb d_R_addPair_44 ?_
  refine lv_rei (y := nI (j * w2)) (pk_mul _ _) ?_
  refine lv_aload_n hx hb d_R_addPair_45 rfl (lv_at hl 1 rfl) ?_
  refine hp_get C0 hK cl_R hV hh 0 (by decide) kw_44 (fun _ h => h) rfl d_R_addPair_46 ?_
  refine lv_iload hx hb d_R_addPair_49 (lv_at hl 0 rfl) ?_
  refine lv_aload_n hx hb d_R_addPair_51 rfl (lv_at hl 2 rfl) ?_
  refine hp_get C0 hK cl_R hV hx1 1 (by decide) kw_45 (fun _ h => h) rfl d_R_addPair_52 ?_
  refine lv_iadd hx hb d_R_addPair_55 ?_
  refine lv_rei (y := nI ((n * w) + w1)) (nI_add _ _) ?_
  refine lv_aload_n hx hb d_R_addPair_56 rfl (lv_at hl 4 rfl) ?_
  refine hp_get C0 hK cl_R hV hx2 1 (by decide) kw_45 (fun _ h => h) rfl d_R_addPair_57 ?_
  refine hp_copyi C0 hK hl.1 kw_614 kw_429 kw_428 kw_19 0 rfl hV hS hy2 hq (j * w2) ((n * w) + w1) w2 rfl rfl rfl hj (by omega) (by omega) (by omega) (Nat.le_of_ble_eq_true rfl) (Nat.le_of_ble_eq_true rfl) d_R_addPair_60 (fun H locs hV hS => ?_)
  have hV : hv G.1 vwCl a0 (va_up (va_up M q (some (aI G k (va_cpy g1 f (i * w1) (n * w) w1)))) q (some (aI G k (va_cpy g2 (va_cpy g1 f (i * w1) (n * w) w1) (j * w2) ((n * w) + w1) w2)))) H := hV
  have hh : (va_up (va_up M q (some (aI G k (va_cpy g1 f (i * w1) (n * w) w1)))) q (some (aI G k (va_cpy g2 (va_cpy g1 f (i * w1) (n * w) w1) (j * w2) ((n * w) + w1) w2)))) h = some (.inr (0, [.ref q, .int (nI w), .int (nI n)])) := (va_up_ne _ _ (hm_oa hh hq)).trans hh
  have hx1 : (va_up (va_up M q (some (aI G k (va_cpy g1 f (i * w1) (n * w) w1)))) q (some (aI G k (va_cpy g2 (va_cpy g1 f (i * w1) (n * w) w1) (j * w2) ((n * w) + w1) w2)))) x1 = some (.inr (0, [.ref y1, .int (nI w1), .int n1])) := (va_up_ne _ _ (hm_oa hx1 hq)).trans hx1
  have hy1 : (va_up (va_up M q (some (aI G k (va_cpy g1 f (i * w1) (n * w) w1)))) q (some (aI G k (va_cpy g2 (va_cpy g1 f (i * w1) (n * w) w1) (j * w2) ((n * w) + w1) w2)))) y1 = some (aI G k1 g1) := (va_up_ne _ _ nq1).trans hy1
  have hx2 : (va_up (va_up M q (some (aI G k (va_cpy g1 f (i * w1) (n * w) w1)))) q (some (aI G k (va_cpy g2 (va_cpy g1 f (i * w1) (n * w) w1) (j * w2) ((n * w) + w1) w2)))) x2 = some (.inr (0, [.ref y2, .int (nI w2), .int n2])) := (va_up_ne _ _ (hm_oa hx2 hq)).trans hx2
  have hy2 : (va_up (va_up M q (some (aI G k (va_cpy g1 f (i * w1) (n * w) w1)))) q (some (aI G k (va_cpy g2 (va_cpy g1 f (i * w1) (n * w) w1) (j * w2) ((n * w) + w1) w2)))) y2 = some (aI G k2 g2) := (va_up_ne _ _ nq2).trans hy2
  have hq : (va_up (va_up M q (some (aI G k (va_cpy g1 f (i * w1) (n * w) w1)))) q (some (aI G k (va_cpy g2 (va_cpy g1 f (i * w1) (n * w) w1) (j * w2) ((n * w) + w1) w2)))) q = some (aI G k (va_cpy g2 (va_cpy g1 f (i * w1) (n * w) w1) (j * w2) ((n * w) + w1) w2)) := va_up_self _ _ _
  refine lv_aload_n hx hb d_R_addPair_63 rfl (lv_at hl 1 rfl) ?_
  refine lv_dup hx hb d_R_addPair_64 rfl ?_
  refine hp_get C0 hK cl_R hV hh 2 (by decide) kw_47 (fun _ h => h) rfl d_R_addPair_65 ?_
  refine lv_iconst (v := nI 1) hx hb d_R_addPair_68 (by decide) ?_
  refine lv_iadd hx hb d_R_addPair_69 ?_
  refine lv_rei (y := nI (n + 1)) (nI_add _ _) ?_
  refine hp_put C0 hK cl_R hV hS hh 2 (by decide) kw_47 (fun _ h => h) rfl rfl rfl (Nat.le_of_ble_eq_true rfl) d_R_addPair_70 (fun H locs hV hS => ?_)
  have hV : hv G.1 vwCl a0 (va_up (va_up (va_up M q (some (aI G k (va_cpy g1 f (i * w1) (n * w) w1)))) q (some (aI G k (va_cpy g2 (va_cpy g1 f (i * w1) (n * w) w1) (j * w2) ((n * w) + w1) w2)))) h (some (.inr (0, [.ref q, .int (nI w), .int (nI (n + 1))])))) H := hV
  have hq : (va_up (va_up (va_up M q (some (aI G k (va_cpy g1 f (i * w1) (n * w) w1)))) q (some (aI G k (va_cpy g2 (va_cpy g1 f (i * w1) (n * w) w1) (j * w2) ((n * w) + w1) w2)))) h (some (.inr (0, [.ref q, .int (nI w), .int (nI (n + 1))])))) q = some (aI G k (va_cpy g2 (va_cpy g1 f (i * w1) (n * w) w1) (j * w2) ((n * w) + w1) w2)) := (va_up_ne _ _ (hm_ao hq hh)).trans hq
  have hx1 : (va_up (va_up (va_up M q (some (aI G k (va_cpy g1 f (i * w1) (n * w) w1)))) q (some (aI G k (va_cpy g2 (va_cpy g1 f (i * w1) (n * w) w1) (j * w2) ((n * w) + w1) w2)))) h (some (.inr (0, [.ref q, .int (nI w), .int (nI (n + 1))])))) x1 = some (.inr (0, [.ref y1, .int (nI w1), .int n1])) := (va_up_ne _ _ ne1).trans hx1
  have hy1 : (va_up (va_up (va_up M q (some (aI G k (va_cpy g1 f (i * w1) (n * w) w1)))) q (some (aI G k (va_cpy g2 (va_cpy g1 f (i * w1) (n * w) w1) (j * w2) ((n * w) + w1) w2)))) h (some (.inr (0, [.ref q, .int (nI w), .int (nI (n + 1))])))) y1 = some (aI G k1 g1) := (va_up_ne _ _ (hm_ao hy1 hh)).trans hy1
  have hx2 : (va_up (va_up (va_up M q (some (aI G k (va_cpy g1 f (i * w1) (n * w) w1)))) q (some (aI G k (va_cpy g2 (va_cpy g1 f (i * w1) (n * w) w1) (j * w2) ((n * w) + w1) w2)))) h (some (.inr (0, [.ref q, .int (nI w), .int (nI (n + 1))])))) x2 = some (.inr (0, [.ref y2, .int (nI w2), .int n2])) := (va_up_ne _ _ ne2).trans hx2
  have hy2 : (va_up (va_up (va_up M q (some (aI G k (va_cpy g1 f (i * w1) (n * w) w1)))) q (some (aI G k (va_cpy g2 (va_cpy g1 f (i * w1) (n * w) w1) (j * w2) ((n * w) + w1) w2)))) h (some (.inr (0, [.ref q, .int (nI w), .int (nI (n + 1))])))) y2 = some (aI G k2 g2) := (va_up_ne _ _ (hm_ao hy2 hh)).trans hy2
  have hh : (va_up (va_up (va_up M q (some (aI G k (va_cpy g1 f (i * w1) (n * w) w1)))) q (some (aI G k (va_cpy g2 (va_cpy g1 f (i * w1) (n * w) w1) (j * w2) ((n * w) + w1) w2)))) h (some (.inr (0, [.ref q, .int (nI w), .int (nI (n + 1))])))) h = some (.inr (0, [.ref q, .int (nI w), .int (nI (n + 1))])) := va_up_self _ _ _
  exact hx_vret C0 hr hlk hV hS d_R_addPair_73 ⟨rfl, by rw [bx_uu]⟩
set_option maxHeartbeats 4000000 in
set_option maxRecDepth 100000 in
theorem c_R_addInOrder (l : Launch) {G : hGt} {a0 : Nat} {M : hMp} {h q x1 y1 w n k n1 k1 i z0 : Nat} {f g : Nat → Int32} (hh : M h = some (.inr (0, [.ref q, .int (nI w), .int (nI n)]))) (hq : M q = some (aI G k f)) (hx1 : M x1 = some (.inr (0, [.ref y1, .int (nI w), .int (nI n1)]))) (hy1 : M y1 = some (aI G k1 g)) (ne1 : x1 ≠ h) (nq1 : y1 ≠ q) (hz0 : z0 = placeR w (fun a c => f (a * w + c)) (fun c => g (i * w + c)) n) (ho : n * w + w ≤ k) (hi : i * w + w ≤ k1) (hk : k ≤ 65536) (hk1 : k1 ≤ 65536) (hw : w ≤ 65536) (hn : n ≤ 65536) : MX l y_R_addInOrder TB ({ frames := 2, cells := 0, slots := 0, locals := 80 }) (va_Pc [.ref h, .ref x1, .int (nI i)] (hU (Ev G a0) G.1 vwCl a0 M)) (hQ G.1 vwCl a0 (fun oc M' => oc = .returned none ∧ M' = va_up (va_up M q (some (aI G k (va_cpy g (va_cpy f f (z0 * w) (z0 * w + w) ((n - z0) * w)) (i * w) (z0 * w) w)))) h (some (.inr (0, [.ref q, .int (nI w), .int (nI (n + 1))]))))) 0 0 (hA a0) := by
  refine MX.ofW tb_good (by decide) kw_731 (Nat.le_of_ble_eq_true rfl) ?_
  intro p e s m below meth cd ls C0 hr hlk hnm hxt hV hS hl
  have hx := C0.1
  have hb := C0.2.1
  have hK : va_K G.1 vwCl (hT G) s := C0.2.2.2.2.2.1.1
  have hN := C0.2.2.2.2.2.1.2.1
  have hl : lv_has ls 5 [(0, .ref h), (1, .ref x1), (2, .int (nI i))] := hl
  refine lv_aload_n hx hb d_R_addInOrder_0 rfl (lv_at hl 0 rfl) ?_
  refine hp_get C0 hK cl_R hV hh 2 (by decide) kw_47 (fun _ h => h) rfl d_R_addInOrder_1 ?_
  refine lv_istore_n (lv' := [(3, .int (nI n)), (0, .ref h), (1, .ref x1), (2, .int (nI i))]) hx hb d_R_addInOrder_4 rfl hl (by decide) rfl (fun ls hl => ?_)
  refine W.lpx (nL := 5) (P := fun j => placeR w (fun a c => f (a * w + c)) (fun c => g (i * w + c)) n = placeR w (fun a c => f (a * w + c)) (fun c => g (i * w + c)) (n - j)) (E := fun j => placeR w (fun a c => f (a * w + c)) (fun c => g (i * w + c)) n = n - j) (lv := fun j => [(3, .int (nI (n - j))), (0, .ref h), (1, .ref x1), (2, .int (nI i))]) (pcx := 27) n (fun j ls hj hP hl ih ex => ?_) 0 ls (Nat.zero_le _) rfl hl (fun j ls hj hE hl => ?_)
  · have hl : lv_has ls 5 [(3, .int (nI (n - j))), (0, .ref h), (1, .ref x1), (2, .int (nI i))] := hl
    refine lv_iload_n hx hb d_R_addInOrder_5 rfl (lv_at hl 0 rfl) ?_
    refine nb_z_le C0 d_R_addInOrder_6 rfl (by omega) (fun h1 => ?_) (fun h1 => ?_)
    · exact ex ls (by rw [hP, h1]; rfl) hl
    · have hs1 : n - j = (n - (j + 1)) + 1 := by omega
      have hoo : (n - (j + 1)) * w + w ≤ k := Nat.le_trans (by rw [← Nat.succ_mul]; exact Nat.mul_le_mul_right w (by omega)) (show n * w ≤ k by omega)
      refine lv_aload_n hx hb d_R_addInOrder_9 rfl (lv_at hl 1 rfl) ?_
      refine lv_aload_n hx hb d_R_addInOrder_10 rfl (lv_at hl 2 rfl) ?_
      refine lv_iload_n hx hb d_R_addInOrder_11 rfl (lv_at hl 3 rfl) ?_
      refine lv_iload_n hx hb d_R_addInOrder_12 rfl (lv_at hl 0 rfl) ?_
      refine lv_iconst (v := nI 1) hx hb d_R_addInOrder_13 (by decide) ?_
      refine lv_isub hx hb d_R_addInOrder_14 ?_
      refine lv_rei (y := nI (n - (j + 1))) (by rw [pk_sub (by omega)]; rfl) ?_
      refine cr_V (C := "BatchPlans$Rows") (host := "") (b := h) (As := [.ref x1, .int (nI i), .int (nI (n - (j + 1)))]) (rest := []) C0 (ev_keep G a0) (c_R_isLess l hh hq hx1 hy1 hoo hi hk hk1 hw) (Cy.of C0.2.2.2.2.1 kw_735 kw_2 3 (by decide +kernel) ⟨(Nat.le_of_ble_eq_true rfl), (Nat.le_of_ble_eq_true rfl)⟩) (C0.ts _ kw_732) kw_734 (C0.ts _ ks_BatchPlansRowsisLessLBatchPlansRowsIIZ) hV hS (hp_recv hK hV rfl hh) rfl hl.1 rfl (Nat.le_of_ble_eq_true rfl) d_R_addInOrder_15 ⟨(Nat.le_of_ble_eq_true rfl), (Nat.le_of_ble_eq_true rfl)⟩ (fun v hv9 => ?_) (fun x ci H1 h9 => absurd h9 id)
      subst hv9
      refine W.eq (g2 := F0 m 18 ls [.int (if lessR w (fun c => g (i * w + c)) (fun c => f ((n - (j + 1)) * w + c)) w = true then 1 else 0)]) rfl ?_
      by_cases h2 : lessR w (fun c => g (i * w + c)) (fun c => f ((n - (j + 1)) * w + c)) w = true
      · refine lv_rei (y := 1) (if_pos h2) ?_
        refine lv_if_eq (tgt := 27) hx hb d_R_addInOrder_18 rfl (fun h9 => absurd h9 (by decide)) (fun _ => ?_)
        refine lv_iinc (k := 0) (v := nI (n - (j + 1))) (lv' := [(3, .int (nI (n - (j + 1)))), (0, .ref h), (1, .ref x1), (2, .int (nI i))]) hx hb d_R_addInOrder_21 hl rfl (by rw [hs1]; exact pk_m1 _) (by decide) rfl (fun ls hl => ?_)
        refine lv_goto (tgt := 5) hx hb d_R_addInOrder_24 rfl ?_
        exact ih ls (by omega) (by rw [hP, hs1]; show (if _ then _ else _) = _; rw [if_pos h2]) hl
      · refine lv_rei (y := 0) (if_neg h2) ?_
        refine lv_if_eq (tgt := 27) hx hb d_R_addInOrder_18 rfl (fun _ => ?_) (fun h9 => absurd rfl h9)
        exact ex ls (by rw [hP, hs1]; show (if _ then _ else _) = _; rw [if_neg h2]) hl
  · have ez : n - j = z0 := by rw [hz0]; exact hE.symm
    have hl : lv_has ls 5 [(3, .int (nI z0)), (0, .ref h), (1, .ref x1), (2, .int (nI i))] := by rw [← ez]; exact hl
    have hzn : z0 ≤ n := by omega
    have hzw : z0 * w + (n - z0) * w = n * w := by rw [← Nat.add_mul]; congr 1; omega
    refine lv_iload_n hx hb d_R_addInOrder_27 rfl (lv_at hl 0 rfl) ?_
    refine lv_aload_n hx hb d_R_addInOrder_28 rfl (lv_at hl 1 rfl) ?_
    refine hp_get C0 hK cl_R hV hh 1 (by decide) kw_45 (fun _ h => h) rfl d_R_addInOrder_29 ?_
    refine lv_imul hx hb d_R_addInOrder_32 ?_
    refine lv_rei (y := nI (z0 * w)) (pk_mul _ _) ?_
    refine lv_istore (lv' := [(4, .int (nI (z0 * w))), (3, .int (nI z0)), (0, .ref h), (1, .ref x1), (2, .int (nI i))]) hx hb d_R_addInOrder_33 hl (by decide) rfl (fun ls hl => ?_)
    refine lv_aload_n hx hb d_R_addInOrder_35 rfl (lv_at hl 2 rfl) ?_
    refine hp_get C0 hK cl_R hV hh 0 (by decide) kw_44 (fun _ h => h) rfl d_R_addInOrder_36 ?_
    refine lv_iload hx hb d_R_addInOrder_39 (lv_at hl 0 rfl) ?_
    refine lv_aload_n hx hb d_R_addInOrder_41 rfl (lv_at hl 2 rfl) ?_
    refine hp_get C0 hK cl_R hV hh 0 (by decide) kw_44 (fun _ h => h) rfl d_R_addInOrder_42 ?_
    refine lv_iload hx hb d_R_addInOrder_45 (lv_at hl 0 rfl) ?_
    refine lv_aload_n hx hb d_R_addInOrder_47 rfl (lv_at hl 2 rfl) ?_
    refine hp_get C0 hK cl_R hV hh 1 (by decide) kw_45 (fun _ h => h) rfl d_R_addInOrder_48 ?_
    refine lv_iadd hx hb d_R_addInOrder_51 ?_
    refine lv_rei (y := nI ((z0 * w) + w)) (nI_add _ _) ?_
    refine lv_aload_n hx hb d_R_addInOrder_52 rfl (lv_at hl 2 rfl) ?_
    refine hp_get C0 hK cl_R hV hh 2 (by decide) kw_47 (fun _ h => h) rfl d_R_addInOrder_53 ?_
    refine lv_iload_n hx hb d_R_addInOrder_56 rfl (lv_at hl 1 rfl) ?_
    refine lv_isub hx hb d_R_addInOrder_57 ?_
    refine lv_rei (y := nI (n - z0)) (pk_sub hzn) ?_
    refine lv_aload_n hx hb d_R_addInOrder_58 rfl (lv_at hl 2 rfl) ?_
    refine hp_get C0 hK cl_R hV hh 1 (by decide) kw_45 (fun _ h => h) rfl d_R_addInOrder_59 ?_
    refine lv_imul hx hb d_R_addInOrder_62 ?_
    refine lv_rei (y := nI ((n - z0) * w)) (pk_mul _ _) ?_
    refine hp_copyi C0 hK hl.1 kw_614 kw_429 kw_428 kw_19 0 rfl hV hS hq hq (z0 * w) ((z0 * w) + w) ((n - z0) * w) rfl rfl rfl (by omega) (by omega) (by omega) (by omega) (Nat.le_of_ble_eq_true rfl) (Nat.le_of_ble_eq_true rfl) d_R_addInOrder_63 (fun H locs hV hS => ?_)
    have hV : hv G.1 vwCl a0 (va_up M q (some (aI G k (va_cpy f f (z0 * w) ((z0 * w) + w) ((n - z0) * w))))) H := hV
    have hh : (va_up M q (some (aI G k (va_cpy f f (z0 * w) ((z0 * w) + w) ((n - z0) * w))))) h = some (.inr (0, [.ref q, .int (nI w), .int (nI n)])) := (va_up_ne _ _ (hm_oa hh hq)).trans hh
    have hx1 : (va_up M q (some (aI G k (va_cpy f f (z0 * w) ((z0 * w) + w) ((n - z0) * w))))) x1 = some (.inr (0, [.ref y1, .int (nI w), .int (nI n1)])) := (va_up_ne _ _ (hm_oa hx1 hq)).trans hx1
    have hy1 : (va_up M q (some (aI G k (va_cpy f f (z0 * w) ((z0 * w) + w) ((n - z0) * w))))) y1 = some (aI G k1 g) := (va_up_ne _ _ nq1).trans hy1
    have hq : (va_up M q (some (aI G k (va_cpy f f (z0 * w) ((z0 * w) + w) ((n - z0) * w))))) q = some (aI G k (va_cpy f f (z0 * w) ((z0 * w) + w) ((n - z0) * w))) := va_up_self _ _ _
    refine lv_aload_n hx hb d_R_addInOrder_66 rfl (lv_at hl 3 rfl) ?_
    refine hp_get C0 hK cl_R hV hx1 0 (by decide) kw_44 (fun _ h => h) rfl d_R_addInOrder_67 ?_
    refine lv_iload_n hx hb d_R_addInOrder_70 rfl (lv_at hl 4 rfl) ?_
    refine lv_aload_n hx hb d_R_addInOrder_71 rfl (lv_at hl 2 rfl) ?_
    refine hp_get C0 hK cl_R hV hh 1 (by decide) kw_45 (fun _ h => h) rfl d_R_addInOrder_72 ?_
    refine lv_imul hx hb d_R_addInOrder_75 ?_
    refine lv_rei (y := nI (i * w)) (pk_mul _ _) ?_
    refine lv_aload_n hx hb d_R_addInOrder_76 rfl (lv_at hl 2 rfl) ?_
    refine hp_get C0 hK cl_R hV hh 0 (by decide) kw_44 (fun _ h => h) rfl d_R_addInOrder_77 ?_
    refine lv_iload hx hb d_R_addInOrder_80 (lv_at hl 0 rfl) ?_
    refine lv_aload_n hx hb d_R_addInOrder_82 rfl (lv_at hl 2 rfl) ?_
    refine hp_get C0 hK cl_R hV hh 1 (by decide) kw_45 (fun _ h => h) rfl d_R_addInOrder_83 ?_
    refine hp_copyi C0 hK hl.1 kw_614 kw_429 kw_428 kw_19 0 rfl hV hS hy1 hq (i * w) (z0 * w) w rfl rfl rfl hi (by omega) (by omega) (by omega) (Nat.le_of_ble_eq_true rfl) (Nat.le_of_ble_eq_true rfl) d_R_addInOrder_86 (fun H locs hV hS => ?_)
    have hV : hv G.1 vwCl a0 (va_up (va_up M q (some (aI G k (va_cpy f f (z0 * w) ((z0 * w) + w) ((n - z0) * w))))) q (some (aI G k (va_cpy g (va_cpy f f (z0 * w) ((z0 * w) + w) ((n - z0) * w)) (i * w) (z0 * w) w)))) H := hV
    have hh : (va_up (va_up M q (some (aI G k (va_cpy f f (z0 * w) ((z0 * w) + w) ((n - z0) * w))))) q (some (aI G k (va_cpy g (va_cpy f f (z0 * w) ((z0 * w) + w) ((n - z0) * w)) (i * w) (z0 * w) w)))) h = some (.inr (0, [.ref q, .int (nI w), .int (nI n)])) := (va_up_ne _ _ (hm_oa hh hq)).trans hh
    have hx1 : (va_up (va_up M q (some (aI G k (va_cpy f f (z0 * w) ((z0 * w) + w) ((n - z0) * w))))) q (some (aI G k (va_cpy g (va_cpy f f (z0 * w) ((z0 * w) + w) ((n - z0) * w)) (i * w) (z0 * w) w)))) x1 = some (.inr (0, [.ref y1, .int (nI w), .int (nI n1)])) := (va_up_ne _ _ (hm_oa hx1 hq)).trans hx1
    have hy1 : (va_up (va_up M q (some (aI G k (va_cpy f f (z0 * w) ((z0 * w) + w) ((n - z0) * w))))) q (some (aI G k (va_cpy g (va_cpy f f (z0 * w) ((z0 * w) + w) ((n - z0) * w)) (i * w) (z0 * w) w)))) y1 = some (aI G k1 g) := (va_up_ne _ _ nq1).trans hy1
    have hq : (va_up (va_up M q (some (aI G k (va_cpy f f (z0 * w) ((z0 * w) + w) ((n - z0) * w))))) q (some (aI G k (va_cpy g (va_cpy f f (z0 * w) ((z0 * w) + w) ((n - z0) * w)) (i * w) (z0 * w) w)))) q = some (aI G k (va_cpy g (va_cpy f f (z0 * w) ((z0 * w) + w) ((n - z0) * w)) (i * w) (z0 * w) w)) := va_up_self _ _ _
    refine lv_aload_n hx hb d_R_addInOrder_89 rfl (lv_at hl 2 rfl) ?_
    refine lv_dup hx hb d_R_addInOrder_90 rfl ?_
    refine hp_get C0 hK cl_R hV hh 2 (by decide) kw_47 (fun _ h => h) rfl d_R_addInOrder_91 ?_
    refine lv_iconst (v := nI 1) hx hb d_R_addInOrder_94 (by decide) ?_
    refine lv_iadd hx hb d_R_addInOrder_95 ?_
    refine lv_rei (y := nI (n + 1)) (nI_add _ _) ?_
    refine hp_put C0 hK cl_R hV hS hh 2 (by decide) kw_47 (fun _ h => h) rfl rfl rfl (Nat.le_of_ble_eq_true rfl) d_R_addInOrder_96 (fun H locs hV hS => ?_)
    have hV : hv G.1 vwCl a0 (va_up (va_up (va_up M q (some (aI G k (va_cpy f f (z0 * w) ((z0 * w) + w) ((n - z0) * w))))) q (some (aI G k (va_cpy g (va_cpy f f (z0 * w) ((z0 * w) + w) ((n - z0) * w)) (i * w) (z0 * w) w)))) h (some (.inr (0, [.ref q, .int (nI w), .int (nI (n + 1))])))) H := hV
    have hq : (va_up (va_up (va_up M q (some (aI G k (va_cpy f f (z0 * w) ((z0 * w) + w) ((n - z0) * w))))) q (some (aI G k (va_cpy g (va_cpy f f (z0 * w) ((z0 * w) + w) ((n - z0) * w)) (i * w) (z0 * w) w)))) h (some (.inr (0, [.ref q, .int (nI w), .int (nI (n + 1))])))) q = some (aI G k (va_cpy g (va_cpy f f (z0 * w) ((z0 * w) + w) ((n - z0) * w)) (i * w) (z0 * w) w)) := (va_up_ne _ _ (hm_ao hq hh)).trans hq
    have hx1 : (va_up (va_up (va_up M q (some (aI G k (va_cpy f f (z0 * w) ((z0 * w) + w) ((n - z0) * w))))) q (some (aI G k (va_cpy g (va_cpy f f (z0 * w) ((z0 * w) + w) ((n - z0) * w)) (i * w) (z0 * w) w)))) h (some (.inr (0, [.ref q, .int (nI w), .int (nI (n + 1))])))) x1 = some (.inr (0, [.ref y1, .int (nI w), .int (nI n1)])) := (va_up_ne _ _ ne1).trans hx1
    have hy1 : (va_up (va_up (va_up M q (some (aI G k (va_cpy f f (z0 * w) ((z0 * w) + w) ((n - z0) * w))))) q (some (aI G k (va_cpy g (va_cpy f f (z0 * w) ((z0 * w) + w) ((n - z0) * w)) (i * w) (z0 * w) w)))) h (some (.inr (0, [.ref q, .int (nI w), .int (nI (n + 1))])))) y1 = some (aI G k1 g) := (va_up_ne _ _ (hm_ao hy1 hh)).trans hy1
    have hh : (va_up (va_up (va_up M q (some (aI G k (va_cpy f f (z0 * w) ((z0 * w) + w) ((n - z0) * w))))) q (some (aI G k (va_cpy g (va_cpy f f (z0 * w) ((z0 * w) + w) ((n - z0) * w)) (i * w) (z0 * w) w)))) h (some (.inr (0, [.ref q, .int (nI w), .int (nI (n + 1))])))) h = some (.inr (0, [.ref q, .int (nI w), .int (nI (n + 1))])) := va_up_self _ _ _
    exact hx_vret C0 hr hlk hV hS d_R_addInOrder_99 ⟨rfl, by rw [bx_uu]⟩
end
section
def y_R_init : MethodName := ⟨"BatchPlans$Rows", "<init>", "(II)V"⟩
theorem kw_42 : (Jvm.Cond.code ({ cls := "BatchPlans$Rows", name := "<init>", desc := "(II)V" } : Jvm.MethodName) prog_9_method_1_code (3 : Nat) (Option.none : Option Jvm.ClassFile.FieldType)) ∈ TB := tb_mem (tb_s1 _ (List.mem_of_getElem? (i := 42) (by decide +kernel))) (by decide +kernel)
theorem d_R_init_0 : decode prog_9_method_1_code 0 = .ok (.aload_n 0, 1) := by decide +kernel
theorem d_R_init_1 : decode prog_9_method_1_code 1 = .ok (.invokespecial 1, 3) := by decide +kernel
theorem d_R_init_4 : decode prog_9_method_1_code 4 = .ok (.aload_n 0, 1) := by decide +kernel
theorem d_R_init_5 : decode prog_9_method_1_code 5 = .ok (.iload_n 1, 1) := by decide +kernel
theorem d_R_init_6 : decode prog_9_method_1_code 6 = .ok (.iload_n 2, 1) := by decide +kernel
theorem d_R_init_7 : decode prog_9_method_1_code 7 = .ok (.imul, 1) := by decide +kernel
theorem d_R_init_8 : decode prog_9_method_1_code 8 = .ok (.newarray .int, 2) := by decide +kernel
theorem d_R_init_10 : decode prog_9_method_1_code 10 = .ok (.putfield 7, 3) := by decide +kernel
theorem d_R_init_13 : decode prog_9_method_1_code 13 = .ok (.return_, 1) := by decide +kernel
def y_Pa_init : MethodName := ⟨"BatchPlans$Parts", "<init>", "()V"⟩
theorem kw_112 : (Jvm.Cond.code ({ cls := "BatchPlans$Parts", name := "<init>", desc := "()V" } : Jvm.MethodName) prog_8_method_1_code (1 : Nat) (Option.none : Option Jvm.ClassFile.FieldType)) ∈ TB := tb_mem (tb_s1 _ (List.mem_of_getElem? (i := 112) (by decide +kernel))) (by decide +kernel)
theorem d_Pa_init_0 : decode prog_8_method_1_code 0 = .ok (.aload_n 0, 1) := by decide +kernel
theorem d_Pa_init_1 : decode prog_8_method_1_code 1 = .ok (.invokespecial 3, 3) := by decide +kernel
theorem d_Pa_init_4 : decode prog_8_method_1_code 4 = .ok (.aload_n 0, 1) := by decide +kernel
theorem d_Pa_init_5 : decode prog_8_method_1_code 5 = .ok (.bipush 65, 2) := by decide +kernel
theorem d_Pa_init_7 : decode prog_8_method_1_code 7 = .ok (.newarray .int, 2) := by decide +kernel
theorem d_Pa_init_9 : decode prog_8_method_1_code 9 = .ok (.putfield 9, 3) := by decide +kernel
theorem d_Pa_init_12 : decode prog_8_method_1_code 12 = .ok (.return_, 1) := by decide +kernel
def y_Pa_finestPart : MethodName := ⟨"BatchPlans$Parts", "finestPart", "(I)I"⟩
theorem kw_666 : (Jvm.Cond.code ({ cls := "BatchPlans$Parts", name := "finestPart", desc := "(I)I" } : Jvm.MethodName) prog_8_method_4_code (1 : Nat) (Option.some Jvm.ClassFile.FieldType.int)) ∈ TB := tb_mem (tb_s3 _ (List.mem_of_getElem? (i := 186) (by decide +kernel))) (by decide +kernel)
theorem d_Pa_finestPart_0 : decode prog_8_method_4_code 0 = .ok (.iload_n 0, 1) := by decide +kernel
theorem d_Pa_finestPart_1 : decode prog_8_method_4_code 1 = .ok (.ldc 33, 2) := by decide +kernel
theorem d_Pa_finestPart_3 : decode prog_8_method_4_code 3 = .ok (.imul, 1) := by decide +kernel
theorem d_Pa_finestPart_4 : decode prog_8_method_4_code 4 = .ok (.bipush 26, 2) := by decide +kernel
theorem d_Pa_finestPart_6 : decode prog_8_method_4_code 6 = .ok (.iushr, 1) := by decide +kernel
theorem d_Pa_finestPart_7 : decode prog_8_method_4_code 7 = .ok (.ireturn, 1) := by decide +kernel
def y_JArrays_fill : MethodName := ⟨"java/util/Arrays", "fill", "([II)V"⟩
theorem kw_662 : (Jvm.Cond.code ({ cls := "java/util/Arrays", name := "fill", desc := "([II)V" } : Jvm.MethodName) prog_30_method_103_code (4 : Nat) (Option.none : Option Jvm.ClassFile.FieldType)) ∈ TB := tb_mem (tb_s3 _ (List.mem_of_getElem? (i := 182) (by decide +kernel))) (by decide +kernel)
theorem d_JArrays_fill_0 : decode prog_30_method_103_code 0 = .ok (.iconst 0, 1) := by decide +kernel
theorem d_JArrays_fill_1 : decode prog_30_method_103_code 1 = .ok (.istore_n 2, 1) := by decide +kernel
theorem d_JArrays_fill_2 : decode prog_30_method_103_code 2 = .ok (.aload_n 0, 1) := by decide +kernel
theorem d_JArrays_fill_3 : decode prog_30_method_103_code 3 = .ok (.arraylength, 1) := by decide +kernel
theorem d_JArrays_fill_4 : decode prog_30_method_103_code 4 = .ok (.istore_n 3, 1) := by decide +kernel
theorem d_JArrays_fill_5 : decode prog_30_method_103_code 5 = .ok (.iload_n 2, 1) := by decide +kernel
theorem d_JArrays_fill_6 : decode prog_30_method_103_code 6 = .ok (.iload_n 3, 1) := by decide +kernel
theorem d_JArrays_fill_7 : decode prog_30_method_103_code 7 = .ok (.if_icmp .ge 13, 3) := by decide +kernel
theorem d_JArrays_fill_10 : decode prog_30_method_103_code 10 = .ok (.aload_n 0, 1) := by decide +kernel
theorem d_JArrays_fill_11 : decode prog_30_method_103_code 11 = .ok (.iload_n 2, 1) := by decide +kernel
theorem d_JArrays_fill_12 : decode prog_30_method_103_code 12 = .ok (.iload_n 1, 1) := by decide +kernel
theorem d_JArrays_fill_13 : decode prog_30_method_103_code 13 = .ok (.iastore, 1) := by decide +kernel
theorem d_JArrays_fill_14 : decode prog_30_method_103_code 14 = .ok (.iinc 2 1, 3) := by decide +kernel
theorem d_JArrays_fill_17 : decode prog_30_method_103_code 17 = .ok (.goto (-12), 3) := by decide +kernel
theorem d_JArrays_fill_20 : decode prog_30_method_103_code 20 = .ok (.return_, 1) := by decide +kernel
theorem kw_43 : (Jvm.Cond.methodLink "BatchPlans$Rows" (1 : Nat) ({ cls := "java/lang/Object", name := "<init>", desc := "()V" } : Jvm.MethodName)) ∈ TB := tb_mem (tb_s1 _ (List.mem_of_getElem? (i := 43) (by decide +kernel))) (by decide +kernel)
theorem kw_35 : (Jvm.Cond.instanceMethod ({ cls := "java/lang/Object", name := "<init>", desc := "()V" } : Jvm.MethodName)) ∈ TB := tb_mem (tb_s1 _ (List.mem_of_getElem? (i := 35) (by decide +kernel))) (by decide +kernel)
theorem kw_36 : (Jvm.Cond.code ({ cls := "java/lang/Object", name := "<init>", desc := "()V" } : Jvm.MethodName) object_method_1_code (1 : Nat) (Option.none : Option Jvm.ClassFile.FieldType)) ∈ TB := tb_mem (tb_s1 _ (List.mem_of_getElem? (i := 36) (by decide +kernel))) (by decide +kernel)
theorem kw_62 : (Jvm.Cond.arrayClass Jvm.ClassFile.FieldType.int) ∈ TB := tb_mem (tb_s1 _ (List.mem_of_getElem? (i := 62) (by decide +kernel))) (by decide +kernel)
theorem kw_113 : (Jvm.Cond.methodLink "BatchPlans$Parts" (3 : Nat) ({ cls := "java/lang/Object", name := "<init>", desc := "()V" } : Jvm.MethodName)) ∈ TB := tb_mem (tb_s1 _ (List.mem_of_getElem? (i := 113) (by decide +kernel))) (by decide +kernel)
theorem kw_114 : (Jvm.Cond.fieldLink "BatchPlans$Parts" (9 : Nat) "BatchPlans$Parts" "before" "[I") ∈ TB := tb_mem (tb_s1 _ (List.mem_of_getElem? (i := 114) (by decide +kernel))) (by decide +kernel)
theorem kw_667 : (Jvm.Cond.constant "BatchPlans$Parts" (33 : Nat) (-1640531535 : Int32)) ∈ TB := tb_mem (tb_s3 _ (List.mem_of_getElem? (i := 187) (by decide +kernel))) (by decide +kernel)
theorem hm_up {M : hMp} {a : Nat} {x : va_E} (h : M a = some x) : va_up M a (some x) = M := by
  funext z
  by_cases hz : z = a
  · rw [hz, va_up_self, h]
  · exact va_up_ne _ _ hz
theorem upd_all {f : Nat → Int32} {j : Nat} {x : Int32} (h : ∀ i, i < j → f i = x) : ∀ i, i < j + 1 → upd f j x i = x := by
  intro i hi
  by_cases hz : i = j
  · rw [hz]; exact pk_us
  · rw [pk_un hz]; exact h i (by omega)
set_option maxHeartbeats 4000000 in
set_option maxRecDepth 100000 in
theorem c_R_init (l : Launch) {G : hGt} {a0 : Nat} {M : hMp} {h a b : Nat} (hh : M h = some (.inr (0, [.null, .int 0, .int 0]))) (hk : a * b ≤ 65536) : MX l y_R_init TB ({ frames := 1, cells := 1, slots := a * b, locals := 12 }) (va_Pc [.ref h, .int (nI a), .int (nI b)] (hU (Ev G a0) G.1 vwCl a0 M)) (hQ G.1 vwCl a0 (fun oc M' => oc = .returned none ∧ ∃ y, M y = none ∧ y ≠ h ∧ M' = va_up (va_up M y (some (aI G (a * b) (fun _ => 0)))) h (some (.inr (0, [.ref y, .int 0, .int 0]))))) 1 (a * b) (hA a0) := by
  refine MX.ofW tb_good (by decide) kw_42 (Nat.le_of_ble_eq_true rfl) ?_
  intro p e s m below meth cd ls C0 hr hlk hnm hxt hV hS hl
  have hx := C0.1
  have hb := C0.2.1
  have hK : va_K G.1 vwCl (hT G) s := C0.2.2.2.2.2.1.1
  have hN := C0.2.2.2.2.2.1.2.1
  have hl : lv_has ls 3 [(0, .ref h), (1, .int (nI a)), (2, .int (nI b))] := hl
  refine lv_aload_n hx hb d_R_init_0 rfl (lv_at hl 0 rfl) ?_
  refine W.objInit hx hb C0.2.2.2.1 (C0.ts _ kw_43) (C0.ts _ kw_35) (C0.ts _ kw_36) rfl (by rw [C0.2.2.1]; exact hl.1) rfl d_R_init_1 (Nat.le_of_ble_eq_true rfl) (Nat.le_of_ble_eq_true rfl) ?_
  refine W.eq (g2 := F0 m 4 ls []) rfl ?_
  refine lv_aload_n hx hb d_R_init_4 rfl (lv_at hl 0 rfl) ?_
  refine lv_iload_n hx hb d_R_init_5 rfl (lv_at hl 1 rfl) ?_
  refine lv_iload_n hx hb d_R_init_6 rfl (lv_at hl 2 rfl) ?_
  refine lv_imul hx hb d_R_init_7 ?_
  refine lv_rei (y := nI (a * b)) (pk_mul _ _) ?_
  refine hp_newa (atype := .int) C0 hK 0 rfl (fun z h9 => by cases h9) rfl kw_62 hV hS (a1 := ((a * b), .inl (fun _ => 0))) (a * b) (fun _ => rfl) rfl hk (by decide) (Nat.le_of_ble_eq_true rfl) (Nat.le_of_eq (Nat.zero_add _)) d_R_init_8 (fun y H hFy hV hS => ?_)
  have hV : hv G.1 vwCl a0 (va_up M y (some (aI G (a * b) (fun _ => 0)))) H := hV
  have hh : (va_up M y (some (aI G (a * b) (fun _ => 0)))) h = some (.inr (0, [.null, .int 0, .int 0])) := (va_up_ne _ _ (fun z => by rw [z, hFy] at hh; cases hh)).trans hh
  have hny : (va_up M y (some (aI G (a * b) (fun _ => 0)))) y = some (aI G (a * b) (fun _ => 0)) := va_up_self _ _ _
  refine hp_putF C0 hK cl_R hV hS hh 0 (by decide) kw_44 (fun _ h => h) rfl hnm rfl rfl rfl (Nat.le_of_ble_eq_true rfl) d_R_init_10 (fun H locs hV hS => ?_)
  have hV : hv G.1 vwCl a0 (va_up (va_up M y (some (aI G (a * b) (fun _ => 0)))) h (some (.inr (0, [.ref y, .int 0, .int 0])))) H := hV
  have hny : (va_up (va_up M y (some (aI G (a * b) (fun _ => 0)))) h (some (.inr (0, [.ref y, .int 0, .int 0])))) y = some (aI G (a * b) (fun _ => 0)) := (va_up_ne _ _ (hm_ao hny hh)).trans hny
  have hh : (va_up (va_up M y (some (aI G (a * b) (fun _ => 0)))) h (some (.inr (0, [.ref y, .int 0, .int 0])))) h = some (.inr (0, [.ref y, .int 0, .int 0])) := va_up_self _ _ _
  refine W.widen (k := 1) (n := a * b) (Nat.le_refl _) (Nat.le_of_eq (Nat.zero_add _)) ?_
  have hy9 : y ≠ h := hm_ao hny hh
  exact hx_vret C0 hr hlk hV hS d_R_init_13 ⟨rfl, y, hFy, hy9, rfl⟩
set_option maxHeartbeats 4000000 in
set_option maxRecDepth 100000 in
theorem c_Pa_init (l : Launch) {G : hGt} {a0 : Nat} {M : hMp} {h : Nat} (hh : M h = some (.inr (1, [.null]))) : MX l y_Pa_init TB ({ frames := 1, cells := 1, slots := 65, locals := 12 }) (va_Pc [.ref h] (hU (Ev G a0) G.1 vwCl a0 M)) (hQ G.1 vwCl a0 (fun oc M' => oc = .returned none ∧ ∃ y, M y = none ∧ y ≠ h ∧ M' = va_up (va_up M y (some (aI G 65 (fun _ => 0)))) h (some (.inr (1, [.ref y]))))) 1 65 (hA a0) := by
  refine MX.ofW tb_good (by decide) kw_112 (Nat.le_of_ble_eq_true rfl) ?_
  intro p e s m below meth cd ls C0 hr hlk hnm hxt hV hS hl
  have hx := C0.1
  have hb := C0.2.1
  have hK : va_K G.1 vwCl (hT G) s := C0.2.2.2.2.2.1.1
  have hN := C0.2.2.2.2.2.1.2.1
  have hl : lv_has ls 1 [(0, .ref h)] := hl
  refine lv_aload_n hx hb d_Pa_init_0 rfl (lv_at hl 0 rfl) ?_
  refine W.objInit hx hb C0.2.2.2.1 (C0.ts _ kw_113) (C0.ts _ kw_35) (C0.ts _ kw_36) rfl (by rw [C0.2.2.1]; exact hl.1) rfl d_Pa_init_1 (Nat.le_of_ble_eq_true rfl) (Nat.le_of_ble_eq_true rfl) ?_
  refine W.eq (g2 := F0 m 4 ls []) rfl ?_
  refine lv_aload_n hx hb d_Pa_init_4 rfl (lv_at hl 0 rfl) ?_
  refine lv_bipush (v := nI 65) hx hb d_Pa_init_5 (by decide) ?_
  refine hp_newa (atype := .int) C0 hK 0 rfl (fun z h9 => by cases h9) rfl kw_62 hV hS (a1 := (65, .inl (fun _ => 0))) 65 (fun _ => rfl) rfl (by omega) (by decide) (Nat.le_of_ble_eq_true rfl) (Nat.le_of_ble_eq_true rfl) d_Pa_init_7 (fun y H hFy hV hS => ?_)
  have hV : hv G.1 vwCl a0 (va_up M y (some (aI G 65 (fun _ => 0)))) H := hV
  have hh : (va_up M y (some (aI G 65 (fun _ => 0)))) h = some (.inr (1, [.null])) := (va_up_ne _ _ (fun z => by rw [z, hFy] at hh; cases hh)).trans hh
  have hny : (va_up M y (some (aI G 65 (fun _ => 0)))) y = some (aI G 65 (fun _ => 0)) := va_up_self _ _ _
  refine hp_putF C0 hK cl_Pa hV hS hh 0 (by decide) kw_114 (fun _ h => h) rfl hnm rfl rfl rfl (Nat.le_of_ble_eq_true rfl) d_Pa_init_9 (fun H locs hV hS => ?_)
  have hV : hv G.1 vwCl a0 (va_up (va_up M y (some (aI G 65 (fun _ => 0)))) h (some (.inr (1, [.ref y])))) H := hV
  have hny : (va_up (va_up M y (some (aI G 65 (fun _ => 0)))) h (some (.inr (1, [.ref y])))) y = some (aI G 65 (fun _ => 0)) := (va_up_ne _ _ (hm_ao hny hh)).trans hny
  have hh : (va_up (va_up M y (some (aI G 65 (fun _ => 0)))) h (some (.inr (1, [.ref y])))) h = some (.inr (1, [.ref y])) := va_up_self _ _ _
  have hy9 : y ≠ h := hm_ao hny hh
  exact hx_vret C0 hr hlk hV hS d_Pa_init_12 ⟨rfl, y, hFy, hy9, rfl⟩
theorem nI_bv {x : Int32} {n : Nat} (h : x.toBitVec.toNat = n) : x = nI n := by
  have hn : n < 2 ^ 32 := by rw [← h]; exact x.toBitVec.isLt
  have e : x.toBitVec = (nI n).toBitVec := BitVec.eq_of_toNat_eq (by rw [h, pk_tn hn])
  exact Int32.toBitVec_inj.mp e
/-- the finest part of a key: six bits -/
def fpN (x : Int32) : Nat := (x * (-1640531535)).toBitVec.toNat / 2 ^ 26
theorem fpN_lt (x : Int32) : fpN x < 64 := by
  have h := (x * (-1640531535)).toBitVec.isLt
  unfold fpN
  omega
theorem fpN_ushr (x : Int32) : ((x * (-1640531535)).toUInt32 >>> ((nI 26).toUInt32 &&& Int32.toUInt32 31)).toInt32 = nI (fpN x) := nI_bv (pk_ushr _ _ 26 (by decide))
set_option maxHeartbeats 4000000 in
set_option maxRecDepth 100000 in
theorem c_Pa_finestPart (l : Launch) {G : hGt} {a0 : Nat} {M : hMp} {x : Int32}  : MX l y_Pa_finestPart TB ({ frames := 0, cells := 0, slots := 0, locals := 0 }) (va_Pc [.int x] (hU (Ev G a0) G.1 vwCl a0 M)) (hR G.1 vwCl a0 M (fun r => r = some (.int (nI (fpN x)))) (fun _ => False)) 0 0 (fun _ => False) := by
  refine MX.ofW tb_good (by decide) kw_666 (Nat.le_of_ble_eq_true rfl) ?_
  intro p e s m below meth cd ls C0 hr hlk hnm hxt hV hS hl
  have hx := C0.1
  have hb := C0.2.1
  have hK : va_K G.1 vwCl (hT G) s := C0.2.2.2.2.2.1.1
  have hN := C0.2.2.2.2.2.1.2.1
  have hl : lv_has ls 1 [(0, .int x)] := hl
  refine lv_iload_n hx hb d_Pa_finestPart_0 rfl (lv_at hl 0 rfl) ?_
  refine lv_ldc (v := (-1640531535)) hx hb C0.2.2.2.1 (C0.ts _ kw_667) d_Pa_finestPart_1 ?_
  refine lv_imul hx hb d_Pa_finestPart_3 ?_
  refine lv_bipush (v := nI 26) hx hb d_Pa_finestPart_4 (by decide) ?_
  refine lv_iushr (v := nI (fpN x)) hx hb d_Pa_finestPart_6 (fpN_ushr x) ?_
  exact hr_iret C0 hr hlk d_Pa_finestPart_7 rfl
set_option maxHeartbeats 4000000 in
set_option maxRecDepth 100000 in
theorem c_J_fill (l : Launch) {G : hGt} {a0 : Nat} {M : hMp} {q k : Nat} {f : Nat → Int32} {x : Int32} (hq : M q = some (aI G k f)) (hk : k ≤ 65536) : MX l y_JArrays_fill TB ({ frames := 0, cells := 0, slots := 0, locals := 0 }) (va_Pc [.ref q, .int x] (hU (Ev G a0) G.1 vwCl a0 M)) (hQ G.1 vwCl a0 (fun oc M' => oc = .returned none ∧ ∃ f', (∀ i, i < k → f' i = x) ∧ M' = va_up M q (some (aI G k f')))) 0 0 (hA a0) := by
  refine MX.ofW tb_good (by decide) kw_662 (Nat.le_of_ble_eq_true rfl) ?_
  intro p e s m below meth cd ls C0 hr hlk hnm hxt hV hS hl
  have hx := C0.1
  have hb := C0.2.1
  have hK : va_K G.1 vwCl (hT G) s := C0.2.2.2.2.2.1.1
  have hN := C0.2.2.2.2.2.1.2.1
  have hl : lv_has ls 4 [(0, .ref q), (1, .int x)] := hl
  refine lv_iconst (v := nI 0) hx hb d_JArrays_fill_0 (by decide) ?_
  refine lv_istore_n (lv' := [(2, .int (nI 0)), (0, .ref q), (1, .int x)]) hx hb d_JArrays_fill_1 rfl hl (by decide) rfl (fun ls hl => ?_)
  refine lv_aload_n hx hb d_JArrays_fill_2 rfl (lv_at hl 1 rfl) ?_
  refine hp_alen C0 hK 0 rfl hV hq d_JArrays_fill_3 ?_
  refine lv_istore_n (lv' := [(3, .int (nI k)), (2, .int (nI 0)), (0, .ref q), (1, .int x)]) hx hb d_JArrays_fill_4 rfl hl (by decide) rfl (fun ls hl => ?_)
  have hV : hv G.1 vwCl a0 (va_up M q (some (aI G k f))) s.heap := by rw [hm_up hq]; exact hV
  refine W.lpM (D := G.1) (cl := vwCl) (a0 := a0) (nL := 4) (P := fun j M1 => ∃ f1, (∀ i, i < j → f1 i = x) ∧ M1 = va_up M q (some (aI G k f1))) (lv := fun j => [(2, .int (nI j)), (3, .int (nI k)), (0, .ref q), (1, .int x)]) k (fun j M1 H locs ls hj hP hV hS hl ih => ?_) 0 _ _ _ ls (Nat.zero_le _) ⟨f, fun i hi => absurd hi (Nat.not_lt_zero i), rfl⟩ hV hS (lv_sub hl [1, 0, 2, 3] rfl)
  obtain ⟨f1, hf1, rfl⟩ := hP
  have hl : lv_has ls 4 [(2, .int (nI j)), (3, .int (nI k)), (0, .ref q), (1, .int x)] := hl
  have hq : (va_up M q (some (aI G k f1))) q = some (aI G k f1) := va_up_self _ _ _
  refine lv_iload_n hx hb d_JArrays_fill_5 rfl (lv_at hl 0 rfl) ?_
  refine lv_iload_n hx hb d_JArrays_fill_6 rfl (lv_at hl 1 rfl) ?_
  refine nb_ge C0 d_JArrays_fill_7 rfl (by omega) (by omega) (fun h1 => ?_) (fun h1 => ?_)
  · have hj0 : j = k := by omega
    exact hx_vret C0 hr hlk hV hS d_JArrays_fill_20 ⟨rfl, f1, fun i hi => hf1 i (by omega), rfl⟩
  · have hjj := h1
    refine lv_aload_n hx hb d_JArrays_fill_10 rfl (lv_at hl 2 rfl) ?_
    refine lv_iload_n hx hb d_JArrays_fill_11 rfl (lv_at hl 0 rfl) ?_
    refine lv_iload_n hx hb d_JArrays_fill_12 rfl (lv_at hl 3 rfl) ?_
    refine hp_iast C0 hK 0 rfl hV hS hq j rfl (by omega) (by omega) d_JArrays_fill_13 (fun H locs hV hS => ?_)
    have hV : hv G.1 vwCl a0 (va_up (va_up M q (some (aI G k f1))) q (some (aI G k (upd f1 j x)))) H := hV
    have hq : (va_up (va_up M q (some (aI G k f1))) q (some (aI G k (upd f1 j x)))) q = some (aI G k (upd f1 j x)) := va_up_self _ _ _
    refine lv_iinc (k := 0) (v := nI (j + 1)) (lv' := [(2, .int (nI (j + 1))), (3, .int (nI k)), (0, .ref q), (1, .int x)]) hx hb d_JArrays_fill_14 hl rfl (nI_1 _) (by decide) rfl (fun ls hl => ?_)
    refine lv_goto (tgt := 5) hx hb d_JArrays_fill_17 rfl ?_
    rw [bx_uu] at hV
    exact ih _ _ _ ls h1 ⟨upd f1 j x, upd_all hf1, rfl⟩ hV hS hl
end
