def y_R_at : MethodName := ⟨"BatchPlans$Rows", "at", "(II)I"⟩
theorem kw_605 : (Jvm.Cond.code ({ cls := "BatchPlans$Rows", name := "at", desc := "(II)I" } : Jvm.MethodName) prog_9_method_3_code (3 : Nat) (Option.some Jvm.ClassFile.FieldType.int)) ∈ TB := tb_mem (tb_s3 _ (List.mem_of_getElem? (i := 125) (by decide +kernel))) (by decide +kernel)
theorem d_R_at_0 : decode prog_9_method_3_code 0 = .ok (.aload_n 0, 1) := by decide +kernel
theorem d_R_at_1 : decode prog_9_method_3_code 1 = .ok (.getfield 7, 3) := by decide +kernel
theorem d_R_at_4 : decode prog_9_method_3_code 4 = .ok (.iload_n 1, 1) := by decide +kernel
theorem d_R_at_5 : decode prog_9_method_3_code 5 = .ok (.aload_n 0, 1) := by decide +kernel
theorem d_R_at_6 : decode prog_9_method_3_code 6 = .ok (.getfield 13, 3) := by decide +kernel
theorem d_R_at_9 : decode prog_9_method_3_code 9 = .ok (.imul, 1) := by decide +kernel
theorem d_R_at_10 : decode prog_9_method_3_code 10 = .ok (.iload_n 2, 1) := by decide +kernel
theorem d_R_at_11 : decode prog_9_method_3_code 11 = .ok (.iadd, 1) := by decide +kernel
theorem d_R_at_12 : decode prog_9_method_3_code 12 = .ok (.iaload, 1) := by decide +kernel
theorem d_R_at_13 : decode prog_9_method_3_code 13 = .ok (.ireturn, 1) := by decide +kernel
def y_R_empty : MethodName := ⟨"BatchPlans$Rows", "empty", "(I)V"⟩
theorem kw_66 : (Jvm.Cond.code ({ cls := "BatchPlans$Rows", name := "empty", desc := "(I)V" } : Jvm.MethodName) prog_9_method_2_code (2 : Nat) (Option.none : Option Jvm.ClassFile.FieldType)) ∈ TB := tb_mem (tb_s1 _ (List.mem_of_getElem? (i := 66) (by decide +kernel))) (by decide +kernel)
theorem d_R_empty_0 : decode prog_9_method_2_code 0 = .ok (.aload_n 0, 1) := by decide +kernel
theorem d_R_empty_1 : decode prog_9_method_2_code 1 = .ok (.iload_n 1, 1) := by decide +kernel
theorem d_R_empty_2 : decode prog_9_method_2_code 2 = .ok (.putfield 13, 3) := by decide +kernel
theorem d_R_empty_5 : decode prog_9_method_2_code 5 = .ok (.aload_n 0, 1) := by decide +kernel
theorem d_R_empty_6 : decode prog_9_method_2_code 6 = .ok (.iconst 0, 1) := by decide +kernel
theorem d_R_empty_7 : decode prog_9_method_2_code 7 = .ok (.putfield 17, 3) := by decide +kernel
theorem d_R_empty_10 : decode prog_9_method_2_code 10 = .ok (.return_, 1) := by decide +kernel
def y_R_put : MethodName := ⟨"BatchPlans$Rows", "put", "(III)V"⟩
theorem kw_719 : (Jvm.Cond.code ({ cls := "BatchPlans$Rows", name := "put", desc := "(III)V" } : Jvm.MethodName) prog_9_method_4_code (4 : Nat) (Option.none : Option Jvm.ClassFile.FieldType)) ∈ TB := tb_mem (tb_s3 _ (List.mem_of_getElem? (i := 239) (by decide +kernel))) (by decide +kernel)
theorem d_R_put_0 : decode prog_9_method_4_code 0 = .ok (.aload_n 0, 1) := by decide +kernel
theorem d_R_put_1 : decode prog_9_method_4_code 1 = .ok (.getfield 7, 3) := by decide +kernel
theorem d_R_put_4 : decode prog_9_method_4_code 4 = .ok (.iload_n 1, 1) := by decide +kernel
theorem d_R_put_5 : decode prog_9_method_4_code 5 = .ok (.aload_n 0, 1) := by decide +kernel
theorem d_R_put_6 : decode prog_9_method_4_code 6 = .ok (.getfield 13, 3) := by decide +kernel
theorem d_R_put_9 : decode prog_9_method_4_code 9 = .ok (.imul, 1) := by decide +kernel
theorem d_R_put_10 : decode prog_9_method_4_code 10 = .ok (.iload_n 2, 1) := by decide +kernel
theorem d_R_put_11 : decode prog_9_method_4_code 11 = .ok (.iadd, 1) := by decide +kernel
theorem d_R_put_12 : decode prog_9_method_4_code 12 = .ok (.iload_n 3, 1) := by decide +kernel
theorem d_R_put_13 : decode prog_9_method_4_code 13 = .ok (.iastore, 1) := by decide +kernel
theorem d_R_put_14 : decode prog_9_method_4_code 14 = .ok (.return_, 1) := by decide +kernel
def y_R_addThree : MethodName := ⟨"BatchPlans$Rows", "addThree", "(III)V"⟩
theorem kw_307 : (Jvm.Cond.code ({ cls := "BatchPlans$Rows", name := "addThree", desc := "(III)V" } : Jvm.MethodName) prog_9_method_5_code (5 : Nat) (Option.none : Option Jvm.ClassFile.FieldType)) ∈ TB := tb_mem (tb_s2 _ (List.mem_of_getElem? (i := 67) (by decide +kernel))) (by decide +kernel)
theorem d_R_addThree_0 : decode prog_9_method_5_code 0 = .ok (.aload_n 0, 1) := by decide +kernel
theorem d_R_addThree_1 : decode prog_9_method_5_code 1 = .ok (.getfield 17, 3) := by decide +kernel
theorem d_R_addThree_4 : decode prog_9_method_5_code 4 = .ok (.aload_n 0, 1) := by decide +kernel
theorem d_R_addThree_5 : decode prog_9_method_5_code 5 = .ok (.getfield 13, 3) := by decide +kernel
theorem d_R_addThree_8 : decode prog_9_method_5_code 8 = .ok (.imul, 1) := by decide +kernel
theorem d_R_addThree_9 : decode prog_9_method_5_code 9 = .ok (.istore 4, 2) := by decide +kernel
theorem d_R_addThree_11 : decode prog_9_method_5_code 11 = .ok (.aload_n 0, 1) := by decide +kernel
theorem d_R_addThree_12 : decode prog_9_method_5_code 12 = .ok (.getfield 7, 3) := by decide +kernel
theorem d_R_addThree_15 : decode prog_9_method_5_code 15 = .ok (.iload 4, 2) := by decide +kernel
theorem d_R_addThree_17 : decode prog_9_method_5_code 17 = .ok (.iload_n 1, 1) := by decide +kernel
theorem d_R_addThree_18 : decode prog_9_method_5_code 18 = .ok (.iastore, 1) := by decide +kernel
theorem d_R_addThree_19 : decode prog_9_method_5_code 19 = .ok (.aload_n 0, 1) := by decide +kernel
theorem d_R_addThree_20 : decode prog_9_method_5_code 20 = .ok (.getfield 7, 3) := by decide +kernel
theorem d_R_addThree_23 : decode prog_9_method_5_code 23 = .ok (.iload 4, 2) := by decide +kernel
theorem d_R_addThree_25 : decode prog_9_method_5_code 25 = .ok (.iconst 1, 1) := by decide +kernel
theorem d_R_addThree_26 : decode prog_9_method_5_code 26 = .ok (.iadd, 1) := by decide +kernel
theorem d_R_addThree_27 : decode prog_9_method_5_code 27 = .ok (.iload_n 2, 1) := by decide +kernel
theorem d_R_addThree_28 : decode prog_9_method_5_code 28 = .ok (.iastore, 1) := by decide +kernel
theorem d_R_addThree_29 : decode prog_9_method_5_code 29 = .ok (.aload_n 0, 1) := by decide +kernel
theorem d_R_addThree_30 : decode prog_9_method_5_code 30 = .ok (.getfield 7, 3) := by decide +kernel
theorem d_R_addThree_33 : decode prog_9_method_5_code 33 = .ok (.iload 4, 2) := by decide +kernel
theorem d_R_addThree_35 : decode prog_9_method_5_code 35 = .ok (.iconst 2, 1) := by decide +kernel
theorem d_R_addThree_36 : decode prog_9_method_5_code 36 = .ok (.iadd, 1) := by decide +kernel
theorem d_R_addThree_37 : decode prog_9_method_5_code 37 = .ok (.iload_n 3, 1) := by decide +kernel
theorem d_R_addThree_38 : decode prog_9_method_5_code 38 = .ok (.iastore, 1) := by decide +kernel
theorem d_R_addThree_39 : decode prog_9_method_5_code 39 = .ok (.aload_n 0, 1) := by decide +kernel
theorem d_R_addThree_40 : decode prog_9_method_5_code 40 = .ok (.dup, 1) := by decide +kernel
theorem d_R_addThree_41 : decode prog_9_method_5_code 41 = .ok (.getfield 17, 3) := by decide +kernel
theorem d_R_addThree_44 : decode prog_9_method_5_code 44 = .ok (.iconst 1, 1) := by decide +kernel
theorem d_R_addThree_45 : decode prog_9_method_5_code 45 = .ok (.iadd, 1) := by decide +kernel
theorem d_R_addThree_46 : decode prog_9_method_5_code 46 = .ok (.putfield 17, 3) := by decide +kernel
theorem d_R_addThree_49 : decode prog_9_method_5_code 49 = .ok (.return_, 1) := by decide +kernel
def y_R_addCopy : MethodName := ⟨"BatchPlans$Rows", "addCopy", "(LBatchPlans$Rows;I)V"⟩
theorem kw_613 : (Jvm.Cond.code ({ cls := "BatchPlans$Rows", name := "addCopy", desc := "(LBatchPlans$Rows;I)V" } : Jvm.MethodName) prog_9_method_6_code (3 : Nat) (Option.none : Option Jvm.ClassFile.FieldType)) ∈ TB := tb_mem (tb_s3 _ (List.mem_of_getElem? (i := 133) (by decide +kernel))) (by decide +kernel)
theorem d_R_addCopy_0 : decode prog_9_method_6_code 0 = .ok (.aload_n 1, 1) := by decide +kernel
theorem d_R_addCopy_1 : decode prog_9_method_6_code 1 = .ok (.getfield 7, 3) := by decide +kernel
theorem d_R_addCopy_4 : decode prog_9_method_6_code 4 = .ok (.iload_n 2, 1) := by decide +kernel
theorem d_R_addCopy_5 : decode prog_9_method_6_code 5 = .ok (.aload_n 0, 1) := by decide +kernel
theorem d_R_addCopy_6 : decode prog_9_method_6_code 6 = .ok (.getfield 13, 3) := by decide +kernel
theorem d_R_addCopy_9 : decode prog_9_method_6_code 9 = .ok (.imul, 1) := by decide +kernel
theorem d_R_addCopy_10 : decode prog_9_method_6_code 10 = .ok (.aload_n 0, 1) := by decide +kernel
theorem d_R_addCopy_11 : decode prog_9_method_6_code 11 = .ok (.getfield 7, 3) := by decide +kernel
theorem d_R_addCopy_14 : decode prog_9_method_6_code 14 = .ok (.aload_n 0, 1) := by decide +kernel
theorem d_R_addCopy_15 : decode prog_9_method_6_code 15 = .ok (.getfield 17, 3) := by decide +kernel
theorem d_R_addCopy_18 : decode prog_9_method_6_code 18 = .ok (.aload_n 0, 1) := by decide +kernel
theorem d_R_addCopy_19 : decode prog_9_method_6_code 19 = .ok (.getfield 13, 3) := by decide +kernel
theorem d_R_addCopy_22 : decode prog_9_method_6_code 22 = .ok (.imul, 1) := by decide +kernel
theorem d_R_addCopy_23 : decode prog_9_method_6_code 23 = .ok (.aload_n 0, 1) := by decide +kernel
theorem d_R_addCopy_24 : decode prog_9_method_6_code 24 = .ok (.getfield 13, 3) := by decide +kernel
theorem d_R_addCopy_27 : decode prog_9_method_6_code 27 = .ok (.invokestatic 20, 3) := by decide +kernel
theorem d_R_addCopy_30 : decode prog_9_method_6_code 30 = .ok (.aload_n 0, 1) := by decide +kernel
theorem d_R_addCopy_31 : decode prog_9_method_6_code 31 = .ok (.dup, 1) := by decide +kernel
theorem d_R_addCopy_32 : decode prog_9_method_6_code 32 = .ok (.getfield 17, 3) := by decide +kernel
theorem d_R_addCopy_35 : decode prog_9_method_6_code 35 = .ok (.iconst 1, 1) := by decide +kernel
theorem d_R_addCopy_36 : decode prog_9_method_6_code 36 = .ok (.iadd, 1) := by decide +kernel
theorem d_R_addCopy_37 : decode prog_9_method_6_code 37 = .ok (.putfield 17, 3) := by decide +kernel
theorem d_R_addCopy_40 : decode prog_9_method_6_code 40 = .ok (.return_, 1) := by decide +kernel
def y_R_has : MethodName := ⟨"BatchPlans$Rows", "has", "(II)Z"⟩
theorem kw_624 : (Jvm.Cond.code ({ cls := "BatchPlans$Rows", name := "has", desc := "(II)Z" } : Jvm.MethodName) prog_9_method_9_code (4 : Nat) (Option.some Jvm.ClassFile.FieldType.boolean)) ∈ TB := tb_mem (tb_s3 _ (List.mem_of_getElem? (i := 144) (by decide +kernel))) (by decide +kernel)
theorem d_R_has_0 : decode prog_9_method_9_code 0 = .ok (.iconst 0, 1) := by decide +kernel
theorem d_R_has_1 : decode prog_9_method_9_code 1 = .ok (.istore_n 3, 1) := by decide +kernel
theorem d_R_has_2 : decode prog_9_method_9_code 2 = .ok (.iload_n 3, 1) := by decide +kernel
theorem d_R_has_3 : decode prog_9_method_9_code 3 = .ok (.aload_n 0, 1) := by decide +kernel
theorem d_R_has_4 : decode prog_9_method_9_code 4 = .ok (.getfield 17, 3) := by decide +kernel
theorem d_R_has_7 : decode prog_9_method_9_code 7 = .ok (.if_icmp .ge 21, 3) := by decide +kernel
theorem d_R_has_10 : decode prog_9_method_9_code 10 = .ok (.aload_n 0, 1) := by decide +kernel
theorem d_R_has_11 : decode prog_9_method_9_code 11 = .ok (.iload_n 3, 1) := by decide +kernel
theorem d_R_has_12 : decode prog_9_method_9_code 12 = .ok (.iload_n 1, 1) := by decide +kernel
theorem d_R_has_13 : decode prog_9_method_9_code 13 = .ok (.invokevirtual 30, 3) := by decide +kernel
theorem d_R_has_16 : decode prog_9_method_9_code 16 = .ok (.iload_n 2, 1) := by decide +kernel
theorem d_R_has_17 : decode prog_9_method_9_code 17 = .ok (.if_icmp .ne 5, 3) := by decide +kernel
theorem d_R_has_20 : decode prog_9_method_9_code 20 = .ok (.iconst 1, 1) := by decide +kernel
theorem d_R_has_21 : decode prog_9_method_9_code 21 = .ok (.ireturn, 1) := by decide +kernel
theorem d_R_has_22 : decode prog_9_method_9_code 22 = .ok (.iinc 3 1, 3) := by decide +kernel
theorem d_R_has_25 : decode prog_9_method_9_code 25 = .ok (.goto (-23), 3) := by decide +kernel
theorem d_R_has_28 : decode prog_9_method_9_code 28 = .ok (.iconst 0, 1) := by decide +kernel
theorem d_R_has_29 : decode prog_9_method_9_code 29 = .ok (.ireturn, 1) := by decide +kernel
def y_R_isLess : MethodName := ⟨"BatchPlans$Rows", "isLess", "(LBatchPlans$Rows;II)Z"⟩
theorem kw_735 : (Jvm.Cond.code ({ cls := "BatchPlans$Rows", name := "isLess", desc := "(LBatchPlans$Rows;II)Z" } : Jvm.MethodName) prog_9_method_10_code (6 : Nat) (Option.some Jvm.ClassFile.FieldType.boolean)) ∈ TB := tb_mem (tb_s4 _ (List.mem_of_getElem? (i := 15) (by decide +kernel))) (by decide +kernel)
theorem d_R_isLess_0 : decode prog_9_method_10_code 0 = .ok (.iconst 0, 1) := by decide +kernel
theorem d_R_isLess_1 : decode prog_9_method_10_code 1 = .ok (.istore 4, 2) := by decide +kernel
theorem d_R_isLess_3 : decode prog_9_method_10_code 3 = .ok (.iload 4, 2) := by decide +kernel
theorem d_R_isLess_5 : decode prog_9_method_10_code 5 = .ok (.aload_n 0, 1) := by decide +kernel
theorem d_R_isLess_6 : decode prog_9_method_10_code 6 = .ok (.getfield 13, 3) := by decide +kernel
theorem d_R_isLess_9 : decode prog_9_method_10_code 9 = .ok (.if_icmp .ge 44, 3) := by decide +kernel
theorem d_R_isLess_12 : decode prog_9_method_10_code 12 = .ok (.aload_n 1, 1) := by decide +kernel
theorem d_R_isLess_13 : decode prog_9_method_10_code 13 = .ok (.iload_n 2, 1) := by decide +kernel
theorem d_R_isLess_14 : decode prog_9_method_10_code 14 = .ok (.iload 4, 2) := by decide +kernel
theorem d_R_isLess_16 : decode prog_9_method_10_code 16 = .ok (.invokevirtual 30, 3) := by decide +kernel
theorem d_R_isLess_19 : decode prog_9_method_10_code 19 = .ok (.aload_n 0, 1) := by decide +kernel
theorem d_R_isLess_20 : decode prog_9_method_10_code 20 = .ok (.iload_n 3, 1) := by decide +kernel
theorem d_R_isLess_21 : decode prog_9_method_10_code 21 = .ok (.iload 4, 2) := by decide +kernel
theorem d_R_isLess_23 : decode prog_9_method_10_code 23 = .ok (.invokevirtual 30, 3) := by decide +kernel
theorem d_R_isLess_26 : decode prog_9_method_10_code 26 = .ok (.invokestatic 34, 3) := by decide +kernel
theorem d_R_isLess_29 : decode prog_9_method_10_code 29 = .ok (.istore 5, 2) := by decide +kernel
theorem d_R_isLess_31 : decode prog_9_method_10_code 31 = .ok (.iload 5, 2) := by decide +kernel
theorem d_R_isLess_33 : decode prog_9_method_10_code 33 = .ok (.ifCond .eq 14, 3) := by decide +kernel
theorem d_R_isLess_36 : decode prog_9_method_10_code 36 = .ok (.iload 5, 2) := by decide +kernel
theorem d_R_isLess_38 : decode prog_9_method_10_code 38 = .ok (.ifCond .ge 7, 3) := by decide +kernel
theorem d_R_isLess_41 : decode prog_9_method_10_code 41 = .ok (.iconst 1, 1) := by decide +kernel
theorem d_R_isLess_42 : decode prog_9_method_10_code 42 = .ok (.goto 4, 3) := by decide +kernel
theorem d_R_isLess_45 : decode prog_9_method_10_code 45 = .ok (.iconst 0, 1) := by decide +kernel
theorem d_R_isLess_46 : decode prog_9_method_10_code 46 = .ok (.ireturn, 1) := by decide +kernel
theorem d_R_isLess_47 : decode prog_9_method_10_code 47 = .ok (.iinc 4 1, 3) := by decide +kernel
theorem d_R_isLess_50 : decode prog_9_method_10_code 50 = .ok (.goto (-47), 3) := by decide +kernel
theorem d_R_isLess_53 : decode prog_9_method_10_code 53 = .ok (.iconst 0, 1) := by decide +kernel
theorem d_R_isLess_54 : decode prog_9_method_10_code 54 = .ok (.ireturn, 1) := by decide +kernel
def y_R_addPair : MethodName := ⟨"BatchPlans$Rows", "addPair", "(LBatchPlans$Rows;ILBatchPlans$Rows;I)V"⟩
theorem kw_698 : (Jvm.Cond.code ({ cls := "BatchPlans$Rows", name := "addPair", desc := "(LBatchPlans$Rows;ILBatchPlans$Rows;I)V" } : Jvm.MethodName) prog_9_method_7_code (6 : Nat) (Option.none : Option Jvm.ClassFile.FieldType)) ∈ TB := tb_mem (tb_s3 _ (List.mem_of_getElem? (i := 218) (by decide +kernel))) (by decide +kernel)
theorem d_R_addPair_0 : decode prog_9_method_7_code 0 = .ok (.aload_n 0, 1) := by decide +kernel
theorem d_R_addPair_1 : decode prog_9_method_7_code 1 = .ok (.getfield 17, 3) := by decide +kernel
theorem d_R_addPair_4 : decode prog_9_method_7_code 4 = .ok (.aload_n 0, 1) := by decide +kernel
theorem d_R_addPair_5 : decode prog_9_method_7_code 5 = .ok (.getfield 13, 3) := by decide +kernel
theorem d_R_addPair_8 : decode prog_9_method_7_code 8 = .ok (.imul, 1) := by decide +kernel
theorem d_R_addPair_9 : decode prog_9_method_7_code 9 = .ok (.istore 5, 2) := by decide +kernel
theorem d_R_addPair_11 : decode prog_9_method_7_code 11 = .ok (.aload_n 1, 1) := by decide +kernel
theorem d_R_addPair_12 : decode prog_9_method_7_code 12 = .ok (.getfield 7, 3) := by decide +kernel
theorem d_R_addPair_15 : decode prog_9_method_7_code 15 = .ok (.iload_n 2, 1) := by decide +kernel
theorem d_R_addPair_16 : decode prog_9_method_7_code 16 = .ok (.aload_n 1, 1) := by decide +kernel
theorem d_R_addPair_17 : decode prog_9_method_7_code 17 = .ok (.getfield 13, 3) := by decide +kernel
theorem d_R_addPair_20 : decode prog_9_method_7_code 20 = .ok (.imul, 1) := by decide +kernel
theorem d_R_addPair_21 : decode prog_9_method_7_code 21 = .ok (.aload_n 0, 1) := by decide +kernel
theorem d_R_addPair_22 : decode prog_9_method_7_code 22 = .ok (.getfield 7, 3) := by decide +kernel
theorem d_R_addPair_25 : decode prog_9_method_7_code 25 = .ok (.iload 5, 2) := by decide +kernel
theorem d_R_addPair_27 : decode prog_9_method_7_code 27 = .ok (.aload_n 1, 1) := by decide +kernel
theorem d_R_addPair_28 : decode prog_9_method_7_code 28 = .ok (.getfield 13, 3) := by decide +kernel
theorem d_R_addPair_31 : decode prog_9_method_7_code 31 = .ok (.invokestatic 20, 3) := by decide +kernel
theorem d_R_addPair_34 : decode prog_9_method_7_code 34 = .ok (.aload_n 3, 1) := by decide +kernel
theorem d_R_addPair_35 : decode prog_9_method_7_code 35 = .ok (.getfield 7, 3) := by decide +kernel
theorem d_R_addPair_38 : decode prog_9_method_7_code 38 = .ok (.iload 4, 2) := by decide +kernel
theorem d_R_addPair_40 : decode prog_9_method_7_code 40 = .ok (.aload_n 3, 1) := by decide +kernel
theorem d_R_addPair_41 : decode prog_9_method_7_code 41 = .ok (.getfield 13, 3) := by decide +kernel
theorem d_R_addPair_44 : decode prog_9_method_7_code 44 = .ok (.imul, 1) := by decide +kernel
theorem d_R_addPair_45 : decode prog_9_method_7_code 45 = .ok (.aload_n 0, 1) := by decide +kernel
theorem d_R_addPair_46 : decode prog_9_method_7_code 46 = .ok (.getfield 7, 3) := by decide +kernel
theorem d_R_addPair_49 : decode prog_9_method_7_code 49 = .ok (.iload 5, 2) := by decide +kernel
theorem d_R_addPair_51 : decode prog_9_method_7_code 51 = .ok (.aload_n 1, 1) := by decide +kernel
theorem d_R_addPair_52 : decode prog_9_method_7_code 52 = .ok (.getfield 13, 3) := by decide +kernel
theorem d_R_addPair_55 : decode prog_9_method_7_code 55 = .ok (.iadd, 1) := by decide +kernel
theorem d_R_addPair_56 : decode prog_9_method_7_code 56 = .ok (.aload_n 3, 1) := by decide +kernel
theorem d_R_addPair_57 : decode prog_9_method_7_code 57 = .ok (.getfield 13, 3) := by decide +kernel
theorem d_R_addPair_60 : decode prog_9_method_7_code 60 = .ok (.invokestatic 20, 3) := by decide +kernel
theorem d_R_addPair_63 : decode prog_9_method_7_code 63 = .ok (.aload_n 0, 1) := by decide +kernel
theorem d_R_addPair_64 : decode prog_9_method_7_code 64 = .ok (.dup, 1) := by decide +kernel
theorem d_R_addPair_65 : decode prog_9_method_7_code 65 = .ok (.getfield 17, 3) := by decide +kernel
theorem d_R_addPair_68 : decode prog_9_method_7_code 68 = .ok (.iconst 1, 1) := by decide +kernel
theorem d_R_addPair_69 : decode prog_9_method_7_code 69 = .ok (.iadd, 1) := by decide +kernel
theorem d_R_addPair_70 : decode prog_9_method_7_code 70 = .ok (.putfield 17, 3) := by decide +kernel
theorem d_R_addPair_73 : decode prog_9_method_7_code 73 = .ok (.return_, 1) := by decide +kernel
def y_R_addInOrder : MethodName := ⟨"BatchPlans$Rows", "addInOrder", "(LBatchPlans$Rows;I)V"⟩
theorem kw_731 : (Jvm.Cond.code ({ cls := "BatchPlans$Rows", name := "addInOrder", desc := "(LBatchPlans$Rows;I)V" } : Jvm.MethodName) prog_9_method_8_code (5 : Nat) (Option.none : Option Jvm.ClassFile.FieldType)) ∈ TB := tb_mem (tb_s4 _ (List.mem_of_getElem? (i := 11) (by decide +kernel))) (by decide +kernel)
theorem d_R_addInOrder_0 : decode prog_9_method_8_code 0 = .ok (.aload_n 0, 1) := by decide +kernel
theorem d_R_addInOrder_1 : decode prog_9_method_8_code 1 = .ok (.getfield 17, 3) := by decide +kernel
theorem d_R_addInOrder_4 : decode prog_9_method_8_code 4 = .ok (.istore_n 3, 1) := by decide +kernel
theorem d_R_addInOrder_5 : decode prog_9_method_8_code 5 = .ok (.iload_n 3, 1) := by decide +kernel
theorem d_R_addInOrder_6 : decode prog_9_method_8_code 6 = .ok (.ifCond .le 21, 3) := by decide +kernel
theorem d_R_addInOrder_9 : decode prog_9_method_8_code 9 = .ok (.aload_n 0, 1) := by decide +kernel
theorem d_R_addInOrder_10 : decode prog_9_method_8_code 10 = .ok (.aload_n 1, 1) := by decide +kernel
theorem d_R_addInOrder_11 : decode prog_9_method_8_code 11 = .ok (.iload_n 2, 1) := by decide +kernel
theorem d_R_addInOrder_12 : decode prog_9_method_8_code 12 = .ok (.iload_n 3, 1) := by decide +kernel
theorem d_R_addInOrder_13 : decode prog_9_method_8_code 13 = .ok (.iconst 1, 1) := by decide +kernel
theorem d_R_addInOrder_14 : decode prog_9_method_8_code 14 = .ok (.isub, 1) := by decide +kernel
theorem d_R_addInOrder_15 : decode prog_9_method_8_code 15 = .ok (.invokevirtual 26, 3) := by decide +kernel
theorem d_R_addInOrder_18 : decode prog_9_method_8_code 18 = .ok (.ifCond .eq 9, 3) := by decide +kernel
theorem d_R_addInOrder_21 : decode prog_9_method_8_code 21 = .ok (.iinc 3 (-1), 3) := by decide +kernel
theorem d_R_addInOrder_24 : decode prog_9_method_8_code 24 = .ok (.goto (-19), 3) := by decide +kernel
theorem d_R_addInOrder_27 : decode prog_9_method_8_code 27 = .ok (.iload_n 3, 1) := by decide +kernel
theorem d_R_addInOrder_28 : decode prog_9_method_8_code 28 = .ok (.aload_n 0, 1) := by decide +kernel
theorem d_R_addInOrder_29 : decode prog_9_method_8_code 29 = .ok (.getfield 13, 3) := by decide +kernel
theorem d_R_addInOrder_32 : decode prog_9_method_8_code 32 = .ok (.imul, 1) := by decide +kernel
theorem d_R_addInOrder_33 : decode prog_9_method_8_code 33 = .ok (.istore 4, 2) := by decide +kernel
theorem d_R_addInOrder_35 : decode prog_9_method_8_code 35 = .ok (.aload_n 0, 1) := by decide +kernel
theorem d_R_addInOrder_36 : decode prog_9_method_8_code 36 = .ok (.getfield 7, 3) := by decide +kernel
theorem d_R_addInOrder_39 : decode prog_9_method_8_code 39 = .ok (.iload 4, 2) := by decide +kernel
theorem d_R_addInOrder_41 : decode prog_9_method_8_code 41 = .ok (.aload_n 0, 1) := by decide +kernel
theorem d_R_addInOrder_42 : decode prog_9_method_8_code 42 = .ok (.getfield 7, 3) := by decide +kernel
theorem d_R_addInOrder_45 : decode prog_9_method_8_code 45 = .ok (.iload 4, 2) := by decide +kernel
theorem d_R_addInOrder_47 : decode prog_9_method_8_code 47 = .ok (.aload_n 0, 1) := by decide +kernel
theorem d_R_addInOrder_48 : decode prog_9_method_8_code 48 = .ok (.getfield 13, 3) := by decide +kernel
theorem d_R_addInOrder_51 : decode prog_9_method_8_code 51 = .ok (.iadd, 1) := by decide +kernel
theorem d_R_addInOrder_52 : decode prog_9_method_8_code 52 = .ok (.aload_n 0, 1) := by decide +kernel
theorem d_R_addInOrder_53 : decode prog_9_method_8_code 53 = .ok (.getfield 17, 3) := by decide +kernel
theorem d_R_addInOrder_56 : decode prog_9_method_8_code 56 = .ok (.iload_n 3, 1) := by decide +kernel
theorem d_R_addInOrder_57 : decode prog_9_method_8_code 57 = .ok (.isub, 1) := by decide +kernel
theorem d_R_addInOrder_58 : decode prog_9_method_8_code 58 = .ok (.aload_n 0, 1) := by decide +kernel
theorem d_R_addInOrder_59 : decode prog_9_method_8_code 59 = .ok (.getfield 13, 3) := by decide +kernel
theorem d_R_addInOrder_62 : decode prog_9_method_8_code 62 = .ok (.imul, 1) := by decide +kernel
theorem d_R_addInOrder_63 : decode prog_9_method_8_code 63 = .ok (.invokestatic 20, 3) := by decide +kernel
theorem d_R_addInOrder_66 : decode prog_9_method_8_code 66 = .ok (.aload_n 1, 1) := by decide +kernel
theorem d_R_addInOrder_67 : decode prog_9_method_8_code 67 = .ok (.getfield 7, 3) := by decide +kernel
theorem d_R_addInOrder_70 : decode prog_9_method_8_code 70 = .ok (.iload_n 2, 1) := by decide +kernel
theorem d_R_addInOrder_71 : decode prog_9_method_8_code 71 = .ok (.aload_n 0, 1) := by decide +kernel
theorem d_R_addInOrder_72 : decode prog_9_method_8_code 72 = .ok (.getfield 13, 3) := by decide +kernel
theorem d_R_addInOrder_75 : decode prog_9_method_8_code 75 = .ok (.imul, 1) := by decide +kernel
theorem d_R_addInOrder_76 : decode prog_9_method_8_code 76 = .ok (.aload_n 0, 1) := by decide +kernel
theorem d_R_addInOrder_77 : decode prog_9_method_8_code 77 = .ok (.getfield 7, 3) := by decide +kernel
theorem d_R_addInOrder_80 : decode prog_9_method_8_code 80 = .ok (.iload 4, 2) := by decide +kernel
theorem d_R_addInOrder_82 : decode prog_9_method_8_code 82 = .ok (.aload_n 0, 1) := by decide +kernel
theorem d_R_addInOrder_83 : decode prog_9_method_8_code 83 = .ok (.getfield 13, 3) := by decide +kernel
theorem d_R_addInOrder_86 : decode prog_9_method_8_code 86 = .ok (.invokestatic 20, 3) := by decide +kernel
theorem d_R_addInOrder_89 : decode prog_9_method_8_code 89 = .ok (.aload_n 0, 1) := by decide +kernel
theorem d_R_addInOrder_90 : decode prog_9_method_8_code 90 = .ok (.dup, 1) := by decide +kernel
theorem d_R_addInOrder_91 : decode prog_9_method_8_code 91 = .ok (.getfield 17, 3) := by decide +kernel
theorem d_R_addInOrder_94 : decode prog_9_method_8_code 94 = .ok (.iconst 1, 1) := by decide +kernel
theorem d_R_addInOrder_95 : decode prog_9_method_8_code 95 = .ok (.iadd, 1) := by decide +kernel
theorem d_R_addInOrder_96 : decode prog_9_method_8_code 96 = .ok (.putfield 17, 3) := by decide +kernel
theorem d_R_addInOrder_99 : decode prog_9_method_8_code 99 = .ok (.return_, 1) := by decide +kernel
def y_JInteger_compare : MethodName := ⟨"java/lang/Integer", "compare", "(II)I"⟩
theorem kw_738 : (Jvm.Cond.code ({ cls := "java/lang/Integer", name := "compare", desc := "(II)I" } : Jvm.MethodName) prog_20_method_40_code (2 : Nat) (Option.some Jvm.ClassFile.FieldType.int)) ∈ TB := tb_mem (tb_s4 _ (List.mem_of_getElem? (i := 18) (by decide +kernel))) (by decide +kernel)
theorem d_JInteger_compare_0 : decode prog_20_method_40_code 0 = .ok (.iload_n 0, 1) := by decide +kernel
theorem d_JInteger_compare_1 : decode prog_20_method_40_code 1 = .ok (.iload_n 1, 1) := by decide +kernel
theorem d_JInteger_compare_2 : decode prog_20_method_40_code 2 = .ok (.if_icmp .ge 7, 3) := by decide +kernel
theorem d_JInteger_compare_5 : decode prog_20_method_40_code 5 = .ok (.iconst (-1), 1) := by decide +kernel
theorem d_JInteger_compare_6 : decode prog_20_method_40_code 6 = .ok (.goto 13, 3) := by decide +kernel
theorem d_JInteger_compare_9 : decode prog_20_method_40_code 9 = .ok (.iload_n 0, 1) := by decide +kernel
theorem d_JInteger_compare_10 : decode prog_20_method_40_code 10 = .ok (.iload_n 1, 1) := by decide +kernel
theorem d_JInteger_compare_11 : decode prog_20_method_40_code 11 = .ok (.if_icmp .ne 7, 3) := by decide +kernel
theorem d_JInteger_compare_14 : decode prog_20_method_40_code 14 = .ok (.iconst 0, 1) := by decide +kernel
theorem d_JInteger_compare_15 : decode prog_20_method_40_code 15 = .ok (.goto 4, 3) := by decide +kernel
theorem d_JInteger_compare_18 : decode prog_20_method_40_code 18 = .ok (.iconst 1, 1) := by decide +kernel
theorem d_JInteger_compare_19 : decode prog_20_method_40_code 19 = .ok (.ireturn, 1) := by decide +kernel
theorem kw_44 : (Jvm.Cond.fieldLink "BatchPlans$Rows" (7 : Nat) "BatchPlans$Rows" "cells" "[I") ∈ TB := tb_mem (tb_s1 _ (List.mem_of_getElem? (i := 44) (by decide +kernel))) (by decide +kernel)
theorem kw_45 : (Jvm.Cond.fieldLink "BatchPlans$Rows" (13 : Nat) "BatchPlans$Rows" "columns" "I") ∈ TB := tb_mem (tb_s1 _ (List.mem_of_getElem? (i := 45) (by decide +kernel))) (by decide +kernel)
theorem kw_47 : (Jvm.Cond.fieldLink "BatchPlans$Rows" (17 : Nat) "BatchPlans$Rows" "count" "I") ∈ TB := tb_mem (tb_s1 _ (List.mem_of_getElem? (i := 47) (by decide +kernel))) (by decide +kernel)
theorem kw_614 : (Jvm.Cond.methodLink "BatchPlans$Rows" (20 : Nat) ({ cls := "java/lang/System", name := "arraycopy", desc := "(Ljava/lang/Object;ILjava/lang/Object;II)V" } : Jvm.MethodName)) ∈ TB := tb_mem (tb_s3 _ (List.mem_of_getElem? (i := 134) (by decide +kernel))) (by decide +kernel)
theorem kw_429 : (Jvm.Cond.native ({ cls := "java/lang/System", name := "arraycopy", desc := "(Ljava/lang/Object;ILjava/lang/Object;II)V" } : Jvm.MethodName)) ∈ TB := tb_mem (tb_s2 _ (List.mem_of_getElem? (i := 189) (by decide +kernel))) (by decide +kernel)
theorem kw_428 : (Jvm.Cond.static ({ cls := "java/lang/System", name := "arraycopy", desc := "(Ljava/lang/Object;ILjava/lang/Object;II)V" } : Jvm.MethodName)) ∈ TB := tb_mem (tb_s2 _ (List.mem_of_getElem? (i := 188) (by decide +kernel))) (by decide +kernel)
theorem kw_19 : (Jvm.Cond.initialized "java/lang/System") ∈ TB := tb_mem (tb_s1 _ (List.mem_of_getElem? (i := 19) (by decide +kernel))) (by decide +kernel)
theorem kw_2 : (Jvm.Cond.initialized "BatchPlans$Rows") ∈ TB := tb_mem (tb_s1 _ (List.mem_of_getElem? (i := 2) (by decide +kernel))) (by decide +kernel)
theorem kw_625 : (Jvm.Cond.methodLink "BatchPlans$Rows" (30 : Nat) ({ cls := "BatchPlans$Rows", name := "at", desc := "(II)I" } : Jvm.MethodName)) ∈ TB := tb_mem (tb_s3 _ (List.mem_of_getElem? (i := 145) (by decide +kernel))) (by decide +kernel)
theorem kw_603 : (Jvm.Cond.instanceMethod ({ cls := "BatchPlans$Rows", name := "at", desc := "(II)I" } : Jvm.MethodName)) ∈ TB := tb_mem (tb_s3 _ (List.mem_of_getElem? (i := 123) (by decide +kernel))) (by decide +kernel)
theorem kw_604 : (Jvm.Cond.selects "BatchPlans$Rows" ({ cls := "BatchPlans$Rows", name := "at", desc := "(II)I" } : Jvm.MethodName) ({ cls := "BatchPlans$Rows", name := "at", desc := "(II)I" } : Jvm.MethodName)) ∈ TB := tb_mem (tb_s3 _ (List.mem_of_getElem? (i := 124) (by decide +kernel))) (by decide +kernel)
theorem kw_27 : (Jvm.Cond.initialized "java/lang/Integer") ∈ TB := tb_mem (tb_s1 _ (List.mem_of_getElem? (i := 27) (by decide +kernel))) (by decide +kernel)
theorem kw_736 : (Jvm.Cond.methodLink "BatchPlans$Rows" (34 : Nat) ({ cls := "java/lang/Integer", name := "compare", desc := "(II)I" } : Jvm.MethodName)) ∈ TB := tb_mem (tb_s4 _ (List.mem_of_getElem? (i := 16) (by decide +kernel))) (by decide +kernel)
theorem kw_737 : (Jvm.Cond.static ({ cls := "java/lang/Integer", name := "compare", desc := "(II)I" } : Jvm.MethodName)) ∈ TB := tb_mem (tb_s4 _ (List.mem_of_getElem? (i := 17) (by decide +kernel))) (by decide +kernel)
theorem kw_732 : (Jvm.Cond.methodLink "BatchPlans$Rows" (26 : Nat) ({ cls := "BatchPlans$Rows", name := "isLess", desc := "(LBatchPlans$Rows;II)Z" } : Jvm.MethodName)) ∈ TB := tb_mem (tb_s4 _ (List.mem_of_getElem? (i := 12) (by decide +kernel))) (by decide +kernel)
theorem kw_734 : (Jvm.Cond.instanceMethod ({ cls := "BatchPlans$Rows", name := "isLess", desc := "(LBatchPlans$Rows;II)Z" } : Jvm.MethodName)) ∈ TB := tb_mem (tb_s4 _ (List.mem_of_getElem? (i := 14) (by decide +kernel))) (by decide +kernel)
theorem ks_BatchPlansRowsisLessLBatchPlansRowsIIZ : Cond.selects "BatchPlans$Rows" ⟨"BatchPlans$Rows", "isLess", "(LBatchPlans$Rows;II)Z"⟩ ⟨"BatchPlans$Rows", "isLess", "(LBatchPlans$Rows;II)Z"⟩ ∈ TB := tb_memS (by decide +kernel) (by decide +kernel)
set_option maxHeartbeats 4000000 in
set_option maxRecDepth 100000 in
theorem c_R_at (l : Launch) {G : hGt} {a0 : Nat} {M : hMp} {h q w n k i c : Nat} {f : Nat → Int32} (hh : M h = some (.inr (0, [.ref q, .int (nI w), .int (nI n)]))) (hq : M q = some (aI G k f)) (hi : i * w + c < k) (hk : k ≤ 65536) : MX l y_R_at TB ({ frames := 0, cells := 0, slots := 0, locals := 0 }) (va_Pc [.ref h, .int (nI i), .int (nI c)] (hU (Ev G a0) G.1 vwCl a0 M)) (hR G.1 vwCl a0 M (fun r => r = some (.int (f (i * w + c)))) (fun _ => False)) 0 0 (fun _ => False) := by
  refine MX.ofW tb_good (by decide) kw_605 (Nat.le_of_ble_eq_true rfl) ?_
  intro p e s m below meth cd ls C0 hr hlk hnm hxt hV hS hl
  have hx := C0.1
  have hb := C0.2.1
  have hK : va_K G.1 vwCl (hT G) s := C0.2.2.2.2.2.1.1
  have hN := C0.2.2.2.2.2.1.2.1
  have hl : lv_has ls 3 [(0, .ref h), (1, .int (nI i)), (2, .int (nI c))] := hl
  refine lv_aload_n hx hb d_R_at_0 rfl (lv_at hl 0 rfl) ?_
  refine hp_get C0 hK cl_R hV hh 0 (by decide) kw_44 (fun _ h => h) rfl d_R_at_1 ?_
  refine lv_iload_n hx hb d_R_at_4 rfl (lv_at hl 1 rfl) ?_
  refine lv_aload_n hx hb d_R_at_5 rfl (lv_at hl 0 rfl) ?_
  refine hp_get C0 hK cl_R hV hh 1 (by decide) kw_45 (fun _ h => h) rfl d_R_at_6 ?_
  refine lv_imul hx hb d_R_at_9 ?_
  refine lv_rei (y := nI (i * w)) (pk_mul _ _) ?_
  refine lv_iload_n hx hb d_R_at_10 rfl (lv_at hl 2 rfl) ?_
  refine lv_iadd hx hb d_R_at_11 ?_
  refine lv_rei (y := nI ((i * w) + c)) (nI_add _ _) ?_
  refine hp_iald C0 hK 0 rfl hV hq ((i * w) + c) rfl hi (by omega) d_R_at_12 ?_
  exact hr_iret C0 hr hlk d_R_at_13 rfl
set_option maxHeartbeats 4000000 in
set_option maxRecDepth 100000 in
theorem c_R_empty (l : Launch) {G : hGt} {a0 : Nat} {M : hMp} {h q : Nat} {w0 n0 w : Int32} (hh : M h = some (.inr (0, [.ref q, .int w0, .int n0]))) : MX l y_R_empty TB ({ frames := 0, cells := 0, slots := 0, locals := 0 }) (va_Pc [.ref h, .int w] (hU (Ev G a0) G.1 vwCl a0 M)) (hQ G.1 vwCl a0 (fun oc M' => oc = .returned none ∧ M' = va_up M h (some (.inr (0, [.ref q, .int w, .int (nI 0)]))))) 0 0 (hA a0) := by
  refine MX.ofW tb_good (by decide) kw_66 (Nat.le_of_ble_eq_true rfl) ?_
  intro p e s m below meth cd ls C0 hr hlk hnm hxt hV hS hl
  have hx := C0.1
  have hb := C0.2.1
  have hK : va_K G.1 vwCl (hT G) s := C0.2.2.2.2.2.1.1
  have hN := C0.2.2.2.2.2.1.2.1
  have hl : lv_has ls 2 [(0, .ref h), (1, .int w)] := hl
  refine lv_aload_n hx hb d_R_empty_0 rfl (lv_at hl 0 rfl) ?_
  refine lv_iload_n hx hb d_R_empty_1 rfl (lv_at hl 1 rfl) ?_
  refine hp_put C0 hK cl_R hV hS hh 1 (by decide) kw_45 (fun _ h => h) rfl rfl rfl (Nat.le_of_ble_eq_true rfl) d_R_empty_2 (fun H locs hV hS => ?_)
  have hV : hv G.1 vwCl a0 (va_up M h (some (.inr (0, [.ref q, .int w, .int n0])))) H := hV
  have hh : (va_up M h (some (.inr (0, [.ref q, .int w, .int n0])))) h = some (.inr (0, [.ref q, .int w, .int n0])) := va_up_self _ _ _
  refine lv_aload_n hx hb d_R_empty_5 rfl (lv_at hl 0 rfl) ?_
  refine lv_iconst (v := nI 0) hx hb d_R_empty_6 (by decide) ?_
  refine hp_put C0 hK cl_R hV hS hh 2 (by decide) kw_47 (fun _ h => h) rfl rfl rfl (Nat.le_of_ble_eq_true rfl) d_R_empty_7 (fun H locs hV hS => ?_)
  have hV : hv G.1 vwCl a0 (va_up (va_up M h (some (.inr (0, [.ref q, .int w, .int n0])))) h (some (.inr (0, [.ref q, .int w, .int (nI 0)])))) H := hV
  have hh : (va_up (va_up M h (some (.inr (0, [.ref q, .int w, .int n0])))) h (some (.inr (0, [.ref q, .int w, .int (nI 0)])))) h = some (.inr (0, [.ref q, .int w, .int (nI 0)])) := va_up_self _ _ _
  exact hx_vret C0 hr hlk hV hS d_R_empty_10 ⟨rfl, bx_uu _ _ _ _⟩
set_option maxHeartbeats 4000000 in
set_option maxRecDepth 100000 in
theorem c_R_put (l : Launch) {G : hGt} {a0 : Nat} {M : hMp} {h q w n k i c : Nat} {f : Nat → Int32} {x : Int32} (hh : M h = some (.inr (0, [.ref q, .int (nI w), .int (nI n)]))) (hq : M q = some (aI G k f)) (hi : i * w + c < k) (hk : k ≤ 65536) : MX l y_R_put TB ({ frames := 0, cells := 0, slots := 0, locals := 0 }) (va_Pc [.ref h, .int (nI i), .int (nI c), .int x] (hU (Ev G a0) G.1 vwCl a0 M)) (hQ G.1 vwCl a0 (fun oc M' => oc = .returned none ∧ M' = va_up M q (some (aI G k (upd f (i * w + c) x))))) 0 0 (hA a0) := by
  refine MX.ofW tb_good (by decide) kw_719 (Nat.le_of_ble_eq_true rfl) ?_
  intro p e s m below meth cd ls C0 hr hlk hnm hxt hV hS hl
  have hx := C0.1
  have hb := C0.2.1
  have hK : va_K G.1 vwCl (hT G) s := C0.2.2.2.2.2.1.1
  have hN := C0.2.2.2.2.2.1.2.1
  have hl : lv_has ls 4 [(0, .ref h), (1, .int (nI i)), (2, .int (nI c)), (3, .int x)] := hl
  refine lv_aload_n hx hb d_R_put_0 rfl (lv_at hl 0 rfl) ?_
  refine hp_get C0 hK cl_R hV hh 0 (by decide) kw_44 (fun _ h => h) rfl d_R_put_1 ?_
  refine lv_iload_n hx hb d_R_put_4 rfl (lv_at hl 1 rfl) ?_
  refine lv_aload_n hx hb d_R_put_5 rfl (lv_at hl 0 rfl) ?_
  refine hp_get C0 hK cl_R hV hh 1 (by decide) kw_45 (fun _ h => h) rfl d_R_put_6 ?_
  refine lv_imul hx hb d_R_put_9 ?_
  refine lv_rei (y := nI (i * w)) (pk_mul _ _) ?_
  refine lv_iload_n hx hb d_R_put_10 rfl (lv_at hl 2 rfl) ?_
  refine lv_iadd hx hb d_R_put_11 ?_
  refine lv_rei (y := nI ((i * w) + c)) (nI_add _ _) ?_
  refine lv_iload_n hx hb d_R_put_12 rfl (lv_at hl 3 rfl) ?_
  refine hp_iast C0 hK 0 rfl hV hS hq ((i * w) + c) rfl hi (by omega) d_R_put_13 (fun H locs hV hS => ?_)
  have hV : hv G.1 vwCl a0 (va_up M q (some (aI G k (upd f ((i * w) + c) x)))) H := hV
  have hh : (va_up M q (some (aI G k (upd f ((i * w) + c) x)))) h = some (.inr (0, [.ref q, .int (nI w), .int (nI n)])) := (va_up_ne _ _ (hm_oa hh hq)).trans hh
  have hq : (va_up M q (some (aI G k (upd f ((i * w) + c) x)))) q = some (aI G k (upd f ((i * w) + c) x)) := va_up_self _ _ _
  exact hx_vret C0 hr hlk hV hS d_R_put_14 ⟨rfl, rfl⟩
set_option maxHeartbeats 4000000 in
set_option maxRecDepth 100000 in
theorem c_R_addThree (l : Launch) {G : hGt} {a0 : Nat} {M : hMp} {h q n k : Nat} {f : Nat → Int32} {x y z : Int32} (hh : M h = some (.inr (0, [.ref q, .int (nI 3), .int (nI n)]))) (hq : M q = some (aI G k f)) (hi : n * 3 + 2 < k) (hk : k ≤ 65536) : MX l y_R_addThree TB ({ frames := 0, cells := 0, slots := 0, locals := 0 }) (va_Pc [.ref h, .int x, .int y, .int z] (hU (Ev G a0) G.1 vwCl a0 M)) (hQ G.1 vwCl a0 (fun oc M' => oc = .returned none ∧ M' = va_up (va_up M q (some (aI G k (upd (upd (upd f (n * 3) x) (n * 3 + 1) y) (n * 3 + 2) z)))) h (some (.inr (0, [.ref q, .int (nI 3), .int (nI (n + 1))]))))) 0 0 (hA a0) := by
  refine MX.ofW tb_good (by decide) kw_307 (Nat.le_of_ble_eq_true rfl) ?_
  intro p e s m below meth cd ls C0 hr hlk hnm hxt hV hS hl
  have hx := C0.1
  have hb := C0.2.1
  have hK : va_K G.1 vwCl (hT G) s := C0.2.2.2.2.2.1.1
  have hN := C0.2.2.2.2.2.1.2.1
  have hl : lv_has ls 5 [(0, .ref h), (1, .int x), (2, .int y), (3, .int z)] := hl
  refine lv_aload_n hx hb d_R_addThree_0 rfl (lv_at hl 0 rfl) ?_
  refine hp_get C0 hK cl_R hV hh 2 (by decide) kw_47 (fun _ h => h) rfl d_R_addThree_1 ?_
  refine lv_aload_n hx hb d_R_addThree_4 rfl (lv_at hl 0 rfl) ?_
  refine hp_get C0 hK cl_R hV hh 1 (by decide) kw_45 (fun _ h => h) rfl d_R_addThree_5 ?_
  refine lv_imul hx hb d_R_addThree_8 ?_
  refine lv_rei (y := nI (n * 3)) (pk_mul _ _) ?_
  refine lv_istore (lv' := [(4, .int (nI (n * 3))), (0, .ref h), (1, .int x), (2, .int y), (3, .int z)]) hx hb d_R_addThree_9 hl (by decide) rfl (fun ls hl => ?_)
  refine lv_aload_n hx hb d_R_addThree_11 rfl (lv_at hl 1 rfl) ?_
  refine hp_get C0 hK cl_R hV hh 0 (by decide) kw_44 (fun _ h => h) rfl d_R_addThree_12 ?_
  refine lv_iload hx hb d_R_addThree_15 (lv_at hl 0 rfl) ?_
  refine lv_iload_n hx hb d_R_addThree_17 rfl (lv_at hl 2 rfl) ?_
  refine hp_iast C0 hK 0 rfl hV hS hq (n * 3) rfl (by omega) (by omega) d_R_addThree_18 (fun H locs hV hS => ?_)
  have hV : hv G.1 vwCl a0 (va_up M q (some (aI G k (upd f (n * 3) x)))) H := hV
  have hh : (va_up M q (some (aI G k (upd f (n * 3) x)))) h = some (.inr (0, [.ref q, .int (nI 3), .int (nI n)])) := (va_up_ne _ _ (hm_oa hh hq)).trans hh
  have hq : (va_up M q (some (aI G k (upd f (n * 3) x)))) q = some (aI G k (upd f (n * 3) x)) := va_up_self _ _ _
  refine lv_aload_n hx hb d_R_addThree_19 rfl (lv_at hl 1 rfl) ?_
  refine hp_get C0 hK cl_R hV hh 0 (by decide) kw_44 (fun _ h => h) rfl d_R_addThree_20 ?_
  refine lv_iload hx hb d_R_addThree_23 (lv_at hl 0 rfl) ?_
  refine lv_iconst (v := nI 1) hx hb d_R_addThree_25 (by decide) ?_
  refine lv_iadd hx hb d_R_addThree_26 ?_
  refine lv_rei (y := nI ((n * 3) + 1)) (nI_add _ _) ?_
  refine lv_iload_n hx hb d_R_addThree_27 rfl (lv_at hl 3 rfl) ?_
  refine hp_iast C0 hK 0 rfl hV hS hq ((n * 3) + 1) rfl (by omega) (by omega) d_R_addThree_28 (fun H locs hV hS => ?_)
  have hV : hv G.1 vwCl a0 (va_up (va_up M q (some (aI G k (upd f (n * 3) x)))) q (some (aI G k (upd (upd f (n * 3) x) ((n * 3) + 1) y)))) H := hV
  have hh : (va_up (va_up M q (some (aI G k (upd f (n * 3) x)))) q (some (aI G k (upd (upd f (n * 3) x) ((n * 3) + 1) y)))) h = some (.inr (0, [.ref q, .int (nI 3), .int (nI n)])) := (va_up_ne _ _ (hm_oa hh hq)).trans hh
  have hq : (va_up (va_up M q (some (aI G k (upd f (n * 3) x)))) q (some (aI G k (upd (upd f (n * 3) x) ((n * 3) + 1) y)))) q = some (aI G k (upd (upd f (n * 3) x) ((n * 3) + 1) y)) := va_up_self _ _ _
  refine lv_aload_n hx hb d_R_addThree_29 rfl (lv_at hl 1 rfl) ?_
  refine hp_get C0 hK cl_R hV hh 0 (by decide) kw_44 (fun _ h => h) rfl d_R_addThree_30 ?_
  refine lv_iload hx hb d_R_addThree_33 (lv_at hl 0 rfl) ?_
  refine lv_iconst (v := nI 2) hx hb d_R_addThree_35 (by decide) ?_
  refine lv_iadd hx hb d_R_addThree_36 ?_
  refine lv_rei (y := nI ((n * 3) + 2)) (nI_add _ _) ?_
  refine lv_iload_n hx hb d_R_addThree_37 rfl (lv_at hl 4 rfl) ?_
  refine hp_iast C0 hK 0 rfl hV hS hq ((n * 3) + 2) rfl (by omega) (by omega) d_R_addThree_38 (fun H locs hV hS => ?_)
  have hV : hv G.1 vwCl a0 (va_up (va_up (va_up M q (some (aI G k (upd f (n * 3) x)))) q (some (aI G k (upd (upd f (n * 3) x) ((n * 3) + 1) y)))) q (some (aI G k (upd (upd (upd f (n * 3) x) ((n * 3) + 1) y) ((n * 3) + 2) z)))) H := hV
  have hh : (va_up (va_up (va_up M q (some (aI G k (upd f (n * 3) x)))) q (some (aI G k (upd (upd f (n * 3) x) ((n * 3) + 1) y)))) q (some (aI G k (upd (upd (upd f (n * 3) x) ((n * 3) + 1) y) ((n * 3) + 2) z)))) h = some (.inr (0, [.ref q, .int (nI 3), .int (nI n)])) := (va_up_ne _ _ (hm_oa hh hq)).trans hh
  have hq : (va_up (va_up (va_up M q (some (aI G k (upd f (n * 3) x)))) q (some (aI G k (upd (upd f (n * 3) x) ((n * 3) + 1) y)))) q (some (aI G k (upd (upd (upd f (n * 3) x) ((n * 3) + 1) y) ((n * 3) + 2) z)))) q = some (aI G k (upd (upd (upd f (n * 3) x) ((n * 3) + 1) y) ((n * 3) + 2) z)) := va_up_self _ _ _
  refine lv_aload_n hx hb d_R_addThree_39 rfl (lv_at hl 1 rfl) ?_
  refine lv_dup hx hb d_R_addThree_40 rfl ?_
  refine hp_get C0 hK cl_R hV hh 2 (by decide) kw_47 (fun _ h => h) rfl d_R_addThree_41 ?_
  refine lv_iconst (v := nI 1) hx hb d_R_addThree_44 (by decide) ?_
  refine lv_iadd hx hb d_R_addThree_45 ?_
  refine lv_rei (y := nI (n + 1)) (nI_add _ _) ?_
  refine hp_put C0 hK cl_R hV hS hh 2 (by decide) kw_47 (fun _ h => h) rfl rfl rfl (Nat.le_of_ble_eq_true rfl) d_R_addThree_46 (fun H locs hV hS => ?_)
  have hV : hv G.1 vwCl a0 (va_up (va_up (va_up (va_up M q (some (aI G k (upd f (n * 3) x)))) q (some (aI G k (upd (upd f (n * 3) x) ((n * 3) + 1) y)))) q (some (aI G k (upd (upd (upd f (n * 3) x) ((n * 3) + 1) y) ((n * 3) + 2) z)))) h (some (.inr (0, [.ref q, .int (nI 3), .int (nI (n + 1))])))) H := hV
  have hq : (va_up (va_up (va_up (va_up M q (some (aI G k (upd f (n * 3) x)))) q (some (aI G k (upd (upd f (n * 3) x) ((n * 3) + 1) y)))) q (some (aI G k (upd (upd (upd f (n * 3) x) ((n * 3) + 1) y) ((n * 3) + 2) z)))) h (some (.inr (0, [.ref q, .int (nI 3), .int (nI (n + 1))])))) q = some (aI G k (upd (upd (upd f (n * 3) x) ((n * 3) + 1) y) ((n * 3) + 2) z)) := (va_up_ne _ _ (hm_ao hq hh)).trans hq
  have hh : (va_up (va_up (va_up (va_up M q (some (aI G k (upd f (n * 3) x)))) q (some (aI G k (upd (upd f (n * 3) x) ((n * 3) + 1) y)))) q (some (aI G k (upd (upd (upd f (n * 3) x) ((n * 3) + 1) y) ((n * 3) + 2) z)))) h (some (.inr (0, [.ref q, .int (nI 3), .int (nI (n + 1))])))) h = some (.inr (0, [.ref q, .int (nI 3), .int (nI (n + 1))])) := va_up_self _ _ _
  exact hx_vret C0 hr hlk hV hS d_R_addThree_49 ⟨rfl, by rw [bx_uu, bx_uu]⟩
set_option maxHeartbeats 4000000 in
set_option maxRecDepth 100000 in
theorem c_R_addCopy (l : Launch) {G : hGt} {a0 : Nat} {M : hMp} {h q h2 q2 w n k k2 i : Nat} {w2 n2 : Int32} {f g : Nat → Int32} (hh : M h = some (.inr (0, [.ref q, .int (nI w), .int (nI n)]))) (hq : M q = some (aI G k f)) (hh2 : M h2 = some (.inr (0, [.ref q2, .int w2, .int n2]))) (hq2 : M q2 = some (aI G k2 g)) (hne : h2 ≠ h) (hnq : q2 ≠ q) (hi : n * w + w ≤ k) (hj : i * w + w ≤ k2) (hk : k ≤ 65536) (hk2 : k2 ≤ 65536) : MX l y_R_addCopy TB ({ frames := 1, cells := 0, slots := 0, locals := 40 }) (va_Pc [.ref h, .ref h2, .int (nI i)] (hU (Ev G a0) G.1 vwCl a0 M)) (hQ G.1 vwCl a0 (fun oc M' => oc = .returned none ∧ M' = va_up (va_up M q (some (aI G k (va_cpy g f (i * w) (n * w) w)))) h (some (.inr (0, [.ref q, .int (nI w), .int (nI (n + 1))]))))) 0 0 (hA a0) := by
  refine MX.ofW tb_good (by decide) kw_613 (Nat.le_of_ble_eq_true rfl) ?_
  intro p e s m below meth cd ls C0 hr hlk hnm hxt hV hS hl
  have hx := C0.1
  have hb := C0.2.1
  have hK : va_K G.1 vwCl (hT G) s := C0.2.2.2.2.2.1.1
  have hN := C0.2.2.2.2.2.1.2.1
  have hl : lv_has ls 3 [(0, .ref h), (1, .ref h2), (2, .int (nI i))] := hl
  refine lv_aload_n hx hb d_R_addCopy_0 rfl (lv_at hl 1 rfl) ?_
  refine hp_get C0 hK cl_R hV hh2 0 (by decide) kw_44 (fun _ h => h) rfl d_R_addCopy_1 ?_
  refine lv_iload_n hx hb d_R_addCopy_4 rfl (lv_at hl 2 rfl) ?_
  refine lv_aload_n hx hb d_R_addCopy_5 rfl (lv_at hl 0 rfl) ?_
  refine hp_get C0 hK cl_R hV hh 1 (by decide) kw_45 (fun _ h => h) rfl d_R_addCopy_6 ?_
  refine lv_imul hx hb d_R_addCopy_9 ?_
  refine lv_rei (y := nI (i * w)) (pk_mul _ _) ?_
  refine lv_aload_n hx hb d_R_addCopy_10 rfl (lv_at hl 0 rfl) ?_
  refine hp_get C0 hK cl_R hV hh 0 (by decide) kw_44 (fun _ h => h) rfl d_R_addCopy_11 ?_
  refine lv_aload_n hx hb d_R_addCopy_14 rfl (lv_at hl 0 rfl) ?_
  refine hp_get C0 hK cl_R hV hh 2 (by decide) kw_47 (fun _ h => h) rfl d_R_addCopy_15 ?_
  refine lv_aload_n hx hb d_R_addCopy_18 rfl (lv_at hl 0 rfl) ?_
  refine hp_get C0 hK cl_R hV hh 1 (by decide) kw_45 (fun _ h => h) rfl d_R_addCopy_19 ?_
  refine lv_imul hx hb d_R_addCopy_22 ?_
  refine lv_rei (y := nI (n * w)) (pk_mul _ _) ?_
  refine lv_aload_n hx hb d_R_addCopy_23 rfl (lv_at hl 0 rfl) ?_
  refine hp_get C0 hK cl_R hV hh 1 (by decide) kw_45 (fun _ h => h) rfl d_R_addCopy_24 ?_
  refine hp_copyi C0 hK hl.1 kw_614 kw_429 kw_428 kw_19 0 rfl hV hS hq2 hq (i * w) (n * w) w rfl rfl rfl hj hi (by omega) (by omega) (Nat.le_of_ble_eq_true rfl) (Nat.le_of_ble_eq_true rfl) d_R_addCopy_27 (fun H locs hV hS => ?_)
  have hV : hv G.1 vwCl a0 (va_up M q (some (aI G k (va_cpy g f (i * w) (n * w) w)))) H := hV
  have hh : (va_up M q (some (aI G k (va_cpy g f (i * w) (n * w) w)))) h = some (.inr (0, [.ref q, .int (nI w), .int (nI n)])) := (va_up_ne _ _ (hm_oa hh hq)).trans hh
  have hh2 : (va_up M q (some (aI G k (va_cpy g f (i * w) (n * w) w)))) h2 = some (.inr (0, [.ref q2, .int w2, .int n2])) := (va_up_ne _ _ (hm_oa hh2 hq)).trans hh2
  have hq2 : (va_up M q (some (aI G k (va_cpy g f (i * w) (n * w) w)))) q2 = some (aI G k2 g) := (va_up_ne _ _ hnq).trans hq2
  have hq : (va_up M q (some (aI G k (va_cpy g f (i * w) (n * w) w)))) q = some (aI G k (va_cpy g f (i * w) (n * w) w)) := va_up_self _ _ _
  refine lv_aload_n hx hb d_R_addCopy_30 rfl (lv_at hl 0 rfl) ?_
  refine lv_dup hx hb d_R_addCopy_31 rfl ?_
  refine hp_get C0 hK cl_R hV hh 2 (by decide) kw_47 (fun _ h => h) rfl d_R_addCopy_32 ?_
  refine lv_iconst (v := nI 1) hx hb d_R_addCopy_35 (by decide) ?_
  refine lv_iadd hx hb d_R_addCopy_36 ?_
  refine lv_rei (y := nI (n + 1)) (nI_add _ _) ?_
  refine hp_put C0 hK cl_R hV hS hh 2 (by decide) kw_47 (fun _ h => h) rfl rfl rfl (Nat.le_of_ble_eq_true rfl) d_R_addCopy_37 (fun H locs hV hS => ?_)
  have hV : hv G.1 vwCl a0 (va_up (va_up M q (some (aI G k (va_cpy g f (i * w) (n * w) w)))) h (some (.inr (0, [.ref q, .int (nI w), .int (nI (n + 1))])))) H := hV
  have hq : (va_up (va_up M q (some (aI G k (va_cpy g f (i * w) (n * w) w)))) h (some (.inr (0, [.ref q, .int (nI w), .int (nI (n + 1))])))) q = some (aI G k (va_cpy g f (i * w) (n * w) w)) := (va_up_ne _ _ (hm_ao hq hh)).trans hq
  have hh2 : (va_up (va_up M q (some (aI G k (va_cpy g f (i * w) (n * w) w)))) h (some (.inr (0, [.ref q, .int (nI w), .int (nI (n + 1))])))) h2 = some (.inr (0, [.ref q2, .int w2, .int n2])) := (va_up_ne _ _ hne).trans hh2
  have hq2 : (va_up (va_up M q (some (aI G k (va_cpy g f (i * w) (n * w) w)))) h (some (.inr (0, [.ref q, .int (nI w), .int (nI (n + 1))])))) q2 = some (aI G k2 g) := (va_up_ne _ _ (hm_ao hq2 hh)).trans hq2
  have hh : (va_up (va_up M q (some (aI G k (va_cpy g f (i * w) (n * w) w)))) h (some (.inr (0, [.ref q, .int (nI w), .int (nI (n + 1))])))) h = some (.inr (0, [.ref q, .int (nI w), .int (nI (n + 1))])) := va_up_self _ _ _
  exact hx_vret C0 hr hlk hV hS d_R_addCopy_40 ⟨rfl, rfl⟩
/-- is x in the column c of the first n rows -/
def hasF (f : Nat → Int32) (w c : Nat) (x : Int32) : Nat → Bool
  | 0 => false
  | i + 1 => hasF f w c x i || decide (f (i * w + c) = x)
theorem hasF_mono {f : Nat → Int32} {w c : Nat} {x : Int32} {i : Nat} (h : hasF f w c x i = true) : ∀ k, hasF f w c x (i + k) = true
  | 0 => h
  | k + 1 => by
    show (hasF f w c x (i + k) || _) = true
    rw [hasF_mono h k]
    rfl
set_option maxHeartbeats 4000000 in
set_option maxRecDepth 100000 in
theorem c_R_has (l : Launch) {G : hGt} {a0 : Nat} {M : hMp} {h q w n k c : Nat} {f : Nat → Int32} {x : Int32} (hh : M h = some (.inr (0, [.ref q, .int (nI w), .int (nI n)]))) (hq : M q = some (aI G k f)) (hc : c < w) (hi : n * w ≤ k) (hk : k ≤ 65536) (hn : n ≤ 65536) : MX l y_R_has TB ({ frames := 1, cells := 0, slots := 0, locals := 40 }) (va_Pc [.ref h, .int (nI c), .int x] (hU (Ev G a0) G.1 vwCl a0 M)) (hR G.1 vwCl a0 M (fun r => r = some (.int (if hasF f w c x n = true then 1 else 0))) (fun _ => False)) 0 0 (fun _ => False) := by
  refine MX.ofW tb_good (by decide) kw_624 (Nat.le_of_ble_eq_true rfl) ?_
  intro p e s m below meth cd ls C0 hr hlk hnm hxt hV hS hl
  have hx := C0.1
  have hb := C0.2.1
  have hK : va_K G.1 vwCl (hT G) s := C0.2.2.2.2.2.1.1
  have hN := C0.2.2.2.2.2.1.2.1
  have hl : lv_has ls 4 [(0, .ref h), (1, .int (nI c)), (2, .int x)] := hl
  refine lv_iconst (v := nI 0) hx hb d_R_has_0 (by decide) ?_
  refine lv_istore_n (lv' := [(3, .int (nI 0)), (0, .ref h), (1, .int (nI c)), (2, .int x)]) hx hb d_R_has_1 rfl hl (by decide) rfl (fun ls hl => ?_)
  refine W.lp (nL := 4) (P := fun j => hasF f w c x j = false) (lv := fun j => [(3, .int (nI j)), (0, .ref h), (1, .int (nI c)), (2, .int x)]) n (fun j ls hj hP hl ih => ?_) 0 ls (Nat.zero_le _) rfl hl
  have hl : lv_has ls 4 [(3, .int (nI j)), (0, .ref h), (1, .int (nI c)), (2, .int x)] := hl
  refine lv_iload_n hx hb d_R_has_2 rfl (lv_at hl 0 rfl) ?_
  refine lv_aload_n hx hb d_R_has_3 rfl (lv_at hl 1 rfl) ?_
  refine hp_get C0 hK cl_R hV hh 2 (by decide) kw_47 (fun _ h => h) rfl d_R_has_4 ?_
  refine nb_ge C0 d_R_has_7 rfl (by omega) (by omega) (fun h1 => ?_) (fun h1 => ?_)
  · have hj0 : j = n := by omega
    subst hj0
    refine lv_iconst (v := 0) hx hb d_R_has_28 (by decide) ?_
    exact hr_zret C0 hr hlk d_R_has_29 rfl (by rw [hP]; rfl)
  · have hin := idx_le (N := k) h1 hc hi
    refine lv_aload_n hx hb d_R_has_10 rfl (lv_at hl 1 rfl) ?_
    refine lv_iload_n hx hb d_R_has_11 rfl (lv_at hl 0 rfl) ?_
    refine lv_iload_n hx hb d_R_has_12 rfl (lv_at hl 2 rfl) ?_
    refine cr_V (C := "BatchPlans$Rows") (host := "") (b := h) (As := [.int (nI j), .int (nI c)]) (rest := []) C0 (ev_keep G a0) (c_R_at l hh hq hin hk) (Cy.of C0.2.2.2.2.1 kw_605 kw_2 2 (by decide +kernel) ⟨(Nat.le_of_ble_eq_true rfl), (Nat.le_of_ble_eq_true rfl)⟩) (C0.ts _ kw_625) kw_603 (C0.ts _ kw_604) hV hS (hp_recv hK hV rfl hh) rfl hl.1 rfl (Nat.le_of_ble_eq_true rfl) d_R_has_13 ⟨(Nat.le_of_ble_eq_true rfl), (Nat.le_of_ble_eq_true rfl)⟩ (fun v hv9 => ?_) (fun x ci H1 h9 => absurd h9 id)
    subst hv9
    refine W.eq (g2 := F0 m 16 ls [.int (f (j * w + c))]) rfl ?_
    refine lv_iload_n hx hb d_R_has_16 rfl (lv_at hl 3 rfl) ?_
    refine lv_icmp_ne (tgt := 22) hx hb d_R_has_17 rfl (fun h2 => ?_) (fun h2 => ?_)
    · have hP1 : hasF f w c x (j + 1) = false := by unfold hasF; rw [hP, decide_eq_false h2]; rfl
      refine lv_iinc (k := 0) (v := nI (j + 1)) (lv' := [(3, .int (nI (j + 1))), (0, .ref h), (1, .int (nI c)), (2, .int x)]) hx hb d_R_has_22 hl rfl (nI_1 _) (by decide) rfl (fun ls hl => ?_)
      refine lv_goto (tgt := 2) hx hb d_R_has_25 rfl ?_
      exact ih ls h1 hP1 hl
    · have hP1 : hasF f w c x (j + 1) = true := by unfold hasF; rw [h2, decide_eq_true rfl, Bool.or_true]
      have hP2 : hasF f w c x n = true := by have := hasF_mono hP1 (n - (j + 1)); rw [show j + 1 + (n - (j + 1)) = n by omega] at this; exact this
      refine lv_iconst (v := 1) hx hb d_R_has_20 (by decide) ?_
      exact hr_zret C0 hr hlk d_R_has_21 rfl (by rw [hP2]; rfl)
def cmpI (x y : Int32) : Int32 := if x < y then -1 else if x = y then 0 else 1
theorem cmpI_3 (x y : Int32) : (x < y ∧ cmpI x y = -1) ∨ (x = y ∧ cmpI x y = 0) ∨ (¬ x < y ∧ ¬ x = y ∧ cmpI x y = 1) := by
  unfold cmpI
  by_cases h1 : x < y
  · exact Or.inl ⟨h1, if_pos h1⟩
  · by_cases h2 : x = y
    · exact Or.inr (Or.inl ⟨h2, by rw [if_neg h1, if_pos h2]⟩)
    · exact Or.inr (Or.inr ⟨h1, h2, by rw [if_neg h1, if_neg h2]⟩)
set_option maxHeartbeats 4000000 in
set_option maxRecDepth 100000 in
theorem c_J_compare (l : Launch) {G : hGt} {a0 : Nat} {M : hMp} {x y : Int32}  : MX l y_JInteger_compare TB ({ frames := 0, cells := 0, slots := 0, locals := 0 }) (va_Pc [.int x, .int y] (hU (Ev G a0) G.1 vwCl a0 M)) (hR G.1 vwCl a0 M (fun r => r = some (.int (cmpI x y))) (fun _ => False)) 0 0 (fun _ => False) := by
  refine MX.ofW tb_good (by decide) kw_738 (Nat.le_of_ble_eq_true rfl) ?_
  intro p e s m below meth cd ls C0 hr hlk hnm hxt hV hS hl
  have hx := C0.1
  have hb := C0.2.1
  have hK : va_K G.1 vwCl (hT G) s := C0.2.2.2.2.2.1.1
  have hN := C0.2.2.2.2.2.1.2.1
  have hl : lv_has ls 2 [(0, .int x), (1, .int y)] := hl
  refine lv_iload_n hx hb d_JInteger_compare_0 rfl (lv_at hl 0 rfl) ?_
  refine lv_iload_n hx hb d_JInteger_compare_1 rfl (lv_at hl 1 rfl) ?_
  refine lv_icmp_ge (tgt := 9) hx hb d_JInteger_compare_2 rfl (fun h1 => ?_) (fun h1 => ?_)
  · have h1 : ¬ x < y := Int32.not_lt.mpr h1
    refine lv_iload_n hx hb d_JInteger_compare_9 rfl (lv_at hl 0 rfl) ?_
    refine lv_iload_n hx hb d_JInteger_compare_10 rfl (lv_at hl 1 rfl) ?_
    refine lv_icmp_ne (tgt := 18) hx hb d_JInteger_compare_11 rfl (fun h2 => ?_) (fun h2 => ?_)
    · have h3 : cmpI x y = 1 := by unfold cmpI; rw [if_neg h1, if_neg h2]
      refine lv_iconst (v := 1) hx hb d_JInteger_compare_18 (by decide) ?_
      exact hr_iret C0 hr hlk d_JInteger_compare_19 (by rw [h3])
    · have h3 : cmpI x y = 0 := by unfold cmpI; rw [if_neg h1, if_pos h2]
      refine lv_iconst (v := 0) hx hb d_JInteger_compare_14 (by decide) ?_
      refine lv_goto (tgt := 19) hx hb d_JInteger_compare_15 rfl ?_
      exact hr_iret C0 hr hlk d_JInteger_compare_19 (by rw [h3])
  · have h1 : x < y := Int32.not_le.mp h1
    have h3 : cmpI x y = -1 := by unfold cmpI; rw [if_pos h1]
    refine lv_iconst (v := -1) hx hb d_JInteger_compare_5 (by decide) ?_
    refine lv_goto (tgt := 19) hx hb d_JInteger_compare_6 rfl ?_
    exact hr_iret C0 hr hlk d_JInteger_compare_19 (by rw [h3])
theorem lessR_step {w j : Nat} {a b : Nat → Int32} (h : j < w) : lessR w a b (w - j) = if a j = b j then lessR w a b (w - (j + 1)) else decide (a j < b j) := by
  have e1 : w - j = (w - (j + 1)) + 1 := by omega
  have e2 : w - ((w - (j + 1)) + 1) = j := by omega
  rw [e1]
  show (if a (w - ((w - (j + 1)) + 1)) = b (w - ((w - (j + 1)) + 1)) then lessR w a b (w - (j + 1)) else decide (a (w - ((w - (j + 1)) + 1)) < b (w - ((w - (j + 1)) + 1)))) = _
  rw [e2]
set_option maxHeartbeats 4000000 in
set_option maxRecDepth 100000 in
theorem c_R_isLess (l : Launch) {G : hGt} {a0 : Nat} {M : hMp} {h q h2 q2 w n n2 k k2 i o : Nat} {f g : Nat → Int32} (hh : M h = some (.inr (0, [.ref q, .int (nI w), .int (nI n)]))) (hq : M q = some (aI G k f)) (hh2 : M h2 = some (.inr (0, [.ref q2, .int (nI w), .int (nI n2)]))) (hq2 : M q2 = some (aI G k2 g)) (ho : o * w + w ≤ k) (hi : i * w + w ≤ k2) (hk : k ≤ 65536) (hk2 : k2 ≤ 65536) (hw : w ≤ 65536) : MX l y_R_isLess TB ({ frames := 1, cells := 0, slots := 0, locals := 40 }) (va_Pc [.ref h, .ref h2, .int (nI i), .int (nI o)] (hU (Ev G a0) G.1 vwCl a0 M)) (hR G.1 vwCl a0 M (fun r => r = some (.int (if lessR w (fun c => g (i * w + c)) (fun c => f (o * w + c)) w = true then 1 else 0))) (fun _ => False)) 0 0 (fun _ => False) := by
  refine MX.ofW tb_good (by decide) kw_735 (Nat.le_of_ble_eq_true rfl) ?_
  intro p e s m below meth cd ls C0 hr hlk hnm hxt hV hS hl
  have hx := C0.1
  have hb := C0.2.1
  have hK : va_K G.1 vwCl (hT G) s := C0.2.2.2.2.2.1.1
  have hN := C0.2.2.2.2.2.1.2.1
  have hl : lv_has ls 6 [(0, .ref h), (1, .ref h2), (2, .int (nI i)), (3, .int (nI o))] := hl
  refine lv_iconst (v := nI 0) hx hb d_R_isLess_0 (by decide) ?_
  refine lv_istore (lv' := [(4, .int (nI 0)), (0, .ref h), (1, .ref h2), (2, .int (nI i)), (3, .int (nI o))]) hx hb d_R_isLess_1 hl (by decide) rfl (fun ls hl => ?_)
  refine W.lp (nL := 6) (P := fun j => lessR w (fun c => g (i * w + c)) (fun c => f (o * w + c)) w = lessR w (fun c => g (i * w + c)) (fun c => f (o * w + c)) (w - j)) (lv := fun j => [(4, .int (nI j)), (0, .ref h), (1, .ref h2), (2, .int (nI i)), (3, .int (nI o))]) w (fun j ls hj hP hl ih => ?_) 0 ls (Nat.zero_le _) rfl hl
  have hl : lv_has ls 6 [(4, .int (nI j)), (0, .ref h), (1, .ref h2), (2, .int (nI i)), (3, .int (nI o))] := hl
  refine lv_iload hx hb d_R_isLess_3 (lv_at hl 0 rfl) ?_
  refine lv_aload_n hx hb d_R_isLess_5 rfl (lv_at hl 1 rfl) ?_
  refine hp_get C0 hK cl_R hV hh 1 (by decide) kw_45 (fun _ h => h) rfl d_R_isLess_6 ?_
  refine nb_ge C0 d_R_isLess_9 rfl (by omega) (by omega) (fun h1 => ?_) (fun h1 => ?_)
  · have hz : w - j = 0 := by omega
    have hP : lessR w (fun c => g (i * w + c)) (fun c => f (o * w + c)) w = false := by rw [hP, hz]; rfl
    refine lv_iconst (v := 0) hx hb d_R_isLess_53 (by decide) ?_
    exact hr_zret C0 hr hlk d_R_isLess_54 rfl (by rw [hP]; rfl)
  · rw [lessR_step h1] at hP
    refine lv_aload_n hx hb d_R_isLess_12 rfl (lv_at hl 2 rfl) ?_
    refine lv_iload_n hx hb d_R_isLess_13 rfl (lv_at hl 3 rfl) ?_
    refine lv_iload hx hb d_R_isLess_14 (lv_at hl 0 rfl) ?_
    refine cr_V (C := "BatchPlans$Rows") (host := "") (b := h2) (As := [.int (nI i), .int (nI j)]) (rest := []) C0 (ev_keep G a0) (c_R_at l hh2 hq2 (show i * w + j < k2 by omega) hk2) (Cy.of C0.2.2.2.2.1 kw_605 kw_2 2 (by decide +kernel) ⟨(Nat.le_of_ble_eq_true rfl), (Nat.le_of_ble_eq_true rfl)⟩) (C0.ts _ kw_625) kw_603 (C0.ts _ kw_604) hV hS (hp_recv hK hV rfl hh2) rfl hl.1 rfl (Nat.le_of_ble_eq_true rfl) d_R_isLess_16 ⟨(Nat.le_of_ble_eq_true rfl), (Nat.le_of_ble_eq_true rfl)⟩ (fun v hv9 => ?_) (fun x ci H1 h9 => absurd h9 id)
    subst hv9
    refine W.eq (g2 := F0 m 19 ls [.int (g (i * w + j))]) rfl ?_
    refine lv_aload_n hx hb d_R_isLess_19 rfl (lv_at hl 1 rfl) ?_
    refine lv_iload_n hx hb d_R_isLess_20 rfl (lv_at hl 4 rfl) ?_
    refine lv_iload hx hb d_R_isLess_21 (lv_at hl 0 rfl) ?_
    refine cr_V (C := "BatchPlans$Rows") (host := "") (b := h) (As := [.int (nI o), .int (nI j)]) (rest := [.int (g (i * w + j))]) C0 (ev_keep G a0) (c_R_at l hh hq (show o * w + j < k by omega) hk) (Cy.of C0.2.2.2.2.1 kw_605 kw_2 2 (by decide +kernel) ⟨(Nat.le_of_ble_eq_true rfl), (Nat.le_of_ble_eq_true rfl)⟩) (C0.ts _ kw_625) kw_603 (C0.ts _ kw_604) hV hS (hp_recv hK hV rfl hh) rfl hl.1 rfl (Nat.le_of_ble_eq_true rfl) d_R_isLess_23 ⟨(Nat.le_of_ble_eq_true rfl), (Nat.le_of_ble_eq_true rfl)⟩ (fun v hv9 => ?_) (fun x ci H1 h9 => absurd h9 id)
    subst hv9
    refine W.eq (g2 := F0 m 26 ls [.int (f (o * w + j)), .int (g (i * w + j))]) rfl ?_
    obtain ⟨mk0, hmk0⟩ := Cond.code_named (C0.ts (args := #[]) _ kw_738)
    refine cr_S (host := "") (vs := [.int (g (i * w + j)), .int (f (o * w + j))]) (rest := []) C0 (ev_keep G a0) (c_J_compare l) (Cy.of C0.2.2.2.2.1 kw_738 kw_27 2 (by decide +kernel) ⟨(Nat.le_of_ble_eq_true rfl), (Nat.le_of_ble_eq_true rfl)⟩) (C0.ts _ kw_736) kw_737 hV hS hmk0 rfl hl.1 rfl (Nat.le_of_ble_eq_true rfl) d_R_isLess_26 ⟨(Nat.le_of_ble_eq_true rfl), (Nat.le_of_ble_eq_true rfl)⟩ (fun v hv9 => ?_) (fun x ci H1 h9 => absurd h9 id)
    subst hv9
    refine W.eq (g2 := F0 m 29 ls [.int (cmpI (g (i * w + j)) (f (o * w + j)))]) rfl ?_
    rcases cmpI_3 (g (i * w + j)) (f (o * w + j)) with ⟨z2, z3⟩ | ⟨z2, z3⟩ | ⟨z2, z4, z3⟩
    · refine lv_rei (y := -1) z3 ?_
      refine lv_istore (lv' := [(5, .int (-1)), (4, .int (nI j)), (0, .ref h), (1, .ref h2), (2, .int (nI i)), (3, .int (nI o))]) hx hb d_R_isLess_29 hl (by decide) rfl (fun ls hl => ?_)
      refine lv_iload hx hb d_R_isLess_31 (lv_at hl 0 rfl) ?_
      refine lv_if_eq (tgt := 47) hx hb d_R_isLess_33 rfl (fun h9 => absurd h9 (by decide)) (fun _ => ?_)
      refine lv_iload hx hb d_R_isLess_36 (lv_at hl 0 rfl) ?_
      refine lv_if_ge (tgt := 45) hx hb d_R_isLess_38 rfl (fun h9 => absurd h9 (by decide)) (fun _ => ?_)
      have hne : ¬ g (i * w + j) = f (o * w + j) := fun z => by rw [z] at z2; exact Int32.lt_irrefl z2
      have hP1 : lessR w (fun c => g (i * w + c)) (fun c => f (o * w + c)) w = true := by rw [hP, if_neg hne]; exact decide_eq_true z2
      refine lv_iconst (v := 1) hx hb d_R_isLess_41 (by decide) ?_
      refine lv_goto (tgt := 46) hx hb d_R_isLess_42 rfl ?_
      exact hr_zret C0 hr hlk d_R_isLess_46 rfl (by rw [hP1]; rfl)
    · refine lv_rei (y := 0) z3 ?_
      refine lv_istore (lv' := [(5, .int 0), (4, .int (nI j)), (0, .ref h), (1, .ref h2), (2, .int (nI i)), (3, .int (nI o))]) hx hb d_R_isLess_29 hl (by decide) rfl (fun ls hl => ?_)
      refine lv_iload hx hb d_R_isLess_31 (lv_at hl 0 rfl) ?_
      refine lv_if_eq (tgt := 47) hx hb d_R_isLess_33 rfl (fun _ => ?_) (fun h9 => absurd rfl h9)
      have hP1 : lessR w (fun c => g (i * w + c)) (fun c => f (o * w + c)) w = lessR w (fun c => g (i * w + c)) (fun c => f (o * w + c)) (w - (j + 1)) := by rw [hP, if_pos z2]
      refine lv_iinc (k := 1) (v := nI (j + 1)) (lv' := [(4, .int (nI (j + 1))), (5, .int 0), (0, .ref h), (1, .ref h2), (2, .int (nI i)), (3, .int (nI o))]) hx hb d_R_isLess_47 hl rfl (nI_1 _) (by decide) rfl (fun ls hl => ?_)
      refine lv_goto (tgt := 3) hx hb d_R_isLess_50 rfl ?_
      have hl : lv_has ls 6 [(4, .int (nI (j + 1))), (0, .ref h), (1, .ref h2), (2, .int (nI i)), (3, .int (nI o))] := lv_sub hl [0, 2, 3, 4, 5] rfl
      exact ih ls h1 hP1 hl
    · refine lv_rei (y := 1) z3 ?_
      refine lv_istore (lv' := [(5, .int 1), (4, .int (nI j)), (0, .ref h), (1, .ref h2), (2, .int (nI i)), (3, .int (nI o))]) hx hb d_R_isLess_29 hl (by decide) rfl (fun ls hl => ?_)
      refine lv_iload hx hb d_R_isLess_31 (lv_at hl 0 rfl) ?_
      refine lv_if_eq (tgt := 47) hx hb d_R_isLess_33 rfl (fun h9 => absurd h9 (by decide)) (fun _ => ?_)
      refine lv_iload hx hb d_R_isLess_36 (lv_at hl 0 rfl) ?_
      refine lv_if_ge (tgt := 45) hx hb d_R_isLess_38 rfl (fun _ => ?_) (fun h9 => absurd (by decide) h9)
      have hP1 : lessR w (fun c => g (i * w + c)) (fun c => f (o * w + c)) w = false := by rw [hP, if_neg z4]; exact decide_eq_false z2
      refine lv_iconst (v := 0) hx hb d_R_isLess_45 (by decide) ?_
      exact hr_zret C0 hr hlk d_R_isLess_46 rfl (by rw [hP1]; rfl)
set_option maxHeartbeats 4000000 in
set_option maxRecDepth 100000 in
theorem c_R_addPair (l : Launch) {G : hGt} {a0 : Nat} {M : hMp} {h q x1 y1 x2 y2 w n k w1 k1 w2 k2 i j : Nat} {n1 n2 : Int32} {f g1 g2 : Nat → Int32} (hh : M h = some (.inr (0, [.ref q, .int (nI w), .int (nI n)]))) (hq : M q = some (aI G k f)) (hx1 : M x1 = some (.inr (0, [.ref y1, .int (nI w1), .int n1]))) (hy1 : M y1 = some (aI G k1 g1)) (hx2 : M x2 = some (.inr (0, [.ref y2, .int (nI w2), .int n2]))) (hy2 : M y2 = some (aI G k2 g2)) (ne1 : x1 ≠ h) (ne2 : x2 ≠ h) (nq1 : y1 ≠ q) (nq2 : y2 ≠ q) (ho : n * w + w1 + w2 ≤ k) (hi : i * w1 + w1 ≤ k1) (hj : j * w2 + w2 ≤ k2) (hk : k ≤ 65536) (hk1 : k1 ≤ 65536) (hk2 : k2 ≤ 65536) : MX l y_R_addPair TB ({ frames := 1, cells := 0, slots := 0, locals := 40 }) (va_Pc [.ref h, .ref x1, .int (nI i), .ref x2, .int (nI j)] (hU (Ev G a0) G.1 vwCl a0 M)) (hQ G.1 vwCl a0 (fun oc M' => oc = .returned none ∧ M' = va_up (va_up M q (some (aI G k (va_cpy g2 (va_cpy g1 f (i * w1) (n * w) w1) (j * w2) (n * w + w1) w2)))) h (some (.inr (0, [.ref q, .int (nI w), .int (nI (n + 1))]))))) 0 0 (hA a0) := by
  refine MX.ofW tb_good (by decide) kw_698 (Nat.le_of_ble_eq_true rfl) ?_
  intro p e s m below meth cd ls C0 hr hlk hnm hxt hV hS hl
  have hx := C0.1
  have hb := C0.2.1
  have hK : va_K G.1 vwCl (hT G) s := C0.2.2.2.2.2.1.1
  have hN := C0.2.2.2.2.2.1.2.1
  have hl : lv_has ls 6 [(0, .ref h), (1, .ref x1), (2, .int (nI i)), (3, .ref x2), (4, .int (nI j))] := hl
  refine lv_aload_n hx hb d_R_addPair_0 rfl (lv_at hl 0 rfl) ?_
  refine hp_get C0 hK cl_R hV hh 2 (by decide) kw_47 (fun _ h => h) rfl d_R_addPair_1 ?_
  refine lv_aload_n hx hb d_R_addPair_4 rfl (lv_at hl 0 rfl) ?_
  refine hp_get C0 hK cl_R hV hh 1 (by decide) kw_45 (fun _ h => h) rfl d_R_addPair_5 ?_
  refine lv_imul hx hb d_R_addPair_8 ?_
  refine lv_rei (y := nI (n * w)) (pk_mul _ _) ?_
  refine lv_istore (lv' := [(5, .int (nI (n * w))), (0, .ref h), (1, .ref x1), (2, .int (nI i)), (3, .ref x2), (4, .int (nI j))]) hx hb d_R_addPair_9 hl (by decide) rfl (fun ls hl => ?_)
  refine lv_aload_n hx hb d_R_addPair_11 rfl (lv_at hl 2 rfl) ?_
  refine hp_get C0 hK cl_R hV hx1 0 (by decide) kw_44 (fun _ h => h) rfl d_R_addPair_12 ?_
  refine lv_iload_n hx hb d_R_addPair_15 rfl (lv_at hl 3 rfl) ?_
  refine lv_aload_n hx hb d_R_addPair_16 rfl (lv_at hl 2 rfl) ?_
  refine hp_get C0 hK cl_R hV hx1 1 (by decide) kw_45 (fun _ h => h) rfl d_R_addPair_17 ?_
  refine lv_imul hx hb d_R_addPair_20 ?_
  refine lv_rei (y := nI (i * w1)) (pk_mul _ _) ?_
  refine lv_aload_n hx hb d_R_addPair_21 rfl (lv_at hl 1 rfl) ?_
  refine hp_get C0 hK cl_R hV hh 0 (by decide) kw_44 (fun _ h => h) rfl d_R_addPair_22 ?_
  refine lv_iload hx hb d_R_addPair_25 (lv_at hl 0 rfl) ?_
  refine lv_aload_n hx hb d_R_addPair_27 rfl (lv_at hl 2 rfl) ?_
  refine hp_get C0 hK cl_R hV hx1 1 (by decide) kw_45 (fun _ h => h) rfl d_R_addPair_28 ?_
  refine hp_copyi C0 hK hl.1 kw_614 kw_429 kw_428 kw_19 0 rfl hV hS hy1 hq (i * w1) (n * w) w1 rfl rfl rfl hi (by omega) (by omega) (by omega) (Nat.le_of_ble_eq_true rfl) (Nat.le_of_ble_eq_true rfl) d_R_addPair_31 (fun H locs hV hS => ?_)
  have hV : hv G.1 vwCl a0 (va_up M q (some (aI G k (va_cpy g1 f (i * w1) (n * w) w1)))) H := hV
  have hh : (va_up M q (some (aI G k (va_cpy g1 f (i * w1) (n * w) w1)))) h = some (.inr (0, [.ref q, .int (nI w), .int (nI n)])) := (va_up_ne _ _ (hm_oa hh hq)).trans hh
  have hx1 : (va_up M q (some (aI G k (va_cpy g1 f (i * w1) (n * w) w1)))) x1 = some (.inr (0, [.ref y1, .int (nI w1), .int n1])) := (va_up_ne _ _ (hm_oa hx1 hq)).trans hx1
  have hy1 : (va_up M q (some (aI G k (va_cpy g1 f (i * w1) (n * w) w1)))) y1 = some (aI G k1 g1) := (va_up_ne _ _ nq1).trans hy1
  have hx2 : (va_up M q (some (aI G k (va_cpy g1 f (i * w1) (n * w) w1)))) x2 = some (.inr (0, [.ref y2, .int (nI w2), .int n2])) := (va_up_ne _ _ (hm_oa hx2 hq)).trans hx2
  have hy2 : (va_up M q (some (aI G k (va_cpy g1 f (i * w1) (n * w) w1)))) y2 = some (aI G k2 g2) := (va_up_ne _ _ nq2).trans hy2
  have hq : (va_up M q (some (aI G k (va_cpy g1 f (i * w1) (n * w) w1)))) q = some (aI G k (va_cpy g1 f (i * w1) (n * w) w1)) := va_up_self _ _ _
  refine lv_aload_n hx hb d_R_addPair_34 rfl (lv_at hl 4 rfl) ?_
  refine hp_get C0 hK cl_R hV hx2 0 (by decide) kw_44 (fun _ h => h) rfl d_R_addPair_35 ?_
  refine lv_iload hx hb d_R_addPair_38 (lv_at hl 5 rfl) ?_
  refine lv_aload_n hx hb d_R_addPair_40 rfl (lv_at hl 4 rfl) ?_
  refine hp_get C0 hK cl_R hV hx2 1 (by decide) kw_45 (fun _ h => h) rfl d_R_addPair_41 ?_
  refine lv_imul hx hb d_R_addPair_44 ?_
  refine lv_rei (y := nI (j * w2)) (pk_mul _ _) ?_
  refine lv_aload_n hx hb d_R_addPair_45 rfl (lv_at hl 1 rfl) ?_
  refine hp_get C0 hK cl_R hV hh 0 (by decide) kw_44 (fun _ h => h) rfl d_R_addPair_46 ?_
  refine lv_iload hx hb d_R_addPair_49 (lv_at hl 0 rfl) ?_
  refine lv_aload_n hx hb d_R_addPair_51 rfl (lv_at hl 2 rfl) ?_
  refine hp_get C0 hK cl_R hV hx1 1 (by decide) kw_45 (fun _ h => h) rfl d_R_addPair_52 ?_
  refine lv_iadd hx hb d_R_addPair_55 ?_
  refine lv_rei (y := nI ((n * w) + w1)) (nI_add _ _) ?_
  refine lv_aload_n hx hb d_R_addPair_56 rfl (lv_at hl 4 rfl) ?_
  refine hp_get C0 hK cl_R hV hx2 1 (by decide) kw_45 (fun _ h => h) rfl d_R_addPair_57 ?_
  refine hp_copyi C0 hK hl.1 kw_614 kw_429 kw_428 kw_19 0 rfl hV hS hy2 hq (j * w2) ((n * w) + w1) w2 rfl rfl rfl hj (by omega) (by omega) (by omega) (Nat.le_of_ble_eq_true rfl) (Nat.le_of_ble_eq_true rfl) d_R_addPair_60 (fun H locs hV hS => ?_)
  have hV : hv G.1 vwCl a0 (va_up (va_up M q (some (aI G k (va_cpy g1 f (i * w1) (n * w) w1)))) q (some (aI G k (va_cpy g2 (va_cpy g1 f (i * w1) (n * w) w1) (j * w2) ((n * w) + w1) w2)))) H := hV
  have hh : (va_up (va_up M q (some (aI G k (va_cpy g1 f (i * w1) (n * w) w1)))) q (some (aI G k (va_cpy g2 (va_cpy g1 f (i * w1) (n * w) w1) (j * w2) ((n * w) + w1) w2)))) h = some (.inr (0, [.ref q, .int (nI w), .int (nI n)])) := (va_up_ne _ _ (hm_oa hh hq)).trans hh
  have hx1 : (va_up (va_up M q (some (aI G k (va_cpy g1 f (i * w1) (n * w) w1)))) q (some (aI G k (va_cpy g2 (va_cpy g1 f (i * w1) (n * w) w1) (j * w2) ((n * w) + w1) w2)))) x1 = some (.inr (0, [.ref y1, .int (nI w1), .int n1])) := (va_up_ne _ _ (hm_oa hx1 hq)).trans hx1
  have hy1 : (va_up (va_up M q (some (aI G k (va_cpy g1 f (i * w1) (n * w) w1)))) q (some (aI G k (va_cpy g2 (va_cpy g1 f (i * w1) (n * w) w1) (j * w2) ((n * w) + w1) w2)))) y1 = some (aI G k1 g1) := (va_up_ne _ _ nq1).trans hy1
  have hx2 : (va_up (va_up M q (some (aI G k (va_cpy g1 f (i * w1) (n * w) w1)))) q (some (aI G k (va_cpy g2 (va_cpy g1 f (i * w1) (n * w) w1) (j * w2) ((n * w) + w1) w2)))) x2 = some (.inr (0, [.ref y2, .int (nI w2), .int n2])) := (va_up_ne _ _ (hm_oa hx2 hq)).trans hx2
  have hy2 : (va_up (va_up M q (some (aI G k (va_cpy g1 f (i * w1) (n * w) w1)))) q (some (aI G k (va_cpy g2 (va_cpy g1 f (i * w1) (n * w) w1) (j * w2) ((n * w) + w1) w2)))) y2 = some (aI G k2 g2) := (va_up_ne _ _ nq2).trans hy2
  have hq : (va_up (va_up M q (some (aI G k (va_cpy g1 f (i * w1) (n * w) w1)))) q (some (aI G k (va_cpy g2 (va_cpy g1 f (i * w1) (n * w) w1) (j * w2) ((n * w) + w1) w2)))) q = some (aI G k (va_cpy g2 (va_cpy g1 f (i * w1) (n * w) w1) (j * w2) ((n * w) + w1) w2)) := va_up_self _ _ _
  refine lv_aload_n hx hb d_R_addPair_63 rfl (lv_at hl 1 rfl) ?_
  refine lv_dup hx hb d_R_addPair_64 rfl ?_
  refine hp_get C0 hK cl_R hV hh 2 (by decide) kw_47 (fun _ h => h) rfl d_R_addPair_65 ?_
  refine lv_iconst (v := nI 1) hx hb d_R_addPair_68 (by decide) ?_
  refine lv_iadd hx hb d_R_addPair_69 ?_
  refine lv_rei (y := nI (n + 1)) (nI_add _ _) ?_
  refine hp_put C0 hK cl_R hV hS hh 2 (by decide) kw_47 (fun _ h => h) rfl rfl rfl (Nat.le_of_ble_eq_true rfl) d_R_addPair_70 (fun H locs hV hS => ?_)
  have hV : hv G.1 vwCl a0 (va_up (va_up (va_up M q (some (aI G k (va_cpy g1 f (i * w1) (n * w) w1)))) q (some (aI G k (va_cpy g2 (va_cpy g1 f (i * w1) (n * w) w1) (j * w2) ((n * w) + w1) w2)))) h (some (.inr (0, [.ref q, .int (nI w), .int (nI (n + 1))])))) H := hV
  have hq : (va_up (va_up (va_up M q (some (aI G k (va_cpy g1 f (i * w1) (n * w) w1)))) q (some (aI G k (va_cpy g2 (va_cpy g1 f (i * w1) (n * w) w1) (j * w2) ((n * w) + w1) w2)))) h (some (.inr (0, [.ref q, .int (nI w), .int (nI (n + 1))])))) q = some (aI G k (va_cpy g2 (va_cpy g1 f (i * w1) (n * w) w1) (j * w2) ((n * w) + w1) w2)) := (va_up_ne _ _ (hm_ao hq hh)).trans hq
  have hx1 : (va_up (va_up (va_up M q (some (aI G k (va_cpy g1 f (i * w1) (n * w) w1)))) q (some (aI G k (va_cpy g2 (va_cpy g1 f (i * w1) (n * w) w1) (j * w2) ((n * w) + w1) w2)))) h (some (.inr (0, [.ref q, .int (nI w), .int (nI (n + 1))])))) x1 = some (.inr (0, [.ref y1, .int (nI w1), .int n1])) := (va_up_ne _ _ ne1).trans hx1
  have hy1 : (va_up (va_up (va_up M q (some (aI G k (va_cpy g1 f (i * w1) (n * w) w1)))) q (some (aI G k (va_cpy g2 (va_cpy g1 f (i * w1) (n * w) w1) (j * w2) ((n * w) + w1) w2)))) h (some (.inr (0, [.ref q, .int (nI w), .int (nI (n + 1))])))) y1 = some (aI G k1 g1) := (va_up_ne _ _ (hm_ao hy1 hh)).trans hy1
  have hx2 : (va_up (va_up (va_up M q (some (aI G k (va_cpy g1 f (i * w1) (n * w) w1)))) q (some (aI G k (va_cpy g2 (va_cpy g1 f (i * w1) (n * w) w1) (j * w2) ((n * w) + w1) w2)))) h (some (.inr (0, [.ref q, .int (nI w), .int (nI (n + 1))])))) x2 = some (.inr (0, [.ref y2, .int (nI w2), .int n2])) := (va_up_ne _ _ ne2).trans hx2
  have hy2 : (va_up (va_up (va_up M q (some (aI G k (va_cpy g1 f (i * w1) (n * w) w1)))) q (some (aI G k (va_cpy g2 (va_cpy g1 f (i * w1) (n * w) w1) (j * w2) ((n * w) + w1) w2)))) h (some (.inr (0, [.ref q, .int (nI w), .int (nI (n + 1))])))) y2 = some (aI G k2 g2) := (va_up_ne _ _ (hm_ao hy2 hh)).trans hy2
  have hh : (va_up (va_up (va_up M q (some (aI G k (va_cpy g1 f (i * w1) (n * w) w1)))) q (some (aI G k (va_cpy g2 (va_cpy g1 f (i * w1) (n * w) w1) (j * w2) ((n * w) + w1) w2)))) h (some (.inr (0, [.ref q, .int (nI w), .int (nI (n + 1))])))) h = some (.inr (0, [.ref q, .int (nI w), .int (nI (n + 1))])) := va_up_self _ _ _
  exact hx_vret C0 hr hlk hV hS d_R_addPair_73 ⟨rfl, by rw [bx_uu]⟩
set_option maxHeartbeats 4000000 in
set_option maxRecDepth 100000 in
theorem c_R_addInOrder (l : Launch) {G : hGt} {a0 : Nat} {M : hMp} {h q x1 y1 w n k n1 k1 i z0 : Nat} {f g : Nat → Int32} (hh : M h = some (.inr (0, [.ref q, .int (nI w), .int (nI n)]))) (hq : M q = some (aI G k f)) (hx1 : M x1 = some (.inr (0, [.ref y1, .int (nI w), .int (nI n1)]))) (hy1 : M y1 = some (aI G k1 g)) (ne1 : x1 ≠ h) (nq1 : y1 ≠ q) (hz0 : z0 = placeR w (fun a c => f (a * w + c)) (fun c => g (i * w + c)) n) (ho : n * w + w ≤ k) (hi : i * w + w ≤ k1) (hk : k ≤ 65536) (hk1 : k1 ≤ 65536) (hw : w ≤ 65536) (hn : n ≤ 65536) : MX l y_R_addInOrder TB ({ frames := 2, cells := 0, slots := 0, locals := 80 }) (va_Pc [.ref h, .ref x1, .int (nI i)] (hU (Ev G a0) G.1 vwCl a0 M)) (hQ G.1 vwCl a0 (fun oc M' => oc = .returned none ∧ M' = va_up (va_up M q (some (aI G k (va_cpy g (va_cpy f f (z0 * w) (z0 * w + w) ((n - z0) * w)) (i * w) (z0 * w) w)))) h (some (.inr (0, [.ref q, .int (nI w), .int (nI (n + 1))]))))) 0 0 (hA a0) := by
  refine MX.ofW tb_good (by decide) kw_731 (Nat.le_of_ble_eq_true rfl) ?_
  intro p e s m below meth cd ls C0 hr hlk hnm hxt hV hS hl
  have hx := C0.1
  have hb := C0.2.1
  have hK : va_K G.1 vwCl (hT G) s := C0.2.2.2.2.2.1.1
  have hN := C0.2.2.2.2.2.1.2.1
  have hl : lv_has ls 5 [(0, .ref h), (1, .ref x1), (2, .int (nI i))] := hl
  refine lv_aload_n hx hb d_R_addInOrder_0 rfl (lv_at hl 0 rfl) ?_
  refine hp_get C0 hK cl_R hV hh 2 (by decide) kw_47 (fun _ h => h) rfl d_R_addInOrder_1 ?_
  refine lv_istore_n (lv' := [(3, .int (nI n)), (0, .ref h), (1, .ref x1), (2, .int (nI i))]) hx hb d_R_addInOrder_4 rfl hl (by decide) rfl (fun ls hl => ?_)
  refine W.lpx (nL := 5) (P := fun j => placeR w (fun a c => f (a * w + c)) (fun c => g (i * w + c)) n = placeR w (fun a c => f (a * w + c)) (fun c => g (i * w + c)) (n - j)) (E := fun j => placeR w (fun a c => f (a * w + c)) (fun c => g (i * w + c)) n = n - j) (lv := fun j => [(3, .int (nI (n - j))), (0, .ref h), (1, .ref x1), (2, .int (nI i))]) (pcx := 27) n (fun j ls hj hP hl ih ex => ?_) 0 ls (Nat.zero_le _) rfl hl (fun j ls hj hE hl => ?_)
  · have hl : lv_has ls 5 [(3, .int (nI (n - j))), (0, .ref h), (1, .ref x1), (2, .int (nI i))] := hl
    refine lv_iload_n hx hb d_R_addInOrder_5 rfl (lv_at hl 0 rfl) ?_
    refine nb_z_le C0 d_R_addInOrder_6 rfl (by omega) (fun h1 => ?_) (fun h1 => ?_)
    · exact ex ls (by rw [hP, h1]; rfl) hl
    · have hs1 : n - j = (n - (j + 1)) + 1 := by omega
      have hoo : (n - (j + 1)) * w + w ≤ k := Nat.le_trans (by rw [← Nat.succ_mul]; exact Nat.mul_le_mul_right w (by omega)) (show n * w ≤ k by omega)
      refine lv_aload_n hx hb d_R_addInOrder_9 rfl (lv_at hl 1 rfl) ?_
      refine lv_aload_n hx hb d_R_addInOrder_10 rfl (lv_at hl 2 rfl) ?_
      refine lv_iload_n hx hb d_R_addInOrder_11 rfl (lv_at hl 3 rfl) ?_
      refine lv_iload_n hx hb d_R_addInOrder_12 rfl (lv_at hl 0 rfl) ?_
      refine lv_iconst (v := nI 1) hx hb d_R_addInOrder_13 (by decide) ?_
      refine lv_isub hx hb d_R_addInOrder_14 ?_
      refine lv_rei (y := nI (n - (j + 1))) (by rw [pk_sub (by omega)]; rfl) ?_
      refine cr_V (C := "BatchPlans$Rows") (host := "") (b := h) (As := [.ref x1, .int (nI i), .int (nI (n - (j + 1)))]) (rest := []) C0 (ev_keep G a0) (c_R_isLess l hh hq hx1 hy1 hoo hi hk hk1 hw) (Cy.of C0.2.2.2.2.1 kw_735 kw_2 3 (by decide +kernel) ⟨(Nat.le_of_ble_eq_true rfl), (Nat.le_of_ble_eq_true rfl)⟩) (C0.ts _ kw_732) kw_734 (C0.ts _ ks_BatchPlansRowsisLessLBatchPlansRowsIIZ) hV hS (hp_recv hK hV rfl hh) rfl hl.1 rfl (Nat.le_of_ble_eq_true rfl) d_R_addInOrder_15 ⟨(Nat.le_of_ble_eq_true rfl), (Nat.le_of_ble_eq_true rfl)⟩ (fun v hv9 => ?_) (fun x ci H1 h9 => absurd h9 id)
      subst hv9
      refine W.eq (g2 := F0 m 18 ls [.int (if lessR w (fun c => g (i * w + c)) (fun c => f ((n - (j + 1)) * w + c)) w = true then 1 else 0)]) rfl ?_
      by_cases h2 : lessR w (fun c => g (i * w + c)) (fun c => f ((n - (j + 1)) * w + c)) w = true
      · refine lv_rei (y := 1) (if_pos h2) ?_
        refine lv_if_eq (tgt := 27) hx hb d_R_addInOrder_18 rfl (fun h9 => absurd h9 (by decide)) (fun _ => ?_)
        refine lv_iinc (k := 0) (v := nI (n - (j + 1))) (lv' := [(3, .int (nI (n - (j + 1)))), (0, .ref h), (1, .ref x1), (2, .int (nI i))]) hx hb d_R_addInOrder_21 hl rfl (by rw [hs1]; exact pk_m1 _) (by decide) rfl (fun ls hl => ?_)
        refine lv_goto (tgt := 5) hx hb d_R_addInOrder_24 rfl ?_
        exact ih ls (by omega) (by rw [hP, hs1]; show (if _ then _ else _) = _; rw [if_pos h2]) hl
      · refine lv_rei (y := 0) (if_neg h2) ?_
        refine lv_if_eq (tgt := 27) hx hb d_R_addInOrder_18 rfl (fun _ => ?_) (fun h9 => absurd rfl h9)
        exact ex ls (by rw [hP, hs1]; show (if _ then _ else _) = _; rw [if_neg h2]) hl
  · have ez : n - j = z0 := by rw [hz0]; exact hE.symm
    have hl : lv_has ls 5 [(3, .int (nI z0)), (0, .ref h), (1, .ref x1), (2, .int (nI i))] := by rw [← ez]; exact hl
    have hzn : z0 ≤ n := by omega
    have hzw : z0 * w + (n - z0) * w = n * w := by rw [← Nat.add_mul]; congr 1; omega
    refine lv_iload_n hx hb d_R_addInOrder_27 rfl (lv_at hl 0 rfl) ?_
    refine lv_aload_n hx hb d_R_addInOrder_28 rfl (lv_at hl 1 rfl) ?_
    refine hp_get C0 hK cl_R hV hh 1 (by decide) kw_45 (fun _ h => h) rfl d_R_addInOrder_29 ?_
    refine lv_imul hx hb d_R_addInOrder_32 ?_
    refine lv_rei (y := nI (z0 * w)) (pk_mul _ _) ?_
    refine lv_istore (lv' := [(4, .int (nI (z0 * w))), (3, .int (nI z0)), (0, .ref h), (1, .ref x1), (2, .int (nI i))]) hx hb d_R_addInOrder_33 hl (by decide) rfl (fun ls hl => ?_)
    refine lv_aload_n hx hb d_R_addInOrder_35 rfl (lv_at hl 2 rfl) ?_
    refine hp_get C0 hK cl_R hV hh 0 (by decide) kw_44 (fun _ h => h) rfl d_R_addInOrder_36 ?_
    refine lv_iload hx hb d_R_addInOrder_39 (lv_at hl 0 rfl) ?_
    refine lv_aload_n hx hb d_R_addInOrder_41 rfl (lv_at hl 2 rfl) ?_
    refine hp_get C0 hK cl_R hV hh 0 (by decide) kw_44 (fun _ h => h) rfl d_R_addInOrder_42 ?_
    refine lv_iload hx hb d_R_addInOrder_45 (lv_at hl 0 rfl) ?_
    refine lv_aload_n hx hb d_R_addInOrder_47 rfl (lv_at hl 2 rfl) ?_
    refine hp_get C0 hK cl_R hV hh 1 (by decide) kw_45 (fun _ h => h) rfl d_R_addInOrder_48 ?_
    refine lv_iadd hx hb d_R_addInOrder_51 ?_
    refine lv_rei (y := nI ((z0 * w) + w)) (nI_add _ _) ?_
    refine lv_aload_n hx hb d_R_addInOrder_52 rfl (lv_at hl 2 rfl) ?_
    refine hp_get C0 hK cl_R hV hh 2 (by decide) kw_47 (fun _ h => h) rfl d_R_addInOrder_53 ?_
    refine lv_iload_n hx hb d_R_addInOrder_56 rfl (lv_at hl 1 rfl) ?_
    refine lv_isub hx hb d_R_addInOrder_57 ?_
    refine lv_rei (y := nI (n - z0)) (pk_sub hzn) ?_
    refine lv_aload_n hx hb d_R_addInOrder_58 rfl (lv_at hl 2 rfl) ?_
    refine hp_get C0 hK cl_R hV hh 1 (by decide) kw_45 (fun _ h => h) rfl d_R_addInOrder_59 ?_
    refine lv_imul hx hb d_R_addInOrder_62 ?_
    refine lv_rei (y := nI ((n - z0) * w)) (pk_mul _ _) ?_
    refine hp_copyi C0 hK hl.1 kw_614 kw_429 kw_428 kw_19 0 rfl hV hS hq hq (z0 * w) ((z0 * w) + w) ((n - z0) * w) rfl rfl rfl (by omega) (by omega) (by omega) (by omega) (Nat.le_of_ble_eq_true rfl) (Nat.le_of_ble_eq_true rfl) d_R_addInOrder_63 (fun H locs hV hS => ?_)
    have hV : hv G.1 vwCl a0 (va_up M q (some (aI G k (va_cpy f f (z0 * w) ((z0 * w) + w) ((n - z0) * w))))) H := hV
    have hh : (va_up M q (some (aI G k (va_cpy f f (z0 * w) ((z0 * w) + w) ((n - z0) * w))))) h = some (.inr (0, [.ref q, .int (nI w), .int (nI n)])) := (va_up_ne _ _ (hm_oa hh hq)).trans hh
    have hx1 : (va_up M q (some (aI G k (va_cpy f f (z0 * w) ((z0 * w) + w) ((n - z0) * w))))) x1 = some (.inr (0, [.ref y1, .int (nI w), .int (nI n1)])) := (va_up_ne _ _ (hm_oa hx1 hq)).trans hx1
    have hy1 : (va_up M q (some (aI G k (va_cpy f f (z0 * w) ((z0 * w) + w) ((n - z0) * w))))) y1 = some (aI G k1 g) := (va_up_ne _ _ nq1).trans hy1
    have hq : (va_up M q (some (aI G k (va_cpy f f (z0 * w) ((z0 * w) + w) ((n - z0) * w))))) q = some (aI G k (va_cpy f f (z0 * w) ((z0 * w) + w) ((n - z0) * w))) := va_up_self _ _ _
    refine lv_aload_n hx hb d_R_addInOrder_66 rfl (lv_at hl 3 rfl) ?_
    refine hp_get C0 hK cl_R hV hx1 0 (by decide) kw_44 (fun _ h => h) rfl d_R_addInOrder_67 ?_
    refine lv_iload_n hx hb d_R_addInOrder_70 rfl (lv_at hl 4 rfl) ?_
    refine lv_aload_n hx hb d_R_addInOrder_71 rfl (lv_at hl 2 rfl) ?_
    refine hp_get C0 hK cl_R hV hh 1 (by decide) kw_45 (fun _ h => h) rfl d_R_addInOrder_72 ?_
    refine lv_imul hx hb d_R_addInOrder_75 ?_
    refine lv_rei (y := nI (i * w)) (pk_mul _ _) ?_
    refine lv_aload_n hx hb d_R_addInOrder_76 rfl (lv_at hl 2 rfl) ?_
    refine hp_get C0 hK cl_R hV hh 0 (by decide) kw_44 (fun _ h => h) rfl d_R_addInOrder_77 ?_
    refine lv_iload hx hb d_R_addInOrder_80 (lv_at hl 0 rfl) ?_
    refine lv_aload_n hx hb d_R_addInOrder_82 rfl (lv_at hl 2 rfl) ?_
    refine hp_get C0 hK cl_R hV hh 1 (by decide) kw_45 (fun _ h => h) rfl d_R_addInOrder_83 ?_
    refine hp_copyi C0 hK hl.1 kw_614 kw_429 kw_428 kw_19 0 rfl hV hS hy1 hq (i * w) (z0 * w) w rfl rfl rfl hi (by omega) (by omega) (by omega) (Nat.le_of_ble_eq_true rfl) (Nat.le_of_ble_eq_true rfl) d_R_addInOrder_86 (fun H locs hV hS => ?_)
    have hV : hv G.1 vwCl a0 (va_up (va_up M q (some (aI G k (va_cpy f f (z0 * w) ((z0 * w) + w) ((n - z0) * w))))) q (some (aI G k (va_cpy g (va_cpy f f (z0 * w) ((z0 * w) + w) ((n - z0) * w)) (i * w) (z0 * w) w)))) H := hV
    have hh : (va_up (va_up M q (some (aI G k (va_cpy f f (z0 * w) ((z0 * w) + w) ((n - z0) * w))))) q (some (aI G k (va_cpy g (va_cpy f f (z0 * w) ((z0 * w) + w) ((n - z0) * w)) (i * w) (z0 * w) w)))) h = some (.inr (0, [.ref q, .int (nI w), .int (nI n)])) := (va_up_ne _ _ (hm_oa hh hq)).trans hh
    have hx1 : (va_up (va_up M q (some (aI G k (va_cpy f f (z0 * w) ((z0 * w) + w) ((n - z0) * w))))) q (some (aI G k (va_cpy g (va_cpy f f (z0 * w) ((z0 * w) + w) ((n - z0) * w)) (i * w) (z0 * w) w)))) x1 = some (.inr (0, [.ref y1, .int (nI w), .int (nI n1)])) := (va_up_ne _ _ (hm_oa hx1 hq)).trans hx1
    have hy1 : (va_up (va_up M q (some (aI G k (va_cpy f f (z0 * w) ((z0 * w) + w) ((n - z0) * w))))) q (some (aI G k (va_cpy g (va_cpy f f (z0 * w) ((z0 * w) + w) ((n - z0) * w)) (i * w) (z0 * w) w)))) y1 = some (aI G k1 g) := (va_up_ne _ _ nq1).trans hy1
    have hq : (va_up (va_up M q (some (aI G k (va_cpy f f (z0 * w) ((z0 * w) + w) ((n - z0) * w))))) q (some (aI G k (va_cpy g (va_cpy f f (z0 * w) ((z0 * w) + w) ((n - z0) * w)) (i * w) (z0 * w) w)))) q = some (aI G k (va_cpy g (va_cpy f f (z0 * w) ((z0 * w) + w) ((n - z0) * w)) (i * w) (z0 * w) w)) := va_up_self _ _ _
    refine lv_aload_n hx hb d_R_addInOrder_89 rfl (lv_at hl 2 rfl) ?_
    refine lv_dup hx hb d_R_addInOrder_90 rfl ?_
    refine hp_get C0 hK cl_R hV hh 2 (by decide) kw_47 (fun _ h => h) rfl d_R_addInOrder_91 ?_
    refine lv_iconst (v := nI 1) hx hb d_R_addInOrder_94 (by decide) ?_
    refine lv_iadd hx hb d_R_addInOrder_95 ?_
    refine lv_rei (y := nI (n + 1)) (nI_add _ _) ?_
    refine hp_put C0 hK cl_R hV hS hh 2 (by decide) kw_47 (fun _ h => h) rfl rfl rfl (Nat.le_of_ble_eq_true rfl) d_R_addInOrder_96 (fun H locs hV hS => ?_)
    have hV : hv G.1 vwCl a0 (va_up (va_up (va_up M q (some (aI G k (va_cpy f f (z0 * w) ((z0 * w) + w) ((n - z0) * w))))) q (some (aI G k (va_cpy g (va_cpy f f (z0 * w) ((z0 * w) + w) ((n - z0) * w)) (i * w) (z0 * w) w)))) h (some (.inr (0, [.ref q, .int (nI w), .int (nI (n + 1))])))) H := hV
    have hq : (va_up (va_up (va_up M q (some (aI G k (va_cpy f f (z0 * w) ((z0 * w) + w) ((n - z0) * w))))) q (some (aI G k (va_cpy g (va_cpy f f (z0 * w) ((z0 * w) + w) ((n - z0) * w)) (i * w) (z0 * w) w)))) h (some (.inr (0, [.ref q, .int (nI w), .int (nI (n + 1))])))) q = some (aI G k (va_cpy g (va_cpy f f (z0 * w) ((z0 * w) + w) ((n - z0) * w)) (i * w) (z0 * w) w)) := (va_up_ne _ _ (hm_ao hq hh)).trans hq
    have hx1 : (va_up (va_up (va_up M q (some (aI G k (va_cpy f f (z0 * w) ((z0 * w) + w) ((n - z0) * w))))) q (some (aI G k (va_cpy g (va_cpy f f (z0 * w) ((z0 * w) + w) ((n - z0) * w)) (i * w) (z0 * w) w)))) h (some (.inr (0, [.ref q, .int (nI w), .int (nI (n + 1))])))) x1 = some (.inr (0, [.ref y1, .int (nI w), .int (nI n1)])) := (va_up_ne _ _ ne1).trans hx1
    have hy1 : (va_up (va_up (va_up M q (some (aI G k (va_cpy f f (z0 * w) ((z0 * w) + w) ((n - z0) * w))))) q (some (aI G k (va_cpy g (va_cpy f f (z0 * w) ((z0 * w) + w) ((n - z0) * w)) (i * w) (z0 * w) w)))) h (some (.inr (0, [.ref q, .int (nI w), .int (nI (n + 1))])))) y1 = some (aI G k1 g) := (va_up_ne _ _ (hm_ao hy1 hh)).trans hy1
    have hh : (va_up (va_up (va_up M q (some (aI G k (va_cpy f f (z0 * w) ((z0 * w) + w) ((n - z0) * w))))) q (some (aI G k (va_cpy g (va_cpy f f (z0 * w) ((z0 * w) + w) ((n - z0) * w)) (i * w) (z0 * w) w)))) h (some (.inr (0, [.ref q, .int (nI w), .int (nI (n + 1))])))) h = some (.inr (0, [.ref q, .int (nI w), .int (nI (n + 1))])) := va_up_self _ _ _
    exact hx_vret C0 hr hlk hV hS d_R_addInOrder_99 ⟨rfl, by rw [bx_uu]⟩
