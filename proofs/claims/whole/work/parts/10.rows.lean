def y_R_at : MethodName := ⟨"BatchPlans$Rows", "at", "(II)I"⟩
theorem kw_605 : (Jvm.Cond.code ({ cls := "BatchPlans$Rows", name := "at", desc := "(II)I" } : Jvm.MethodName) prog_9_method_3_code (3 : Nat) (Option.some Jvm.ClassFile.FieldType.int)) ∈ TB := tb_mem (tb_s3 _ (List.mem_of_getElem? (i := 125) (by decide +kernel))) (by decide +kernel)
theorem d_R_at_0 : decode prog_9_method_3_code 0 = .ok (.aload_n 0, 1) := by decide +kernel
theorem d_R_at_1 : decode prog_9_method_3_code 1 = .ok (.getfield 7, 3) := by decide +kernel
theorem d_R_at_4 : decode prog_9_method_3_code 4 = .ok (.iload_n 1, 1) := by decide +kernel
theorem d_R_at_5 : decode prog_9_method_3_code 5 = .ok (.aload_n 0, 1) := by decide +kernel
theorem d_R_at_6 : decode prog_9_method_3_code 6 = .ok (.getfield 13, 3) := by decide +kernel
theorem d_R_at_9 : decode prog_9_method_3_code 9 = .ok (.imul, 1) := by decide +kernel
theorem d_R_at_10 : decode prog_9_method_3_code 10 = .ok (.iload_n 2, 1) := by decide +kernel
theorem d_R_at_11 : decode prog_9_method_3_code 11 = .ok (.iadd, 1) := by decide +kernel
theorem d_R_at_12 : decode prog_9_method_3_code 12 = .ok (.iaload, 1) := by decide +kernel
theorem d_R_at_13 : decode prog_9_method_3_code 13 = .ok (.ireturn, 1) := by decide +kernel
def y_R_empty : MethodName := ⟨"BatchPlans$Rows", "empty", "(I)V"⟩
theorem kw_66 : (Jvm.Cond.code ({ cls := "BatchPlans$Rows", name := "empty", desc := "(I)V" } : Jvm.MethodName) prog_9_method_2_code (2 : Nat) (Option.none : Option Jvm.ClassFile.FieldType)) ∈ TB := tb_mem (tb_s1 _ (List.mem_of_getElem? (i := 66) (by decide +kernel))) (by decide +kernel)
theorem d_R_empty_0 : decode prog_9_method_2_code 0 = .ok (.aload_n 0, 1) := by decide +kernel
theorem d_R_empty_1 : decode prog_9_method_2_code 1 = .ok (.iload_n 1, 1) := by decide +kernel
theorem d_R_empty_2 : decode prog_9_method_2_code 2 = .ok (.putfield 13, 3) := by decide +kernel
theorem d_R_empty_5 : decode prog_9_method_2_code 5 = .ok (.aload_n 0, 1) := by decide +kernel
theorem d_R_empty_6 : decode prog_9_method_2_code 6 = .ok (.iconst 0, 1) := by decide +kernel
theorem d_R_empty_7 : decode prog_9_method_2_code 7 = .ok (.putfield 17, 3) := by decide +kernel
theorem d_R_empty_10 : decode prog_9_method_2_code 10 = .ok (.return_, 1) := by decide +kernel
def y_R_put : MethodName := ⟨"BatchPlans$Rows", "put", "(III)V"⟩
theorem kw_719 : (Jvm.Cond.code ({ cls := "BatchPlans$Rows", name := "put", desc := "(III)V" } : Jvm.MethodName) prog_9_method_4_code (4 : Nat) (Option.none : Option Jvm.ClassFile.FieldType)) ∈ TB := tb_mem (tb_s3 _ (List.mem_of_getElem? (i := 239) (by decide +kernel))) (by decide +kernel)
theorem d_R_put_0 : decode prog_9_method_4_code 0 = .ok (.aload_n 0, 1) := by decide +kernel
theorem d_R_put_1 : decode prog_9_method_4_code 1 = .ok (.getfield 7, 3) := by decide +kernel
theorem d_R_put_4 : decode prog_9_method_4_code 4 = .ok (.iload_n 1, 1) := by decide +kernel
theorem d_R_put_5 : decode prog_9_method_4_code 5 = .ok (.aload_n 0, 1) := by decide +kernel
theorem d_R_put_6 : decode prog_9_method_4_code 6 = .ok (.getfield 13, 3) := by decide +kernel
theorem d_R_put_9 : decode prog_9_method_4_code 9 = .ok (.imul, 1) := by decide +kernel
theorem d_R_put_10 : decode prog_9_method_4_code 10 = .ok (.iload_n 2, 1) := by decide +kernel
theorem d_R_put_11 : decode prog_9_method_4_code 11 = .ok (.iadd, 1) := by decide +kernel
theorem d_R_put_12 : decode prog_9_method_4_code 12 = .ok (.iload_n 3, 1) := by decide +kernel
theorem d_R_put_13 : decode prog_9_method_4_code 13 = .ok (.iastore, 1) := by decide +kernel
theorem d_R_put_14 : decode prog_9_method_4_code 14 = .ok (.return_, 1) := by decide +kernel
def y_R_addThree : MethodName := ⟨"BatchPlans$Rows", "addThree", "(III)V"⟩
theorem kw_307 : (Jvm.Cond.code ({ cls := "BatchPlans$Rows", name := "addThree", desc := "(III)V" } : Jvm.MethodName) prog_9_method_5_code (5 : Nat) (Option.none : Option Jvm.ClassFile.FieldType)) ∈ TB := tb_mem (tb_s2 _ (List.mem_of_getElem? (i := 67) (by decide +kernel))) (by decide +kernel)
theorem d_R_addThree_0 : decode prog_9_method_5_code 0 = .ok (.aload_n 0, 1) := by decide +kernel
theorem d_R_addThree_1 : decode prog_9_method_5_code 1 = .ok (.getfield 17, 3) := by decide +kernel
theorem d_R_addThree_4 : decode prog_9_method_5_code 4 = .ok (.aload_n 0, 1) := by decide +kernel
theorem d_R_addThree_5 : decode prog_9_method_5_code 5 = .ok (.getfield 13, 3) := by decide +kernel
theorem d_R_addThree_8 : decode prog_9_method_5_code 8 = .ok (.imul, 1) := by decide +kernel
theorem d_R_addThree_9 : decode prog_9_method_5_code 9 = .ok (.istore 4, 2) := by decide +kernel
theorem d_R_addThree_11 : decode prog_9_method_5_code 11 = .ok (.aload_n 0, 1) := by decide +kernel
theorem d_R_addThree_12 : decode prog_9_method_5_code 12 = .ok (.getfield 7, 3) := by decide +kernel
theorem d_R_addThree_15 : decode prog_9_method_5_code 15 = .ok (.iload 4, 2) := by decide +kernel
theorem d_R_addThree_17 : decode prog_9_method_5_code 17 = .ok (.iload_n 1, 1) := by decide +kernel
theorem d_R_addThree_18 : decode prog_9_method_5_code 18 = .ok (.iastore, 1) := by decide +kernel
theorem d_R_addThree_19 : decode prog_9_method_5_code 19 = .ok (.aload_n 0, 1) := by decide +kernel
theorem d_R_addThree_20 : decode prog_9_method_5_code 20 = .ok (.getfield 7, 3) := by decide +kernel
theorem d_R_addThree_23 : decode prog_9_method_5_code 23 = .ok (.iload 4, 2) := by decide +kernel
theorem d_R_addThree_25 : decode prog_9_method_5_code 25 = .ok (.iconst 1, 1) := by decide +kernel
theorem d_R_addThree_26 : decode prog_9_method_5_code 26 = .ok (.iadd, 1) := by decide +kernel
theorem d_R_addThree_27 : decode prog_9_method_5_code 27 = .ok (.iload_n 2, 1) := by decide +kernel
theorem d_R_addThree_28 : decode prog_9_method_5_code 28 = .ok (.iastore, 1) := by decide +kernel
theorem d_R_addThree_29 : decode prog_9_method_5_code 29 = .ok (.aload_n 0, 1) := by decide +kernel
theorem d_R_addThree_30 : decode prog_9_method_5_code 30 = .ok (.getfield 7, 3) := by decide +kernel
theorem d_R_addThree_33 : decode prog_9_method_5_code 33 = .ok (.iload 4, 2) := by decide +kernel
theorem d_R_addThree_35 : decode prog_9_method_5_code 35 = .ok (.iconst 2, 1) := by decide +kernel
theorem d_R_addThree_36 : decode prog_9_method_5_code 36 = .ok (.iadd, 1) := by decide +kernel
theorem d_R_addThree_37 : decode prog_9_method_5_code 37 = .ok (.iload_n 3, 1) := by decide +kernel
theorem d_R_addThree_38 : decode prog_9_method_5_code 38 = .ok (.iastore, 1) := by decide +kernel
theorem d_R_addThree_39 : decode prog_9_method_5_code 39 = .ok (.aload_n 0, 1) := by decide +kernel
theorem d_R_addThree_40 : decode prog_9_method_5_code 40 = .ok (.dup, 1) := by decide +kernel
theorem d_R_addThree_41 : decode prog_9_method_5_code 41 = .ok (.getfield 17, 3) := by decide +kernel
theorem d_R_addThree_44 : decode prog_9_method_5_code 44 = .ok (.iconst 1, 1) := by decide +kernel
theorem d_R_addThree_45 : decode prog_9_method_5_code 45 = .ok (.iadd, 1) := by decide +kernel
theorem d_R_addThree_46 : decode prog_9_method_5_code 46 = .ok (.putfield 17, 3) := by decide +kernel
theorem d_R_addThree_49 : decode prog_9_method_5_code 49 = .ok (.return_, 1) := by decide +kernel
def y_R_addCopy : MethodName := ⟨"BatchPlans$Rows", "addCopy", "(LBatchPlans$Rows;I)V"⟩
theorem kw_613 : (Jvm.Cond.code ({ cls := "BatchPlans$Rows", name := "addCopy", desc := "(LBatchPlans$Rows;I)V" } : Jvm.MethodName) prog_9_method_6_code (3 : Nat) (Option.none : Option Jvm.ClassFile.FieldType)) ∈ TB := tb_mem (tb_s3 _ (List.mem_of_getElem? (i := 133) (by decide +kernel))) (by decide +kernel)
theorem d_R_addCopy_0 : decode prog_9_method_6_code 0 = .ok (.aload_n 1, 1) := by decide +kernel
theorem d_R_addCopy_1 : decode prog_9_method_6_code 1 = .ok (.getfield 7, 3) := by decide +kernel
theorem d_R_addCopy_4 : decode prog_9_method_6_code 4 = .ok (.iload_n 2, 1) := by decide +kernel
theorem d_R_addCopy_5 : decode prog_9_method_6_code 5 = .ok (.aload_n 0, 1) := by decide +kernel
theorem d_R_addCopy_6 : decode prog_9_method_6_code 6 = .ok (.getfield 13, 3) := by decide +kernel
theorem d_R_addCopy_9 : decode prog_9_method_6_code 9 = .ok (.imul, 1) := by decide +kernel
theorem d_R_addCopy_10 : decode prog_9_method_6_code 10 = .ok (.aload_n 0, 1) := by decide +kernel
theorem d_R_addCopy_11 : decode prog_9_method_6_code 11 = .ok (.getfield 7, 3) := by decide +kernel
theorem d_R_addCopy_14 : decode prog_9_method_6_code 14 = .ok (.aload_n 0, 1) := by decide +kernel
theorem d_R_addCopy_15 : decode prog_9_method_6_code 15 = .ok (.getfield 17, 3) := by decide +kernel
theorem d_R_addCopy_18 : decode prog_9_method_6_code 18 = .ok (.aload_n 0, 1) := by decide +kernel
theorem d_R_addCopy_19 : decode prog_9_method_6_code 19 = .ok (.getfield 13, 3) := by decide +kernel
theorem d_R_addCopy_22 : decode prog_9_method_6_code 22 = .ok (.imul, 1) := by decide +kernel
theorem d_R_addCopy_23 : decode prog_9_method_6_code 23 = .ok (.aload_n 0, 1) := by decide +kernel
theorem d_R_addCopy_24 : decode prog_9_method_6_code 24 = .ok (.getfield 13, 3) := by decide +kernel
theorem d_R_addCopy_27 : decode prog_9_method_6_code 27 = .ok (.invokestatic 20, 3) := by decide +kernel
theorem d_R_addCopy_30 : decode prog_9_method_6_code 30 = .ok (.aload_n 0, 1) := by decide +kernel
theorem d_R_addCopy_31 : decode prog_9_method_6_code 31 = .ok (.dup, 1) := by decide +kernel
theorem d_R_addCopy_32 : decode prog_9_method_6_code 32 = .ok (.getfield 17, 3) := by decide +kernel
theorem d_R_addCopy_35 : decode prog_9_method_6_code 35 = .ok (.iconst 1, 1) := by decide +kernel
theorem d_R_addCopy_36 : decode prog_9_method_6_code 36 = .ok (.iadd, 1) := by decide +kernel
theorem d_R_addCopy_37 : decode prog_9_method_6_code 37 = .ok (.putfield 17, 3) := by decide +kernel
theorem d_R_addCopy_40 : decode prog_9_method_6_code 40 = .ok (.return_, 1) := by decide +kernel
def y_R_has : MethodName := ⟨"BatchPlans$Rows", "has", "(II)Z"⟩
theorem kw_624 : (Jvm.Cond.code ({ cls := "BatchPlans$Rows", name := "has", desc := "(II)Z" } : Jvm.MethodName) prog_9_method_9_code (4 : Nat) (Option.some Jvm.ClassFile.FieldType.boolean)) ∈ TB := tb_mem (tb_s3 _ (List.mem_of_getElem? (i := 144) (by decide +kernel))) (by decide +kernel)
theorem d_R_has_0 : decode prog_9_method_9_code 0 = .ok (.iconst 0, 1) := by decide +kernel
theorem d_R_has_1 : decode prog_9_method_9_code 1 = .ok (.istore_n 3, 1) := by decide +kernel
theorem d_R_has_2 : decode prog_9_method_9_code 2 = .ok (.iload_n 3, 1) := by decide +kernel
theorem d_R_has_3 : decode prog_9_method_9_code 3 = .ok (.aload_n 0, 1) := by decide +kernel
theorem d_R_has_4 : decode prog_9_method_9_code 4 = .ok (.getfield 17, 3) := by decide +kernel
theorem d_R_has_7 : decode prog_9_method_9_code 7 = .ok (.if_icmp .ge 21, 3) := by decide +kernel
theorem d_R_has_10 : decode prog_9_method_9_code 10 = .ok (.aload_n 0, 1) := by decide +kernel
theorem d_R_has_11 : decode prog_9_method_9_code 11 = .ok (.iload_n 3, 1) := by decide +kernel
theorem d_R_has_12 : decode prog_9_method_9_code 12 = .ok (.iload_n 1, 1) := by decide +kernel
theorem d_R_has_13 : decode prog_9_method_9_code 13 = .ok (.invokevirtual 30, 3) := by decide +kernel
theorem d_R_has_16 : decode prog_9_method_9_code 16 = .ok (.iload_n 2, 1) := by decide +kernel
theorem d_R_has_17 : decode prog_9_method_9_code 17 = .ok (.if_icmp .ne 5, 3) := by decide +kernel
theorem d_R_has_20 : decode prog_9_method_9_code 20 = .ok (.iconst 1, 1) := by decide +kernel
theorem d_R_has_21 : decode prog_9_method_9_code 21 = .ok (.ireturn, 1) := by decide +kernel
theorem d_R_has_22 : decode prog_9_method_9_code 22 = .ok (.iinc 3 1, 3) := by decide +kernel
theorem d_R_has_25 : decode prog_9_method_9_code 25 = .ok (.goto (-23), 3) := by decide +kernel
theorem d_R_has_28 : decode prog_9_method_9_code 28 = .ok (.iconst 0, 1) := by decide +kernel
theorem d_R_has_29 : decode prog_9_method_9_code 29 = .ok (.ireturn, 1) := by decide +kernel
theorem kw_44 : (Jvm.Cond.fieldLink "BatchPlans$Rows" (7 : Nat) "BatchPlans$Rows" "cells" "[I") ∈ TB := tb_mem (tb_s1 _ (List.mem_of_getElem? (i := 44) (by decide +kernel))) (by decide +kernel)
theorem kw_45 : (Jvm.Cond.fieldLink "BatchPlans$Rows" (13 : Nat) "BatchPlans$Rows" "columns" "I") ∈ TB := tb_mem (tb_s1 _ (List.mem_of_getElem? (i := 45) (by decide +kernel))) (by decide +kernel)
theorem kw_47 : (Jvm.Cond.fieldLink "BatchPlans$Rows" (17 : Nat) "BatchPlans$Rows" "count" "I") ∈ TB := tb_mem (tb_s1 _ (List.mem_of_getElem? (i := 47) (by decide +kernel))) (by decide +kernel)
theorem kw_614 : (Jvm.Cond.methodLink "BatchPlans$Rows" (20 : Nat) ({ cls := "java/lang/System", name := "arraycopy", desc := "(Ljava/lang/Object;ILjava/lang/Object;II)V" } : Jvm.MethodName)) ∈ TB := tb_mem (tb_s3 _ (List.mem_of_getElem? (i := 134) (by decide +kernel))) (by decide +kernel)
theorem kw_429 : (Jvm.Cond.native ({ cls := "java/lang/System", name := "arraycopy", desc := "(Ljava/lang/Object;ILjava/lang/Object;II)V" } : Jvm.MethodName)) ∈ TB := tb_mem (tb_s2 _ (List.mem_of_getElem? (i := 189) (by decide +kernel))) (by decide +kernel)
theorem kw_428 : (Jvm.Cond.static ({ cls := "java/lang/System", name := "arraycopy", desc := "(Ljava/lang/Object;ILjava/lang/Object;II)V" } : Jvm.MethodName)) ∈ TB := tb_mem (tb_s2 _ (List.mem_of_getElem? (i := 188) (by decide +kernel))) (by decide +kernel)
theorem kw_19 : (Jvm.Cond.initialized "java/lang/System") ∈ TB := tb_mem (tb_s1 _ (List.mem_of_getElem? (i := 19) (by decide +kernel))) (by decide +kernel)
theorem kw_2 : (Jvm.Cond.initialized "BatchPlans$Rows") ∈ TB := tb_mem (tb_s1 _ (List.mem_of_getElem? (i := 2) (by decide +kernel))) (by decide +kernel)
theorem kw_625 : (Jvm.Cond.methodLink "BatchPlans$Rows" (30 : Nat) ({ cls := "BatchPlans$Rows", name := "at", desc := "(II)I" } : Jvm.MethodName)) ∈ TB := tb_mem (tb_s3 _ (List.mem_of_getElem? (i := 145) (by decide +kernel))) (by decide +kernel)
theorem kw_603 : (Jvm.Cond.instanceMethod ({ cls := "BatchPlans$Rows", name := "at", desc := "(II)I" } : Jvm.MethodName)) ∈ TB := tb_mem (tb_s3 _ (List.mem_of_getElem? (i := 123) (by decide +kernel))) (by decide +kernel)
theorem kw_604 : (Jvm.Cond.selects "BatchPlans$Rows" ({ cls := "BatchPlans$Rows", name := "at", desc := "(II)I" } : Jvm.MethodName) ({ cls := "BatchPlans$Rows", name := "at", desc := "(II)I" } : Jvm.MethodName)) ∈ TB := tb_mem (tb_s3 _ (List.mem_of_getElem? (i := 124) (by decide +kernel))) (by decide +kernel)
set_option maxHeartbeats 4000000 in
set_option maxRecDepth 100000 in
theorem c_R_at (l : Launch) {G : hGt} {a0 : Nat} {M : hMp} {h q w n k i c : Nat} {f : Nat → Int32} (hh : M h = some (.inr (0, [.ref q, .int (nI w), .int (nI n)]))) (hq : M q = some (aI G k f)) (hi : i * w + c < k) (hk : k ≤ 65536) : MX l y_R_at TB ({ frames := 0, cells := 0, slots := 0, locals := 0 }) (va_Pc [.ref h, .int (nI i), .int (nI c)] (hU (Ev G a0) G.1 vwCl a0 M)) (hR G.1 vwCl a0 M (fun r => r = some (.int (f (i * w + c)))) (fun _ => False)) 0 0 (fun _ => False) := by
  refine MX.ofW tb_good (by decide) kw_605 (Nat.le_of_ble_eq_true rfl) ?_
  intro p e s m below meth cd ls C0 hr hlk hnm hxt hV hS hl
  have hx := C0.1
  have hb := C0.2.1
  have hK : va_K G.1 vwCl (hT G) s := C0.2.2.2.2.2.1.1
  have hN := C0.2.2.2.2.2.1.2.1
  have hl : lv_has ls 3 [(0, .ref h), (1, .int (nI i)), (2, .int (nI c))] := hl
  refine lv_aload_n hx hb d_R_at_0 rfl (lv_at hl 0 rfl) ?_
  refine hp_get C0 hK cl_R hV hh 0 (by decide) kw_44 (fun _ h => h) rfl d_R_at_1 ?_
  refine lv_iload_n hx hb d_R_at_4 rfl (lv_at hl 1 rfl) ?_
  refine lv_aload_n hx hb d_R_at_5 rfl (lv_at hl 0 rfl) ?_
  refine hp_get C0 hK cl_R hV hh 1 (by decide) kw_45 (fun _ h => h) rfl d_R_at_6 ?_
  refine lv_imul hx hb d_R_at_9 ?_
  refine lv_rei (y := nI (i * w)) (pk_mul _ _) ?_
  refine lv_iload_n hx hb d_R_at_10 rfl (lv_at hl 2 rfl) ?_
  refine lv_iadd hx hb d_R_at_11 ?_
  refine lv_rei (y := nI ((i * w) + c)) (nI_add _ _) ?_
  refine hp_iald C0 hK 0 rfl hV hq ((i * w) + c) rfl hi (by omega) d_R_at_12 ?_
  exact hr_iret C0 hr hlk d_R_at_13 rfl
set_option maxHeartbeats 4000000 in
set_option maxRecDepth 100000 in
theorem c_R_empty (l : Launch) {G : hGt} {a0 : Nat} {M : hMp} {h q : Nat} {w0 n0 w : Int32} (hh : M h = some (.inr (0, [.ref q, .int w0, .int n0]))) : MX l y_R_empty TB ({ frames := 0, cells := 0, slots := 0, locals := 0 }) (va_Pc [.ref h, .int w] (hU (Ev G a0) G.1 vwCl a0 M)) (hQ G.1 vwCl a0 (fun oc M' => oc = .returned none ∧ M' = va_up M h (some (.inr (0, [.ref q, .int w, .int (nI 0)]))))) 0 0 (hA a0) := by
  refine MX.ofW tb_good (by decide) kw_66 (Nat.le_of_ble_eq_true rfl) ?_
  intro p e s m below meth cd ls C0 hr hlk hnm hxt hV hS hl
  have hx := C0.1
  have hb := C0.2.1
  have hK : va_K G.1 vwCl (hT G) s := C0.2.2.2.2.2.1.1
  have hN := C0.2.2.2.2.2.1.2.1
  have hl : lv_has ls 2 [(0, .ref h), (1, .int w)] := hl
  refine lv_aload_n hx hb d_R_empty_0 rfl (lv_at hl 0 rfl) ?_
  refine lv_iload_n hx hb d_R_empty_1 rfl (lv_at hl 1 rfl) ?_
  refine hp_put C0 hK cl_R hV hS hh 1 (by decide) kw_45 (fun _ h => h) rfl rfl rfl (Nat.le_of_ble_eq_true rfl) d_R_empty_2 (fun H locs hV hS => ?_)
  have hV : hv G.1 vwCl a0 (va_up M h (some (.inr (0, [.ref q, .int w, .int n0])))) H := hV
  have hh : (va_up M h (some (.inr (0, [.ref q, .int w, .int n0])))) h = some (.inr (0, [.ref q, .int w, .int n0])) := va_up_self _ _ _
  refine lv_aload_n hx hb d_R_empty_5 rfl (lv_at hl 0 rfl) ?_
  refine lv_iconst (v := nI 0) hx hb d_R_empty_6 (by decide) ?_
  refine hp_put C0 hK cl_R hV hS hh 2 (by decide) kw_47 (fun _ h => h) rfl rfl rfl (Nat.le_of_ble_eq_true rfl) d_R_empty_7 (fun H locs hV hS => ?_)
  have hV : hv G.1 vwCl a0 (va_up (va_up M h (some (.inr (0, [.ref q, .int w, .int n0])))) h (some (.inr (0, [.ref q, .int w, .int (nI 0)])))) H := hV
  have hh : (va_up (va_up M h (some (.inr (0, [.ref q, .int w, .int n0])))) h (some (.inr (0, [.ref q, .int w, .int (nI 0)])))) h = some (.inr (0, [.ref q, .int w, .int (nI 0)])) := va_up_self _ _ _
  exact hx_vret C0 hr hlk hV hS d_R_empty_10 ⟨rfl, bx_uu _ _ _ _⟩
set_option maxHeartbeats 4000000 in
set_option maxRecDepth 100000 in
theorem c_R_put (l : Launch) {G : hGt} {a0 : Nat} {M : hMp} {h q w n k i c : Nat} {f : Nat → Int32} {x : Int32} (hh : M h = some (.inr (0, [.ref q, .int (nI w), .int (nI n)]))) (hq : M q = some (aI G k f)) (hi : i * w + c < k) (hk : k ≤ 65536) : MX l y_R_put TB ({ frames := 0, cells := 0, slots := 0, locals := 0 }) (va_Pc [.ref h, .int (nI i), .int (nI c), .int x] (hU (Ev G a0) G.1 vwCl a0 M)) (hQ G.1 vwCl a0 (fun oc M' => oc = .returned none ∧ M' = va_up M q (some (aI G k (upd f (i * w + c) x))))) 0 0 (hA a0) := by
  refine MX.ofW tb_good (by decide) kw_719 (Nat.le_of_ble_eq_true rfl) ?_
  intro p e s m below meth cd ls C0 hr hlk hnm hxt hV hS hl
  have hx := C0.1
  have hb := C0.2.1
  have hK : va_K G.1 vwCl (hT G) s := C0.2.2.2.2.2.1.1
  have hN := C0.2.2.2.2.2.1.2.1
  have hl : lv_has ls 4 [(0, .ref h), (1, .int (nI i)), (2, .int (nI c)), (3, .int x)] := hl
  refine lv_aload_n hx hb d_R_put_0 rfl (lv_at hl 0 rfl) ?_
  refine hp_get C0 hK cl_R hV hh 0 (by decide) kw_44 (fun _ h => h) rfl d_R_put_1 ?_
  refine lv_iload_n hx hb d_R_put_4 rfl (lv_at hl 1 rfl) ?_
  refine lv_aload_n hx hb d_R_put_5 rfl (lv_at hl 0 rfl) ?_
  refine hp_get C0 hK cl_R hV hh 1 (by decide) kw_45 (fun _ h => h) rfl d_R_put_6 ?_
  refine lv_imul hx hb d_R_put_9 ?_
  refine lv_rei (y := nI (i * w)) (pk_mul _ _) ?_
  refine lv_iload_n hx hb d_R_put_10 rfl (lv_at hl 2 rfl) ?_
  refine lv_iadd hx hb d_R_put_11 ?_
  refine lv_rei (y := nI ((i * w) + c)) (nI_add _ _) ?_
  refine lv_iload_n hx hb d_R_put_12 rfl (lv_at hl 3 rfl) ?_
  refine hp_iast C0 hK 0 rfl hV hS hq ((i * w) + c) rfl hi (by omega) d_R_put_13 (fun H locs hV hS => ?_)
  have hV : hv G.1 vwCl a0 (va_up M q (some (aI G k (upd f ((i * w) + c) x)))) H := hV
  have hh : (va_up M q (some (aI G k (upd f ((i * w) + c) x)))) h = some (.inr (0, [.ref q, .int (nI w), .int (nI n)])) := (va_up_ne _ _ (hm_oa hh hq)).trans hh
  have hq : (va_up M q (some (aI G k (upd f ((i * w) + c) x)))) q = some (aI G k (upd f ((i * w) + c) x)) := va_up_self _ _ _
  exact hx_vret C0 hr hlk hV hS d_R_put_14 ⟨rfl, rfl⟩
set_option maxHeartbeats 4000000 in
set_option maxRecDepth 100000 in
theorem c_R_addThree (l : Launch) {G : hGt} {a0 : Nat} {M : hMp} {h q n k : Nat} {f : Nat → Int32} {x y z : Int32} (hh : M h = some (.inr (0, [.ref q, .int (nI 3), .int (nI n)]))) (hq : M q = some (aI G k f)) (hi : n * 3 + 2 < k) (hk : k ≤ 65536) : MX l y_R_addThree TB ({ frames := 0, cells := 0, slots := 0, locals := 0 }) (va_Pc [.ref h, .int x, .int y, .int z] (hU (Ev G a0) G.1 vwCl a0 M)) (hQ G.1 vwCl a0 (fun oc M' => oc = .returned none ∧ M' = va_up (va_up M q (some (aI G k (upd (upd (upd f (n * 3) x) (n * 3 + 1) y) (n * 3 + 2) z)))) h (some (.inr (0, [.ref q, .int (nI 3), .int (nI (n + 1))]))))) 0 0 (hA a0) := by
  refine MX.ofW tb_good (by decide) kw_307 (Nat.le_of_ble_eq_true rfl) ?_
  intro p e s m below meth cd ls C0 hr hlk hnm hxt hV hS hl
  have hx := C0.1
  have hb := C0.2.1
  have hK : va_K G.1 vwCl (hT G) s := C0.2.2.2.2.2.1.1
  have hN := C0.2.2.2.2.2.1.2.1
  have hl : lv_has ls 5 [(0, .ref h), (1, .int x), (2, .int y), (3, .int z)] := hl
  refine lv_aload_n hx hb d_R_addThree_0 rfl (lv_at hl 0 rfl) ?_
  refine hp_get C0 hK cl_R hV hh 2 (by decide) kw_47 (fun _ h => h) rfl d_R_addThree_1 ?_
  refine lv_aload_n hx hb d_R_addThree_4 rfl (lv_at hl 0 rfl) ?_
  refine hp_get C0 hK cl_R hV hh 1 (by decide) kw_45 (fun _ h => h) rfl d_R_addThree_5 ?_
  refine lv_imul hx hb d_R_addThree_8 ?_
  refine lv_rei (y := nI (n * 3)) (pk_mul _ _) ?_
  refine lv_istore (lv' := [(4, .int (nI (n * 3))), (0, .ref h), (1, .int x), (2, .int y), (3, .int z)]) hx hb d_R_addThree_9 hl (by decide) rfl (fun ls hl => ?_)
  refine lv_aload_n hx hb d_R_addThree_11 rfl (lv_at hl 1 rfl) ?_
  refine hp_get C0 hK cl_R hV hh 0 (by decide) kw_44 (fun _ h => h) rfl d_R_addThree_12 ?_
  refine lv_iload hx hb d_R_addThree_15 (lv_at hl 0 rfl) ?_
  refine lv_iload_n hx hb d_R_addThree_17 rfl (lv_at hl 2 rfl) ?_
  refine hp_iast C0 hK 0 rfl hV hS hq (n * 3) rfl (by omega) (by omega) d_R_addThree_18 (fun H locs hV hS => ?_)
  have hV : hv G.1 vwCl a0 (va_up M q (some (aI G k (upd f (n * 3) x)))) H := hV
  have hh : (va_up M q (some (aI G k (upd f (n * 3) x)))) h = some (.inr (0, [.ref q, .int (nI 3), .int (nI n)])) := (va_up_ne _ _ (hm_oa hh hq)).trans hh
  have hq : (va_up M q (some (aI G k (upd f (n * 3) x)))) q = some (aI G k (upd f (n * 3) x)) := va_up_self _ _ _
  refine lv_aload_n hx hb d_R_addThree_19 rfl (lv_at hl 1 rfl) ?_
  refine hp_get C0 hK cl_R hV hh 0 (by decide) kw_44 (fun _ h => h) rfl d_R_addThree_20 ?_
  refine lv_iload hx hb d_R_addThree_23 (lv_at hl 0 rfl) ?_
  refine lv_iconst (v := nI 1) hx hb d_R_addThree_25 (by decide) ?_
  refine lv_iadd hx hb d_R_addThree_26 ?_
  refine lv_rei (y := nI ((n * 3) + 1)) (nI_add _ _) ?_
  refine lv_iload_n hx hb d_R_addThree_27 rfl (lv_at hl 3 rfl) ?_
  refine hp_iast C0 hK 0 rfl hV hS hq ((n * 3) + 1) rfl (by omega) (by omega) d_R_addThree_28 (fun H locs hV hS => ?_)
  have hV : hv G.1 vwCl a0 (va_up (va_up M q (some (aI G k (upd f (n * 3) x)))) q (some (aI G k (upd (upd f (n * 3) x) ((n * 3) + 1) y)))) H := hV
  have hh : (va_up (va_up M q (some (aI G k (upd f (n * 3) x)))) q (some (aI G k (upd (upd f (n * 3) x) ((n * 3) + 1) y)))) h = some (.inr (0, [.ref q, .int (nI 3), .int (nI n)])) := (va_up_ne _ _ (hm_oa hh hq)).trans hh
  have hq : (va_up (va_up M q (some (aI G k (upd f (n * 3) x)))) q (some (aI G k (upd (upd f (n * 3) x) ((n * 3) + 1) y)))) q = some (aI G k (upd (upd f (n * 3) x) ((n * 3) + 1) y)) := va_up_self _ _ _
  refine lv_aload_n hx hb d_R_addThree_29 rfl (lv_at hl 1 rfl) ?_
  refine hp_get C0 hK cl_R hV hh 0 (by decide) kw_44 (fun _ h => h) rfl d_R_addThree_30 ?_
  refine lv_iload hx hb d_R_addThree_33 (lv_at hl 0 rfl) ?_
  refine lv_iconst (v := nI 2) hx hb d_R_addThree_35 (by decide) ?_
  refine lv_iadd hx hb d_R_addThree_36 ?_
  refine lv_rei (y := nI ((n * 3) + 2)) (nI_add _ _) ?_
  refine lv_iload_n hx hb d_R_addThree_37 rfl (lv_at hl 4 rfl) ?_
  refine hp_iast C0 hK 0 rfl hV hS hq ((n * 3) + 2) rfl (by omega) (by omega) d_R_addThree_38 (fun H locs hV hS => ?_)
  have hV : hv G.1 vwCl a0 (va_up (va_up (va_up M q (some (aI G k (upd f (n * 3) x)))) q (some (aI G k (upd (upd f (n * 3) x) ((n * 3) + 1) y)))) q (some (aI G k (upd (upd (upd f (n * 3) x) ((n * 3) + 1) y) ((n * 3) + 2) z)))) H := hV
  have hh : (va_up (va_up (va_up M q (some (aI G k (upd f (n * 3) x)))) q (some (aI G k (upd (upd f (n * 3) x) ((n * 3) + 1) y)))) q (some (aI G k (upd (upd (upd f (n * 3) x) ((n * 3) + 1) y) ((n * 3) + 2) z)))) h = some (.inr (0, [.ref q, .int (nI 3), .int (nI n)])) := (va_up_ne _ _ (hm_oa hh hq)).trans hh
  have hq : (va_up (va_up (va_up M q (some (aI G k (upd f (n * 3) x)))) q (some (aI G k (upd (upd f (n * 3) x) ((n * 3) + 1) y)))) q (some (aI G k (upd (upd (upd f (n * 3) x) ((n * 3) + 1) y) ((n * 3) + 2) z)))) q = some (aI G k (upd (upd (upd f (n * 3) x) ((n * 3) + 1) y) ((n * 3) + 2) z)) := va_up_self _ _ _
  refine lv_aload_n hx hb d_R_addThree_39 rfl (lv_at hl 1 rfl) ?_
  refine lv_dup hx hb d_R_addThree_40 rfl ?_
  refine hp_get C0 hK cl_R hV hh 2 (by decide) kw_47 (fun _ h => h) rfl d_R_addThree_41 ?_
  refine lv_iconst (v := nI 1) hx hb d_R_addThree_44 (by decide) ?_
  refine lv_iadd hx hb d_R_addThree_45 ?_
  refine lv_rei (y := nI (n + 1)) (nI_add _ _) ?_
  refine hp_put C0 hK cl_R hV hS hh 2 (by decide) kw_47 (fun _ h => h) rfl rfl rfl (Nat.le_of_ble_eq_true rfl) d_R_addThree_46 (fun H locs hV hS => ?_)
  have hV : hv G.1 vwCl a0 (va_up (va_up (va_up (va_up M q (some (aI G k (upd f (n * 3) x)))) q (some (aI G k (upd (upd f (n * 3) x) ((n * 3) + 1) y)))) q (some (aI G k (upd (upd (upd f (n * 3) x) ((n * 3) + 1) y) ((n * 3) + 2) z)))) h (some (.inr (0, [.ref q, .int (nI 3), .int (nI (n + 1))])))) H := hV
  have hq : (va_up (va_up (va_up (va_up M q (some (aI G k (upd f (n * 3) x)))) q (some (aI G k (upd (upd f (n * 3) x) ((n * 3) + 1) y)))) q (some (aI G k (upd (upd (upd f (n * 3) x) ((n * 3) + 1) y) ((n * 3) + 2) z)))) h (some (.inr (0, [.ref q, .int (nI 3), .int (nI (n + 1))])))) q = some (aI G k (upd (upd (upd f (n * 3) x) ((n * 3) + 1) y) ((n * 3) + 2) z)) := (va_up_ne _ _ (hm_ao hq hh)).trans hq
  have hh : (va_up (va_up (va_up (va_up M q (some (aI G k (upd f (n * 3) x)))) q (some (aI G k (upd (upd f (n * 3) x) ((n * 3) + 1) y)))) q (some (aI G k (upd (upd (upd f (n * 3) x) ((n * 3) + 1) y) ((n * 3) + 2) z)))) h (some (.inr (0, [.ref q, .int (nI 3), .int (nI (n + 1))])))) h = some (.inr (0, [.ref q, .int (nI 3), .int (nI (n + 1))])) := va_up_self _ _ _
  exact hx_vret C0 hr hlk hV hS d_R_addThree_49 ⟨rfl, by rw [bx_uu, bx_uu]⟩
set_option maxHeartbeats 4000000 in
set_option maxRecDepth 100000 in
theorem c_R_addCopy (l : Launch) {G : hGt} {a0 : Nat} {M : hMp} {h q h2 q2 w n k k2 i : Nat} {w2 n2 : Int32} {f g : Nat → Int32} (hh : M h = some (.inr (0, [.ref q, .int (nI w), .int (nI n)]))) (hq : M q = some (aI G k f)) (hh2 : M h2 = some (.inr (0, [.ref q2, .int w2, .int n2]))) (hq2 : M q2 = some (aI G k2 g)) (hne : h2 ≠ h) (hnq : q2 ≠ q) (hi : n * w + w ≤ k) (hj : i * w + w ≤ k2) (hk : k ≤ 65536) (hk2 : k2 ≤ 65536) : MX l y_R_addCopy TB ({ frames := 1, cells := 0, slots := 0, locals := 40 }) (va_Pc [.ref h, .ref h2, .int (nI i)] (hU (Ev G a0) G.1 vwCl a0 M)) (hQ G.1 vwCl a0 (fun oc M' => oc = .returned none ∧ M' = va_up (va_up M q (some (aI G k (va_cpy g f (i * w) (n * w) w)))) h (some (.inr (0, [.ref q, .int (nI w), .int (nI (n + 1))]))))) 0 0 (hA a0) := by
  refine MX.ofW tb_good (by decide) kw_613 (Nat.le_of_ble_eq_true rfl) ?_
  intro p e s m below meth cd ls C0 hr hlk hnm hxt hV hS hl
  have hx := C0.1
  have hb := C0.2.1
  have hK : va_K G.1 vwCl (hT G) s := C0.2.2.2.2.2.1.1
  have hN := C0.2.2.2.2.2.1.2.1
  have hl : lv_has ls 3 [(0, .ref h), (1, .ref h2), (2, .int (nI i))] := hl
  refine lv_aload_n hx hb d_R_addCopy_0 rfl (lv_at hl 1 rfl) ?_
  refine hp_get C0 hK cl_R hV hh2 0 (by decide) kw_44 (fun _ h => h) rfl d_R_addCopy_1 ?_
  refine lv_iload_n hx hb d_R_addCopy_4 rfl (lv_at hl 2 rfl) ?_
  refine lv_aload_n hx hb d_R_addCopy_5 rfl (lv_at hl 0 rfl) ?_
  refine hp_get C0 hK cl_R hV hh 1 (by decide) kw_45 (fun _ h => h) rfl d_R_addCopy_6 ?_
  refine lv_imul hx hb d_R_addCopy_9 ?_
  refine lv_rei (y := nI (i * w)) (pk_mul _ _) ?_
  refine lv_aload_n hx hb d_R_addCopy_10 rfl (lv_at hl 0 rfl) ?_
  refine hp_get C0 hK cl_R hV hh 0 (by decide) kw_44 (fun _ h => h) rfl d_R_addCopy_11 ?_
  refine lv_aload_n hx hb d_R_addCopy_14 rfl (lv_at hl 0 rfl) ?_
  refine hp_get C0 hK cl_R hV hh 2 (by decide) kw_47 (fun _ h => h) rfl d_R_addCopy_15 ?_
  refine lv_aload_n hx hb d_R_addCopy_18 rfl (lv_at hl 0 rfl) ?_
  refine hp_get C0 hK cl_R hV hh 1 (by decide) kw_45 (fun _ h => h) rfl d_R_addCopy_19 ?_
  refine lv_imul hx hb d_R_addCopy_22 ?_
  refine lv_rei (y := nI (n * w)) (pk_mul _ _) ?_
  refine lv_aload_n hx hb d_R_addCopy_23 rfl (lv_at hl 0 rfl) ?_
  refine hp_get C0 hK cl_R hV hh 1 (by decide) kw_45 (fun _ h => h) rfl d_R_addCopy_24 ?_
  refine hp_copyi C0 hK hl.1 kw_614 kw_429 kw_428 kw_19 0 rfl hV hS hq2 hq (i * w) (n * w) w rfl rfl rfl hj hi (by omega) (by omega) (Nat.le_of_ble_eq_true rfl) (Nat.le_of_ble_eq_true rfl) d_R_addCopy_27 (fun H locs hV hS => ?_)
  have hV : hv G.1 vwCl a0 (va_up M q (some (aI G k (va_cpy g f (i * w) (n * w) w)))) H := hV
  have hh : (va_up M q (some (aI G k (va_cpy g f (i * w) (n * w) w)))) h = some (.inr (0, [.ref q, .int (nI w), .int (nI n)])) := (va_up_ne _ _ (hm_oa hh hq)).trans hh
  have hh2 : (va_up M q (some (aI G k (va_cpy g f (i * w) (n * w) w)))) h2 = some (.inr (0, [.ref q2, .int w2, .int n2])) := (va_up_ne _ _ (hm_oa hh2 hq)).trans hh2
  have hq2 : (va_up M q (some (aI G k (va_cpy g f (i * w) (n * w) w)))) q2 = some (aI G k2 g) := (va_up_ne _ _ hnq).trans hq2
  have hq : (va_up M q (some (aI G k (va_cpy g f (i * w) (n * w) w)))) q = some (aI G k (va_cpy g f (i * w) (n * w) w)) := va_up_self _ _ _
  refine lv_aload_n hx hb d_R_addCopy_30 rfl (lv_at hl 0 rfl) ?_
  refine lv_dup hx hb d_R_addCopy_31 rfl ?_
  refine hp_get C0 hK cl_R hV hh 2 (by decide) kw_47 (fun _ h => h) rfl d_R_addCopy_32 ?_
  refine lv_iconst (v := nI 1) hx hb d_R_addCopy_35 (by decide) ?_
  refine lv_iadd hx hb d_R_addCopy_36 ?_
  refine lv_rei (y := nI (n + 1)) (nI_add _ _) ?_
  refine hp_put C0 hK cl_R hV hS hh 2 (by decide) kw_47 (fun _ h => h) rfl rfl rfl (Nat.le_of_ble_eq_true rfl) d_R_addCopy_37 (fun H locs hV hS => ?_)
  have hV : hv G.1 vwCl a0 (va_up (va_up M q (some (aI G k (va_cpy g f (i * w) (n * w) w)))) h (some (.inr (0, [.ref q, .int (nI w), .int (nI (n + 1))])))) H := hV
  have hq : (va_up (va_up M q (some (aI G k (va_cpy g f (i * w) (n * w) w)))) h (some (.inr (0, [.ref q, .int (nI w), .int (nI (n + 1))])))) q = some (aI G k (va_cpy g f (i * w) (n * w) w)) := (va_up_ne _ _ (hm_ao hq hh)).trans hq
  have hh2 : (va_up (va_up M q (some (aI G k (va_cpy g f (i * w) (n * w) w)))) h (some (.inr (0, [.ref q, .int (nI w), .int (nI (n + 1))])))) h2 = some (.inr (0, [.ref q2, .int w2, .int n2])) := (va_up_ne _ _ hne).trans hh2
  have hq2 : (va_up (va_up M q (some (aI G k (va_cpy g f (i * w) (n * w) w)))) h (some (.inr (0, [.ref q, .int (nI w), .int (nI (n + 1))])))) q2 = some (aI G k2 g) := (va_up_ne _ _ (hm_ao hq2 hh)).trans hq2
  have hh : (va_up (va_up M q (some (aI G k (va_cpy g f (i * w) (n * w) w)))) h (some (.inr (0, [.ref q, .int (nI w), .int (nI (n + 1))])))) h = some (.inr (0, [.ref q, .int (nI w), .int (nI (n + 1))])) := va_up_self _ _ _
  exact hx_vret C0 hr hlk hV hS d_R_addCopy_40 ⟨rfl, rfl⟩
/-- is x in the column c of the first n rows -/
def hasF (f : Nat → Int32) (w c : Nat) (x : Int32) : Nat → Bool
  | 0 => false
  | i + 1 => hasF f w c x i || decide (f (i * w + c) = x)
theorem hasF_mono {f : Nat → Int32} {w c : Nat} {x : Int32} {i : Nat} (h : hasF f w c x i = true) : ∀ k, hasF f w c x (i + k) = true
  | 0 => h
  | k + 1 => by
    show (hasF f w c x (i + k) || _) = true
    rw [hasF_mono h k]
    rfl
set_option maxHeartbeats 4000000 in
set_option maxRecDepth 100000 in
theorem c_R_has (l : Launch) {G : hGt} {a0 : Nat} {M : hMp} {h q w n k c : Nat} {f : Nat → Int32} {x : Int32} (hh : M h = some (.inr (0, [.ref q, .int (nI w), .int (nI n)]))) (hq : M q = some (aI G k f)) (hc : c < w) (hi : n * w ≤ k) (hk : k ≤ 65536) (hn : n ≤ 65536) : MX l y_R_has TB ({ frames := 1, cells := 0, slots := 0, locals := 40 }) (va_Pc [.ref h, .int (nI c), .int x] (hU (Ev G a0) G.1 vwCl a0 M)) (hR G.1 vwCl a0 M (fun r => r = some (.int (if hasF f w c x n = true then 1 else 0))) (fun _ => False)) 0 0 (fun _ => False) := by
  refine MX.ofW tb_good (by decide) kw_624 (Nat.le_of_ble_eq_true rfl) ?_
  intro p e s m below meth cd ls C0 hr hlk hnm hxt hV hS hl
  have hx := C0.1
  have hb := C0.2.1
  have hK : va_K G.1 vwCl (hT G) s := C0.2.2.2.2.2.1.1
  have hN := C0.2.2.2.2.2.1.2.1
  have hl : lv_has ls 4 [(0, .ref h), (1, .int (nI c)), (2, .int x)] := hl
  refine lv_iconst (v := nI 0) hx hb d_R_has_0 (by decide) ?_
  refine lv_istore_n (lv' := [(3, .int (nI 0)), (0, .ref h), (1, .int (nI c)), (2, .int x)]) hx hb d_R_has_1 rfl hl (by decide) rfl (fun ls hl => ?_)
  refine W.lp (nL := 4) (P := fun j => hasF f w c x j = false) (lv := fun j => [(3, .int (nI j)), (0, .ref h), (1, .int (nI c)), (2, .int x)]) n (fun j ls hj hP hl ih => ?_) 0 ls (Nat.zero_le _) rfl hl
  have hl : lv_has ls 4 [(3, .int (nI j)), (0, .ref h), (1, .int (nI c)), (2, .int x)] := hl
  refine lv_iload_n hx hb d_R_has_2 rfl (lv_at hl 0 rfl) ?_
  refine lv_aload_n hx hb d_R_has_3 rfl (lv_at hl 1 rfl) ?_
  refine hp_get C0 hK cl_R hV hh 2 (by decide) kw_47 (fun _ h => h) rfl d_R_has_4 ?_
  refine nb_ge C0 d_R_has_7 rfl (by omega) (by omega) (fun h1 => ?_) (fun h1 => ?_)
  · have hj0 : j = n := by omega
    subst hj0
    refine lv_iconst (v := 0) hx hb d_R_has_28 (by decide) ?_
    exact hr_zret C0 hr hlk d_R_has_29 rfl (by rw [hP]; rfl)
  · have hin := idx_le (N := k) h1 hc hi
    refine lv_aload_n hx hb d_R_has_10 rfl (lv_at hl 1 rfl) ?_
    refine lv_iload_n hx hb d_R_has_11 rfl (lv_at hl 0 rfl) ?_
    refine lv_iload_n hx hb d_R_has_12 rfl (lv_at hl 2 rfl) ?_
    refine cr_V (C := "BatchPlans$Rows") (host := "") (b := h) (As := [.int (nI j), .int (nI c)]) (rest := []) C0 (ev_keep G a0) (c_R_at l hh hq hin hk) (Cy.of C0.2.2.2.2.1 kw_605 kw_2 2 (by decide +kernel) ⟨(Nat.le_of_ble_eq_true rfl), (Nat.le_of_ble_eq_true rfl)⟩) (C0.ts _ kw_625) kw_603 (C0.ts _ kw_604) hV hS (hp_recv hK hV rfl hh) rfl hl.1 rfl (Nat.le_of_ble_eq_true rfl) d_R_has_13 ⟨(Nat.le_of_ble_eq_true rfl), (Nat.le_of_ble_eq_true rfl)⟩ (fun v hv9 => ?_) (fun x ci H1 h9 => absurd h9 id)
    subst hv9
    refine W.eq (g2 := F0 m 16 ls [.int (f (j * w + c))]) rfl ?_
    refine lv_iload_n hx hb d_R_has_16 rfl (lv_at hl 3 rfl) ?_
    refine lv_icmp_ne (tgt := 22) hx hb d_R_has_17 rfl (fun h2 => ?_) (fun h2 => ?_)
    · have hP1 : hasF f w c x (j + 1) = false := by unfold hasF; rw [hP, decide_eq_false h2]; rfl
      refine lv_iinc (k := 0) (v := nI (j + 1)) (lv' := [(3, .int (nI (j + 1))), (0, .ref h), (1, .int (nI c)), (2, .int x)]) hx hb d_R_has_22 hl rfl (nI_1 _) (by decide) rfl (fun ls hl => ?_)
      refine lv_goto (tgt := 2) hx hb d_R_has_25 rfl ?_
      exact ih ls h1 hP1 hl
    · have hP1 : hasF f w c x (j + 1) = true := by unfold hasF; rw [h2, decide_eq_true rfl, Bool.or_true]
      have hP2 : hasF f w c x n = true := by have := hasF_mono hP1 (n - (j + 1)); rw [show j + 1 + (n - (j + 1)) = n by omega] at this; exact this
      refine lv_iconst (v := 1) hx hb d_R_has_20 (by decide) ?_
      exact hr_zret C0 hr hlk d_R_has_21 rfl (by rw [hP2]; rfl)
