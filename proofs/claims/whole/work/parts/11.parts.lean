def y_R_init : MethodName := ⟨"BatchPlans$Rows", "<init>", "(II)V"⟩
theorem kw_42 : (Jvm.Cond.code ({ cls := "BatchPlans$Rows", name := "<init>", desc := "(II)V" } : Jvm.MethodName) prog_9_method_1_code (3 : Nat) (Option.none : Option Jvm.ClassFile.FieldType)) ∈ TB := tb_mem (tb_s1 _ (List.mem_of_getElem? (i := 42) (by decide +kernel))) (by decide +kernel)
theorem d_R_init_0 : decode prog_9_method_1_code 0 = .ok (.aload_n 0, 1) := by decide +kernel
theorem d_R_init_1 : decode prog_9_method_1_code 1 = .ok (.invokespecial 1, 3) := by decide +kernel
theorem d_R_init_4 : decode prog_9_method_1_code 4 = .ok (.aload_n 0, 1) := by decide +kernel
theorem d_R_init_5 : decode prog_9_method_1_code 5 = .ok (.iload_n 1, 1) := by decide +kernel
theorem d_R_init_6 : decode prog_9_method_1_code 6 = .ok (.iload_n 2, 1) := by decide +kernel
theorem d_R_init_7 : decode prog_9_method_1_code 7 = .ok (.imul, 1) := by decide +kernel
theorem d_R_init_8 : decode prog_9_method_1_code 8 = .ok (.newarray .int, 2) := by decide +kernel
theorem d_R_init_10 : decode prog_9_method_1_code 10 = .ok (.putfield 7, 3) := by decide +kernel
theorem d_R_init_13 : decode prog_9_method_1_code 13 = .ok (.return_, 1) := by decide +kernel
def y_Pa_init : MethodName := ⟨"BatchPlans$Parts", "<init>", "()V"⟩
theorem kw_112 : (Jvm.Cond.code ({ cls := "BatchPlans$Parts", name := "<init>", desc := "()V" } : Jvm.MethodName) prog_8_method_1_code (1 : Nat) (Option.none : Option Jvm.ClassFile.FieldType)) ∈ TB := tb_mem (tb_s1 _ (List.mem_of_getElem? (i := 112) (by decide +kernel))) (by decide +kernel)
theorem d_Pa_init_0 : decode prog_8_method_1_code 0 = .ok (.aload_n 0, 1) := by decide +kernel
theorem d_Pa_init_1 : decode prog_8_method_1_code 1 = .ok (.invokespecial 3, 3) := by decide +kernel
theorem d_Pa_init_4 : decode prog_8_method_1_code 4 = .ok (.aload_n 0, 1) := by decide +kernel
theorem d_Pa_init_5 : decode prog_8_method_1_code 5 = .ok (.bipush 65, 2) := by decide +kernel
theorem d_Pa_init_7 : decode prog_8_method_1_code 7 = .ok (.newarray .int, 2) := by decide +kernel
theorem d_Pa_init_9 : decode prog_8_method_1_code 9 = .ok (.putfield 9, 3) := by decide +kernel
theorem d_Pa_init_12 : decode prog_8_method_1_code 12 = .ok (.return_, 1) := by decide +kernel
def y_Pa_finestPart : MethodName := ⟨"BatchPlans$Parts", "finestPart", "(I)I"⟩
theorem kw_666 : (Jvm.Cond.code ({ cls := "BatchPlans$Parts", name := "finestPart", desc := "(I)I" } : Jvm.MethodName) prog_8_method_4_code (1 : Nat) (Option.some Jvm.ClassFile.FieldType.int)) ∈ TB := tb_mem (tb_s3 _ (List.mem_of_getElem? (i := 186) (by decide +kernel))) (by decide +kernel)
theorem d_Pa_finestPart_0 : decode prog_8_method_4_code 0 = .ok (.iload_n 0, 1) := by decide +kernel
theorem d_Pa_finestPart_1 : decode prog_8_method_4_code 1 = .ok (.ldc 33, 2) := by decide +kernel
theorem d_Pa_finestPart_3 : decode prog_8_method_4_code 3 = .ok (.imul, 1) := by decide +kernel
theorem d_Pa_finestPart_4 : decode prog_8_method_4_code 4 = .ok (.bipush 26, 2) := by decide +kernel
theorem d_Pa_finestPart_6 : decode prog_8_method_4_code 6 = .ok (.iushr, 1) := by decide +kernel
theorem d_Pa_finestPart_7 : decode prog_8_method_4_code 7 = .ok (.ireturn, 1) := by decide +kernel
def y_JArrays_fill : MethodName := ⟨"java/util/Arrays", "fill", "([II)V"⟩
theorem kw_662 : (Jvm.Cond.code ({ cls := "java/util/Arrays", name := "fill", desc := "([II)V" } : Jvm.MethodName) prog_30_method_103_code (4 : Nat) (Option.none : Option Jvm.ClassFile.FieldType)) ∈ TB := tb_mem (tb_s3 _ (List.mem_of_getElem? (i := 182) (by decide +kernel))) (by decide +kernel)
theorem d_JArrays_fill_0 : decode prog_30_method_103_code 0 = .ok (.iconst 0, 1) := by decide +kernel
theorem d_JArrays_fill_1 : decode prog_30_method_103_code 1 = .ok (.istore_n 2, 1) := by decide +kernel
theorem d_JArrays_fill_2 : decode prog_30_method_103_code 2 = .ok (.aload_n 0, 1) := by decide +kernel
theorem d_JArrays_fill_3 : decode prog_30_method_103_code 3 = .ok (.arraylength, 1) := by decide +kernel
theorem d_JArrays_fill_4 : decode prog_30_method_103_code 4 = .ok (.istore_n 3, 1) := by decide +kernel
theorem d_JArrays_fill_5 : decode prog_30_method_103_code 5 = .ok (.iload_n 2, 1) := by decide +kernel
theorem d_JArrays_fill_6 : decode prog_30_method_103_code 6 = .ok (.iload_n 3, 1) := by decide +kernel
theorem d_JArrays_fill_7 : decode prog_30_method_103_code 7 = .ok (.if_icmp .ge 13, 3) := by decide +kernel
theorem d_JArrays_fill_10 : decode prog_30_method_103_code 10 = .ok (.aload_n 0, 1) := by decide +kernel
theorem d_JArrays_fill_11 : decode prog_30_method_103_code 11 = .ok (.iload_n 2, 1) := by decide +kernel
theorem d_JArrays_fill_12 : decode prog_30_method_103_code 12 = .ok (.iload_n 1, 1) := by decide +kernel
theorem d_JArrays_fill_13 : decode prog_30_method_103_code 13 = .ok (.iastore, 1) := by decide +kernel
theorem d_JArrays_fill_14 : decode prog_30_method_103_code 14 = .ok (.iinc 2 1, 3) := by decide +kernel
theorem d_JArrays_fill_17 : decode prog_30_method_103_code 17 = .ok (.goto (-12), 3) := by decide +kernel
theorem d_JArrays_fill_20 : decode prog_30_method_103_code 20 = .ok (.return_, 1) := by decide +kernel
theorem kw_43 : (Jvm.Cond.methodLink "BatchPlans$Rows" (1 : Nat) ({ cls := "java/lang/Object", name := "<init>", desc := "()V" } : Jvm.MethodName)) ∈ TB := tb_mem (tb_s1 _ (List.mem_of_getElem? (i := 43) (by decide +kernel))) (by decide +kernel)
theorem kw_35 : (Jvm.Cond.instanceMethod ({ cls := "java/lang/Object", name := "<init>", desc := "()V" } : Jvm.MethodName)) ∈ TB := tb_mem (tb_s1 _ (List.mem_of_getElem? (i := 35) (by decide +kernel))) (by decide +kernel)
theorem kw_36 : (Jvm.Cond.code ({ cls := "java/lang/Object", name := "<init>", desc := "()V" } : Jvm.MethodName) object_method_1_code (1 : Nat) (Option.none : Option Jvm.ClassFile.FieldType)) ∈ TB := tb_mem (tb_s1 _ (List.mem_of_getElem? (i := 36) (by decide +kernel))) (by decide +kernel)
theorem kw_62 : (Jvm.Cond.arrayClass Jvm.ClassFile.FieldType.int) ∈ TB := tb_mem (tb_s1 _ (List.mem_of_getElem? (i := 62) (by decide +kernel))) (by decide +kernel)
theorem kw_113 : (Jvm.Cond.methodLink "BatchPlans$Parts" (3 : Nat) ({ cls := "java/lang/Object", name := "<init>", desc := "()V" } : Jvm.MethodName)) ∈ TB := tb_mem (tb_s1 _ (List.mem_of_getElem? (i := 113) (by decide +kernel))) (by decide +kernel)
theorem kw_114 : (Jvm.Cond.fieldLink "BatchPlans$Parts" (9 : Nat) "BatchPlans$Parts" "before" "[I") ∈ TB := tb_mem (tb_s1 _ (List.mem_of_getElem? (i := 114) (by decide +kernel))) (by decide +kernel)
theorem kw_667 : (Jvm.Cond.constant "BatchPlans$Parts" (33 : Nat) (-1640531535 : Int32)) ∈ TB := tb_mem (tb_s3 _ (List.mem_of_getElem? (i := 187) (by decide +kernel))) (by decide +kernel)
theorem hm_up {M : hMp} {a : Nat} {x : va_E} (h : M a = some x) : va_up M a (some x) = M := by
  funext z
  by_cases hz : z = a
  · rw [hz, va_up_self, h]
  · exact va_up_ne _ _ hz
theorem upd_all {f : Nat → Int32} {j : Nat} {x : Int32} (h : ∀ i, i < j → f i = x) : ∀ i, i < j + 1 → upd f j x i = x := by
  intro i hi
  by_cases hz : i = j
  · rw [hz]; exact pk_us
  · rw [pk_un hz]; exact h i (by omega)
set_option maxHeartbeats 4000000 in
set_option maxRecDepth 100000 in
theorem c_R_init (l : Launch) {G : hGt} {a0 : Nat} {M : hMp} {h a b : Nat} (hh : M h = some (.inr (0, [.null, .int 0, .int 0]))) (hk : a * b ≤ 65536) : MX l y_R_init TB ({ frames := 1, cells := 1, slots := a * b, locals := 12 }) (va_Pc [.ref h, .int (nI a), .int (nI b)] (hU (Ev G a0) G.1 vwCl a0 M)) (hQ G.1 vwCl a0 (fun oc M' => oc = .returned none ∧ ∃ y, M y = none ∧ y ≠ h ∧ M' = va_up (va_up M y (some (aI G (a * b) (fun _ => 0)))) h (some (.inr (0, [.ref y, .int 0, .int 0]))))) 1 (a * b) (hA a0) := by
  refine MX.ofW tb_good (by decide) kw_42 (Nat.le_of_ble_eq_true rfl) ?_
  intro p e s m below meth cd ls C0 hr hlk hnm hxt hV hS hl
  have hx := C0.1
  have hb := C0.2.1
  have hK : va_K G.1 vwCl (hT G) s := C0.2.2.2.2.2.1.1
  have hN := C0.2.2.2.2.2.1.2.1
  have hl : lv_has ls 3 [(0, .ref h), (1, .int (nI a)), (2, .int (nI b))] := hl
  refine lv_aload_n hx hb d_R_init_0 rfl (lv_at hl 0 rfl) ?_
  refine W.objInit hx hb C0.2.2.2.1 (C0.ts _ kw_43) (C0.ts _ kw_35) (C0.ts _ kw_36) rfl (by rw [C0.2.2.1]; exact hl.1) rfl d_R_init_1 (Nat.le_of_ble_eq_true rfl) (Nat.le_of_ble_eq_true rfl) ?_
  refine W.eq (g2 := F0 m 4 ls []) rfl ?_
  refine lv_aload_n hx hb d_R_init_4 rfl (lv_at hl 0 rfl) ?_
  refine lv_iload_n hx hb d_R_init_5 rfl (lv_at hl 1 rfl) ?_
  refine lv_iload_n hx hb d_R_init_6 rfl (lv_at hl 2 rfl) ?_
  refine lv_imul hx hb d_R_init_7 ?_
  refine lv_rei (y := nI (a * b)) (pk_mul _ _) ?_
  refine hp_newa (atype := .int) C0 hK 0 rfl (fun z h9 => by cases h9) rfl kw_62 hV hS (a1 := ((a * b), .inl (fun _ => 0))) (a * b) (fun _ => rfl) rfl hk (by decide) (Nat.le_of_ble_eq_true rfl) (Nat.le_of_eq (Nat.zero_add _)) d_R_init_8 (fun y H hFy hV hS => ?_)
  have hV : hv G.1 vwCl a0 (va_up M y (some (aI G (a * b) (fun _ => 0)))) H := hV
  have hh : (va_up M y (some (aI G (a * b) (fun _ => 0)))) h = some (.inr (0, [.null, .int 0, .int 0])) := (va_up_ne _ _ (fun z => by rw [z, hFy] at hh; cases hh)).trans hh
  have hny : (va_up M y (some (aI G (a * b) (fun _ => 0)))) y = some (aI G (a * b) (fun _ => 0)) := va_up_self _ _ _
  refine hp_putF C0 hK cl_R hV hS hh 0 (by decide) kw_44 (fun _ h => h) rfl hnm rfl rfl rfl (Nat.le_of_ble_eq_true rfl) d_R_init_10 (fun H locs hV hS => ?_)
  have hV : hv G.1 vwCl a0 (va_up (va_up M y (some (aI G (a * b) (fun _ => 0)))) h (some (.inr (0, [.ref y, .int 0, .int 0])))) H := hV
  have hny : (va_up (va_up M y (some (aI G (a * b) (fun _ => 0)))) h (some (.inr (0, [.ref y, .int 0, .int 0])))) y = some (aI G (a * b) (fun _ => 0)) := (va_up_ne _ _ (hm_ao hny hh)).trans hny
  have hh : (va_up (va_up M y (some (aI G (a * b) (fun _ => 0)))) h (some (.inr (0, [.ref y, .int 0, .int 0])))) h = some (.inr (0, [.ref y, .int 0, .int 0])) := va_up_self _ _ _
  refine W.widen (k := 1) (n := a * b) (Nat.le_refl _) (Nat.le_of_eq (Nat.zero_add _)) ?_
  have hy9 : y ≠ h := hm_ao hny hh
  exact hx_vret C0 hr hlk hV hS d_R_init_13 ⟨rfl, y, hFy, hy9, rfl⟩
set_option maxHeartbeats 4000000 in
set_option maxRecDepth 100000 in
theorem c_Pa_init (l : Launch) {G : hGt} {a0 : Nat} {M : hMp} {h : Nat} (hh : M h = some (.inr (1, [.null]))) : MX l y_Pa_init TB ({ frames := 1, cells := 1, slots := 65, locals := 12 }) (va_Pc [.ref h] (hU (Ev G a0) G.1 vwCl a0 M)) (hQ G.1 vwCl a0 (fun oc M' => oc = .returned none ∧ ∃ y, M y = none ∧ y ≠ h ∧ M' = va_up (va_up M y (some (aI G 65 (fun _ => 0)))) h (some (.inr (1, [.ref y]))))) 1 65 (hA a0) := by
  refine MX.ofW tb_good (by decide) kw_112 (Nat.le_of_ble_eq_true rfl) ?_
  intro p e s m below meth cd ls C0 hr hlk hnm hxt hV hS hl
  have hx := C0.1
  have hb := C0.2.1
  have hK : va_K G.1 vwCl (hT G) s := C0.2.2.2.2.2.1.1
  have hN := C0.2.2.2.2.2.1.2.1
  have hl : lv_has ls 1 [(0, .ref h)] := hl
  refine lv_aload_n hx hb d_Pa_init_0 rfl (lv_at hl 0 rfl) ?_
  refine W.objInit hx hb C0.2.2.2.1 (C0.ts _ kw_113) (C0.ts _ kw_35) (C0.ts _ kw_36) rfl (by rw [C0.2.2.1]; exact hl.1) rfl d_Pa_init_1 (Nat.le_of_ble_eq_true rfl) (Nat.le_of_ble_eq_true rfl) ?_
  refine W.eq (g2 := F0 m 4 ls []) rfl ?_
  refine lv_aload_n hx hb d_Pa_init_4 rfl (lv_at hl 0 rfl) ?_
  refine lv_bipush (v := nI 65) hx hb d_Pa_init_5 (by decide) ?_
  refine hp_newa (atype := .int) C0 hK 0 rfl (fun z h9 => by cases h9) rfl kw_62 hV hS (a1 := (65, .inl (fun _ => 0))) 65 (fun _ => rfl) rfl (by omega) (by decide) (Nat.le_of_ble_eq_true rfl) (Nat.le_of_ble_eq_true rfl) d_Pa_init_7 (fun y H hFy hV hS => ?_)
  have hV : hv G.1 vwCl a0 (va_up M y (some (aI G 65 (fun _ => 0)))) H := hV
  have hh : (va_up M y (some (aI G 65 (fun _ => 0)))) h = some (.inr (1, [.null])) := (va_up_ne _ _ (fun z => by rw [z, hFy] at hh; cases hh)).trans hh
  have hny : (va_up M y (some (aI G 65 (fun _ => 0)))) y = some (aI G 65 (fun _ => 0)) := va_up_self _ _ _
  refine hp_putF C0 hK cl_Pa hV hS hh 0 (by decide) kw_114 (fun _ h => h) rfl hnm rfl rfl rfl (Nat.le_of_ble_eq_true rfl) d_Pa_init_9 (fun H locs hV hS => ?_)
  have hV : hv G.1 vwCl a0 (va_up (va_up M y (some (aI G 65 (fun _ => 0)))) h (some (.inr (1, [.ref y])))) H := hV
  have hny : (va_up (va_up M y (some (aI G 65 (fun _ => 0)))) h (some (.inr (1, [.ref y])))) y = some (aI G 65 (fun _ => 0)) := (va_up_ne _ _ (hm_ao hny hh)).trans hny
  have hh : (va_up (va_up M y (some (aI G 65 (fun _ => 0)))) h (some (.inr (1, [.ref y])))) h = some (.inr (1, [.ref y])) := va_up_self _ _ _
  have hy9 : y ≠ h := hm_ao hny hh
  exact hx_vret C0 hr hlk hV hS d_Pa_init_12 ⟨rfl, y, hFy, hy9, rfl⟩
theorem nI_bv {x : Int32} {n : Nat} (h : x.toBitVec.toNat = n) : x = nI n := by
  have hn : n < 2 ^ 32 := by rw [← h]; exact x.toBitVec.isLt
  have e : x.toBitVec = (nI n).toBitVec := BitVec.eq_of_toNat_eq (by rw [h, pk_tn hn])
  exact Int32.toBitVec_inj.mp e
/-- the finest part of a key: six bits -/
def fpN (x : Int32) : Nat := (x * (-1640531535)).toBitVec.toNat / 2 ^ 26
theorem fpN_lt (x : Int32) : fpN x < 64 := by
  have h := (x * (-1640531535)).toBitVec.isLt
  unfold fpN
  omega
theorem fpN_ushr (x : Int32) : ((x * (-1640531535)).toUInt32 >>> ((nI 26).toUInt32 &&& Int32.toUInt32 31)).toInt32 = nI (fpN x) := nI_bv (pk_ushr _ _ 26 (by decide))
set_option maxHeartbeats 4000000 in
set_option maxRecDepth 100000 in
theorem c_Pa_finestPart (l : Launch) {G : hGt} {a0 : Nat} {M : hMp} {x : Int32}  : MX l y_Pa_finestPart TB ({ frames := 0, cells := 0, slots := 0, locals := 0 }) (va_Pc [.int x] (hU (Ev G a0) G.1 vwCl a0 M)) (hR G.1 vwCl a0 M (fun r => r = some (.int (nI (fpN x)))) (fun _ => False)) 0 0 (fun _ => False) := by
  refine MX.ofW tb_good (by decide) kw_666 (Nat.le_of_ble_eq_true rfl) ?_
  intro p e s m below meth cd ls C0 hr hlk hnm hxt hV hS hl
  have hx := C0.1
  have hb := C0.2.1
  have hK : va_K G.1 vwCl (hT G) s := C0.2.2.2.2.2.1.1
  have hN := C0.2.2.2.2.2.1.2.1
  have hl : lv_has ls 1 [(0, .int x)] := hl
  refine lv_iload_n hx hb d_Pa_finestPart_0 rfl (lv_at hl 0 rfl) ?_
  refine lv_ldc (v := (-1640531535)) hx hb C0.2.2.2.1 (C0.ts _ kw_667) d_Pa_finestPart_1 ?_
  refine lv_imul hx hb d_Pa_finestPart_3 ?_
  refine lv_bipush (v := nI 26) hx hb d_Pa_finestPart_4 (by decide) ?_
  refine lv_iushr (v := nI (fpN x)) hx hb d_Pa_finestPart_6 (fpN_ushr x) ?_
  exact hr_iret C0 hr hlk d_Pa_finestPart_7 rfl
set_option maxHeartbeats 4000000 in
set_option maxRecDepth 100000 in
theorem c_J_fill (l : Launch) {G : hGt} {a0 : Nat} {M : hMp} {q k : Nat} {f : Nat → Int32} {x : Int32} (hq : M q = some (aI G k f)) (hk : k ≤ 65536) : MX l y_JArrays_fill TB ({ frames := 0, cells := 0, slots := 0, locals := 0 }) (va_Pc [.ref q, .int x] (hU (Ev G a0) G.1 vwCl a0 M)) (hQ G.1 vwCl a0 (fun oc M' => oc = .returned none ∧ ∃ f', (∀ i, i < k → f' i = x) ∧ M' = va_up M q (some (aI G k f')))) 0 0 (hA a0) := by
  refine MX.ofW tb_good (by decide) kw_662 (Nat.le_of_ble_eq_true rfl) ?_
  intro p e s m below meth cd ls C0 hr hlk hnm hxt hV hS hl
  have hx := C0.1
  have hb := C0.2.1
  have hK : va_K G.1 vwCl (hT G) s := C0.2.2.2.2.2.1.1
  have hN := C0.2.2.2.2.2.1.2.1
  have hl : lv_has ls 4 [(0, .ref q), (1, .int x)] := hl
  refine lv_iconst (v := nI 0) hx hb d_JArrays_fill_0 (by decide) ?_
  refine lv_istore_n (lv' := [(2, .int (nI 0)), (0, .ref q), (1, .int x)]) hx hb d_JArrays_fill_1 rfl hl (by decide) rfl (fun ls hl => ?_)
  refine lv_aload_n hx hb d_JArrays_fill_2 rfl (lv_at hl 1 rfl) ?_
  refine hp_alen C0 hK 0 rfl hV hq d_JArrays_fill_3 ?_
  refine lv_istore_n (lv' := [(3, .int (nI k)), (2, .int (nI 0)), (0, .ref q), (1, .int x)]) hx hb d_JArrays_fill_4 rfl hl (by decide) rfl (fun ls hl => ?_)
  have hV : hv G.1 vwCl a0 (va_up M q (some (aI G k f))) s.heap := by rw [hm_up hq]; exact hV
  refine W.lpM (D := G.1) (cl := vwCl) (a0 := a0) (nL := 4) (P := fun j M1 => ∃ f1, (∀ i, i < j → f1 i = x) ∧ M1 = va_up M q (some (aI G k f1))) (lv := fun j => [(2, .int (nI j)), (3, .int (nI k)), (0, .ref q), (1, .int x)]) k (fun j M1 H locs ls hj hP hV hS hl ih => ?_) 0 _ _ _ ls (Nat.zero_le _) ⟨f, fun i hi => absurd hi (Nat.not_lt_zero i), rfl⟩ hV hS (lv_sub hl [1, 0, 2, 3] rfl)
  obtain ⟨f1, hf1, rfl⟩ := hP
  have hl : lv_has ls 4 [(2, .int (nI j)), (3, .int (nI k)), (0, .ref q), (1, .int x)] := hl
  have hq : (va_up M q (some (aI G k f1))) q = some (aI G k f1) := va_up_self _ _ _
  refine lv_iload_n hx hb d_JArrays_fill_5 rfl (lv_at hl 0 rfl) ?_
  refine lv_iload_n hx hb d_JArrays_fill_6 rfl (lv_at hl 1 rfl) ?_
  refine nb_ge C0 d_JArrays_fill_7 rfl (by omega) (by omega) (fun h1 => ?_) (fun h1 => ?_)
  · have hj0 : j = k := by omega
    exact hx_vret C0 hr hlk hV hS d_JArrays_fill_20 ⟨rfl, f1, fun i hi => hf1 i (by omega), rfl⟩
  · have hjj := h1
    refine lv_aload_n hx hb d_JArrays_fill_10 rfl (lv_at hl 2 rfl) ?_
    refine lv_iload_n hx hb d_JArrays_fill_11 rfl (lv_at hl 0 rfl) ?_
    refine lv_iload_n hx hb d_JArrays_fill_12 rfl (lv_at hl 3 rfl) ?_
    refine hp_iast C0 hK 0 rfl hV hS hq j rfl (by omega) (by omega) d_JArrays_fill_13 (fun H locs hV hS => ?_)
    have hV : hv G.1 vwCl a0 (va_up (va_up M q (some (aI G k f1))) q (some (aI G k (upd f1 j x)))) H := hV
    have hq : (va_up (va_up M q (some (aI G k f1))) q (some (aI G k (upd f1 j x)))) q = some (aI G k (upd f1 j x)) := va_up_self _ _ _
    refine lv_iinc (k := 0) (v := nI (j + 1)) (lv' := [(2, .int (nI (j + 1))), (3, .int (nI k)), (0, .ref q), (1, .int x)]) hx hb d_JArrays_fill_14 hl rfl (nI_1 _) (by decide) rfl (fun ls hl => ?_)
    refine lv_goto (tgt := 5) hx hb d_JArrays_fill_17 rfl ?_
    rw [bx_uu] at hV
    exact ih _ _ _ ls h1 ⟨upd f1 j x, upd_all hf1, rfl⟩ hV hS hl
