/-! The heap's instructions over one map of cells -/
def Cl (TB : List Cond) (cl : List vw_C) (ci : Nat) (C : String) (T : u_T) (N : Nat) (ty : Nat → FieldType) : Prop :=
  cl[ci]? = some (C, T, N) ∧ (∀ w ∈ u_ws C T N, w ∈ TB) ∧ (∀ k, k < N → parseFieldDescriptor (T k).2.2.1 = some (ty k)) ∧ (∀ a, a < N → ∀ b, b < N → a ≠ b → (T a).2.1 ≠ (T b).2.1)
theorem nz_e {a : Nat} (ha2 : a < 2 ^ 31) (z : nI a = 0) : a = 0 := (nI_eq ha2 (by decide)).mp (z.trans nI_0.symm)
theorem nz_n {a : Nat} (z : ¬ nI a = 0) : a ≠ 0 := fun q => z (by rw [q]; exact nI_0)
theorem nz_le {a : Nat} (ha2 : a < 2 ^ 31) (z : nI a ≤ 0) : a = 0 := Nat.le_zero.mp ((nI_leI ha2 (by decide)).mp (by rw [nI_0]; exact z))
theorem nz_gt {a : Nat} (ha2 : a < 2 ^ 31) (z : ¬ nI a ≤ 0) : 0 < a := Nat.pos_of_ne_zero (fun q => z (by rw [q, nI_0]; exact Int32.le_refl 0))
theorem nz_gt2 {a : Nat} (ha2 : a < 2 ^ 31) (z : 0 < nI a) : 0 < a := (nI_ltI (a := 0) (by decide) ha2).mp (by rw [nI_0]; exact z)
theorem nz_le2 {a : Nat} (ha2 : a < 2 ^ 31) (z : ¬ 0 < nI a) : a = 0 := Nat.le_zero.mp (Nat.not_lt.mp (fun q => z (by have := (nI_ltI (a := 0) (by decide) ha2).mpr q; rw [nI_0] at this; exact this)))
section HP
variable {p : Program} {l : Launch} {e : Env} {R : Room} {s : State} {m : MethodId} {args : Array Value} {below : List Frame} {meth : Method} {c : Code} {H : Heap} {locs : List Loc} {cells slots : Nat} {Q : State → Prop}
variable {TB : List Cond} {Ev : State → Prop} {a0 : Nat} {cc : ByteArray} {nL : Nat} {own : String} {D : va_G} {cl : List vw_C} {tys : List (ClassId × FieldType)} {M : hMp} {pc : Nat} {ls : Array Slot} {rest : List Value} {a : Nat}
theorem Cx.ts (C0 : Cx TB Ev a0 p s m c cc nL own) : ∀ w ∈ TB, w.before args s = true := fun w hw => C0.2.2.2.2.1 w hw args s (State.WarmedH.refl s)
theorem hp_get (C0 : Cx TB Ev a0 p s m c cc nL own) (hK : va_K D cl tys s) {C ref : String} {T : u_T} {N ci index : Nat} {ty0 : Nat → FieldType} (K : Cl TB cl ci C T N ty0) (hV : hv D cl a0 M H) {fs : List Value} (ha : M a = some (.inr (ci, fs))) (k : Nat) (hk : k < N) (hlink : Cond.fieldLink own index ref (T k).2.1 (T k).2.2.1 ∈ TB)
    (hsame : ∀ x, s.fieldFound? (T k).1 (T k).2.1 (T k).2.2.1 = some x → s.fieldFound? ref (T k).2.1 (T k).2.2.1 = some x) {v : Value} (hvv : fs[k]? = some v) (hdg : decode cc pc = .ok (.getfield index, 3))
    (kk : W p l e R s m args below meth c H locs cells slots Q (F0 m (pc + 3) ls (v :: rest))) : W p l e R s m args below meth c H locs cells slots Q (F0 m pc ls (.ref a :: rest)) := by
  obtain ⟨ws, q0, hP, -, hq, -⟩ := hv_at hV ha
  exact va_get C0.1 C0.2.1 C0.ts K.2.1 C0.2.2.2.1 hK hP q0 hq K.1 k hk (C0.ts _ hlink) hsame hvv hdg kk
theorem hp_getN (C0 : Cx TB Ev a0 p s m c cc nL own) (hK : va_K D cl tys s) {C ref host : String} {T : u_T} {N ci index : Nat} {ty0 : Nat → FieldType} (K : Cl TB cl ci C T N ty0) (hV : hv D cl a0 M H) {fs : List Value} (ha : M a = some (.inr (ci, fs))) (k : Nat) (hk : k < N) (hlink : va_Nw (.fieldLinkNest own index ref (T k).2.1 (T k).2.2.1 host) s)
    (hsame : ∀ x, s.fieldFound? (T k).1 (T k).2.1 (T k).2.2.1 = some x → s.fieldFound? ref (T k).2.1 (T k).2.2.1 = some x) {v : Value} (hvv : fs[k]? = some v) (hdg : decode cc pc = .ok (.getfield index, 3))
    (kk : W p l e R s m args below meth c H locs cells slots Q (F0 m (pc + 3) ls (v :: rest))) : W p l e R s m args below meth c H locs cells slots Q (F0 m pc ls (.ref a :: rest)) := by
  obtain ⟨ws, q0, hP, -, hq, -⟩ := hv_at hV ha
  exact va_getN C0.1 C0.2.1 C0.ts K.2.1 C0.2.2.2.1 hK hP q0 hq K.1 k hk (va_Nw.use rfl hlink) hsame hvv hdg kk
theorem hp_put (C0 : Cx TB Ev a0 p s m c cc nL own) (hK : va_K D cl tys s) {C ref : String} {T : u_T} {N ci index : Nat} {ty0 : Nat → FieldType} (K : Cl TB cl ci C T N ty0) (hV : hv D cl a0 M H) (hS : va_S (hA a0) s.heap H locs) {fs : List Value} (ha : M a = some (.inr (ci, fs))) (k : Nat) (hk : k < N) (hlink : Cond.fieldLink own index ref (T k).2.1 (T k).2.2.1 ∈ TB)
    (hsame : ∀ x, s.fieldFound? (T k).1 (T k).2.1 (T k).2.2.1 = some x → s.fieldFound? ref (T k).2.1 (T k).2.2.1 = some x) (hfin : (T k).2.2.2 = false) {v : Value} (hn : narrow (ty0 k) v = v) (hfit : fits (ty0 k) v = true) (hl : k < fs.length) (hdg : decode cc pc = .ok (.putfield index, 3))
    (kk : ∀ (H1 : Heap) (locs1 : List Loc), hv D cl a0 (va_up M a (some (.inr (ci, fs.set k v)))) H1 → va_S (hA a0) s.heap H1 locs1 → W p l e R s m args below meth c H1 locs1 cells slots Q (F0 m (pc + 3) ls rest)) : W p l e R s m args below meth c H locs cells slots Q (F0 m pc ls (v :: .ref a :: rest)) := by
  obtain ⟨ws, q0, hP, hD, hq, -, hset⟩ := hv_at hV ha
  exact va_put C0.1 C0.2.1 C0.ts K.2.1 ty0 K.2.2.1 K.2.2.2 C0.2.2.2.1 hK hP hD hS q0 hq K.1 k hk (C0.ts _ hlink) hsame hfin (K.2.2.1 k hk) hn hfit hl hdg (fun H1 l1 hP1 hD1 hS1 => kk H1 l1 (hset _ _ hP1 hD1) hS1)
theorem hp_putN (C0 : Cx TB Ev a0 p s m c cc nL own) (hK : va_K D cl tys s) {C ref host : String} {T : u_T} {N ci index : Nat} {ty0 : Nat → FieldType} (K : Cl TB cl ci C T N ty0) (hV : hv D cl a0 M H) (hS : va_S (hA a0) s.heap H locs) {fs : List Value} (ha : M a = some (.inr (ci, fs))) (k : Nat) (hk : k < N) (hlink : va_Nw (.fieldLinkNest own index ref (T k).2.1 (T k).2.2.1 host) s)
    (hsame : ∀ x, s.fieldFound? (T k).1 (T k).2.1 (T k).2.2.1 = some x → s.fieldFound? ref (T k).2.1 (T k).2.2.1 = some x) (hfin : (T k).2.2.2 = false) {v : Value} (hn : narrow (ty0 k) v = v) (hfit : fits (ty0 k) v = true) (hl : k < fs.length) (hdg : decode cc pc = .ok (.putfield index, 3))
    (kk : ∀ (H1 : Heap) (locs1 : List Loc), hv D cl a0 (va_up M a (some (.inr (ci, fs.set k v)))) H1 → va_S (hA a0) s.heap H1 locs1 → W p l e R s m args below meth c H1 locs1 cells slots Q (F0 m (pc + 3) ls rest)) : W p l e R s m args below meth c H locs cells slots Q (F0 m pc ls (v :: .ref a :: rest)) := by
  obtain ⟨ws, q0, hP, hD, hq, -, hset⟩ := hv_at hV ha
  exact va_putN C0.1 C0.2.1 C0.ts K.2.1 ty0 K.2.2.1 K.2.2.2 C0.2.2.2.1 hK hP hD hS q0 hq K.1 k hk (va_Nw.use rfl hlink) hsame hfin (K.2.2.1 k hk) hn hfit hl hdg (fun H1 l1 hP1 hD1 hS1 => kk H1 l1 (hset _ _ hP1 hD1) hS1)
theorem hp_putF (C0 : Cx TB Ev a0 p s m c cc nL own) (hK : va_K D cl tys s) {C ref : String} {T : u_T} {N ci index : Nat} {ty0 : Nat → FieldType} (K : Cl TB cl ci C T N ty0) (hV : hv D cl a0 M H) (hS : va_S (hA a0) s.heap H locs) {fs : List Value} (ha : M a = some (.inr (ci, fs))) (k : Nat) (hk : k < N) (hlink : Cond.fieldLink own index ref (T k).2.1 (T k).2.2.1 ∈ TB)
    (hsame : ∀ x, s.fieldFound? (T k).1 (T k).2.1 (T k).2.2.1 = some x → s.fieldFound? ref (T k).2.1 (T k).2.2.1 = some x) (hfin : (T k).2.2.2 = true) (hin2 : meth.name = "<init>") (hdecl : (T k).1 = own) {v : Value} (hn : narrow (ty0 k) v = v) (hfit : fits (ty0 k) v = true) (hl : k < fs.length) (hdg : decode cc pc = .ok (.putfield index, 3))
    (kk : ∀ (H1 : Heap) (locs1 : List Loc), hv D cl a0 (va_up M a (some (.inr (ci, fs.set k v)))) H1 → va_S (hA a0) s.heap H1 locs1 → W p l e R s m args below meth c H1 locs1 cells slots Q (F0 m (pc + 3) ls rest)) : W p l e R s m args below meth c H locs cells slots Q (F0 m pc ls (v :: .ref a :: rest)) := by
  obtain ⟨ws, q0, hP, hD, hq, -, hset⟩ := hv_at hV ha
  exact va_putF C0.1 C0.2.1 C0.ts K.2.1 ty0 K.2.2.1 K.2.2.2 C0.2.2.2.1 hK hP hD hS q0 hq K.1 k hk (C0.ts _ hlink) hsame hfin hin2 hdecl (K.2.2.1 k hk) hn hfit hl hdg (fun H1 l1 hP1 hD1 hS1 => kk H1 l1 (hset _ _ hP1 hD1) hS1)
theorem hp_iald (C0 : Cx TB Ev a0 p s m c cc nL own) (hK : va_K D cl tys s) (t0 : Nat) {cA : ClassId} (ht : tys[t0]? = some (cA, .int)) (hV : hv D cl a0 M H) {n : Nat} {f : Nat → Int32} (ha : M a = some (.inl (cA, n, .inl f))) {i : Int32} (j : Nat) (hij : i = nI j) (hj : j < n) (hn : n < 2 ^ 31) (hdg : decode cc pc = .ok (.iaload, 1))
    (kk : W p l e R s m args below meth c H locs cells slots Q (F0 m (pc + 1) ls (.int (f j) :: rest))) : W p l e R s m args below meth c H locs cells slots Q (F0 m pc ls (.int i :: .ref a :: rest)) := by
  obtain ⟨ws, q0, hP, -, hq, -⟩ := hv_at hV ha
  subst hij
  refine va_iald C0.1 C0.2.1 hK hP q0 t0 hq ht (vp_in_nI hj hn) hdg ?_
  rw [nI_clamp (by omega)]
  exact kk
theorem hp_zald (C0 : Cx TB Ev a0 p s m c cc nL own) (hK : va_K D cl tys s) (t0 : Nat) {cA : ClassId} (ht : tys[t0]? = some (cA, .boolean)) (hV : hv D cl a0 M H) {n : Nat} {f : Nat → Int32} (ha : M a = some (.inl (cA, n, .inl f))) {i : Int32} (j : Nat) (hij : i = nI j) (hj : j < n) (hn : n < 2 ^ 31) (hdg : decode cc pc = .ok (.baload, 1))
    (kk : W p l e R s m args below meth c H locs cells slots Q (F0 m (pc + 1) ls (.int (f j) :: rest))) : W p l e R s m args below meth c H locs cells slots Q (F0 m pc ls (.int i :: .ref a :: rest)) := by
  obtain ⟨ws, q0, hP, -, hq, -⟩ := hv_at hV ha
  subst hij
  refine va_zald C0.1 C0.2.1 hK hP q0 t0 hq ht (vp_in_nI hj hn) hdg ?_
  rw [nI_clamp (by omega)]
  exact kk
theorem hp_iast (C0 : Cx TB Ev a0 p s m c cc nL own) (hK : va_K D cl tys s) (t0 : Nat) {cA : ClassId} (ht : tys[t0]? = some (cA, .int)) (hV : hv D cl a0 M H) (hS : va_S (hA a0) s.heap H locs) {n : Nat} {f : Nat → Int32} (ha : M a = some (.inl (cA, n, .inl f))) {i x : Int32} (j : Nat) (hij : i = nI j) (hj : j < n) (hn : n < 2 ^ 31) (hdg : decode cc pc = .ok (.iastore, 1))
    (kk : ∀ (H1 : Heap) (locs1 : List Loc), hv D cl a0 (va_up M a (some (.inl (cA, n, .inl (upd f j x))))) H1 → va_S (hA a0) s.heap H1 locs1 → W p l e R s m args below meth c H1 locs1 cells slots Q (F0 m (pc + 1) ls rest)) : W p l e R s m args below meth c H locs cells slots Q (F0 m pc ls (.int x :: .int i :: .ref a :: rest)) := by
  obtain ⟨ws, q0, hP, hD, hq, -, hset⟩ := hv_at hV ha
  subst hij
  refine va_iast C0.1 C0.2.1 hK hP hD hS q0 t0 hq ht (vp_in_nI hj hn) hdg (fun H1 l1 hP1 hD1 hS1 => kk H1 l1 ?_ hS1)
  rw [nI_clamp (by omega)] at hP1 hD1
  exact hset _ _ hP1 hD1
theorem hp_zast (C0 : Cx TB Ev a0 p s m c cc nL own) (hK : va_K D cl tys s) (t0 : Nat) {cA : ClassId} (ht : tys[t0]? = some (cA, .boolean)) (hV : hv D cl a0 M H) (hS : va_S (hA a0) s.heap H locs) {n : Nat} {f : Nat → Int32} (ha : M a = some (.inl (cA, n, .inl f))) {i x : Int32} (hx01 : vp_nar .boolean x = x) (j : Nat) (hij : i = nI j) (hj : j < n) (hn : n < 2 ^ 31) (hdg : decode cc pc = .ok (.bastore, 1))
    (kk : ∀ (H1 : Heap) (locs1 : List Loc), hv D cl a0 (va_up M a (some (.inl (cA, n, .inl (upd f j x))))) H1 → va_S (hA a0) s.heap H1 locs1 → W p l e R s m args below meth c H1 locs1 cells slots Q (F0 m (pc + 1) ls rest)) : W p l e R s m args below meth c H locs cells slots Q (F0 m pc ls (.int x :: .int i :: .ref a :: rest)) := by
  obtain ⟨ws, q0, hP, hD, hq, -, hset⟩ := hv_at hV ha
  subst hij
  refine va_zast C0.1 C0.2.1 hK hP hD hS q0 t0 hq ht (vp_in_nI hj hn) hdg (fun H1 l1 hP1 hD1 hS1 => kk H1 l1 ?_ hS1)
  rw [nI_clamp (by omega), hx01] at hP1 hD1
  exact hset _ _ hP1 hD1
theorem hp_last (C0 : Cx TB Ev a0 p s m c cc nL own) (hK : va_K D cl tys s) (t0 : Nat) {cA : ClassId} (ht : tys[t0]? = some (cA, .long)) (hV : hv D cl a0 M H) (hS : va_S (hA a0) s.heap H locs) {n : Nat} {f : Nat → Int64} (ha : M a = some (.inl (cA, n, .inr (.inl f)))) {i : Int32} {x : Int64} (j : Nat) (hij : i = nI j) (hj : j < n) (hn : n < 2 ^ 31) (hdg : decode cc pc = .ok (.lastore, 1))
    (kk : ∀ (H1 : Heap) (locs1 : List Loc), hv D cl a0 (va_up M a (some (.inl (cA, n, .inr (.inl (vp_updL f j x)))))) H1 → va_S (hA a0) s.heap H1 locs1 → W p l e R s m args below meth c H1 locs1 cells slots Q (F0 m (pc + 1) ls rest)) : W p l e R s m args below meth c H locs cells slots Q (F0 m pc ls (.long x :: .int i :: .ref a :: rest)) := by
  obtain ⟨ws, q0, hP, hD, hq, -, hset⟩ := hv_at hV ha
  subst hij
  refine va_last C0.1 C0.2.1 hK hP hD hS q0 t0 hq ht (vp_in_nI hj hn) hdg (fun H1 l1 hP1 hD1 hS1 => kk H1 l1 ?_ hS1)
  rw [nI_clamp (by omega)] at hP1 hD1
  exact hset _ _ hP1 hD1
theorem hp_lald (C0 : Cx TB Ev a0 p s m c cc nL own) (hK : va_K D cl tys s) (t0 : Nat) {cA : ClassId} (ht : tys[t0]? = some (cA, .long)) (hV : hv D cl a0 M H) {n : Nat} {f : Nat → Int64} (ha : M a = some (.inl (cA, n, .inr (.inl f)))) {i : Int32} (j : Nat) (hij : i = nI j) (hj : j < n) (hn : n < 2 ^ 31) (hdg : decode cc pc = .ok (.laload, 1))
    (kk : W p l e R s m args below meth c H locs cells slots Q (F0 m (pc + 1) ls (.long (f j) :: rest))) : W p l e R s m args below meth c H locs cells slots Q (F0 m pc ls (.int i :: .ref a :: rest)) := by
  obtain ⟨ws, q0, hP, -, hq, -⟩ := hv_at hV ha
  subst hij
  refine va_lald C0.1 C0.2.1 hK hP q0 t0 hq ht (vp_in_nI hj hn) hdg ?_
  rw [nI_clamp (by omega)]
  exact kk
theorem hp_alen (C0 : Cx TB Ev a0 p s m c cc nL own) (hK : va_K D cl tys s) (t0 : Nat) {cA : ClassId} {ty : FieldType} (ht : tys[t0]? = some (cA, ty)) (hV : hv D cl a0 M H) {x : vp_A} (ha : M a = some (.inl (cA, x))) (hdg : decode cc pc = .ok (.arraylength, 1))
    (kk : W p l e R s m args below meth c H locs cells slots Q (F0 m (pc + 1) ls (.int (nI x.1) :: rest))) : W p l e R s m args below meth c H locs cells slots Q (F0 m pc ls (.ref a :: rest)) := by
  obtain ⟨ws, q0, hP, -, hq, -⟩ := hv_at hV ha
  exact va_alen C0.1 C0.2.1 hK hP q0 t0 hq ht rfl hdg kk
theorem hp_aald (C0 : Cx TB Ev a0 p s m c cc nL own) (hK : va_K D cl tys s) (t0 : Nat) {cA : ClassId} {E : String} (ht : tys[t0]? = some (cA, .object E)) (hV : hv D cl a0 M H) {n : Nat} {f : Nat → Option Nat} (ha : M a = some (.inl (cA, n, .inr (.inr (.inr (.inr f)))))) {i : Int32} (j : Nat) (hij : i = nI j) (hj : j < n) (hn : n < 2 ^ 31) {v : Value} (hvv : va_rf (f j) = v) (hdg : decode cc pc = .ok (.aaload, 1))
    (kk : W p l e R s m args below meth c H locs cells slots Q (F0 m (pc + 1) ls (v :: rest))) : W p l e R s m args below meth c H locs cells slots Q (F0 m pc ls (.int i :: .ref a :: rest)) := by
  obtain ⟨ws, q0, hP, -, hq, -⟩ := hv_at hV ha
  subst hij
  refine va_aldq C0.1 C0.2.1 hK hP q0 t0 hq ht (vp_in_nI hj hn) hdg ?_
  rw [nI_clamp (by omega), hvv]
  exact kk
theorem hp_aast (C0 : Cx TB Ev a0 p s m c cc nL own) (hK : va_K D cl tys s) (t0 : Nat) {cA : ClassId} {r : vw_C} {ci : Nat} (ht : tys[t0]? = some (cA, .object r.1)) (hc : cl[ci]? = some r) (hV : hv D cl a0 M H) (hS : va_S (hA a0) s.heap H locs) {n v : Nat} {vs : List Value} {f : Nat → Option Nat} (ha : M a = some (.inl (cA, n, .inr (.inr (.inr (.inr f)))))) (hvv : M v = some (.inr (ci, vs))) {i : Int32} (j : Nat) (hij : i = nI j) (hj : j < n) (hn : n < 2 ^ 31) (hdg : decode cc pc = .ok (.aastore, 1))
    (kk : ∀ (H1 : Heap) (locs1 : List Loc), hv D cl a0 (va_up M a (some (.inl (cA, n, .inr (.inr (.inr (.inr (va_up f j (some v))))))))) H1 → va_S (hA a0) s.heap H1 locs1 → W p l e R s m args below meth c H1 locs1 cells slots Q (F0 m (pc + 1) ls rest)) : W p l e R s m args below meth c H locs cells slots Q (F0 m pc ls (.ref v :: .int i :: .ref a :: rest)) := by
  obtain ⟨ws, q0, hP, hD, hq, hget, hset⟩ := hv_at hV ha
  obtain ⟨qk, hqk⟩ := hget v _ hvv
  subst hij
  refine va_astq C0.1 C0.2.1 hK hP hD hS q0 t0 qk ci hq ht hqk hc (vp_in_nI hj hn) hdg (fun H1 l1 hP1 hD1 hS1 => kk H1 l1 ?_ hS1)
  rw [nI_clamp (by omega)] at hP1 hD1
  exact hset _ _ hP1 hD1
theorem hp_new (C0 : Cx TB Ev a0 p s m c cc nL own) (hK : va_K D cl tys s) {C : String} {T : u_T} {N ci index : Nat} {ty0 : Nat → FieldType} (K : Cl TB cl ci C T N ty0) (hcl : Cond.classLink own index C ∈ TB) (hinst : Cond.instantiable C N ∈ TB) (hini : Cond.initialized C ∈ TB) (hV : hv D cl a0 M H) (hS : va_S (hA a0) s.heap H locs) {fs : List Value} (hfs : ∀ j, j < N → defaultValue (ty0 j) = vp_V fs j) (hcells : cells + 1 ≤ R.cells) (hslots : slots + N ≤ R.slots) (hdg : decode cc pc = .ok (.new index, 3))
    (kk : ∀ (q : Nat) (H1 : Heap), M q = none → hv D cl a0 (va_up M q (some (.inr (ci, fs)))) H1 → va_S (hA a0) s.heap H1 locs → W p l e R s m args below meth c H1 locs (cells + 1) (slots + N) Q (F0 m (pc + 3) ls (.ref q :: rest))) : W p l e R s m args below meth c H locs cells slots Q (F0 m pc ls rest) := by
  obtain ⟨ws, hP, hD, hpush⟩ := hv_push hV
  refine va_new C0.1 C0.2.1 C0.ts K.2.1 ty0 K.2.2.1 C0.2.2.2.1 (C0.ts _ hcl) (C0.ts _ hinst) (C0.ts _ hini) hK hP hD hS (fun q hq => Nat.le_trans C0.2.2.2.2.2.2 hq) K.1 hfs hcells hslots hdg (fun q H1 hP1 hD1 hS1 => ?_)
  obtain ⟨h1, h2⟩ := hpush q _ H1 hP1 hD1
  exact kk q H1 h2 h1 hS1
theorem hp_newa (C0 : Cx TB Ev a0 p s m c cc nL own) (hK : va_K D cl tys s) (t0 : Nat) {cA : ClassId} {atype : ArrayType} {ty : FieldType} (hty : newarray.typeOf atype = ty) (hnot : ∀ z, ty ≠ .object z) (ht : tys[t0]? = some (cA, ty)) (harr : Cond.arrayClass (newarray.typeOf atype) ∈ TB) (hV : hv D cl a0 M H) (hS : va_S (hA a0) s.heap H locs) {n : Int32} {a1 : vp_A} (N : Nat) (ha1 : ∀ cA : ClassId, vp_cell cA a1 = arrV cA N (fun _ => defaultValue ty)) (hn : n = nI N) (hN : N ≤ 65536) (hcb : componentBytes ty ≤ 8) (hcells : cells + 1 ≤ R.cells) (hslots : slots + N ≤ R.slots) (hdg : decode cc pc = .ok (.newarray atype, 2))
    (kk : ∀ (q : Nat) (H1 : Heap), M q = none → hv D cl a0 (va_up M q (some (.inl (cA, a1)))) H1 → va_S (hA a0) s.heap H1 locs → W p l e R s m args below meth c H1 locs (cells + 1) (slots + N) Q (F0 m (pc + 2) ls (.ref q :: rest))) : W p l e R s m args below meth c H locs cells slots Q (F0 m pc ls (.int n :: rest)) := by
  obtain ⟨ws, hP, hD, hpush⟩ := hv_push hV
  subst hn
  refine va_newa C0.1 C0.2.1 (C0.ts _ harr) hty hK hP hD hS (fun q hq => Nat.le_trans C0.2.2.2.2.2.2 hq) ha1 (nI_pos (by omega)) (nI_clamp (by omega)) (Nat.le_trans (Nat.mul_le_mul hN hcb) (by decide)) hcells hslots hdg (fun q cA' H1 hK1 hP1 hD1 hS1 => ?_)
  have e1 := (hK1.2 tys.length (cA', ty) (by simp)).2
  have e2 := (hK.2 t0 (cA, ty) ht).2
  have e3 : cA' = cA := by
    cases ty with
    | object z => exact absurd rfl (hnot z)
    | _ => exact Option.some.inj (Eq.trans (Eq.symm e1) e2)
  subst e3
  obtain ⟨h1, h2⟩ := hpush q _ H1 hP1 hD1
  exact kk q H1 h2 h1 hS1
theorem hp_copyi (C0 : Cx TB Ev a0 p s m c cc nL own) (hK : va_K D cl tys s) (hsz : ls.size = nL) {index : Nat} (hlink : Cond.methodLink own index arraycopyName ∈ TB) (hnat : Cond.native arraycopyName ∈ TB) (hstat : Cond.static arraycopyName ∈ TB) (hini : Cond.initialized "java/lang/System" ∈ TB) (t0 : Nat) {cA : ClassId} (ht : tys[t0]? = some (cA, .int)) (hV : hv D cl a0 M H) (hS : va_S (hA a0) s.heap H locs)
    {b n0 n1 : Nat} {f g : Nat → Int32} (hb0 : M b = some (.inl (cA, n0, .inl f))) (ha : M a = some (.inl (cA, n1, .inl g))) {sp dp n : Int32} (i j k : Nat) (hi : sp = nI i) (hj : dp = nI j) (hk : n = nI k) (h4 : i + k ≤ n0) (h5 : j + k ≤ n1) (hn0 : n0 < 2 ^ 31) (hn1 : n1 < 2 ^ 31)
    (hframes : 1 ≤ R.frames) (hlocals : (rest.map fun v => v.category).sum + (nativeFrameWords "java/lang/System" "arraycopy" 5 + 11) ≤ R.locals) (hdg : decode cc pc = .ok (.invokestatic index, 3))
    (kk : ∀ (H1 : Heap) (locs1 : List Loc), hv D cl a0 (va_up M a (some (.inl (cA, n1, .inl (va_cpy f g i j k))))) H1 → va_S (hA a0) s.heap H1 locs1 → W p l e R s m args below meth c H1 locs1 cells slots Q (F0 m (pc + 3) ls rest)) : W p l e R s m args below meth c H locs cells slots Q (F0 m pc ls (.int n :: .int dp :: .ref a :: .int sp :: .ref b :: rest)) := by
  obtain ⟨ws, q1, hP, hD, hq, hget, hset⟩ := hv_at hV ha
  obtain ⟨q0, hq0⟩ := hget b _ hb0
  subst hi hj hk
  refine va_copyi C0.1 C0.2.1 (by rw [C0.2.2.1, hsz]) C0.2.2.2.1 (C0.ts _ hlink) (C0.ts _ hnat) (C0.ts _ hstat) (C0.ts _ hini) hK hP hD hS q0 q1 t0 t0 hq0 hq ht ht rfl (nI_pos (by omega)) (nI_pos (by omega)) (nI_pos (by omega)) (by rw [nI_clamp (by omega), nI_clamp (by omega)]; exact h4) (by rw [nI_clamp (by omega), nI_clamp (by omega)]; exact h5) (fun _ _ => rfl) hframes hlocals hdg (fun H1 l1 hP1 hD1 hS1 => kk H1 l1 ?_ hS1)
  rw [nI_clamp (by omega), nI_clamp (by omega), nI_clamp (by omega)] at hP1 hD1
  exact hset _ _ hP1 hD1
theorem hp_recv (hK : va_K D cl tys s) (hV : hv D cl a0 M H) {ci : Nat} {fs : List Value} {q : vw_C} (hc : cl[ci]? = some q) (ha : M a = some (.inr (ci, fs))) : ∃ cell : Cell, H[a]? = some cell ∧ cell.vm.isStatics = false ∧ s.vm.findClass q.1 = some cell.cls := by
  obtain ⟨ws, q0, hP, -, hq, -⟩ := hv_at hV ha
  exact va_recv hK hP hc hq
/-- the top int by another name -/
theorem lv_rei {x y : Int32} (h : x = y) (k : W p l e R s m args below meth c H locs cells slots Q (F0 m pc ls (.int y :: rest))) : W p l e R s m args below meth c H locs cells slots Q (F0 m pc ls (.int x :: rest)) := by rw [h]; exact k
/-! branches on naturals -/
theorem nb_ge (C0 : Cx TB Ev a0 p s m c cc nL own) {a b : Nat} {off : Int} {tgt : Nat} (hdg : decode cc pc = .ok (.if_icmp .ge off, 3)) (ht : (pc : Int) + off = (tgt : Int)) (ha2 : a < 2 ^ 31) (hb2 : b < 2 ^ 31) (kt : b ≤ a → W p l e R s m args below meth c H locs cells slots Q (F0 m tgt ls rest)) (kf : a < b → W p l e R s m args below meth c H locs cells slots Q (F0 m (pc + 3) ls rest)) : W p l e R s m args below meth c H locs cells slots Q (F0 m pc ls (.int (nI b) :: .int (nI a) :: rest)) :=
  lv_icmp_ge C0.1 C0.2.1 hdg ht (fun z => kt ((nI_leI hb2 ha2).mp z)) (fun z => kf (Nat.not_le.mp (fun q => z ((nI_leI hb2 ha2).mpr q))))
theorem nb_lt (C0 : Cx TB Ev a0 p s m c cc nL own) {a b : Nat} {off : Int} {tgt : Nat} (hdg : decode cc pc = .ok (.if_icmp .lt off, 3)) (ht : (pc : Int) + off = (tgt : Int)) (ha2 : a < 2 ^ 31) (hb2 : b < 2 ^ 31) (kt : a < b → W p l e R s m args below meth c H locs cells slots Q (F0 m tgt ls rest)) (kf : b ≤ a → W p l e R s m args below meth c H locs cells slots Q (F0 m (pc + 3) ls rest)) : W p l e R s m args below meth c H locs cells slots Q (F0 m pc ls (.int (nI b) :: .int (nI a) :: rest)) :=
  lv_icmp_lt C0.1 C0.2.1 hdg ht (fun z => kt ((nI_ltI ha2 hb2).mp z)) (fun z => kf (Nat.not_lt.mp (fun q => z ((nI_ltI ha2 hb2).mpr q))))
theorem nb_gt (C0 : Cx TB Ev a0 p s m c cc nL own) {a b : Nat} {off : Int} {tgt : Nat} (hdg : decode cc pc = .ok (.if_icmp .gt off, 3)) (ht : (pc : Int) + off = (tgt : Int)) (ha2 : a < 2 ^ 31) (hb2 : b < 2 ^ 31) (kt : b < a → W p l e R s m args below meth c H locs cells slots Q (F0 m tgt ls rest)) (kf : a ≤ b → W p l e R s m args below meth c H locs cells slots Q (F0 m (pc + 3) ls rest)) : W p l e R s m args below meth c H locs cells slots Q (F0 m pc ls (.int (nI b) :: .int (nI a) :: rest)) :=
  lv_icmp_gt C0.1 C0.2.1 hdg ht (fun z => kt ((nI_ltI hb2 ha2).mp z)) (fun z => kf (Nat.not_lt.mp (fun q => z ((nI_ltI hb2 ha2).mpr q))))
theorem nb_le (C0 : Cx TB Ev a0 p s m c cc nL own) {a b : Nat} {off : Int} {tgt : Nat} (hdg : decode cc pc = .ok (.if_icmp .le off, 3)) (ht : (pc : Int) + off = (tgt : Int)) (ha2 : a < 2 ^ 31) (hb2 : b < 2 ^ 31) (kt : a ≤ b → W p l e R s m args below meth c H locs cells slots Q (F0 m tgt ls rest)) (kf : b < a → W p l e R s m args below meth c H locs cells slots Q (F0 m (pc + 3) ls rest)) : W p l e R s m args below meth c H locs cells slots Q (F0 m pc ls (.int (nI b) :: .int (nI a) :: rest)) :=
  lv_icmp_le C0.1 C0.2.1 hdg ht (fun z => kt ((nI_leI ha2 hb2).mp z)) (fun z => kf (Nat.not_le.mp (fun q => z ((nI_leI ha2 hb2).mpr q))))
theorem nb_eq (C0 : Cx TB Ev a0 p s m c cc nL own) {a b : Nat} {off : Int} {tgt : Nat} (hdg : decode cc pc = .ok (.if_icmp .eq off, 3)) (ht : (pc : Int) + off = (tgt : Int)) (ha2 : a < 2 ^ 31) (hb2 : b < 2 ^ 31) (kt : a = b → W p l e R s m args below meth c H locs cells slots Q (F0 m tgt ls rest)) (kf : a ≠ b → W p l e R s m args below meth c H locs cells slots Q (F0 m (pc + 3) ls rest)) : W p l e R s m args below meth c H locs cells slots Q (F0 m pc ls (.int (nI b) :: .int (nI a) :: rest)) :=
  lv_icmp_eq C0.1 C0.2.1 hdg ht (fun z => kt ((nI_eq ha2 hb2).mp z)) (fun z => kf (fun q => z ((nI_eq ha2 hb2).mpr q)))
theorem nb_ne (C0 : Cx TB Ev a0 p s m c cc nL own) {a b : Nat} {off : Int} {tgt : Nat} (hdg : decode cc pc = .ok (.if_icmp .ne off, 3)) (ht : (pc : Int) + off = (tgt : Int)) (ha2 : a < 2 ^ 31) (hb2 : b < 2 ^ 31) (kt : a ≠ b → W p l e R s m args below meth c H locs cells slots Q (F0 m tgt ls rest)) (kf : a = b → W p l e R s m args below meth c H locs cells slots Q (F0 m (pc + 3) ls rest)) : W p l e R s m args below meth c H locs cells slots Q (F0 m pc ls (.int (nI b) :: .int (nI a) :: rest)) :=
  lv_icmp_ne C0.1 C0.2.1 hdg ht (fun z => kt (fun q => z ((nI_eq ha2 hb2).mpr q))) (fun z => kf ((nI_eq ha2 hb2).mp z))
theorem nb_z_eq (C0 : Cx TB Ev a0 p s m c cc nL own) {a : Nat} {off : Int} {tgt : Nat} (hdg : decode cc pc = .ok (.ifCond .eq off, 3)) (ht : (pc : Int) + off = (tgt : Int)) (ha2 : a < 2 ^ 31) (kt : a = 0 → W p l e R s m args below meth c H locs cells slots Q (F0 m tgt ls rest)) (kf : a ≠ 0 → W p l e R s m args below meth c H locs cells slots Q (F0 m (pc + 3) ls rest)) : W p l e R s m args below meth c H locs cells slots Q (F0 m pc ls (.int (nI a) :: rest)) :=
  lv_if_eq C0.1 C0.2.1 hdg ht (fun z => kt (nz_e ha2 z)) (fun z => kf (nz_n z))
theorem nb_z_ne (C0 : Cx TB Ev a0 p s m c cc nL own) {a : Nat} {off : Int} {tgt : Nat} (hdg : decode cc pc = .ok (.ifCond .ne off, 3)) (ht : (pc : Int) + off = (tgt : Int)) (ha2 : a < 2 ^ 31) (kt : a ≠ 0 → W p l e R s m args below meth c H locs cells slots Q (F0 m tgt ls rest)) (kf : a = 0 → W p l e R s m args below meth c H locs cells slots Q (F0 m (pc + 3) ls rest)) : W p l e R s m args below meth c H locs cells slots Q (F0 m pc ls (.int (nI a) :: rest)) :=
  lv_if_ne C0.1 C0.2.1 hdg ht (fun z => kt (nz_n z)) (fun z => kf (nz_e ha2 z))
theorem nb_z_le (C0 : Cx TB Ev a0 p s m c cc nL own) {a : Nat} {off : Int} {tgt : Nat} (hdg : decode cc pc = .ok (.ifCond .le off, 3)) (ht : (pc : Int) + off = (tgt : Int)) (ha2 : a < 2 ^ 31) (kt : a = 0 → W p l e R s m args below meth c H locs cells slots Q (F0 m tgt ls rest)) (kf : 0 < a → W p l e R s m args below meth c H locs cells slots Q (F0 m (pc + 3) ls rest)) : W p l e R s m args below meth c H locs cells slots Q (F0 m pc ls (.int (nI a) :: rest)) :=
  lv_if_le C0.1 C0.2.1 hdg ht (fun z => kt (nz_le ha2 z)) (fun z => kf (nz_gt ha2 (fun q => z q)))
theorem nb_z_gt (C0 : Cx TB Ev a0 p s m c cc nL own) {a : Nat} {off : Int} {tgt : Nat} (hdg : decode cc pc = .ok (.ifCond .gt off, 3)) (ht : (pc : Int) + off = (tgt : Int)) (ha2 : a < 2 ^ 31) (kt : 0 < a → W p l e R s m args below meth c H locs cells slots Q (F0 m tgt ls rest)) (kf : a = 0 → W p l e R s m args below meth c H locs cells slots Q (F0 m (pc + 3) ls rest)) : W p l e R s m args below meth c H locs cells slots Q (F0 m pc ls (.int (nI a) :: rest)) :=
  lv_if_gt C0.1 C0.2.1 hdg ht (fun z => kt (nz_gt2 ha2 z)) (fun z => kf (nz_le2 ha2 z))
/-! loops: j counts the turns; lv j: the local variables at the loop's head -/
theorem W.lp {P : Nat → Prop} {lv : Nat → List (Nat × Value)} (N : Nat) (hs : ∀ (j : Nat) (ls : Array Slot), j ≤ N → P j → lv_has ls nL (lv j) → (∀ ls' : Array Slot, j < N → P (j + 1) → lv_has ls' nL (lv (j + 1)) → W p l e R s m args below meth c H locs cells slots Q (F0 m pc ls' rest)) → W p l e R s m args below meth c H locs cells slots Q (F0 m pc ls rest))
    (j : Nat) (ls : Array Slot) (hj : j ≤ N) (hP : P j) (hl : lv_has ls nL (lv j)) : W p l e R s m args below meth c H locs cells slots Q (F0 m pc ls rest) := by
  obtain ⟨d, hd⟩ : ∃ d, d + j = N := ⟨N - j, by omega⟩
  induction d generalizing j ls with
  | zero => exact hs j ls hj hP hl (fun ls' h => absurd h (by omega))
  | succ d ih => exact hs j ls hj hP hl (fun ls' h hP' hl' => ih (j + 1) ls' (by omega) hP' hl' (by omega))
theorem W.lpM {P : Nat → hMp → Prop} {lv : Nat → List (Nat × Value)} (N : Nat) (hs : ∀ (j : Nat) (M : hMp) (H : Heap) (locs : List Loc) (ls : Array Slot), j ≤ N → P j M → hv D cl a0 M H → va_S (hA a0) s.heap H locs → lv_has ls nL (lv j) →
      (∀ (M' : hMp) (H' : Heap) (locs' : List Loc) (ls' : Array Slot), j < N → P (j + 1) M' → hv D cl a0 M' H' → va_S (hA a0) s.heap H' locs' → lv_has ls' nL (lv (j + 1)) → W p l e R s m args below meth c H' locs' cells slots Q (F0 m pc ls' rest)) → W p l e R s m args below meth c H locs cells slots Q (F0 m pc ls rest))
    (j : Nat) (M : hMp) (H : Heap) (locs : List Loc) (ls : Array Slot) (hj : j ≤ N) (hP : P j M) (hV : hv D cl a0 M H) (hS : va_S (hA a0) s.heap H locs) (hl : lv_has ls nL (lv j)) : W p l e R s m args below meth c H locs cells slots Q (F0 m pc ls rest) := by
  obtain ⟨d, hd⟩ : ∃ d, d + j = N := ⟨N - j, by omega⟩
  induction d generalizing j M H locs ls with
  | zero => exact hs j M H locs ls hj hP hV hS hl (fun M' H' locs' ls' h => absurd h (by omega))
  | succ d ih => exact hs j M H locs ls hj hP hV hS hl (fun M' H' locs' ls' h hP' hV' hS' hl' => ih (j + 1) M' H' locs' ls' (by omega) hP' hV' hS' hl' (by omega))
/-- a loop that is left from several places of its body, always to pcx -/
theorem W.lpx {P E : Nat → Prop} {lv : Nat → List (Nat × Value)} {pcx : Nat} (N : Nat) (hs : ∀ (j : Nat) (ls : Array Slot), j ≤ N → P j → lv_has ls nL (lv j) → (∀ ls' : Array Slot, j < N → P (j + 1) → lv_has ls' nL (lv (j + 1)) → W p l e R s m args below meth c H locs cells slots Q (F0 m pc ls' rest)) → (∀ ls' : Array Slot, E j → lv_has ls' nL (lv j) → W p l e R s m args below meth c H locs cells slots Q (F0 m pcx ls' rest)) → W p l e R s m args below meth c H locs cells slots Q (F0 m pc ls rest))
    (j : Nat) (ls : Array Slot) (hj : j ≤ N) (hP : P j) (hl : lv_has ls nL (lv j)) (tail : ∀ (j : Nat) (ls : Array Slot), j ≤ N → E j → lv_has ls nL (lv j) → W p l e R s m args below meth c H locs cells slots Q (F0 m pcx ls rest)) : W p l e R s m args below meth c H locs cells slots Q (F0 m pc ls rest) :=
  W.lp N (fun j ls hj hP hl ih => hs j ls hj hP hl ih (fun ls' hE hl' => tail j ls' hj hE hl')) j ls hj hP hl
end HP
