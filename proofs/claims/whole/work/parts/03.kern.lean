/-! The kernel of this proof: one map of cells for all (an address, what lies there), contracts that may throw (MX), calls, throws. -/
abbrev hMp : Type := Nat → Option va_E
def hA (a0 : Nat) : Nat → Prop := fun q => a0 ≤ q
/-- the heap H holds the cells of M, all at a0 or above -/
def hv (D : va_G) (cl : List vw_C) (a0 : Nat) (M : hMp) (H : Heap) : Prop := ∃ (L : List Nat) (f : Nat → va_E), (∀ a, M a = if a ∈ L then some (f a) else none) ∧ va_P D cl (va_pl L f) H ∧ va_D (hA a0) (va_pl L f)
theorem hv_at {D : va_G} {cl : List vw_C} {a0 : Nat} {M : hMp} {H : Heap} (h : hv D cl a0 M H) {a : Nat} {e : va_E} (ha : M a = some e) :
    ∃ (ws : va_W) (k : Nat), va_P D cl ws H ∧ va_D (hA a0) ws ∧ ws[k]? = some (a, e) ∧ (∀ (b : Nat) (x : va_E), M b = some x → ∃ j : Nat, ws[j]? = some (b, x)) ∧
      ∀ (x : va_E) (H1 : Heap), va_P D cl (ws.set k (a, x)) H1 → va_D (hA a0) (ws.set k (a, x)) → hv D cl a0 (va_up M a (some x)) H1 := by
  obtain ⟨L, f, hM, hP, hD⟩ := h
  have key : ∀ (b : Nat) (x : va_E), M b = some x → b ∈ L ∧ f b = x := by
    intro b x hb
    rw [hM b] at hb
    by_cases hL : b ∈ L
    · rw [if_pos hL] at hb
      exact ⟨hL, Option.some.inj hb⟩
    · rw [if_neg hL] at hb
      cases hb
  have get : ∀ (b : Nat) (x : va_E), M b = some x → ∃ j : Nat, (va_pl L f)[j]? = some (b, x) := by
    intro b x hb
    obtain ⟨h1, h2⟩ := key b x hb
    obtain ⟨j, hj⟩ := va_pl_get (X := []) (f := f) h1
    exact ⟨j, by rw [← h2]; exact hj⟩
  obtain ⟨h1, h2⟩ := key a e ha
  obtain ⟨k, hk⟩ := va_pl_get (X := []) (f := f) h1
  refine ⟨va_pl L f, k, hP, hD, by rw [← h2]; exact hk, get, fun x H1 hP1 hD1 => ?_⟩
  have hs : (va_pl L f).set k (a, x) = va_pl L (va_up f a x) := va_pl_set (X := []) hD h1 hk
  rw [hs] at hP1 hD1
  refine ⟨L, va_up f a x, fun b => ?_, hP1, hD1⟩
  by_cases hb : b = a
  · subst hb
    rw [va_up_self, va_up_self, if_pos h1]
  · rw [va_up_ne _ _ hb, va_up_ne _ _ hb]
    exact hM b
theorem hv_lt {D : va_G} {cl : List vw_C} {a0 : Nat} {M : hMp} {H : Heap} (h : hv D cl a0 M H) {a : Nat} {e : va_E} (ha : M a = some e) : a < H.size ∧ a0 ≤ a := by
  obtain ⟨ws, k, hP, hD, hk, -⟩ := hv_at h ha
  exact ⟨(hP k _ hk).lt, hD.2 k _ hk⟩
theorem hv_fresh {D : va_G} {cl : List vw_C} {a0 : Nat} {M : hMp} {H : Heap} (h : hv D cl a0 M H) {a : Nat} (ha : H.size ≤ a) : M a = none := by
  cases hm : M a with
  | none => rfl
  | some e =>
    have := (hv_lt h hm).1
    omega
theorem hv_push {D : va_G} {cl : List vw_C} {a0 : Nat} {M : hMp} {H : Heap} (h : hv D cl a0 M H) : ∃ ws : va_W, va_P D cl ws H ∧ va_D (hA a0) ws ∧ ∀ (q : Nat) (x : va_E) (H1 : Heap), va_P D cl (ws ++ [(q, x)]) H1 → va_D (hA a0) (ws ++ [(q, x)]) → hv D cl a0 (va_up M q (some x)) H1 ∧ M q = none := by
  obtain ⟨L, f, hM, hP, hD⟩ := h
  refine ⟨va_pl L f, hP, hD, fun q x H1 hP1 hD1 => ?_⟩
  have hq : q ∉ L := by
    intro hq
    obtain ⟨k, hk⟩ := va_pl_get (X := []) (f := f) hq
    have hk' : (va_pl L f)[k]? = some (q, f q) := hk
    have hl := (List.getElem?_eq_some_iff.mp hk').1
    have e1 : (va_pl L f ++ [(q, x)])[k]? = some (q, f q) := by rw [List.getElem?_append_left hl]; exact hk'
    have e2 : (va_pl L f ++ [(q, x)])[(va_pl L f).length]? = some (q, x) := by rw [List.getElem?_append_right (Nat.le_refl _)]; simp
    have := hD1.1 _ _ _ _ e1 e2 rfl
    omega
  refine ⟨⟨L ++ [q], va_up f q x, fun b => ?_, ?_, ?_⟩, by rw [hM q, if_neg hq]⟩
  · by_cases hb : b = q
    · subst hb
      rw [va_up_self, va_up_self, if_pos (by simp)]
    · rw [va_up_ne _ _ hb, va_up_ne _ _ hb, hM b]
      by_cases hL : b ∈ L
      · rw [if_pos hL, if_pos (by simp [hL])]
      · rw [if_neg hL, if_neg (by simp [hL, hb])]
  · rw [← va_pl_push hq]; exact hP1
  · rw [← va_pl_push hq]; exact hD1
theorem hv_nil {D : va_G} {cl : List vw_C} {a0 : Nat} {H : Heap} : hv D cl a0 (fun _ => none) H := ⟨[], fun _ => .inr (0, []), fun a => by simp, fun k q h => by simp [va_pl] at h, ⟨fun i j p q h => by simp [va_pl] at h, fun k q h => by simp [va_pl] at h⟩⟩
/-- the environment is kept by warmer tables and a heap that is the same below a0 -/
def hKeep (a0 : Nat) (Ev : State → Prop) : Prop := ∀ s t : State, Ev s → s.WarmedH t.vm → (∀ q, q < a0 → t.heap[q]? = s.heap[q]?) → Ev t
def hU (Ev : State → Prop) (D : va_G) (cl : List vw_C) (a0 : Nat) (M : hMp) (U : State) : Prop := Ev U ∧ a0 ≤ U.heap.size ∧ hv D cl a0 M U.heap
def hQ (D : va_G) (cl : List vw_C) (a0 : Nat) (post : Outcome → hMp → Prop) : Array Value → State → Outcome → State → Prop := fun _ st oc t => (∃ M' : hMp, post oc M' ∧ hv D cl a0 M' t.heap) ∧ va_F (hA a0) st t
/-- a method that only reads: it returns and the heap is as it was, or it throws a new exception (a cell of class number ci) -/
def hR (D : va_G) (cl : List vw_C) (a0 : Nat) (M : hMp) (rpost : Option Value → Prop) (ex : Nat → Prop) : Array Value → State → Outcome → State → Prop := fun _ st oc t =>
  (∃ v : Option Value, oc = .returned v ∧ rpost v ∧ t.heap = st.heap) ∨ (∃ x ci : Nat, oc = .threw x ∧ ex ci ∧ M x = none ∧ hv D cl a0 (va_up M x (some (.inr (ci, [])))) t.heap ∧ va_F (hA a0) st t)
/-- a contract that may throw -/
def MX (l : Launch) (y : MethodName) (TB : List Cond) (rm : Room) (Pc : Array Value → State → Prop) (Qc : Array Value → State → Outcome → State → Prop) (mc ms : Nat) (free : Addr → Prop) : Prop :=
  MetFree l y (headSpec TB rm) Pc (fun _ _ _ _ _ => True) (fun a st o t => Qc a st o t ∧ st.WarmedH t.vm ∧ ∃ L, st.sameButNew ({ t with vm := st.vm } : State) L mc ms ∧ ∀ q ∈ L, free q.base)
def MQX (below : List Frame) (Qc : Array Value → State → Outcome → State → Prop) (a : Array Value) (s : State) (mc ms : Nat) (free : Addr → Prop) : State → Prop := fun t =>
  ∃ o, t.status = .running ∧ Ended t below o ∧ Qc a s o t ∧ s.WarmedH t.vm ∧ ∃ L, s.sameButNew ({ t with vm := s.vm } : State) L mc ms ∧ ∀ q ∈ L, free q.base
theorem MQ.x {below : List Frame} {Qc : Array Value → State → Outcome → State → Prop} {a : Array Value} {s t : State} {mc ms : Nat} {free : Addr → Prop} (h : MQ below Qc a s mc ms free t) : MQX below Qc a s mc ms free t := by
  obtain ⟨o, h1, h2, h3, L, ⟨-, h4, h5⟩, h6⟩ := h
  exact ⟨o, h1, h2, h3, h4, L, h5, h6⟩
/-- what a method's walk has at hand -/
def Cx (TB : List Cond) (Ev : State → Prop) (a0 : Nat) (p : Program) (s : State) (m : MethodId) (c : Code) (cc : ByteArray) (nL : Nat) (own : String) : Prop :=
  p.tables.exec = Jvm.exec ∧ c.code = cc ∧ c.maxLocals = nL ∧ s.vm.findClass own = some m.cls ∧ (∀ w ∈ TB, ∀ (a' : Array Value) (U : State), s.WarmedH U.vm → w.before a' U = true) ∧ Ev s ∧ a0 ≤ s.heap.size
theorem hws_of {TB : List Cond} (hg : ∀ w ∈ TB, goodWord w = true) {args : Array Value} {s : State} (h : ∀ w ∈ TB, w.before args s = true) : ∀ w ∈ TB, ∀ (a' : Array Value) (U : State), s.WarmedH U.vm → w.before a' U = true :=
  fun w hw a' U hW => word_at hW (good_of_word (hg w hw)) (h w hw)
section KW
variable {p : Program} {l : Launch} {e : Env} {R : Room} {s : State} {m : MethodId} {args : Array Value} {below : List Frame} {meth : Method} {c : Code} {H : Heap} {locs : List Loc} {cells slots : Nat} {Q Q' : State → Prop}
theorem W.mono {g : JFrame} (h : ∀ t, Q t → Q' t) (k : W p l e R s m args below meth c H locs cells slots Q g) : W p l e R s m args below meth c H locs cells slots Q' g := by
  intro T hT X
  obtain ⟨t, a, b⟩ := k T hT X
  exact ⟨t, a, h t b⟩
/-- an exception is on its way over the frame g -/
def WT (p : Program) (l : Launch) (e : Env) (R : Room) (s : State) (m : MethodId) (args : Array Value) (below : List Frame) (meth : Method) (c : Code) (H : Heap) (locs : List Loc) (cells slots : Nat) (Q : State → Prop) (x : Addr) (g : JFrame) : Prop :=
  ∀ T : State, T.heap = H → Stand p l e R s m args below meth c T locs cells slots → ∃ t, Steps p.tables e below ((T.setTop g).pushFrame (.throwing x)) t ∧ Q t
theorem WT.widen {x : Addr} {g : JFrame} {k n : Nat} (h1 : cells ≤ k) (h2 : slots ≤ n) (kk : WT p l e R s m args below meth c H locs k n Q x g) : WT p l e R s m args below meth c H locs cells slots Q x g := fun T hT X => kk T hT (stand_widen X h1 h2)
/-- the exception leaves the method -/
theorem WT.leave {Qc : Array Value → State → Outcome → State → Prop} {free : Addr → Prop} {x : Addr} {pc : Nat} {ls : Array Slot} {st : List Value} (hout : ∀ z ∈ c.exceptionTable.toList, covers z pc = false) (hlk : meth.locks = false)
    (hq : ∀ t : State, t.heap = H → s.WarmedH t.vm → Qc args s (.threw x) t) (hf : ∀ q ∈ locs, free q.base) : WT p l e R s m args below meth c H locs cells slots (MQX below Qc args s cells slots free) x (F0 m pc ls st) := by
  intro T hT X
  obtain ⟨h1, h2, h3, h4, h5⟩ := X.leaveThrown x (g := F0 m pc ls st) rfl rfl rfl hout hlk
  exact ⟨_, h1, .threw x, h2, h3, hq _ hT h4, h4, locs, h5, hf⟩
end KW
theorem MX.ofW {l : Launch} {y : MethodName} {TB : List Cond} {rm : Room} {Ev : State → Prop} {D : va_G} {cl : List vw_C} {a0 : Nat} {M : hMp} {Qc : Array Value → State → Outcome → State → Prop} {free : Addr → Prop} {mc ms : Nat} {cc : ByteArray} {maxL : Nat} {ret : Option FieldType} {vs : List Value}
    (hg : ∀ w ∈ TB, goodWord w = true) (hy : plainName y.cls = true) (hw : Cond.code y cc maxL ret ∈ TB) (hlen : (lg_sl vs).length ≤ maxL)
    (body : ∀ (p : Program) (e : Env) (s : State) (m : MethodId) (below : List Frame) (meth : Method) (c : Code) (ls : Array Slot), Cx TB Ev a0 p s m c cc maxL y.cls → meth.sig.returnType = ret → meth.locks = false → meth.name = y.name → (∀ z ∈ c.exceptionTable.toList, ∀ pc, covers z pc = false) →
      hv D cl a0 M s.heap → va_S (hA a0) s.heap s.heap [] → lv_has ls maxL (lv_args 0 vs) →
      W p l e rm s m vs.toArray below meth c s.heap [] 0 0 (MQX below Qc vs.toArray s mc ms free) (F0 m 0 ls [])) :
    MX l y TB rm (va_Pc vs (hU Ev D cl a0 M)) Qc mc ms free := by
  refine MetFree.of_bodyS (code := cc) (maxLocals := maxL) (ret := ret) hy ?_ ?_
  · intro args s m h hn
    obtain ⟨meth, c, h1, h2, h3, h4, h5, h6, -, -⟩ := Cond.code_spec hn (atoms_spec (ws := TB) h _ hw)
    exact ⟨meth, c, h1, h2, h3, h4, h5, h6⟩
  · intro p e s m args below meth c s₁ B hml hP _
    obtain ⟨rfl, hE, h0, hV⟩ := hP
    have hh0 : s₁.heap = s.heap := by rw [B.state]; rfl
    have hts := atoms_spec (ws := TB) B.pre
    obtain ⟨meth', c', g1, g2, -, -, -, -, g3, -⟩ := Cond.code_spec B.named (hts _ hw)
    have em : meth' = meth := Option.some.inj (g1.symm.trans B.method)
    subst em
    have hX := Stand.of_body B
    have ec : c' = c := Option.some.inj (g2.symm.trans hX.code)
    subst ec
    have hl := lv_entry vs (n := maxL) hlen
    have K := body p e s m below meth' c' _ ⟨B.exec, B.bytes, hml, findClass_of_methodNamed B.named, hws_of hg hts, hE, h0⟩ B.returns B.notSynchronized (name_of_methodNamed B.named B.method).1
      (fun z hz => by
        have : c'.exceptionTable.toList = [] := by simpa using g3
        rw [this] at hz
        cases hz) hV va_S.rf hl
    rw [← lg_entry_eq] at K
    obtain ⟨t, a1, o, b1, b2, b3⟩ := K s₁ hh0 hX
    exact ⟨t, o, a1, b1, b2, b3⟩
section KC
variable {p : Program} {l : Launch} {e : Env} {R : Room} {s : State} {m : MethodId} {args : Array Value} {below : List Frame} {meth : Method} {c : Code} {T : State} {H : Heap} {locs : List Loc} {cells slots : Nat} {Q : State → Prop}
variable {y : MethodName} {TB : List Cond} {rm : Room} {mc ms maxL n : Nat} {bytes cc : ByteArray} {ret : Option FieldType}
/-- what a caller must know of the callee: room, code, name, number of arguments -/
def Cy (R : Room) (s : State) (args : Array Value) (y : MethodName) (TB : List Cond) (rm : Room) (mc ms maxL n : Nat) : Prop :=
  rm.cells = mc ∧ rm.slots = ms ∧ rm.frames + 1 ≤ R.frames ∧ 8 + (maxL + 11) + rm.locals ≤ R.locals ∧ (∀ w ∈ TB, ∀ (a' : Array Value) (U : State), s.WarmedH U.vm → w.before a' U = true) ∧
  (∀ (U : State) (mk : MethodId), s.WarmedH U.vm → U.methodNamed? y = some mk → ∃ methY cY, U.vm.method? mk = some methY ∧ methY.code = some cY ∧ cY.maxLocals = maxL ∧ parseMethodDescriptor y.desc = some methY.sig) ∧
  (Cond.initialized y.cls).before args s = true ∧ (y.cls ≠ "java/lang/invoke/MethodHandle" ∧ y.cls ≠ "java/lang/invoke/VarHandle") ∧ (∀ sig, parseMethodDescriptor y.desc = some sig → n = sig.parameters.length)
theorem Cy.of (hws : ∀ w ∈ TB, ∀ (a' : Array Value) (U : State), s.WarmedH U.vm → w.before a' U = true) (hc : Cond.code y bytes maxL ret ∈ TB) (hi : Cond.initialized y.cls ∈ TB) (n : Nat)
    (hd : y.cls ≠ "java/lang/invoke/MethodHandle" ∧ y.cls ≠ "java/lang/invoke/VarHandle" ∧ (parseMethodDescriptor y.desc).map (fun d => d.parameters.length) = some n) (hR : rm.frames + 1 ≤ R.frames ∧ 8 + (maxL + 11) + rm.locals ≤ R.locals) : Cy R s args y TB rm rm.cells rm.slots maxL n := by
  refine ⟨rfl, rfl, hR.1, hR.2, hws, fun U mk hW hn => ?_, hws _ hi _ _ (State.WarmedH.refl s), ⟨hd.1, hd.2.1⟩, fun sig h => ?_⟩
  · obtain ⟨meth, c, h1, h2, -, h4, -, -, -, h8⟩ := Cond.code_spec hn (hws _ hc #[] U hW)
    exact ⟨meth, c, h1, h2, h4, h8⟩
  · have h2 := hd.2.2
    rw [h] at h2
    exact (Option.some.inj h2).symm
theorem cx_core {Pc : Array Value → State → Prop} {Qc : Array Value → State → Outcome → State → Prop} {free : Addr → Prop} (X : Stand p l e R s m args below meth c T locs cells slots) (hM : MX l y TB rm Pc Qc mc ms free) (cy : Cy R s args y TB rm mc ms maxL n)
    {g : JFrame} (hg : g.method = m) (hsize : g.locals.size = c.maxLocals) {ig : Instr} {len : Nat} (hdg : decode c.code g.pc = .ok (ig, len)) (hW : 2 * g.monitorRoom + (g.stack.map fun v => v.category).sum ≤ 8) {mk : MethodId} (hn : T.methodNamed? y = some mk) {a : Array Value}
    (hf : cells + mc ≤ R.cells ∧ slots + ms ≤ R.slots) (hP : Pc a (T.calling g mk a)) :
    ∃ (o : Outcome) (t T' : State) (L : List Loc) (z : State), Qc a (T.calling g mk a) o t ∧ Stand p l e R s m args below meth c T' (locs ++ L) (cells + mc) (slots + ms) ∧ (∀ q ∈ L, free q.base) ∧ T'.heap = t.heap ∧ T'.vm = t.vm ∧ Steps p.tables e below (doInvoke e (T.setTop g) [] mk a).1 z ∧
      (∀ v, o = .returned v → z = T'.setTop { g with pc := g.pc + len, stack := v.toList ++ g.stack }) ∧ (∀ x, o = .threw x → z = (T'.setTop g).pushFrame (.throwing x)) := by
  obtain ⟨hrc, hrs, hfr, hlo, hws, hcd, hini, -, -⟩ := cy
  obtain ⟨methY, cY, hmY, hcY, hlY, -⟩ := hcd T mk X.warmed hn
  obtain ⟨kY, hkY, -⟩ := className_of_methodNamed hn
  have h3 : (Cond.initialized y.cls).before a T = true := word_at X.warmed (Or.inl (by first | rfl | simp [Cond.onTables, Cond.keeps, Cond.steady])) hini
  have hinitY : kY.init = .initialized := Cond.initialized_spec (findClass_of_methodNamed hn) hkY h3
  have h : At T g.method c below := by rw [hg]; exact X.here
  have happ : (headSpec TB rm).appliesLoose y e.platform (T.calling g mk a) = true :=
    Spec.appliesLoose_calling (g := g) h hdg hn hkY hinitY
      (X.room_calling (g := g) (R' := rm) hsize hmY hcY hfr (by rw [hlY]; omega) (by rw [hrc]; exact hf.1) (by rw [hrs]; exact hf.2)) (atoms_intro fun w hw => hws w hw _ _ X.warmed)
  obtain ⟨mid, hmid⟩ := h.above
  have hfr' : (T.setTop g).frames = (.java g :: mid) ++ below := by rw [State.frames_setTop' g h.top, hmid]; rfl
  obtain ⟨o, s₂, hsteps, -, hend, hq⟩ := Steps.callFree hM p X.admits X.cas X.clock (acts := []) hfr' happ hP trivial
  rw [State.frames_setTop' g h.top, X.tail] at hend
  obtain ⟨hQ, hW2, L, hsame, hL⟩ := hq
  cases o with
  | returned v =>
    obtain ⟨T', X', hW', hB, ht⟩ := X.outOf hg hdg hend hW2 hsame
    exact ⟨.returned v, s₂, T', L, s₂, hQ, X', hL, by rw [ht]; simp [State.setTop, State.modifyTopJava], by rw [ht]; simp [State.setTop, State.modifyTopJava], hsteps, (fun v' hv => by cases hv; exact ht), (fun x hx => by cases hx)⟩
  | threw x =>
    obtain ⟨T', X', hW', hB, ht⟩ := X.outOfThrown hg hend hW2 hsame
    exact ⟨.threw x, s₂, T', L, s₂, hQ, X', hL, by rw [ht, Stand.throwing_heap], by rw [ht, Stand.throwing_vm], hsteps, (fun v hv => by cases hv), (fun x' hx => by cases hx; exact ht)⟩
variable {Ev : State → Prop} {D : va_G} {cl : List vw_C} {a0 : Nat} {M : hMp} {post : Outcome → hMp → Prop} {vs rest st0 : List Value} {pc : Nat} {ls : Array Slot} {nL : Nat} {own : String}
theorem cx_after {T1 : State} (X : Stand p l e R s m args below meth c T1 locs cells slots) (hT : T1.heap = H) (hM : MX l y TB rm (va_Pc vs (hU Ev D cl a0 M)) (hQ D cl a0 post) mc ms (hA a0)) (cy : Cy R s args y TB rm mc ms maxL n) (hkp : hKeep a0 Ev) (C : Cx TB Ev a0 p s m c cc nL own)
    (hV : hv D cl a0 M H) (hS : va_S (hA a0) s.heap H locs) (hsize : ls.size = nL) {ig : Instr} (hdg : decode cc pc = .ok (ig, 3)) (hW : (rest.map fun v => v.category).sum ≤ 8) {mk : MethodId} (hn : T1.methodNamed? y = some mk) (hf : cells + mc ≤ R.cells ∧ slots + ms ≤ R.slots)
    (kr : ∀ (v : Option Value) (M' : hMp) (H1 : Heap) (locs1 : List Loc), post (.returned v) M' → hv D cl a0 M' H1 → va_S (hA a0) s.heap H1 locs1 → W p l e R s m args below meth c H1 locs1 (cells + mc) (slots + ms) Q (F0 m (pc + 3) ls (v.toList ++ rest)))
    (kt : ∀ (x : Addr) (M' : hMp) (H1 : Heap) (locs1 : List Loc), post (.threw x) M' → hv D cl a0 M' H1 → va_S (hA a0) s.heap H1 locs1 → WT p l e R s m args below meth c H1 locs1 (cells + mc) (slots + ms) Q x (F0 m pc ls rest)) :
    ∃ t, Steps p.tables e below (doInvoke e (T1.setTop (F0 m pc ls rest)) [] mk vs.toArray).1 t ∧ Q t := by
  obtain ⟨hx, hb, hml, hown, hws, hev, h0⟩ := C
  have hkeep : ∀ q, q < a0 → T1.heap[q]? = s.heap[q]? := fun q hq => by rw [hT]; exact hS.2.1 q (Nat.lt_of_lt_of_le hq h0) (Nat.not_le.mpr hq)
  have hPc : va_Pc vs (hU Ev D cl a0 M) vs.toArray (T1.calling (F0 m pc ls rest) mk vs.toArray) :=
    ⟨rfl, hkp s _ hev X.warmed hkeep, by show a0 ≤ T1.heap.size; rw [hT]; exact Nat.le_trans h0 hS.1, by show hv D cl a0 M T1.heap; rw [hT]; exact hV⟩
  obtain ⟨o, t, T', L, z, hq, X', hL, e1, e2, hst, hz1, hz2⟩ := cx_core X hM cy (g := F0 m pc ls rest) rfl (hsize.trans hml.symm) (by rw [hb]; exact hdg) (by show 2 * 0 + (rest.map fun v => v.category).sum ≤ 8; omega) hn hf hPc
  obtain ⟨⟨M', hp, hV'⟩, hz, hk⟩ := hq
  have hH : (T1.calling (F0 m pc ls rest) mk vs.toArray).heap = H := hT
  rw [hH] at hz hk
  have hS' : va_S (hA a0) s.heap T'.heap (locs ++ L) := ⟨Nat.le_trans hS.1 (by rw [e1]; exact hz), fun q h1 h2 => by rw [e1, hk q (Nat.lt_of_lt_of_le h1 hS.1) h2]; exact hS.2.1 q h1 h2, fun q hq => by
      rcases List.mem_append.mp hq with h | h
      · exact hS.2.2 q h
      · exact hL q h⟩
  cases o with
  | returned v =>
    obtain ⟨t2, a1, b1⟩ := kr v M' T'.heap _ hp (by rw [e1]; exact hV') hS' T' rfl X'
    rw [hz1 v rfl] at hst
    exact ⟨t2, hst.trans a1, b1⟩
  | threw x =>
    obtain ⟨t2, a1, b1⟩ := kt x M' T'.heap _ hp (by rw [e1]; exact hV') hS' T' rfl X'
    rw [hz2 x rfl] at hst
    exact ⟨t2, hst.trans a1, b1⟩
theorem cx_V {C host : String} {index : Nat} {b : Addr} {As : List Value} (C0 : Cx TB Ev a0 p s m c cc nL own) (hkp : hKeep a0 Ev) (hM : MX l y TB rm (va_Pc (.ref b :: As) (hU Ev D cl a0 M)) (hQ D cl a0 post) mc ms (hA a0)) (cy : Cy R s args y TB rm mc ms maxL n)
    (hlink : (Cond.methodLink own index y).before args s = true) (hinst : Cond.instanceMethod y ∈ TB) (hsel : (Cond.selects C y y).before args s = true) (hV : hv D cl a0 M H) (hS : va_S (hA a0) s.heap H locs) (hrecv : ∃ cellB : Cell, H[b]? = some cellB ∧ cellB.vm.isStatics = false ∧ s.vm.findClass C = some cellB.cls)
    (hn : As.length = n) (hsize : ls.size = nL) (hstack : st0 = As.reverse ++ .ref b :: rest) (hW : (rest.map fun v => v.category).sum ≤ 8) (hdg : decode cc pc = .ok (.invokevirtual index, 3)) (hf : cells + mc ≤ R.cells ∧ slots + ms ≤ R.slots)
    (kr : ∀ (v : Option Value) (M' : hMp) (H1 : Heap) (locs1 : List Loc), post (.returned v) M' → hv D cl a0 M' H1 → va_S (hA a0) s.heap H1 locs1 → W p l e R s m args below meth c H1 locs1 (cells + mc) (slots + ms) Q (F0 m (pc + 3) ls (v.toList ++ rest)))
    (kt : ∀ (x : Addr) (M' : hMp) (H1 : Heap) (locs1 : List Loc), post (.threw x) M' → hv D cl a0 M' H1 → va_S (hA a0) s.heap H1 locs1 → WT p l e R s m args below meth c H1 locs1 (cells + mc) (slots + ms) Q x (F0 m pc ls rest)) :
    W p l e R s m args below meth c H locs cells slots Q (F0 m pc ls st0) := by
  subst hstack
  obtain ⟨hx, hb, hml, hown, hws, hev, h0⟩ := id C0
  obtain ⟨-, -, -, -, -, hcd, -, hy, hlen⟩ := id cy
  obtain ⟨cellB, hcB, hoB, hcls⟩ := hrecv
  intro T hT X
  obtain ⟨mk, methM, hnamed, hmethM, hstM, habM⟩ := Cond.instanceMethod_spec (hws _ hinst args s (State.WarmedH.refl s))
  obtain ⟨methM', cM, hmethM', -, -, hsigM⟩ := hcd s mk (State.WarmedH.refl s) hnamed
  cases hmethM.symm.trans hmethM'
  obtain ⟨c2, r2, m2, q1, q2, q3, q4, kP, hkP, hkPi⟩ := Cond.selects_spec hsel
  cases hcls.symm.trans q1
  cases (State.methodFound?_of_named hnamed hy).symm.trans q2
  cases hnamed.symm.trans q3
  have hselP : selectMethod e.platform s.vm cellB.cls mk = .method mk := by rw [Launch.admits_selectMethod X.admits]; exact q4
  obtain ⟨vm₁, X₁, hstep₁⟩ := X.invokevirtual hx hown hlink hnamed hmethM hstM hkP hkPi hy (a := b) (cell := cellB) (by rw [hT]; exact hcB)
    (fun z h => by rw [h] at hoB; cases hoB) hselP hmethM habM hkP hkPi (g := F0 m pc ls (As.reverse ++ .ref b :: rest)) rfl (argsL := As) (rest := rest) (hn.trans (hlen _ hsigM)) rfl (by rw [hb]; exact hdg)
  obtain ⟨t, a1, b1⟩ := cx_after (H := H) X₁ hT hM cy hkp C0 hV hS hsize hdg hW (X₁.named hnamed) hf kr kt
  exact ⟨t, hstep₁ _ fun acts => by rw [doInvoke_state]; exact a1, b1⟩
theorem cx_VN {C host : String} {index : Nat} {b : Addr} {As : List Value} (C0 : Cx TB Ev a0 p s m c cc nL own) (hkp : hKeep a0 Ev) (hM : MX l y TB rm (va_Pc (.ref b :: As) (hU Ev D cl a0 M)) (hQ D cl a0 post) mc ms (hA a0)) (cy : Cy R s args y TB rm mc ms maxL n)
    (hlink : (Cond.methodLinkNest own index y host).before args s = true) (hinst : Cond.instanceMethod y ∈ TB) (hsel : (Cond.selects C y y).before args s = true) (hV : hv D cl a0 M H) (hS : va_S (hA a0) s.heap H locs) (hrecv : ∃ cellB : Cell, H[b]? = some cellB ∧ cellB.vm.isStatics = false ∧ s.vm.findClass C = some cellB.cls)
    (hn : As.length = n) (hsize : ls.size = nL) (hstack : st0 = As.reverse ++ .ref b :: rest) (hW : (rest.map fun v => v.category).sum ≤ 8) (hdg : decode cc pc = .ok (.invokevirtual index, 3)) (hf : cells + mc ≤ R.cells ∧ slots + ms ≤ R.slots)
    (kr : ∀ (v : Option Value) (M' : hMp) (H1 : Heap) (locs1 : List Loc), post (.returned v) M' → hv D cl a0 M' H1 → va_S (hA a0) s.heap H1 locs1 → W p l e R s m args below meth c H1 locs1 (cells + mc) (slots + ms) Q (F0 m (pc + 3) ls (v.toList ++ rest)))
    (kt : ∀ (x : Addr) (M' : hMp) (H1 : Heap) (locs1 : List Loc), post (.threw x) M' → hv D cl a0 M' H1 → va_S (hA a0) s.heap H1 locs1 → WT p l e R s m args below meth c H1 locs1 (cells + mc) (slots + ms) Q x (F0 m pc ls rest)) :
    W p l e R s m args below meth c H locs cells slots Q (F0 m pc ls st0) := by
  subst hstack
  obtain ⟨hx, hb, hml, hown, hws, hev, h0⟩ := id C0
  obtain ⟨-, -, -, -, -, hcd, -, hy, hlen⟩ := id cy
  obtain ⟨cellB, hcB, hoB, hcls⟩ := hrecv
  intro T hT X
  obtain ⟨mk, methM, hnamed, hmethM, hstM, habM⟩ := Cond.instanceMethod_spec (hws _ hinst args s (State.WarmedH.refl s))
  obtain ⟨methM', cM, hmethM', -, -, hsigM⟩ := hcd s mk (State.WarmedH.refl s) hnamed
  cases hmethM.symm.trans hmethM'
  obtain ⟨c2, r2, m2, q1, q2, q3, q4, kP, hkP, hkPi⟩ := Cond.selects_spec hsel
  cases hcls.symm.trans q1
  cases (State.methodFound?_of_named hnamed hy).symm.trans q2
  cases hnamed.symm.trans q3
  have hselP : selectMethod e.platform s.vm cellB.cls mk = .method mk := by rw [Launch.admits_selectMethod X.admits]; exact q4
  obtain ⟨vm₁, X₁, hstep₁⟩ := X.invokevirtualNest hx hown hlink hnamed hmethM hstM hkP hkPi hy (a := b) (cell := cellB) (by rw [hT]; exact hcB)
    (fun z h => by rw [h] at hoB; cases hoB) hselP hmethM habM hkP hkPi (g := F0 m pc ls (As.reverse ++ .ref b :: rest)) rfl (argsL := As) (rest := rest) (hn.trans (hlen _ hsigM)) rfl (by rw [hb]; exact hdg)
  obtain ⟨t, a1, b1⟩ := cx_after (H := H) X₁ hT hM cy hkp C0 hV hS hsize hdg hW (X₁.named hnamed) hf kr kt
  exact ⟨t, hstep₁ _ fun acts => by rw [doInvoke_state]; exact a1, b1⟩
theorem cx_S {host : String} {index : Nat} (C0 : Cx TB Ev a0 p s m c cc nL own) (hkp : hKeep a0 Ev) (hM : MX l y TB rm (va_Pc vs (hU Ev D cl a0 M)) (hQ D cl a0 post) mc ms (hA a0)) (cy : Cy R s args y TB rm mc ms maxL n)
    (hlink : (Cond.methodLink own index y).before args s = true) (hstat : Cond.static y ∈ TB) (hV : hv D cl a0 M H) (hS : va_S (hA a0) s.heap H locs) {mk0 : MethodId} (hnamed : s.methodNamed? y = some mk0)
    (hn : vs.length = n) (hsize : ls.size = nL) (hstack : st0 = vs.reverse ++ rest) (hW : (rest.map fun v => v.category).sum ≤ 8) (hdg : decode cc pc = .ok (.invokestatic index, 3)) (hf : cells + mc ≤ R.cells ∧ slots + ms ≤ R.slots)
    (kr : ∀ (v : Option Value) (M' : hMp) (H1 : Heap) (locs1 : List Loc), post (.returned v) M' → hv D cl a0 M' H1 → va_S (hA a0) s.heap H1 locs1 → W p l e R s m args below meth c H1 locs1 (cells + mc) (slots + ms) Q (F0 m (pc + 3) ls (v.toList ++ rest)))
    (kt : ∀ (x : Addr) (M' : hMp) (H1 : Heap) (locs1 : List Loc), post (.threw x) M' → hv D cl a0 M' H1 → va_S (hA a0) s.heap H1 locs1 → WT p l e R s m args below meth c H1 locs1 (cells + mc) (slots + ms) Q x (F0 m pc ls rest)) :
    W p l e R s m args below meth c H locs cells slots Q (F0 m pc ls st0) := by
  subst hstack
  obtain ⟨hx, hb, hml, hown, hws, hev, h0⟩ := id C0
  obtain ⟨-, -, -, -, -, hcd, hini, hy, hlen⟩ := id cy
  intro T hT X
  obtain ⟨methM, cM, hmethM, -, -, hsigM⟩ := hcd s mk0 (State.WarmedH.refl s) hnamed
  have hstatic : methM.isStatic = true := Cond.static_spec hnamed hmethM (hws _ hstat args s (State.WarmedH.refl s))
  obtain ⟨kP, hkP, -⟩ := className_of_methodNamed hnamed
  have hinitP : kP.init = .initialized := Cond.initialized_spec (findClass_of_methodNamed hnamed) hkP hini
  obtain ⟨vm₁, X₁, hstep₁⟩ := X.invokestatic hx hown hlink hnamed hmethM hstatic hkP hinitP hy (g := F0 m pc ls (vs.reverse ++ rest)) rfl (argsL := vs) (rest := rest) (hn.trans (hlen _ hsigM)) rfl (by rw [hb]; exact hdg)
  obtain ⟨t, a1, b1⟩ := cx_after (H := H) X₁ hT hM cy hkp C0 hV hS hsize hdg hW (X₁.named hnamed) hf kr kt
  exact ⟨t, hstep₁ _ fun acts => by rw [doInvoke_state]; exact a1, b1⟩
theorem cx_SN {host : String} {index : Nat} (C0 : Cx TB Ev a0 p s m c cc nL own) (hkp : hKeep a0 Ev) (hM : MX l y TB rm (va_Pc vs (hU Ev D cl a0 M)) (hQ D cl a0 post) mc ms (hA a0)) (cy : Cy R s args y TB rm mc ms maxL n)
    (hlink : (Cond.methodLinkNest own index y host).before args s = true) (hstat : Cond.static y ∈ TB) (hV : hv D cl a0 M H) (hS : va_S (hA a0) s.heap H locs) {mk0 : MethodId} (hnamed : s.methodNamed? y = some mk0)
    (hn : vs.length = n) (hsize : ls.size = nL) (hstack : st0 = vs.reverse ++ rest) (hW : (rest.map fun v => v.category).sum ≤ 8) (hdg : decode cc pc = .ok (.invokestatic index, 3)) (hf : cells + mc ≤ R.cells ∧ slots + ms ≤ R.slots)
    (kr : ∀ (v : Option Value) (M' : hMp) (H1 : Heap) (locs1 : List Loc), post (.returned v) M' → hv D cl a0 M' H1 → va_S (hA a0) s.heap H1 locs1 → W p l e R s m args below meth c H1 locs1 (cells + mc) (slots + ms) Q (F0 m (pc + 3) ls (v.toList ++ rest)))
    (kt : ∀ (x : Addr) (M' : hMp) (H1 : Heap) (locs1 : List Loc), post (.threw x) M' → hv D cl a0 M' H1 → va_S (hA a0) s.heap H1 locs1 → WT p l e R s m args below meth c H1 locs1 (cells + mc) (slots + ms) Q x (F0 m pc ls rest)) :
    W p l e R s m args below meth c H locs cells slots Q (F0 m pc ls st0) := by
  subst hstack
  obtain ⟨hx, hb, hml, hown, hws, hev, h0⟩ := id C0
  obtain ⟨-, -, -, -, -, hcd, hini, hy, hlen⟩ := id cy
  intro T hT X
  obtain ⟨methM, cM, hmethM, -, -, hsigM⟩ := hcd s mk0 (State.WarmedH.refl s) hnamed
  have hstatic : methM.isStatic = true := Cond.static_spec hnamed hmethM (hws _ hstat args s (State.WarmedH.refl s))
  obtain ⟨kP, hkP, -⟩ := className_of_methodNamed hnamed
  have hinitP : kP.init = .initialized := Cond.initialized_spec (findClass_of_methodNamed hnamed) hkP hini
  obtain ⟨vm₁, X₁, hstep₁⟩ := X.invokestaticNest hx hown hlink hnamed hmethM hstatic hkP hinitP hy (g := F0 m pc ls (vs.reverse ++ rest)) rfl (argsL := vs) (rest := rest) (hn.trans (hlen _ hsigM)) rfl (by rw [hb]; exact hdg)
  obtain ⟨t, a1, b1⟩ := cx_after (H := H) X₁ hT hM cy hkp C0 hV hS hsize hdg hW (X₁.named hnamed) hf kr kt
  exact ⟨t, hstep₁ _ fun acts => by rw [doInvoke_state]; exact a1, b1⟩
theorem cx_I {host : String} {index : Nat} {b : Addr} {As : List Value} (C0 : Cx TB Ev a0 p s m c cc nL own) (hkp : hKeep a0 Ev) (hM : MX l y TB rm (va_Pc (.ref b :: As) (hU Ev D cl a0 M)) (hQ D cl a0 post) mc ms (hA a0)) (cy : Cy R s args y TB rm mc ms maxL n)
    (hlink : (Cond.methodLink own index y).before args s = true) (hinst : Cond.instanceMethod y ∈ TB) (hcode : Cond.code y bytes maxL none ∈ TB) (hy1 : y.name = "<init>") (hV : hv D cl a0 M H) (hS : va_S (hA a0) s.heap H locs)
    (hn : As.length = n) (hsize : ls.size = nL) (hstack : st0 = As.reverse ++ .ref b :: rest) (hW : (rest.map fun v => v.category).sum ≤ 8) (hdg : decode cc pc = .ok (.invokespecial index, 3)) (hf : cells + mc ≤ R.cells ∧ slots + ms ≤ R.slots)
    (kr : ∀ (v : Option Value) (M' : hMp) (H1 : Heap) (locs1 : List Loc), post (.returned v) M' → hv D cl a0 M' H1 → va_S (hA a0) s.heap H1 locs1 → W p l e R s m args below meth c H1 locs1 (cells + mc) (slots + ms) Q (F0 m (pc + 3) ls (v.toList ++ rest)))
    (kt : ∀ (x : Addr) (M' : hMp) (H1 : Heap) (locs1 : List Loc), post (.threw x) M' → hv D cl a0 M' H1 → va_S (hA a0) s.heap H1 locs1 → WT p l e R s m args below meth c H1 locs1 (cells + mc) (slots + ms) Q x (F0 m pc ls rest)) :
    W p l e R s m args below meth c H locs cells slots Q (F0 m pc ls st0) := by
  subst hstack
  obtain ⟨hx, hb, hml, hown, hws, hev, h0⟩ := id C0
  obtain ⟨-, -, -, -, -, hcd, hini, hy, hlen⟩ := id cy
  intro T hT X
  have hpl : e.platform.magicAccessors = ({} : Platform).magicAccessors := by rw [X.admits.platform]
  obtain ⟨mk, methM, cM, kP, vm₁, hnamed, hmethM, hcodeM, -, hlocalsM, -, hkP, -, hW₁, hstep₁⟩ := Steps.initColdArgs (e := e) X.here hx X.warmed hpl hown hy1 hy hlink (hws _ hinst args s (State.WarmedH.refl s)) (hws _ hcode args s (State.WarmedH.refl s)) (f := F0 m pc ls (As.reverse ++ .ref b :: rest)) rfl (argsL := As) (rest := rest) (a := b) (fun sig h => hn.trans (hlen sig h)) rfl (by rw [hb]; exact hdg)
  have X₁ := X.noted hW₁
  obtain ⟨t, a1, b1⟩ := cx_after (H := H) X₁ hT hM cy hkp C0 hV hS hsize hdg hW (X₁.named hnamed) hf kr kt
  exact ⟨t, hstep₁ _ fun acts => by rw [doInvoke_state]; exact a1, b1⟩
theorem cx_IN {host : String} {index : Nat} {b : Addr} {As : List Value} (C0 : Cx TB Ev a0 p s m c cc nL own) (hkp : hKeep a0 Ev) (hM : MX l y TB rm (va_Pc (.ref b :: As) (hU Ev D cl a0 M)) (hQ D cl a0 post) mc ms (hA a0)) (cy : Cy R s args y TB rm mc ms maxL n)
    (hlink : (Cond.methodLinkNest own index y host).before args s = true) (hinst : Cond.instanceMethod y ∈ TB) (hcode : Cond.code y bytes maxL none ∈ TB) (hy1 : y.name = "<init>") (hV : hv D cl a0 M H) (hS : va_S (hA a0) s.heap H locs)
    (hn : As.length = n) (hsize : ls.size = nL) (hstack : st0 = As.reverse ++ .ref b :: rest) (hW : (rest.map fun v => v.category).sum ≤ 8) (hdg : decode cc pc = .ok (.invokespecial index, 3)) (hf : cells + mc ≤ R.cells ∧ slots + ms ≤ R.slots)
    (kr : ∀ (v : Option Value) (M' : hMp) (H1 : Heap) (locs1 : List Loc), post (.returned v) M' → hv D cl a0 M' H1 → va_S (hA a0) s.heap H1 locs1 → W p l e R s m args below meth c H1 locs1 (cells + mc) (slots + ms) Q (F0 m (pc + 3) ls (v.toList ++ rest)))
    (kt : ∀ (x : Addr) (M' : hMp) (H1 : Heap) (locs1 : List Loc), post (.threw x) M' → hv D cl a0 M' H1 → va_S (hA a0) s.heap H1 locs1 → WT p l e R s m args below meth c H1 locs1 (cells + mc) (slots + ms) Q x (F0 m pc ls rest)) :
    W p l e R s m args below meth c H locs cells slots Q (F0 m pc ls st0) := by
  subst hstack
  obtain ⟨hx, hb, hml, hown, hws, hev, h0⟩ := id C0
  obtain ⟨-, -, -, -, -, hcd, hini, hy, hlen⟩ := id cy
  intro T hT X
  have hpl : e.platform.magicAccessors = ({} : Platform).magicAccessors := by rw [X.admits.platform]
  obtain ⟨mk, methM, cM, kP, vm₁, hnamed, hmethM, hcodeM, -, hlocalsM, -, hkP, -, hW₁, hstep₁⟩ := Steps.initColdArgsNest (e := e) X.here hx X.warmed hpl hown hy1 hy hlink (hws _ hinst args s (State.WarmedH.refl s)) (hws _ hcode args s (State.WarmedH.refl s)) (f := F0 m pc ls (As.reverse ++ .ref b :: rest)) rfl (argsL := As) (rest := rest) (a := b) (fun sig h => hn.trans (hlen sig h)) rfl (by rw [hb]; exact hdg)
  have X₁ := X.noted hW₁
  obtain ⟨t, a1, b1⟩ := cx_after (H := H) X₁ hT hM cy hkp C0 hV hS hsize hdg hW (X₁.named hnamed) hf kr kt
  exact ⟨t, hstep₁ _ fun acts => by rw [doInvoke_state]; exact a1, b1⟩
theorem cx_afterR {rpost : Option Value → Prop} {ex : Nat → Prop} {T1 : State} (X : Stand p l e R s m args below meth c T1 locs cells slots) (hT : T1.heap = H) (hM : MX l y TB rm (va_Pc vs (hU Ev D cl a0 M)) (hR D cl a0 M rpost ex) mc ms (fun _ => False)) (cy : Cy R s args y TB rm mc ms maxL n) (hkp : hKeep a0 Ev) (C : Cx TB Ev a0 p s m c cc nL own)
    (hV : hv D cl a0 M H) (hS : va_S (hA a0) s.heap H locs) (hsize : ls.size = nL) {ig : Instr} (hdg : decode cc pc = .ok (ig, 3)) (hW : (rest.map fun v => v.category).sum ≤ 8) {mk : MethodId} (hn : T1.methodNamed? y = some mk) (hf : cells + mc ≤ R.cells ∧ slots + ms ≤ R.slots)
    (kr : ∀ v : Option Value, rpost v → W p l e R s m args below meth c H locs (cells + mc) (slots + ms) Q (F0 m (pc + 3) ls (v.toList ++ rest)))
    (kt : ∀ (x ci : Nat) (H1 : Heap), ex ci → M x = none → hv D cl a0 (va_up M x (some (.inr (ci, [])))) H1 → va_S (hA a0) s.heap H1 locs → WT p l e R s m args below meth c H1 locs (cells + mc) (slots + ms) Q x (F0 m pc ls rest)) :
    ∃ t, Steps p.tables e below (doInvoke e (T1.setTop (F0 m pc ls rest)) [] mk vs.toArray).1 t ∧ Q t := by
  obtain ⟨hx, hb, hml, hown, hws, hev, h0⟩ := C
  have hkeep : ∀ q, q < a0 → T1.heap[q]? = s.heap[q]? := fun q hq => by rw [hT]; exact hS.2.1 q (Nat.lt_of_lt_of_le hq h0) (Nat.not_le.mpr hq)
  have hPc : va_Pc vs (hU Ev D cl a0 M) vs.toArray (T1.calling (F0 m pc ls rest) mk vs.toArray) :=
    ⟨rfl, hkp s _ hev X.warmed hkeep, by show a0 ≤ T1.heap.size; rw [hT]; exact Nat.le_trans h0 hS.1, by show hv D cl a0 M T1.heap; rw [hT]; exact hV⟩
  obtain ⟨o, t, T', L, z, hq, X', hL, e1, e2, hst, hz1, hz2⟩ := cx_core X hM cy (g := F0 m pc ls rest) rfl (hsize.trans hml.symm) (by rw [hb]; exact hdg) (by show 2 * 0 + (rest.map fun v => v.category).sum ≤ 8; omega) hn hf hPc
  have hL0 : L = [] := List.eq_nil_iff_forall_not_mem.mpr (fun q hq' => hL q hq')
  subst hL0
  rw [List.append_nil] at X'
  have hH : (T1.calling (F0 m pc ls rest) mk vs.toArray).heap = H := hT
  rcases hq with ⟨v, hv1, hp, hh⟩ | ⟨x, ci, hv1, hp, hMx, hV', hz, hk⟩
  · subst hv1
    rw [hH] at hh
    obtain ⟨t2, a1, b1⟩ := kr v hp T' (e1.trans hh) X'
    rw [hz1 v rfl] at hst
    exact ⟨t2, hst.trans a1, b1⟩
  · subst hv1
    rw [hH] at hz hk
    obtain ⟨t2, a1, b1⟩ := kt x ci T'.heap hp hMx (by rw [e1]; exact hV') ⟨Nat.le_trans hS.1 (by rw [e1]; exact hz), fun q h1 h2 => by rw [e1, hk q (Nat.lt_of_lt_of_le h1 hS.1) h2]; exact hS.2.1 q h1 h2, hS.2.2⟩ T' rfl X'
    rw [hz2 x rfl] at hst
    exact ⟨t2, hst.trans a1, b1⟩
variable {rpost : Option Value → Prop} {ex : Nat → Prop}
theorem cr_V {C host : String} {index : Nat} {b : Addr} {As : List Value} (C0 : Cx TB Ev a0 p s m c cc nL own) (hkp : hKeep a0 Ev) (hM : MX l y TB rm (va_Pc (.ref b :: As) (hU Ev D cl a0 M)) (hR D cl a0 M rpost ex) mc ms (fun _ => False)) (cy : Cy R s args y TB rm mc ms maxL n)
    (hlink : (Cond.methodLink own index y).before args s = true) (hinst : Cond.instanceMethod y ∈ TB) (hsel : (Cond.selects C y y).before args s = true) (hV : hv D cl a0 M H) (hS : va_S (hA a0) s.heap H locs) (hrecv : ∃ cellB : Cell, H[b]? = some cellB ∧ cellB.vm.isStatics = false ∧ s.vm.findClass C = some cellB.cls)
    (hn : As.length = n) (hsize : ls.size = nL) (hstack : st0 = As.reverse ++ .ref b :: rest) (hW : (rest.map fun v => v.category).sum ≤ 8) (hdg : decode cc pc = .ok (.invokevirtual index, 3)) (hf : cells + mc ≤ R.cells ∧ slots + ms ≤ R.slots)
    (kr : ∀ v : Option Value, rpost v → W p l e R s m args below meth c H locs (cells + mc) (slots + ms) Q (F0 m (pc + 3) ls (v.toList ++ rest)))
    (kt : ∀ (x ci : Nat) (H1 : Heap), ex ci → M x = none → hv D cl a0 (va_up M x (some (.inr (ci, [])))) H1 → va_S (hA a0) s.heap H1 locs → WT p l e R s m args below meth c H1 locs (cells + mc) (slots + ms) Q x (F0 m pc ls rest)) :
    W p l e R s m args below meth c H locs cells slots Q (F0 m pc ls st0) := by
  subst hstack
  obtain ⟨hx, hb, hml, hown, hws, hev, h0⟩ := id C0
  obtain ⟨-, -, -, -, -, hcd, -, hy, hlen⟩ := id cy
  obtain ⟨cellB, hcB, hoB, hcls⟩ := hrecv
  intro T hT X
  obtain ⟨mk, methM, hnamed, hmethM, hstM, habM⟩ := Cond.instanceMethod_spec (hws _ hinst args s (State.WarmedH.refl s))
  obtain ⟨methM', cM, hmethM', -, -, hsigM⟩ := hcd s mk (State.WarmedH.refl s) hnamed
  cases hmethM.symm.trans hmethM'
  obtain ⟨c2, r2, m2, q1, q2, q3, q4, kP, hkP, hkPi⟩ := Cond.selects_spec hsel
  cases hcls.symm.trans q1
  cases (State.methodFound?_of_named hnamed hy).symm.trans q2
  cases hnamed.symm.trans q3
  have hselP : selectMethod e.platform s.vm cellB.cls mk = .method mk := by rw [Launch.admits_selectMethod X.admits]; exact q4
  obtain ⟨vm₁, X₁, hstep₁⟩ := X.invokevirtual hx hown hlink hnamed hmethM hstM hkP hkPi hy (a := b) (cell := cellB) (by rw [hT]; exact hcB)
    (fun z h => by rw [h] at hoB; cases hoB) hselP hmethM habM hkP hkPi (g := F0 m pc ls (As.reverse ++ .ref b :: rest)) rfl (argsL := As) (rest := rest) (hn.trans (hlen _ hsigM)) rfl (by rw [hb]; exact hdg)
  obtain ⟨t, a1, b1⟩ := cx_afterR (H := H) X₁ hT hM cy hkp C0 hV hS hsize hdg hW (X₁.named hnamed) hf kr kt
  exact ⟨t, hstep₁ _ fun acts => by rw [doInvoke_state]; exact a1, b1⟩
theorem cr_VN {C host : String} {index : Nat} {b : Addr} {As : List Value} (C0 : Cx TB Ev a0 p s m c cc nL own) (hkp : hKeep a0 Ev) (hM : MX l y TB rm (va_Pc (.ref b :: As) (hU Ev D cl a0 M)) (hR D cl a0 M rpost ex) mc ms (fun _ => False)) (cy : Cy R s args y TB rm mc ms maxL n)
    (hlink : (Cond.methodLinkNest own index y host).before args s = true) (hinst : Cond.instanceMethod y ∈ TB) (hsel : (Cond.selects C y y).before args s = true) (hV : hv D cl a0 M H) (hS : va_S (hA a0) s.heap H locs) (hrecv : ∃ cellB : Cell, H[b]? = some cellB ∧ cellB.vm.isStatics = false ∧ s.vm.findClass C = some cellB.cls)
    (hn : As.length = n) (hsize : ls.size = nL) (hstack : st0 = As.reverse ++ .ref b :: rest) (hW : (rest.map fun v => v.category).sum ≤ 8) (hdg : decode cc pc = .ok (.invokevirtual index, 3)) (hf : cells + mc ≤ R.cells ∧ slots + ms ≤ R.slots)
    (kr : ∀ v : Option Value, rpost v → W p l e R s m args below meth c H locs (cells + mc) (slots + ms) Q (F0 m (pc + 3) ls (v.toList ++ rest)))
    (kt : ∀ (x ci : Nat) (H1 : Heap), ex ci → M x = none → hv D cl a0 (va_up M x (some (.inr (ci, [])))) H1 → va_S (hA a0) s.heap H1 locs → WT p l e R s m args below meth c H1 locs (cells + mc) (slots + ms) Q x (F0 m pc ls rest)) :
    W p l e R s m args below meth c H locs cells slots Q (F0 m pc ls st0) := by
  subst hstack
  obtain ⟨hx, hb, hml, hown, hws, hev, h0⟩ := id C0
  obtain ⟨-, -, -, -, -, hcd, -, hy, hlen⟩ := id cy
  obtain ⟨cellB, hcB, hoB, hcls⟩ := hrecv
  intro T hT X
  obtain ⟨mk, methM, hnamed, hmethM, hstM, habM⟩ := Cond.instanceMethod_spec (hws _ hinst args s (State.WarmedH.refl s))
  obtain ⟨methM', cM, hmethM', -, -, hsigM⟩ := hcd s mk (State.WarmedH.refl s) hnamed
  cases hmethM.symm.trans hmethM'
  obtain ⟨c2, r2, m2, q1, q2, q3, q4, kP, hkP, hkPi⟩ := Cond.selects_spec hsel
  cases hcls.symm.trans q1
  cases (State.methodFound?_of_named hnamed hy).symm.trans q2
  cases hnamed.symm.trans q3
  have hselP : selectMethod e.platform s.vm cellB.cls mk = .method mk := by rw [Launch.admits_selectMethod X.admits]; exact q4
  obtain ⟨vm₁, X₁, hstep₁⟩ := X.invokevirtualNest hx hown hlink hnamed hmethM hstM hkP hkPi hy (a := b) (cell := cellB) (by rw [hT]; exact hcB)
    (fun z h => by rw [h] at hoB; cases hoB) hselP hmethM habM hkP hkPi (g := F0 m pc ls (As.reverse ++ .ref b :: rest)) rfl (argsL := As) (rest := rest) (hn.trans (hlen _ hsigM)) rfl (by rw [hb]; exact hdg)
  obtain ⟨t, a1, b1⟩ := cx_afterR (H := H) X₁ hT hM cy hkp C0 hV hS hsize hdg hW (X₁.named hnamed) hf kr kt
  exact ⟨t, hstep₁ _ fun acts => by rw [doInvoke_state]; exact a1, b1⟩
theorem cr_S {host : String} {index : Nat} (C0 : Cx TB Ev a0 p s m c cc nL own) (hkp : hKeep a0 Ev) (hM : MX l y TB rm (va_Pc vs (hU Ev D cl a0 M)) (hR D cl a0 M rpost ex) mc ms (fun _ => False)) (cy : Cy R s args y TB rm mc ms maxL n)
    (hlink : (Cond.methodLink own index y).before args s = true) (hstat : Cond.static y ∈ TB) (hV : hv D cl a0 M H) (hS : va_S (hA a0) s.heap H locs) {mk0 : MethodId} (hnamed : s.methodNamed? y = some mk0)
    (hn : vs.length = n) (hsize : ls.size = nL) (hstack : st0 = vs.reverse ++ rest) (hW : (rest.map fun v => v.category).sum ≤ 8) (hdg : decode cc pc = .ok (.invokestatic index, 3)) (hf : cells + mc ≤ R.cells ∧ slots + ms ≤ R.slots)
    (kr : ∀ v : Option Value, rpost v → W p l e R s m args below meth c H locs (cells + mc) (slots + ms) Q (F0 m (pc + 3) ls (v.toList ++ rest)))
    (kt : ∀ (x ci : Nat) (H1 : Heap), ex ci → M x = none → hv D cl a0 (va_up M x (some (.inr (ci, [])))) H1 → va_S (hA a0) s.heap H1 locs → WT p l e R s m args below meth c H1 locs (cells + mc) (slots + ms) Q x (F0 m pc ls rest)) :
    W p l e R s m args below meth c H locs cells slots Q (F0 m pc ls st0) := by
  subst hstack
  obtain ⟨hx, hb, hml, hown, hws, hev, h0⟩ := id C0
  obtain ⟨-, -, -, -, -, hcd, hini, hy, hlen⟩ := id cy
  intro T hT X
  obtain ⟨methM, cM, hmethM, -, -, hsigM⟩ := hcd s mk0 (State.WarmedH.refl s) hnamed
  have hstatic : methM.isStatic = true := Cond.static_spec hnamed hmethM (hws _ hstat args s (State.WarmedH.refl s))
  obtain ⟨kP, hkP, -⟩ := className_of_methodNamed hnamed
  have hinitP : kP.init = .initialized := Cond.initialized_spec (findClass_of_methodNamed hnamed) hkP hini
  obtain ⟨vm₁, X₁, hstep₁⟩ := X.invokestatic hx hown hlink hnamed hmethM hstatic hkP hinitP hy (g := F0 m pc ls (vs.reverse ++ rest)) rfl (argsL := vs) (rest := rest) (hn.trans (hlen _ hsigM)) rfl (by rw [hb]; exact hdg)
  obtain ⟨t, a1, b1⟩ := cx_afterR (H := H) X₁ hT hM cy hkp C0 hV hS hsize hdg hW (X₁.named hnamed) hf kr kt
  exact ⟨t, hstep₁ _ fun acts => by rw [doInvoke_state]; exact a1, b1⟩
theorem cr_SN {host : String} {index : Nat} (C0 : Cx TB Ev a0 p s m c cc nL own) (hkp : hKeep a0 Ev) (hM : MX l y TB rm (va_Pc vs (hU Ev D cl a0 M)) (hR D cl a0 M rpost ex) mc ms (fun _ => False)) (cy : Cy R s args y TB rm mc ms maxL n)
    (hlink : (Cond.methodLinkNest own index y host).before args s = true) (hstat : Cond.static y ∈ TB) (hV : hv D cl a0 M H) (hS : va_S (hA a0) s.heap H locs) {mk0 : MethodId} (hnamed : s.methodNamed? y = some mk0)
    (hn : vs.length = n) (hsize : ls.size = nL) (hstack : st0 = vs.reverse ++ rest) (hW : (rest.map fun v => v.category).sum ≤ 8) (hdg : decode cc pc = .ok (.invokestatic index, 3)) (hf : cells + mc ≤ R.cells ∧ slots + ms ≤ R.slots)
    (kr : ∀ v : Option Value, rpost v → W p l e R s m args below meth c H locs (cells + mc) (slots + ms) Q (F0 m (pc + 3) ls (v.toList ++ rest)))
    (kt : ∀ (x ci : Nat) (H1 : Heap), ex ci → M x = none → hv D cl a0 (va_up M x (some (.inr (ci, [])))) H1 → va_S (hA a0) s.heap H1 locs → WT p l e R s m args below meth c H1 locs (cells + mc) (slots + ms) Q x (F0 m pc ls rest)) :
    W p l e R s m args below meth c H locs cells slots Q (F0 m pc ls st0) := by
  subst hstack
  obtain ⟨hx, hb, hml, hown, hws, hev, h0⟩ := id C0
  obtain ⟨-, -, -, -, -, hcd, hini, hy, hlen⟩ := id cy
  intro T hT X
  obtain ⟨methM, cM, hmethM, -, -, hsigM⟩ := hcd s mk0 (State.WarmedH.refl s) hnamed
  have hstatic : methM.isStatic = true := Cond.static_spec hnamed hmethM (hws _ hstat args s (State.WarmedH.refl s))
  obtain ⟨kP, hkP, -⟩ := className_of_methodNamed hnamed
  have hinitP : kP.init = .initialized := Cond.initialized_spec (findClass_of_methodNamed hnamed) hkP hini
  obtain ⟨vm₁, X₁, hstep₁⟩ := X.invokestaticNest hx hown hlink hnamed hmethM hstatic hkP hinitP hy (g := F0 m pc ls (vs.reverse ++ rest)) rfl (argsL := vs) (rest := rest) (hn.trans (hlen _ hsigM)) rfl (by rw [hb]; exact hdg)
  obtain ⟨t, a1, b1⟩ := cx_afterR (H := H) X₁ hT hM cy hkp C0 hV hS hsize hdg hW (X₁.named hnamed) hf kr kt
  exact ⟨t, hstep₁ _ fun acts => by rw [doInvoke_state]; exact a1, b1⟩
theorem cr_I {host : String} {index : Nat} {b : Addr} {As : List Value} (C0 : Cx TB Ev a0 p s m c cc nL own) (hkp : hKeep a0 Ev) (hM : MX l y TB rm (va_Pc (.ref b :: As) (hU Ev D cl a0 M)) (hR D cl a0 M rpost ex) mc ms (fun _ => False)) (cy : Cy R s args y TB rm mc ms maxL n)
    (hlink : (Cond.methodLink own index y).before args s = true) (hinst : Cond.instanceMethod y ∈ TB) (hcode : Cond.code y bytes maxL none ∈ TB) (hy1 : y.name = "<init>") (hV : hv D cl a0 M H) (hS : va_S (hA a0) s.heap H locs)
    (hn : As.length = n) (hsize : ls.size = nL) (hstack : st0 = As.reverse ++ .ref b :: rest) (hW : (rest.map fun v => v.category).sum ≤ 8) (hdg : decode cc pc = .ok (.invokespecial index, 3)) (hf : cells + mc ≤ R.cells ∧ slots + ms ≤ R.slots)
    (kr : ∀ v : Option Value, rpost v → W p l e R s m args below meth c H locs (cells + mc) (slots + ms) Q (F0 m (pc + 3) ls (v.toList ++ rest)))
    (kt : ∀ (x ci : Nat) (H1 : Heap), ex ci → M x = none → hv D cl a0 (va_up M x (some (.inr (ci, [])))) H1 → va_S (hA a0) s.heap H1 locs → WT p l e R s m args below meth c H1 locs (cells + mc) (slots + ms) Q x (F0 m pc ls rest)) :
    W p l e R s m args below meth c H locs cells slots Q (F0 m pc ls st0) := by
  subst hstack
  obtain ⟨hx, hb, hml, hown, hws, hev, h0⟩ := id C0
  obtain ⟨-, -, -, -, -, hcd, hini, hy, hlen⟩ := id cy
  intro T hT X
  have hpl : e.platform.magicAccessors = ({} : Platform).magicAccessors := by rw [X.admits.platform]
  obtain ⟨mk, methM, cM, kP, vm₁, hnamed, hmethM, hcodeM, -, hlocalsM, -, hkP, -, hW₁, hstep₁⟩ := Steps.initColdArgs (e := e) X.here hx X.warmed hpl hown hy1 hy hlink (hws _ hinst args s (State.WarmedH.refl s)) (hws _ hcode args s (State.WarmedH.refl s)) (f := F0 m pc ls (As.reverse ++ .ref b :: rest)) rfl (argsL := As) (rest := rest) (a := b) (fun sig h => hn.trans (hlen sig h)) rfl (by rw [hb]; exact hdg)
  have X₁ := X.noted hW₁
  obtain ⟨t, a1, b1⟩ := cx_afterR (H := H) X₁ hT hM cy hkp C0 hV hS hsize hdg hW (X₁.named hnamed) hf kr kt
  exact ⟨t, hstep₁ _ fun acts => by rw [doInvoke_state]; exact a1, b1⟩
theorem cr_IN {host : String} {index : Nat} {b : Addr} {As : List Value} (C0 : Cx TB Ev a0 p s m c cc nL own) (hkp : hKeep a0 Ev) (hM : MX l y TB rm (va_Pc (.ref b :: As) (hU Ev D cl a0 M)) (hR D cl a0 M rpost ex) mc ms (fun _ => False)) (cy : Cy R s args y TB rm mc ms maxL n)
    (hlink : (Cond.methodLinkNest own index y host).before args s = true) (hinst : Cond.instanceMethod y ∈ TB) (hcode : Cond.code y bytes maxL none ∈ TB) (hy1 : y.name = "<init>") (hV : hv D cl a0 M H) (hS : va_S (hA a0) s.heap H locs)
    (hn : As.length = n) (hsize : ls.size = nL) (hstack : st0 = As.reverse ++ .ref b :: rest) (hW : (rest.map fun v => v.category).sum ≤ 8) (hdg : decode cc pc = .ok (.invokespecial index, 3)) (hf : cells + mc ≤ R.cells ∧ slots + ms ≤ R.slots)
    (kr : ∀ v : Option Value, rpost v → W p l e R s m args below meth c H locs (cells + mc) (slots + ms) Q (F0 m (pc + 3) ls (v.toList ++ rest)))
    (kt : ∀ (x ci : Nat) (H1 : Heap), ex ci → M x = none → hv D cl a0 (va_up M x (some (.inr (ci, [])))) H1 → va_S (hA a0) s.heap H1 locs → WT p l e R s m args below meth c H1 locs (cells + mc) (slots + ms) Q x (F0 m pc ls rest)) :
    W p l e R s m args below meth c H locs cells slots Q (F0 m pc ls st0) := by
  subst hstack
  obtain ⟨hx, hb, hml, hown, hws, hev, h0⟩ := id C0
  obtain ⟨-, -, -, -, -, hcd, hini, hy, hlen⟩ := id cy
  intro T hT X
  have hpl : e.platform.magicAccessors = ({} : Platform).magicAccessors := by rw [X.admits.platform]
  obtain ⟨mk, methM, cM, kP, vm₁, hnamed, hmethM, hcodeM, -, hlocalsM, -, hkP, -, hW₁, hstep₁⟩ := Steps.initColdArgsNest (e := e) X.here hx X.warmed hpl hown hy1 hy hlink (hws _ hinst args s (State.WarmedH.refl s)) (hws _ hcode args s (State.WarmedH.refl s)) (f := F0 m pc ls (As.reverse ++ .ref b :: rest)) rfl (argsL := As) (rest := rest) (a := b) (fun sig h => hn.trans (hlen sig h)) rfl (by rw [hb]; exact hdg)
  have X₁ := X.noted hW₁
  obtain ⟨t, a1, b1⟩ := cx_afterR (H := H) X₁ hT hM cy hkp C0 hV hS hsize hdg hW (X₁.named hnamed) hf kr kt
  exact ⟨t, hstep₁ _ fun acts => by rw [doInvoke_state]; exact a1, b1⟩
/-! returns -/
theorem hx_iret {v : Int32} (C0 : Cx TB Ev a0 p s m c cc nL own) (hr : meth.sig.returnType = some .int) (hlk : meth.locks = false) (hV : hv D cl a0 M H) (hS : va_S (hA a0) s.heap H locs) (hdg : decode cc pc = .ok (.ireturn, 1)) (hp : post (.returned (some (.int v))) M) :
    W p l e R s m args below meth c H locs cells slots (MQX below (hQ D cl a0 post) args s cells slots (hA a0)) (F0 m pc ls [.int v]) :=
  W.mono (fun _ h => MQ.x h) (W.iret C0.1 C0.2.1 hr (fun t ht _ => ⟨⟨M, hp, by rw [ht]; exact hV⟩, hS.F ht⟩) hS.2.2 hdg hlk)
theorem hx_zret {v : Int32} (C0 : Cx TB Ev a0 p s m c cc nL own) (hr : meth.sig.returnType = some .boolean) (hlk : meth.locks = false) (hV : hv D cl a0 M H) (hS : va_S (hA a0) s.heap H locs) (hdg : decode cc pc = .ok (.ireturn, 1)) (hn : narrow .boolean (.int v) = .int v) (hp : post (.returned (some (.int v))) M) :
    W p l e R s m args below meth c H locs cells slots (MQX below (hQ D cl a0 post) args s cells slots (hA a0)) (F0 m pc ls [.int v]) :=
  W.mono (fun _ h => MQ.x h) (W.zret C0.1 C0.2.1 hr hn (fun t ht _ => ⟨⟨M, hp, by rw [ht]; exact hV⟩, hS.F ht⟩) hS.2.2 hdg hlk)
theorem hx_vret (C0 : Cx TB Ev a0 p s m c cc nL own) (hr : meth.sig.returnType = none) (hlk : meth.locks = false) (hV : hv D cl a0 M H) (hS : va_S (hA a0) s.heap H locs) (hdg : decode cc pc = .ok (.return_, 1)) (hp : post (.returned none) M) :
    W p l e R s m args below meth c H locs cells slots (MQX below (hQ D cl a0 post) args s cells slots (hA a0)) (F0 m pc ls []) :=
  W.mono (fun _ h => MQ.x h) (W.vret C0.1 C0.2.1 hr (fun t ht _ => ⟨⟨M, hp, by rw [ht]; exact hV⟩, hS.F ht⟩) hS.2.2 hdg hlk)
theorem hx_aret {v : Value} {rt : FieldType} (C0 : Cx TB Ev a0 p s m c cc nL own) (hr : meth.sig.returnType = some rt) (hrt : (∃ n, rt = .object n) ∨ ∃ t, rt = .array t) (hvv : v = .null ∨ ∃ a, v = .ref a) (hlk : meth.locks = false) (hV : hv D cl a0 M H) (hS : va_S (hA a0) s.heap H locs) (hdg : decode cc pc = .ok (.areturn, 1)) (hp : post (.returned (some v)) M) :
    W p l e R s m args below meth c H locs cells slots (MQX below (hQ D cl a0 post) args s cells slots (hA a0)) (F0 m pc ls [v]) :=
  W.mono (fun _ h => MQ.x h) (W.aret C0.1 C0.2.1 hr hrt hvv (fun t ht _ => ⟨⟨M, hp, by rw [ht]; exact hV⟩, hS.F ht⟩) hS.2.2 hdg hlk)
theorem hx_thr {x : Addr} {st : List Value} (hxt : ∀ z ∈ c.exceptionTable.toList, ∀ pc, covers z pc = false) (hlk : meth.locks = false) (hV : hv D cl a0 M H) (hS : va_S (hA a0) s.heap H locs) (hp : post (.threw x) M) :
    WT p l e R s m args below meth c H locs cells slots (MQX below (hQ D cl a0 post) args s cells slots (hA a0)) x (F0 m pc ls st) :=
  WT.leave (fun z hz => hxt z hz _) hlk (fun t ht _ => ⟨⟨M, hp, by rw [ht]; exact hV⟩, hS.F ht⟩) hS.2.2
/-! returns of methods that only read -/
theorem hr_iret {v : Int32} (C0 : Cx TB Ev a0 p s m c cc nL own) (hr : meth.sig.returnType = some .int) (hlk : meth.locks = false) (hdg : decode cc pc = .ok (.ireturn, 1)) (hp : rpost (some (.int v))) :
    W p l e R s m args below meth c s.heap [] cells slots (MQX below (hR D cl a0 M rpost ex) args s cells slots (fun _ => False)) (F0 m pc ls [.int v]) :=
  W.mono (fun _ h => MQ.x h) (W.iret C0.1 C0.2.1 hr (fun t ht _ => Or.inl ⟨_, rfl, hp, ht⟩) (fun _ h => by cases h) hdg hlk)
theorem hr_zret {v : Int32} (C0 : Cx TB Ev a0 p s m c cc nL own) (hr : meth.sig.returnType = some .boolean) (hlk : meth.locks = false) (hdg : decode cc pc = .ok (.ireturn, 1)) (hn : narrow .boolean (.int v) = .int v) (hp : rpost (some (.int v))) :
    W p l e R s m args below meth c s.heap [] cells slots (MQX below (hR D cl a0 M rpost ex) args s cells slots (fun _ => False)) (F0 m pc ls [.int v]) :=
  W.mono (fun _ h => MQ.x h) (W.zret C0.1 C0.2.1 hr hn (fun t ht _ => Or.inl ⟨_, rfl, hp, ht⟩) (fun _ h => by cases h) hdg hlk)
theorem hr_lret {v : Int64} (C0 : Cx TB Ev a0 p s m c cc nL own) (hr : meth.sig.returnType = some .long) (hlk : meth.locks = false) (hdg : decode cc pc = .ok (.lreturn, 1)) (hp : rpost (some (.long v))) :
    W p l e R s m args below meth c s.heap [] cells slots (MQX below (hR D cl a0 M rpost ex) args s cells slots (fun _ => False)) (F0 m pc ls [.long v]) :=
  W.mono (fun _ h => MQ.x h) (W.lret C0.1 C0.2.1 hr (fun t ht _ => Or.inl ⟨_, rfl, hp, ht⟩) (fun _ h => by cases h) hdg hlk)
theorem hr_vret (C0 : Cx TB Ev a0 p s m c cc nL own) (hr : meth.sig.returnType = none) (hlk : meth.locks = false) (hdg : decode cc pc = .ok (.return_, 1)) (hp : rpost none) :
    W p l e R s m args below meth c s.heap [] cells slots (MQX below (hR D cl a0 M rpost ex) args s cells slots (fun _ => False)) (F0 m pc ls []) :=
  W.mono (fun _ h => MQ.x h) (W.vret C0.1 C0.2.1 hr (fun t ht _ => Or.inl ⟨_, rfl, hp, ht⟩) (fun _ h => by cases h) hdg hlk)
theorem hr_aret {v : Value} {rt : FieldType} (C0 : Cx TB Ev a0 p s m c cc nL own) (hr : meth.sig.returnType = some rt) (hrt : (∃ n, rt = .object n) ∨ ∃ t, rt = .array t) (hvv : v = .null ∨ ∃ a, v = .ref a) (hlk : meth.locks = false) (hdg : decode cc pc = .ok (.areturn, 1)) (hp : rpost (some v)) :
    W p l e R s m args below meth c s.heap [] cells slots (MQX below (hR D cl a0 M rpost ex) args s cells slots (fun _ => False)) (F0 m pc ls [v]) :=
  W.mono (fun _ h => MQ.x h) (W.aret C0.1 C0.2.1 hr hrt hvv (fun t ht _ => Or.inl ⟨_, rfl, hp, ht⟩) (fun _ h => by cases h) hdg hlk)
theorem hr_thr {x ci : Nat} {st : List Value} (hxt : ∀ z ∈ c.exceptionTable.toList, ∀ pc, covers z pc = false) (hlk : meth.locks = false) (hMx : M x = none) (hV : hv D cl a0 (va_up M x (some (.inr (ci, [])))) H) (hS : va_S (hA a0) s.heap H []) (hp : ex ci) :
    WT p l e R s m args below meth c H [] cells slots (MQX below (hR D cl a0 M rpost ex) args s cells slots (fun _ => False)) x (F0 m pc ls st) :=
  WT.leave (fun z hz => hxt z hz _) hlk (fun t ht _ => Or.inr ⟨x, ci, rfl, hp, hMx, by rw [ht]; exact hV, hS.F ht⟩) (fun _ h => by cases h)
theorem hm_ne {M : hMp} {a b : Nat} {x y : va_E} (ha : M a = some x) (hb : M b = some y) (h : x ≠ y) : a ≠ b := fun z => h (Option.some.inj (ha.symm.trans (by rw [z]; exact hb)))
theorem hm_ao {M : hMp} {a b : Nat} {x : ClassId × vp_A} {y : Nat × List Value} (ha : M a = some (.inl x)) (hb : M b = some (.inr y)) : a ≠ b := hm_ne ha hb (fun h => by cases h)
theorem hm_oa {M : hMp} {a b : Nat} {x : Nat × List Value} {y : ClassId × vp_A} (ha : M a = some (.inr x)) (hb : M b = some (.inl y)) : a ≠ b := hm_ne ha hb (fun h => by cases h)
theorem hm_oo {M : hMp} {a b i j : Nat} {x y : List Value} (ha : M a = some (.inr (i, x))) (hb : M b = some (.inr (j, y))) (h : i ≠ j) : a ≠ b := hm_ne ha hb (fun z => h (by cases z; rfl))
end KC
