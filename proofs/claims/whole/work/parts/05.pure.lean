/-! The mathematics that class and reference are both tied to. A table: how many rows, and the rows (a row: column to number). -/
abbrev Tab : Type := Nat × (Nat → Nat → Int32)
def tb0 : Tab := (0, fun _ _ => 0)
def tap (A : Tab) (r : Nat → Int32) : Tab := (A.1 + 1, va_up A.2 A.1 r)
/-- the class's flat rows of width w; the reference's rows, six places each, from b on -/
def HC (f : Nat → Int32) (w : Nat) (A : Tab) : Prop := ∀ i, i < A.1 → ∀ c, c < w → f (i * w + c) = A.2 i c
def HR (f : Nat → Int32) (b w : Nat) (A : Tab) : Prop := ∀ i, i < A.1 → ∀ c, c < w → f (b + 6 * i + c) = A.2 i c
theorem idx_lt {i n w c : Nat} (hi : i < n) (hc : c < w) : i * w + c < n * w := by
  have h : (i + 1) * w ≤ n * w := Nat.mul_le_mul_right w hi
  rw [Nat.succ_mul] at h
  omega
theorem idx_le {i n w c N : Nat} (hi : i < n) (hc : c < w) (h : n * w ≤ N) : i * w + c < N := Nat.lt_of_lt_of_le (idx_lt hi hc) h
theorem idx_sep {i n w c d : Nat} (hi : i < n) (hc : c < w) : i * w + c ≠ n * w + d := by
  have := idx_lt hi hc
  omega
theorem HC.zero {f : Nat → Int32} {w : Nat} {T : Nat → Nat → Int32} : HC f w (0, T) := fun i hi => absurd hi (Nat.not_lt_zero i)
theorem HR.zero {f : Nat → Int32} {b w : Nat} {T : Nat → Nat → Int32} : HR f b w (0, T) := fun i hi => absurd hi (Nat.not_lt_zero i)
/-- a row is laid behind the others -/
theorem HC.app {f f' : Nat → Int32} {w : Nat} {A : Tab} {r : Nat → Int32} (h : HC f w A) (hk : ∀ j, j < A.1 * w → f' j = f j) (hr : ∀ c, c < w → f' (A.1 * w + c) = r c) : HC f' w (tap A r) := by
  intro i hi c hc
  have hi' : i < A.1 + 1 := hi
  by_cases he : i = A.1
  · subst he
    show f' (A.1 * w + c) = va_up A.2 A.1 r A.1 c
    rw [va_up_self]
    exact hr c hc
  · have hlt : i < A.1 := by omega
    show f' (i * w + c) = va_up A.2 A.1 r i c
    rw [va_up_ne _ _ he, hk _ (idx_lt hlt hc)]
    exact h i hlt c hc
theorem HR.app {f f' : Nat → Int32} {b w : Nat} {A : Tab} {r : Nat → Int32} (h : HR f b w A) (hw : w ≤ 6) (hk : ∀ j, j < b + 6 * A.1 → f' j = f j) (hr : ∀ c, c < w → f' (b + 6 * A.1 + c) = r c) : HR f' b w (tap A r) := by
  intro i hi c hc
  have hi' : i < A.1 + 1 := hi
  by_cases he : i = A.1
  · subst he
    show f' (b + 6 * A.1 + c) = va_up A.2 A.1 r A.1 c
    rw [va_up_self]
    exact hr c hc
  · have hlt : i < A.1 := by omega
    show f' (b + 6 * i + c) = va_up A.2 A.1 r i c
    rw [va_up_ne _ _ he, hk _ (by omega)]
    exact h i hlt c hc
/-- a filter's test -/
def tst (t : Nat) (v x : Int32) : Bool := if t = 0 then decide (v < x) else if t = 1 then decide (v = x) else decide (x < v)
def fltT (co t : Nat) (x : Int32) (A : Tab) : Nat → Tab
  | 0 => tb0
  | i + 1 => if tst t (A.2 i co) x = true then tap (fltT co t x A i) (A.2 i) else fltT co t x A i
theorem fltT_le (co t : Nat) (x : Int32) (A : Tab) : ∀ i, (fltT co t x A i).1 ≤ i
  | 0 => Nat.le_refl _
  | i + 1 => by
    have ih := fltT_le co t x A i
    unfold fltT
    split
    · show (fltT co t x A i).1 + 1 ≤ i + 1
      omega
    · omega
/-- a map's number -/
def opv (o : Nat) (a b : Int32) : Int64 := if o = 0 then a.toInt64 + b.toInt64 else if o = 1 then a.toInt64 - b.toInt64 else a.toInt64 * b.toInt64
def okI (v : Int64) : Bool := decide (v = v.toInt32.toInt64)
def mapT (co o se : Nat) (A : Tab) : Nat → Option Tab
  | 0 => some tb0
  | i + 1 => match mapT co o se A i with
    | none => none
    | some B => if okI (opv o (A.2 i co) (A.2 i se)) = true then some (tap B (upd (A.2 i) co (opv o (A.2 i co) (A.2 i se)).toInt32)) else none
theorem mapT_len (co o se : Nat) (A : Tab) : ∀ i B, mapT co o se A i = some B → B.1 = i
  | 0, B, h => by cases h; rfl
  | i + 1, B, h => by
    unfold mapT at h
    cases hm : mapT co o se A i with
    | none => rw [hm] at h; cases h
    | some C =>
      rw [hm] at h
      have ih := mapT_len co o se A i C hm
      by_cases hk : okI (opv o (A.2 i co) (A.2 i se)) = true
      · simp only [hk, if_true] at h
        cases h
        show C.1 + 1 = i + 1
        rw [ih]
      · simp only [hk] at h
        cases h
/-- a join's pairs -/
def pairR (wl : Nat) (l r : Nat → Int32) : Nat → Int32 := fun c => if c < wl then l c else r (c - wl)
def joinR (l : Nat → Int32) (lc rc wl : Nat) (B : Tab) (S : Option Tab) : Nat → Option Tab
  | 0 => S
  | j + 1 => match joinR l lc rc wl B S j with
    | none => none
    | some C => if B.2 j rc = l lc then (if 128 ≤ C.1 then none else some (tap C (pairR wl l (B.2 j)))) else some C
def joinT (lc rc wl : Nat) (A B : Tab) : Nat → Option Tab
  | 0 => some tb0
  | i + 1 => joinR (A.2 i) lc rc wl B (joinT lc rc wl A B i) B.1
theorem joinR_none (l : Nat → Int32) (lc rc wl : Nat) (B : Tab) : ∀ j, joinR l lc rc wl B none j = none
  | 0 => rfl
  | j + 1 => by unfold joinR; rw [joinR_none l lc rc wl B j]
theorem joinR_le (l : Nat → Int32) (lc rc wl : Nat) (B : Tab) (S : Option Tab) (hS : ∀ C, S = some C → C.1 ≤ 128) : ∀ j C, joinR l lc rc wl B S j = some C → C.1 ≤ 128
  | 0, C, h => hS C h
  | j + 1, C, h => by
    unfold joinR at h
    cases hm : joinR l lc rc wl B S j with
    | none => rw [hm] at h; cases h
    | some E =>
      rw [hm] at h
      have ih := joinR_le l lc rc wl B S hS j E hm
      by_cases h1 : B.2 j rc = l lc
      · simp only [h1, if_true] at h
        by_cases h2 : 128 ≤ E.1
        · simp only [h2, if_true] at h
          cases h
        · simp only [h2, if_false] at h
          cases h
          show E.1 + 1 ≤ 128
          omega
      · simp only [h1, if_false] at h
        cases h
        exact ih
/-- a group's rows: was the key x among the first q rows; how many rows have it, and their sum -/
def seen (A : Tab) (k : Nat) (x : Int32) : Nat → Bool
  | 0 => false
  | q + 1 => seen A k x q || decide (A.2 q k = x)
def cntS (A : Tab) (k v : Nat) (x : Int32) : Nat → Int32 × Int64
  | 0 => (0, 0)
  | q + 1 => if A.2 q k = x then ((cntS A k v x q).1 + 1, (cntS A k v x q).2 + (A.2 q v).toInt64) else cntS A k v x q
theorem cntS_zero (A : Tab) (k v : Nat) (x : Int32) : ∀ q, seen A k x q = false → cntS A k v x q = (0, 0)
  | 0, _ => rfl
  | q + 1, h => by
    unfold seen at h
    rw [Bool.or_eq_false_iff] at h
    unfold cntS
    rw [if_neg (of_decide_eq_false h.2)]
    exact cntS_zero A k v x q h.1
def row3 (a b c : Int32) : Nat → Int32 := fun j => if j = 0 then a else if j = 1 then b else c
def grpT (k v : Nat) (A : Tab) : Nat → Option Tab
  | 0 => some tb0
  | r + 1 => match grpT k v A r with
    | none => none
    | some B => if seen A k (A.2 r k) r = true then some B else
      if okI (cntS A k v (A.2 r k) A.1).2 = true then some (tap B (row3 (A.2 r k) (cntS A k v (A.2 r k) A.1).1 (cntS A k v (A.2 r k) A.1).2.toInt32)) else none
theorem grpT_le (k v : Nat) (A : Tab) : ∀ r B, grpT k v A r = some B → B.1 ≤ r
  | 0, B, h => by cases h; exact Nat.le_refl _
  | r + 1, B, h => by
    unfold grpT at h
    cases hm : grpT k v A r with
    | none => rw [hm] at h; cases h
    | some C =>
      rw [hm] at h
      have ih := grpT_le k v A r C hm
      by_cases h1 : seen A k (A.2 r k) r = true
      · simp only [h1, if_true] at h
        cases h
        omega
      · simp only [h1] at h
        by_cases h2 : okI (cntS A k v (A.2 r k) A.1).2 = true
        · simp only [h2, if_true] at h
          cases h
          show C.1 + 1 ≤ r + 1
          omega
        · simp only [h2] at h
          cases h
/-- the first column of a group's rows holds the keys that were seen -/
def hasC (B : Tab) (c : Nat) (x : Int32) : Nat → Bool
  | 0 => false
  | i + 1 => hasC B c x i || decide (B.2 i c = x)
theorem hasC_tap (B : Tab) (c : Nat) (x : Int32) (r : Nat → Int32) : ∀ i, i ≤ B.1 → hasC (tap B r) c x i = hasC B c x i
  | 0, _ => rfl
  | i + 1, h => by
    unfold hasC
    rw [hasC_tap B c x r i (by omega)]
    show (hasC B c x i || decide (va_up B.2 B.1 r i c = x)) = _
    rw [va_up_ne _ _ (by omega)]
theorem grpT_has (k v : Nat) (A : Tab) (x : Int32) : ∀ r B, grpT k v A r = some B → hasC B 0 x B.1 = seen A k x r
  | 0, B, h => by cases h; rfl
  | r + 1, B, h => by
    unfold grpT at h
    cases hm : grpT k v A r with
    | none => rw [hm] at h; cases h
    | some C =>
      rw [hm] at h
      have ih := fun y => grpT_has k v A y r C hm
      by_cases h1 : seen A k (A.2 r k) r = true
      · simp only [h1, if_true] at h
        cases h
        unfold seen
        rw [ih x]
        by_cases hx : A.2 r k = x
        · subst hx
          rw [h1]; rfl
        · simp [hx]
      · simp only [h1] at h
        by_cases h2 : okI (cntS A k v (A.2 r k) A.1).2 = true
        · simp only [h2, if_true] at h
          cases h
          unfold seen
          show (hasC (tap C _) 0 x C.1 || decide ((tap C _).2 C.1 0 = x)) = _
          rw [hasC_tap _ _ _ _ _ (Nat.le_refl _), ih x]
          show (_ || decide (va_up C.2 C.1 _ C.1 0 = x)) = _
          rw [va_up_self]
          rfl
        · simp only [h2] at h
          cases h
/-- the order of rows: the first column that differs decides -/
def lessR (w : Nat) (a b : Nat → Int32) : Nat → Bool
  | 0 => false
  | n + 1 => if a (w - (n + 1)) = b (w - (n + 1)) then lessR w a b n else decide (a (w - (n + 1)) < b (w - (n + 1)))
def placeR (w : Nat) (T : Nat → Nat → Int32) (a : Nat → Int32) : Nat → Nat
  | 0 => 0
  | n + 1 => if lessR w a (T n) w = true then placeR w T a n else n + 1
theorem placeR_le (w : Nat) (T : Nat → Nat → Int32) (a : Nat → Int32) : ∀ n, placeR w T a n ≤ n
  | 0 => Nat.le_refl _
  | n + 1 => by
    have ih := placeR_le w T a n
    unfold placeR
    split <;> omega
def insT (w : Nat) (A : Tab) (a : Nat → Int32) : Tab := (A.1 + 1, fun i => if i < placeR w A.2 a A.1 then A.2 i else if i = placeR w A.2 a A.1 then a else A.2 (i - 1))
def sortT (w : Nat) (A : Tab) : Nat → Tab
  | 0 => tb0
  | i + 1 => insT w (sortT w A i) (A.2 i)
theorem sortT_len (w : Nat) (A : Tab) : ∀ i, (sortT w A i).1 = i
  | 0 => rfl
  | i + 1 => by
    show (sortT w A i).1 + 1 = i + 1
    rw [sortT_len w A i]
