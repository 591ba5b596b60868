/-! The walk with the heap bound: RR says that the machine, at pc with the listed values in its variables, with the stack st, and with any heap that holds the world ws, comes to its end. One row an instruction. -/
abbrev rx_T : Type := Program × Launch × Env × Room × State × MethodId × Array Value × List Frame × Method × Code × (State → Prop)
def RR (X : rx_T) (nL : Nat) (D : va_G) (A : Nat → Prop) (kc ks : Nat) (ws : va_W) (lv : List (Nat × Value)) (pc : Nat) (st : List Value) : Prop :=
  match X with
  | (p, l, e, R, s, m, args, below, meth, c, Q) => ∀ (H : Heap) (locs : List Loc) (ls : Array Slot), va_P D vwCl ws H → va_D A ws → va_S A s.heap H locs → lv_has ls nL lv → W p l e R s m args below meth c H locs kc ks Q (F0 m pc ls st)
/-- the table of operands by kind, where a walk reads it: the static field holds the address t, the array there the 22 masks -/
def opsN : Nat → Nat := fun k => [0, 0, 0, 0, 0, 0, 0, 0, 1, 3, 3, 3, 3, 3, 3, 3, 3, 2, 2, 7, 1, 1].getD k 0
def ez (z : Option Nat) (A : Nat → Prop) (U : State) (H : Heap) : Prop :=
  match z with
  | none => True
  | some t => va_Z "GoalScanner" "OPERANDS" "[I" (.ref t) A U H ∧ va_T .int t 22 (fun k => .int (nI (opsN k))) A U H
def rx_ok (X : rx_T) (cc : ByteArray) (nL : Nat) (own : String) (D : va_G) (tys : List (ClassId × FieldType)) (A : Nat → Prop) (d : Nat) (kc ks : Nat) (z : Option Nat) : Prop :=
  match X with
  | (p, _, _, R, s, m, args, _, _, c, _) => p.tables.exec = Jvm.exec ∧ c.code = cc ∧ c.maxLocals = nL ∧ s.vm.findClass own = some m.cls ∧ (∀ w ∈ TB, w.before args s = true) ∧ va_K D vwCl tys s ∧ (∀ q, s.heap.size ≤ q → A q) ∧ (d ≤ R.frames ∧ 40 * d ≤ R.locals) ∧ (kc ≤ R.cells ∧ ks ≤ R.slots) ∧ ez z A s s.heap
/-- the value of a variable in a list of them -/
def lvg : List (Nat × Value) → Nat → Option Value
  | [], _ => none
  | q :: l, i => bif Nat.beq q.1 i then some q.2 else lvg l i
theorem lvg_mem : ∀ {l : List (Nat × Value)} {i : Nat} {v : Value}, lvg l i = some v → (i, v) ∈ l
  | [], _, _, h => by simp [lvg] at h
  | q :: l, i, v, h => by
    unfold lvg at h
    cases hb : Nat.beq q.1 i with
    | true =>
      rw [hb] at h
      have e1 : q.1 = i := Nat.eq_of_beq_eq_true hb
      have e2 : q.2 = v := Option.some.inj h
      rw [← e1, ← e2]
      exact List.mem_cons_self
    | false =>
      rw [hb] at h
      exact List.mem_cons_of_mem _ (lvg_mem h)
/-- variable i gets a value of one slot: what stood there goes -/
def lvs (l : List (Nat × Value)) (i : Nat) (v : Value) : List (Nat × Value) := (i, v) :: l.filter (fun q => !(q.1 == i) && !(q.1 + 1 == i && q.2.category == 2))
/-- the same for a value of two slots -/
def lvs2 (l : List (Nat × Value)) (i : Nat) (v : Value) : List (Nat × Value) := (i, v) :: l.filter (fun q => !(q.1 == i) && (!(q.1 == i + 1) && !(q.1 + 1 == i && q.2.category == 2)))
/-- the listed variables alone -/
def lvpick (l : List (Nat × Value)) (is : List Nat) : List (Nat × Value) := is.filterMap (fun i => (lvg l i).map (fun v => (i, v)))
theorem lvpick_mem {l : List (Nat × Value)} {is : List Nat} {q : Nat × Value} (h : q ∈ lvpick l is) : q ∈ l := by
  obtain ⟨i, -, hi⟩ := List.mem_filterMap.mp h
  cases hv : lvg l i with
  | none => rw [hv] at hi; cases hi
  | some v =>
    rw [hv] at hi
    have e : (i, v) = q := Option.some.inj hi
    rw [← e]
    exact lvg_mem hv
section RL
variable {X : rx_T} {cc : ByteArray} {nL : Nat} {own : String} {z : Option Nat} {D : va_G} {tys : List (ClassId × FieldType)} {A : Nat → Prop} {d kc ks pc : Nat} {ws : va_W} {lv : List (Nat × Value)} {rest st : List Value}
theorem r_lv (is : List Nat) (k : RR X nL D A kc ks ws (lvpick lv is) pc st) : RR X nL D A kc ks ws lv pc st := by
  obtain ⟨p, l, e, R, s, m, args, below, meth, c, Q⟩ := X
  intro H locs ls hP hD hS hl
  exact k H locs ls hP hD hS ⟨hl.1, hl.2.1, fun q hq => hl.2.2 q (lvpick_mem hq)⟩
theorem r_ws {ws' : va_W} (h : ws = ws') (k : RR X nL D A kc ks ws' lv pc st) : RR X nL D A kc ks ws lv pc st := h ▸ k
theorem r_st {st' : List Value} (h : st = st') (k : RR X nL D A kc ks ws lv pc st') : RR X nL D A kc ks ws lv pc st := h ▸ k
theorem r_lve {lv' : List (Nat × Value)} (h : lv = lv') (k : RR X nL D A kc ks ws lv' pc st) : RR X nL D A kc ks ws lv pc st := h ▸ k
theorem r_top {x y : Int32} (h : x = y) (k : RR X nL D A kc ks ws lv pc (.int y :: rest)) : RR X nL D A kc ks ws lv pc (.int x :: rest) := h ▸ k
theorem r_top2 {x y : Int32} {v : Value} (h : x = y) (k : RR X nL D A kc ks ws lv pc (v :: .int y :: rest)) : RR X nL D A kc ks ws lv pc (v :: .int x :: rest) := h ▸ k
theorem r_top3 {x y : Int32} {v v2 : Value} (h : x = y) (k : RR X nL D A kc ks ws lv pc (v :: v2 :: .int y :: rest)) : RR X nL D A kc ks ws lv pc (v :: v2 :: .int x :: rest) := h ▸ k
theorem r_topl {x y : Int64} (h : x = y) (k : RR X nL D A kc ks ws lv pc (.long y :: rest)) : RR X nL D A kc ks ws lv pc (.long x :: rest) := h ▸ k
theorem r_gen {x : Int32} (k : ∀ y : Int32, y = x → RR X nL D A kc ks ws lv pc (.int y :: rest)) : RR X nL D A kc ks ws lv pc (.int x :: rest) := k x rfl

theorem r_iconst {n : Int} {v : Int32} (h : rx_ok X cc nL own D tys A d kc ks z) (hd : decode cc pc = .ok (.iconst n, 1)) (hv : Int32.ofInt n = v)
    (k : RR X nL D A kc ks ws lv (pc + 1) (.int v :: rest)) : RR X nL D A kc ks ws lv pc (rest) := by
  obtain ⟨p, l, e, R, s, m, args, below, meth, c, Q⟩ := X
  obtain ⟨hx, hb, hml, hown, hts, hK, hA, hR, hC, hE⟩ := h
  intro H locs ls hP hD hS hl
  exact lv_iconst hx hb hd hv (k H locs ls hP hD hS hl)
theorem r_bipush {n : Int} {v : Int32} (h : rx_ok X cc nL own D tys A d kc ks z) (hd : decode cc pc = .ok (.bipush n, 2)) (hv : (Int8.ofInt n).toInt32 = v)
    (k : RR X nL D A kc ks ws lv (pc + 2) (.int v :: rest)) : RR X nL D A kc ks ws lv pc (rest) := by
  obtain ⟨p, l, e, R, s, m, args, below, meth, c, Q⟩ := X
  obtain ⟨hx, hb, hml, hown, hts, hK, hA, hR, hC, hE⟩ := h
  intro H locs ls hP hD hS hl
  exact lv_bipush hx hb hd hv (k H locs ls hP hD hS hl)
theorem r_sipush {n : Int} {v : Int32} (h : rx_ok X cc nL own D tys A d kc ks z) (hd : decode cc pc = .ok (.sipush n, 3)) (hv : (Int16.ofInt n).toInt32 = v)
    (k : RR X nL D A kc ks ws lv (pc + 3) (.int v :: rest)) : RR X nL D A kc ks ws lv pc (rest) := by
  obtain ⟨p, l, e, R, s, m, args, below, meth, c, Q⟩ := X
  obtain ⟨hx, hb, hml, hown, hts, hK, hA, hR, hC, hE⟩ := h
  intro H locs ls hP hD hS hl
  exact lv_sipush hx hb hd hv (k H locs ls hP hD hS hl)
theorem r_lconst {n : Fin 2} {v : Int64} (h : rx_ok X cc nL own D tys A d kc ks z) (hd : decode cc pc = .ok (.lconst n, 1)) (hv : Int64.ofNat (n : Nat) = v)
    (k : RR X nL D A kc ks ws lv (pc + 1) (.long v :: rest)) : RR X nL D A kc ks ws lv pc (rest) := by
  obtain ⟨p, l, e, R, s, m, args, below, meth, c, Q⟩ := X
  obtain ⟨hx, hb, hml, hown, hts, hK, hA, hR, hC, hE⟩ := h
  intro H locs ls hP hD hS hl
  exact lv_lconst hx hb hd hv (k H locs ls hP hD hS hl)
theorem r_iload_n {j : Fin 4} {i : Nat} {x : Int32} (h : rx_ok X cc nL own D tys A d kc ks z) (hd : decode cc pc = .ok (.iload_n j, 1)) (hi : (j : Nat) = i) (hg : lvg lv i = some (.int x))
    (k : RR X nL D A kc ks ws lv (pc + 1) (.int x :: rest)) : RR X nL D A kc ks ws lv pc (rest) := by
  obtain ⟨p, l, e, R, s, m, args, below, meth, c, Q⟩ := X
  obtain ⟨hx, hb, hml, hown, hts, hK, hA, hR, hC, hE⟩ := h
  intro H locs ls hP hD hS hl
  exact lv_iload_n hx hb hd hi (hl.2.2 _ (lvg_mem hg)) (k H locs ls hP hD hS hl)
theorem r_iload {i : Nat} {x : Int32} (h : rx_ok X cc nL own D tys A d kc ks z) (hd : decode cc pc = .ok (.iload i, 2)) (hg : lvg lv i = some (.int x))
    (k : RR X nL D A kc ks ws lv (pc + 2) (.int x :: rest)) : RR X nL D A kc ks ws lv pc (rest) := by
  obtain ⟨p, l, e, R, s, m, args, below, meth, c, Q⟩ := X
  obtain ⟨hx, hb, hml, hown, hts, hK, hA, hR, hC, hE⟩ := h
  intro H locs ls hP hD hS hl
  exact lv_iload hx hb hd (hl.2.2 _ (lvg_mem hg)) (k H locs ls hP hD hS hl)
theorem r_lload_n {j : Fin 4} {i : Nat} {x : Int64} (h : rx_ok X cc nL own D tys A d kc ks z) (hd : decode cc pc = .ok (.lload_n j, 1)) (hi : (j : Nat) = i) (hg : lvg lv i = some (.long x))
    (k : RR X nL D A kc ks ws lv (pc + 1) (.long x :: rest)) : RR X nL D A kc ks ws lv pc (rest) := by
  obtain ⟨p, l, e, R, s, m, args, below, meth, c, Q⟩ := X
  obtain ⟨hx, hb, hml, hown, hts, hK, hA, hR, hC, hE⟩ := h
  intro H locs ls hP hD hS hl
  exact lv_lload_n hx hb hd hi (hl.2.2 _ (lvg_mem hg)) (k H locs ls hP hD hS hl)
theorem r_lload {i : Nat} {x : Int64} (h : rx_ok X cc nL own D tys A d kc ks z) (hd : decode cc pc = .ok (.lload i, 2)) (hg : lvg lv i = some (.long x))
    (k : RR X nL D A kc ks ws lv (pc + 2) (.long x :: rest)) : RR X nL D A kc ks ws lv pc (rest) := by
  obtain ⟨p, l, e, R, s, m, args, below, meth, c, Q⟩ := X
  obtain ⟨hx, hb, hml, hown, hts, hK, hA, hR, hC, hE⟩ := h
  intro H locs ls hP hD hS hl
  exact lv_lload hx hb hd (hl.2.2 _ (lvg_mem hg)) (k H locs ls hP hD hS hl)
theorem r_aload_n {j : Fin 4} {i : Nat} {x : Nat} (h : rx_ok X cc nL own D tys A d kc ks z) (hd : decode cc pc = .ok (.aload_n j, 1)) (hi : (j : Nat) = i) (hg : lvg lv i = some (.ref x))
    (k : RR X nL D A kc ks ws lv (pc + 1) (.ref x :: rest)) : RR X nL D A kc ks ws lv pc (rest) := by
  obtain ⟨p, l, e, R, s, m, args, below, meth, c, Q⟩ := X
  obtain ⟨hx, hb, hml, hown, hts, hK, hA, hR, hC, hE⟩ := h
  intro H locs ls hP hD hS hl
  exact lv_aload_n hx hb hd hi (hl.2.2 _ (lvg_mem hg)) (k H locs ls hP hD hS hl)
theorem r_aload {i : Nat} {x : Nat} (h : rx_ok X cc nL own D tys A d kc ks z) (hd : decode cc pc = .ok (.aload i, 2)) (hg : lvg lv i = some (.ref x))
    (k : RR X nL D A kc ks ws lv (pc + 2) (.ref x :: rest)) : RR X nL D A kc ks ws lv pc (rest) := by
  obtain ⟨p, l, e, R, s, m, args, below, meth, c, Q⟩ := X
  obtain ⟨hx, hb, hml, hown, hts, hK, hA, hR, hC, hE⟩ := h
  intro H locs ls hP hD hS hl
  exact lv_aload hx hb hd (hl.2.2 _ (lvg_mem hg)) (k H locs ls hP hD hS hl)
theorem r_istore_n {j : Fin 4} {i : Nat} {x : Int32} (h : rx_ok X cc nL own D tys A d kc ks z) (hd : decode cc pc = .ok (.istore_n j, 1)) (hi : (j : Nat) = i) (hn : i < nL)
    (k : RR X nL D A kc ks ws (lvs lv i (.int x)) (pc + 1) (rest)) : RR X nL D A kc ks ws lv pc (.int x :: rest) := by
  obtain ⟨p, l, e, R, s, m, args, below, meth, c, Q⟩ := X
  obtain ⟨hx, hb, hml, hown, hts, hK, hA, hR, hC, hE⟩ := h
  intro H locs ls hP hD hS hl
  exact lv_istore_n hx hb hd hi hl hn rfl (fun ls hl => k H locs ls hP hD hS hl)
theorem r_istore {i : Nat} {x : Int32} (h : rx_ok X cc nL own D tys A d kc ks z) (hd : decode cc pc = .ok (.istore i, 2)) (hn : i < nL)
    (k : RR X nL D A kc ks ws (lvs lv i (.int x)) (pc + 2) (rest)) : RR X nL D A kc ks ws lv pc (.int x :: rest) := by
  obtain ⟨p, l, e, R, s, m, args, below, meth, c, Q⟩ := X
  obtain ⟨hx, hb, hml, hown, hts, hK, hA, hR, hC, hE⟩ := h
  intro H locs ls hP hD hS hl
  exact lv_istore hx hb hd hl hn rfl (fun ls hl => k H locs ls hP hD hS hl)
theorem r_lstore_n {j : Fin 4} {i : Nat} {x : Int64} (h : rx_ok X cc nL own D tys A d kc ks z) (hd : decode cc pc = .ok (.lstore_n j, 1)) (hi : (j : Nat) = i) (hn : i + 1 < nL)
    (k : RR X nL D A kc ks ws (lvs2 lv i (.long x)) (pc + 1) (rest)) : RR X nL D A kc ks ws lv pc (.long x :: rest) := by
  obtain ⟨p, l, e, R, s, m, args, below, meth, c, Q⟩ := X
  obtain ⟨hx, hb, hml, hown, hts, hK, hA, hR, hC, hE⟩ := h
  intro H locs ls hP hD hS hl
  exact lv_lstore_n hx hb hd hi hl hn rfl (fun ls hl => k H locs ls hP hD hS hl)
theorem r_lstore {i : Nat} {x : Int64} (h : rx_ok X cc nL own D tys A d kc ks z) (hd : decode cc pc = .ok (.lstore i, 2)) (hn : i + 1 < nL)
    (k : RR X nL D A kc ks ws (lvs2 lv i (.long x)) (pc + 2) (rest)) : RR X nL D A kc ks ws lv pc (.long x :: rest) := by
  obtain ⟨p, l, e, R, s, m, args, below, meth, c, Q⟩ := X
  obtain ⟨hx, hb, hml, hown, hts, hK, hA, hR, hC, hE⟩ := h
  intro H locs ls hP hD hS hl
  exact lv_lstore hx hb hd hl hn rfl (fun ls hl => k H locs ls hP hD hS hl)
theorem r_astore_n {j : Fin 4} {i : Nat} {x : Nat} (h : rx_ok X cc nL own D tys A d kc ks z) (hd : decode cc pc = .ok (.astore_n j, 1)) (hi : (j : Nat) = i) (hn : i < nL)
    (k : RR X nL D A kc ks ws (lvs lv i (.ref x)) (pc + 1) (rest)) : RR X nL D A kc ks ws lv pc (.ref x :: rest) := by
  obtain ⟨p, l, e, R, s, m, args, below, meth, c, Q⟩ := X
  obtain ⟨hx, hb, hml, hown, hts, hK, hA, hR, hC, hE⟩ := h
  intro H locs ls hP hD hS hl
  exact lv_astore_n hx hb hd hi hl hn rfl (fun ls hl => k H locs ls hP hD hS hl)
theorem r_astore {i : Nat} {x : Nat} (h : rx_ok X cc nL own D tys A d kc ks z) (hd : decode cc pc = .ok (.astore i, 2)) (hn : i < nL)
    (k : RR X nL D A kc ks ws (lvs lv i (.ref x)) (pc + 2) (rest)) : RR X nL D A kc ks ws lv pc (.ref x :: rest) := by
  obtain ⟨p, l, e, R, s, m, args, below, meth, c, Q⟩ := X
  obtain ⟨hx, hb, hml, hown, hts, hK, hA, hR, hC, hE⟩ := h
  intro H locs ls hP hD hS hl
  exact lv_astore hx hb hd hl hn rfl (fun ls hl => k H locs ls hP hD hS hl)
theorem r_iinc {i : Nat} {n : Int} {x v : Int32} (h : rx_ok X cc nL own D tys A d kc ks z) (hd : decode cc pc = .ok (.iinc i n, 3)) (hg : lvg lv i = some (.int x)) (hv : x + Int32.ofInt n = v) (hn : i < nL)
    (k : RR X nL D A kc ks ws (lvs lv i (.int v)) (pc + 3) rest) : RR X nL D A kc ks ws lv pc rest := by
  obtain ⟨p, l, e, R, s, m, args, below, meth, c, Q⟩ := X
  obtain ⟨hx, hb, hml, hown, hts, hK, hA, hR, hC, hE⟩ := h
  intro H locs ls hP hD hS hl
  obtain ⟨j, hj⟩ := List.getElem?_of_mem (lvg_mem hg)
  exact lv_iinc hx hb hd hl hj hv hn rfl (fun ls hl => k H locs ls hP hD hS hl)
theorem r_iadd {x y : Int32} (h : rx_ok X cc nL own D tys A d kc ks z) (hd : decode cc pc = .ok (.iadd, 1)) 
    (k : RR X nL D A kc ks ws lv (pc + 1) (.int (x + y) :: rest)) : RR X nL D A kc ks ws lv pc (.int y :: .int x :: rest) := by
  obtain ⟨p, l, e, R, s, m, args, below, meth, c, Q⟩ := X
  obtain ⟨hx, hb, hml, hown, hts, hK, hA, hR, hC, hE⟩ := h
  intro H locs ls hP hD hS hl
  exact lv_iadd hx hb hd (k H locs ls hP hD hS hl)
theorem r_isub {x y : Int32} (h : rx_ok X cc nL own D tys A d kc ks z) (hd : decode cc pc = .ok (.isub, 1)) 
    (k : RR X nL D A kc ks ws lv (pc + 1) (.int (x - y) :: rest)) : RR X nL D A kc ks ws lv pc (.int y :: .int x :: rest) := by
  obtain ⟨p, l, e, R, s, m, args, below, meth, c, Q⟩ := X
  obtain ⟨hx, hb, hml, hown, hts, hK, hA, hR, hC, hE⟩ := h
  intro H locs ls hP hD hS hl
  exact lv_isub hx hb hd (k H locs ls hP hD hS hl)
theorem r_imul {x y : Int32} (h : rx_ok X cc nL own D tys A d kc ks z) (hd : decode cc pc = .ok (.imul, 1)) 
    (k : RR X nL D A kc ks ws lv (pc + 1) (.int (x * y) :: rest)) : RR X nL D A kc ks ws lv pc (.int y :: .int x :: rest) := by
  obtain ⟨p, l, e, R, s, m, args, below, meth, c, Q⟩ := X
  obtain ⟨hx, hb, hml, hown, hts, hK, hA, hR, hC, hE⟩ := h
  intro H locs ls hP hD hS hl
  exact lv_imul hx hb hd (k H locs ls hP hD hS hl)
theorem r_iand {x y : Int32} (h : rx_ok X cc nL own D tys A d kc ks z) (hd : decode cc pc = .ok (.iand, 1)) 
    (k : RR X nL D A kc ks ws lv (pc + 1) (.int (x &&& y) :: rest)) : RR X nL D A kc ks ws lv pc (.int y :: .int x :: rest) := by
  obtain ⟨p, l, e, R, s, m, args, below, meth, c, Q⟩ := X
  obtain ⟨hx, hb, hml, hown, hts, hK, hA, hR, hC, hE⟩ := h
  intro H locs ls hP hD hS hl
  exact lv_iand hx hb hd (k H locs ls hP hD hS hl)
theorem r_ladd {x y : Int64} (h : rx_ok X cc nL own D tys A d kc ks z) (hd : decode cc pc = .ok (.ladd, 1)) 
    (k : RR X nL D A kc ks ws lv (pc + 1) (.long (x + y) :: rest)) : RR X nL D A kc ks ws lv pc (.long y :: .long x :: rest) := by
  obtain ⟨p, l, e, R, s, m, args, below, meth, c, Q⟩ := X
  obtain ⟨hx, hb, hml, hown, hts, hK, hA, hR, hC, hE⟩ := h
  intro H locs ls hP hD hS hl
  exact lv_ladd hx hb hd (k H locs ls hP hD hS hl)
theorem r_lsub {x y : Int64} (h : rx_ok X cc nL own D tys A d kc ks z) (hd : decode cc pc = .ok (.lsub, 1)) 
    (k : RR X nL D A kc ks ws lv (pc + 1) (.long (x - y) :: rest)) : RR X nL D A kc ks ws lv pc (.long y :: .long x :: rest) := by
  obtain ⟨p, l, e, R, s, m, args, below, meth, c, Q⟩ := X
  obtain ⟨hx, hb, hml, hown, hts, hK, hA, hR, hC, hE⟩ := h
  intro H locs ls hP hD hS hl
  exact lv_lsub hx hb hd (k H locs ls hP hD hS hl)
theorem r_lmul {x y : Int64} (h : rx_ok X cc nL own D tys A d kc ks z) (hd : decode cc pc = .ok (.lmul, 1)) 
    (k : RR X nL D A kc ks ws lv (pc + 1) (.long (x * y) :: rest)) : RR X nL D A kc ks ws lv pc (.long y :: .long x :: rest) := by
  obtain ⟨p, l, e, R, s, m, args, below, meth, c, Q⟩ := X
  obtain ⟨hx, hb, hml, hown, hts, hK, hA, hR, hC, hE⟩ := h
  intro H locs ls hP hD hS hl
  exact lv_lmul hx hb hd (k H locs ls hP hD hS hl)
theorem r_ineg {x : Int32} (h : rx_ok X cc nL own D tys A d kc ks z) (hd : decode cc pc = .ok (.ineg, 1)) 
    (k : RR X nL D A kc ks ws lv (pc + 1) (.int (-x) :: rest)) : RR X nL D A kc ks ws lv pc (.int x :: rest) := by
  obtain ⟨p, l, e, R, s, m, args, below, meth, c, Q⟩ := X
  obtain ⟨hx, hb, hml, hown, hts, hK, hA, hR, hC, hE⟩ := h
  intro H locs ls hP hD hS hl
  exact lv_ineg hx hb hd (k H locs ls hP hD hS hl)
theorem r_i2l {x : Int32} {v : Int64} (h : rx_ok X cc nL own D tys A d kc ks z) (hd : decode cc pc = .ok (.i2l, 1)) (hv : x.toInt64 = v)
    (k : RR X nL D A kc ks ws lv (pc + 1) (.long v :: rest)) : RR X nL D A kc ks ws lv pc (.int x :: rest) := by
  obtain ⟨p, l, e, R, s, m, args, below, meth, c, Q⟩ := X
  obtain ⟨hx, hb, hml, hown, hts, hK, hA, hR, hC, hE⟩ := h
  intro H locs ls hP hD hS hl
  exact lv_i2l hx hb hd hv (k H locs ls hP hD hS hl)
theorem r_l2i {x : Int64} {v : Int32} (h : rx_ok X cc nL own D tys A d kc ks z) (hd : decode cc pc = .ok (.l2i, 1)) (hv : x.toInt32 = v)
    (k : RR X nL D A kc ks ws lv (pc + 1) (.int v :: rest)) : RR X nL D A kc ks ws lv pc (.long x :: rest) := by
  obtain ⟨p, l, e, R, s, m, args, below, meth, c, Q⟩ := X
  obtain ⟨hx, hb, hml, hown, hts, hK, hA, hR, hC, hE⟩ := h
  intro H locs ls hP hD hS hl
  exact lv_l2i hx hb hd hv (k H locs ls hP hD hS hl)
theorem r_lcmp {x y : Int64} (h : rx_ok X cc nL own D tys A d kc ks z) (hd : decode cc pc = .ok (.lcmp, 1)) 
    (k : RR X nL D A kc ks ws lv (pc + 1) (.int (lg_cmp x y) :: rest)) : RR X nL D A kc ks ws lv pc (.long y :: .long x :: rest) := by
  obtain ⟨p, l, e, R, s, m, args, below, meth, c, Q⟩ := X
  obtain ⟨hx, hb, hml, hown, hts, hK, hA, hR, hC, hE⟩ := h
  intro H locs ls hP hD hS hl
  exact W.lcmp hx hb hd (k H locs ls hP hD hS hl)
theorem r_dup {v : Value} (h : rx_ok X cc nL own D tys A d kc ks z) (hd : decode cc pc = .ok (.dup, 1)) (hc : v.category = 1)
    (k : RR X nL D A kc ks ws lv (pc + 1) (v :: v :: rest)) : RR X nL D A kc ks ws lv pc (v :: rest) := by
  obtain ⟨p, l, e, R, s, m, args, below, meth, c, Q⟩ := X
  obtain ⟨hx, hb, hml, hown, hts, hK, hA, hR, hC, hE⟩ := h
  intro H locs ls hP hD hS hl
  exact lv_dup hx hb hd hc (k H locs ls hP hD hS hl)
theorem r_pop {v : Value} (h : rx_ok X cc nL own D tys A d kc ks z) (hd : decode cc pc = .ok (.pop, 1)) (hc : v.category = 1)
    (k : RR X nL D A kc ks ws lv (pc + 1) (rest)) : RR X nL D A kc ks ws lv pc (v :: rest) := by
  obtain ⟨p, l, e, R, s, m, args, below, meth, c, Q⟩ := X
  obtain ⟨hx, hb, hml, hown, hts, hK, hA, hR, hC, hE⟩ := h
  intro H locs ls hP hD hS hl
  exact lv_pop hx hb hd hc (k H locs ls hP hD hS hl)
theorem r_dup_x1 {v v2 : Value} (h : rx_ok X cc nL own D tys A d kc ks z) (hd : decode cc pc = .ok (.dup_x1, 1)) (hc : v.category = 1) (hc2 : v2.category = 1)
    (k : RR X nL D A kc ks ws lv (pc + 1) (v :: v2 :: v :: rest)) : RR X nL D A kc ks ws lv pc (v :: v2 :: rest) := by
  obtain ⟨p, l, e, R, s, m, args, below, meth, c, Q⟩ := X
  obtain ⟨hx, hb, hml, hown, hts, hK, hA, hR, hC, hE⟩ := h
  intro H locs ls hP hD hS hl
  exact lv_dup_x1 hx hb hd hc hc2 (k H locs ls hP hD hS hl)
theorem r_dup_x2 {v v2 v3 : Value} (h : rx_ok X cc nL own D tys A d kc ks z) (hd : decode cc pc = .ok (.dup_x2, 1)) (hc : v.category = 1) (hc2 : v2.category = 1) (hc3 : v3.category = 1)
    (k : RR X nL D A kc ks ws lv (pc + 1) (v :: v2 :: v3 :: v :: rest)) : RR X nL D A kc ks ws lv pc (v :: v2 :: v3 :: rest) := by
  obtain ⟨p, l, e, R, s, m, args, below, meth, c, Q⟩ := X
  obtain ⟨hx, hb, hml, hown, hts, hK, hA, hR, hC, hE⟩ := h
  intro H locs ls hP hD hS hl
  exact lv_dup_x2 hx hb hd hc hc2 hc3 (k H locs ls hP hD hS hl)
theorem r_dup2 {v v2 : Value} (h : rx_ok X cc nL own D tys A d kc ks z) (hd : decode cc pc = .ok (.dup2, 1)) (hc : v.category = 1) (hc2 : v2.category = 1)
    (k : RR X nL D A kc ks ws lv (pc + 1) (v :: v2 :: v :: v2 :: rest)) : RR X nL D A kc ks ws lv pc (v :: v2 :: rest) := by
  obtain ⟨p, l, e, R, s, m, args, below, meth, c, Q⟩ := X
  obtain ⟨hx, hb, hml, hown, hts, hK, hA, hR, hC, hE⟩ := h
  intro H locs ls hP hD hS hl
  exact lv_dup2_11 hx hb hd hc hc2 (k H locs ls hP hD hS hl)
theorem r_if_eq {x : Int32} {off : Int} (tgt : Nat) (h : rx_ok X cc nL own D tys A d kc ks z) (hd : decode cc pc = .ok (.ifCond .eq off, 3)) (ht : (pc : Int) + off = (tgt : Int))
    (kt : x = 0 → RR X nL D A kc ks ws lv tgt rest) (kf : ¬ x = 0 → RR X nL D A kc ks ws lv (pc + 3) rest) : RR X nL D A kc ks ws lv pc (.int x :: rest) := by
  obtain ⟨p, l, e, R, s, m, args, below, meth, c, Q⟩ := X
  obtain ⟨hx, hb, hml, hown, hts, hK, hA, hR, hC, hE⟩ := h
  intro H locs ls hP hD hS hl
  exact lv_if_eq hx hb hd ht (fun q => kt q H locs ls hP hD hS hl) (fun q => kf q H locs ls hP hD hS hl)
theorem r_icmp_eq {x y : Int32} {off : Int} (tgt : Nat) (h : rx_ok X cc nL own D tys A d kc ks z) (hd : decode cc pc = .ok (.if_icmp .eq off, 3)) (ht : (pc : Int) + off = (tgt : Int))
    (kt : x = y → RR X nL D A kc ks ws lv tgt rest) (kf : ¬ x = y → RR X nL D A kc ks ws lv (pc + 3) rest) : RR X nL D A kc ks ws lv pc (.int y :: .int x :: rest) := by
  obtain ⟨p, l, e, R, s, m, args, below, meth, c, Q⟩ := X
  obtain ⟨hx, hb, hml, hown, hts, hK, hA, hR, hC, hE⟩ := h
  intro H locs ls hP hD hS hl
  exact lv_icmp_eq hx hb hd ht (fun q => kt q H locs ls hP hD hS hl) (fun q => kf q H locs ls hP hD hS hl)
theorem r_if_ne {x : Int32} {off : Int} (tgt : Nat) (h : rx_ok X cc nL own D tys A d kc ks z) (hd : decode cc pc = .ok (.ifCond .ne off, 3)) (ht : (pc : Int) + off = (tgt : Int))
    (kt : ¬ x = 0 → RR X nL D A kc ks ws lv tgt rest) (kf : x = 0 → RR X nL D A kc ks ws lv (pc + 3) rest) : RR X nL D A kc ks ws lv pc (.int x :: rest) := by
  obtain ⟨p, l, e, R, s, m, args, below, meth, c, Q⟩ := X
  obtain ⟨hx, hb, hml, hown, hts, hK, hA, hR, hC, hE⟩ := h
  intro H locs ls hP hD hS hl
  exact lv_if_ne hx hb hd ht (fun q => kt q H locs ls hP hD hS hl) (fun q => kf q H locs ls hP hD hS hl)
theorem r_icmp_ne {x y : Int32} {off : Int} (tgt : Nat) (h : rx_ok X cc nL own D tys A d kc ks z) (hd : decode cc pc = .ok (.if_icmp .ne off, 3)) (ht : (pc : Int) + off = (tgt : Int))
    (kt : ¬ x = y → RR X nL D A kc ks ws lv tgt rest) (kf : x = y → RR X nL D A kc ks ws lv (pc + 3) rest) : RR X nL D A kc ks ws lv pc (.int y :: .int x :: rest) := by
  obtain ⟨p, l, e, R, s, m, args, below, meth, c, Q⟩ := X
  obtain ⟨hx, hb, hml, hown, hts, hK, hA, hR, hC, hE⟩ := h
  intro H locs ls hP hD hS hl
  exact lv_icmp_ne hx hb hd ht (fun q => kt q H locs ls hP hD hS hl) (fun q => kf q H locs ls hP hD hS hl)
theorem r_if_lt {x : Int32} {off : Int} (tgt : Nat) (h : rx_ok X cc nL own D tys A d kc ks z) (hd : decode cc pc = .ok (.ifCond .lt off, 3)) (ht : (pc : Int) + off = (tgt : Int))
    (kt : x < 0 → RR X nL D A kc ks ws lv tgt rest) (kf : ¬ x < 0 → RR X nL D A kc ks ws lv (pc + 3) rest) : RR X nL D A kc ks ws lv pc (.int x :: rest) := by
  obtain ⟨p, l, e, R, s, m, args, below, meth, c, Q⟩ := X
  obtain ⟨hx, hb, hml, hown, hts, hK, hA, hR, hC, hE⟩ := h
  intro H locs ls hP hD hS hl
  exact lv_if_lt hx hb hd ht (fun q => kt q H locs ls hP hD hS hl) (fun q => kf q H locs ls hP hD hS hl)
theorem r_icmp_lt {x y : Int32} {off : Int} (tgt : Nat) (h : rx_ok X cc nL own D tys A d kc ks z) (hd : decode cc pc = .ok (.if_icmp .lt off, 3)) (ht : (pc : Int) + off = (tgt : Int))
    (kt : x < y → RR X nL D A kc ks ws lv tgt rest) (kf : ¬ x < y → RR X nL D A kc ks ws lv (pc + 3) rest) : RR X nL D A kc ks ws lv pc (.int y :: .int x :: rest) := by
  obtain ⟨p, l, e, R, s, m, args, below, meth, c, Q⟩ := X
  obtain ⟨hx, hb, hml, hown, hts, hK, hA, hR, hC, hE⟩ := h
  intro H locs ls hP hD hS hl
  exact lv_icmp_lt hx hb hd ht (fun q => kt q H locs ls hP hD hS hl) (fun q => kf q H locs ls hP hD hS hl)
theorem r_if_ge {x : Int32} {off : Int} (tgt : Nat) (h : rx_ok X cc nL own D tys A d kc ks z) (hd : decode cc pc = .ok (.ifCond .ge off, 3)) (ht : (pc : Int) + off = (tgt : Int))
    (kt : 0 ≤ x → RR X nL D A kc ks ws lv tgt rest) (kf : ¬ 0 ≤ x → RR X nL D A kc ks ws lv (pc + 3) rest) : RR X nL D A kc ks ws lv pc (.int x :: rest) := by
  obtain ⟨p, l, e, R, s, m, args, below, meth, c, Q⟩ := X
  obtain ⟨hx, hb, hml, hown, hts, hK, hA, hR, hC, hE⟩ := h
  intro H locs ls hP hD hS hl
  exact lv_if_ge hx hb hd ht (fun q => kt q H locs ls hP hD hS hl) (fun q => kf q H locs ls hP hD hS hl)
theorem r_icmp_ge {x y : Int32} {off : Int} (tgt : Nat) (h : rx_ok X cc nL own D tys A d kc ks z) (hd : decode cc pc = .ok (.if_icmp .ge off, 3)) (ht : (pc : Int) + off = (tgt : Int))
    (kt : y ≤ x → RR X nL D A kc ks ws lv tgt rest) (kf : ¬ y ≤ x → RR X nL D A kc ks ws lv (pc + 3) rest) : RR X nL D A kc ks ws lv pc (.int y :: .int x :: rest) := by
  obtain ⟨p, l, e, R, s, m, args, below, meth, c, Q⟩ := X
  obtain ⟨hx, hb, hml, hown, hts, hK, hA, hR, hC, hE⟩ := h
  intro H locs ls hP hD hS hl
  exact lv_icmp_ge hx hb hd ht (fun q => kt q H locs ls hP hD hS hl) (fun q => kf q H locs ls hP hD hS hl)
theorem r_if_gt {x : Int32} {off : Int} (tgt : Nat) (h : rx_ok X cc nL own D tys A d kc ks z) (hd : decode cc pc = .ok (.ifCond .gt off, 3)) (ht : (pc : Int) + off = (tgt : Int))
    (kt : 0 < x → RR X nL D A kc ks ws lv tgt rest) (kf : ¬ 0 < x → RR X nL D A kc ks ws lv (pc + 3) rest) : RR X nL D A kc ks ws lv pc (.int x :: rest) := by
  obtain ⟨p, l, e, R, s, m, args, below, meth, c, Q⟩ := X
  obtain ⟨hx, hb, hml, hown, hts, hK, hA, hR, hC, hE⟩ := h
  intro H locs ls hP hD hS hl
  exact lv_if_gt hx hb hd ht (fun q => kt q H locs ls hP hD hS hl) (fun q => kf q H locs ls hP hD hS hl)
theorem r_icmp_gt {x y : Int32} {off : Int} (tgt : Nat) (h : rx_ok X cc nL own D tys A d kc ks z) (hd : decode cc pc = .ok (.if_icmp .gt off, 3)) (ht : (pc : Int) + off = (tgt : Int))
    (kt : y < x → RR X nL D A kc ks ws lv tgt rest) (kf : ¬ y < x → RR X nL D A kc ks ws lv (pc + 3) rest) : RR X nL D A kc ks ws lv pc (.int y :: .int x :: rest) := by
  obtain ⟨p, l, e, R, s, m, args, below, meth, c, Q⟩ := X
  obtain ⟨hx, hb, hml, hown, hts, hK, hA, hR, hC, hE⟩ := h
  intro H locs ls hP hD hS hl
  exact lv_icmp_gt hx hb hd ht (fun q => kt q H locs ls hP hD hS hl) (fun q => kf q H locs ls hP hD hS hl)
theorem r_if_le {x : Int32} {off : Int} (tgt : Nat) (h : rx_ok X cc nL own D tys A d kc ks z) (hd : decode cc pc = .ok (.ifCond .le off, 3)) (ht : (pc : Int) + off = (tgt : Int))
    (kt : x ≤ 0 → RR X nL D A kc ks ws lv tgt rest) (kf : ¬ x ≤ 0 → RR X nL D A kc ks ws lv (pc + 3) rest) : RR X nL D A kc ks ws lv pc (.int x :: rest) := by
  obtain ⟨p, l, e, R, s, m, args, below, meth, c, Q⟩ := X
  obtain ⟨hx, hb, hml, hown, hts, hK, hA, hR, hC, hE⟩ := h
  intro H locs ls hP hD hS hl
  exact lv_if_le hx hb hd ht (fun q => kt q H locs ls hP hD hS hl) (fun q => kf q H locs ls hP hD hS hl)
theorem r_icmp_le {x y : Int32} {off : Int} (tgt : Nat) (h : rx_ok X cc nL own D tys A d kc ks z) (hd : decode cc pc = .ok (.if_icmp .le off, 3)) (ht : (pc : Int) + off = (tgt : Int))
    (kt : x ≤ y → RR X nL D A kc ks ws lv tgt rest) (kf : ¬ x ≤ y → RR X nL D A kc ks ws lv (pc + 3) rest) : RR X nL D A kc ks ws lv pc (.int y :: .int x :: rest) := by
  obtain ⟨p, l, e, R, s, m, args, below, meth, c, Q⟩ := X
  obtain ⟨hx, hb, hml, hown, hts, hK, hA, hR, hC, hE⟩ := h
  intro H locs ls hP hD hS hl
  exact lv_icmp_le hx hb hd ht (fun q => kt q H locs ls hP hD hS hl) (fun q => kf q H locs ls hP hD hS hl)
theorem r_goto {off : Int} (tgt : Nat) (h : rx_ok X cc nL own D tys A d kc ks z) (hd : decode cc pc = .ok (.goto off, 3)) (ht : (pc : Int) + off = (tgt : Int)) (k : RR X nL D A kc ks ws lv tgt rest) : RR X nL D A kc ks ws lv pc rest := by
  obtain ⟨p, l, e, R, s, m, args, below, meth, c, Q⟩ := X
  obtain ⟨hx, hb, hml, hown, hts, hK, hA, hR, hC, hE⟩ := h
  intro H locs ls hP hD hS hl
  exact lv_goto hx hb hd ht (k H locs ls hP hD hS hl)
theorem r_ldc2 {index : Nat} {v : Int64} (h : rx_ok X cc nL own D tys A d kc ks z) (hd : decode cc pc = .ok (.ldc2_w index, 3)) (hw : Cond.constantLong own index v ∈ TB) (k : RR X nL D A kc ks ws lv (pc + 3) (.long v :: rest)) : RR X nL D A kc ks ws lv pc rest := by
  obtain ⟨p, l, e, R, s, m, args, below, meth, c, Q⟩ := X
  obtain ⟨hx, hb, hml, hown, hts, hK, hA, hR, hC, hE⟩ := h
  intro H locs ls hP hD hS hl
  exact lv_ldc2 hx hb hown (hts _ hw) hd (k H locs ls hP hD hS hl)
theorem r_ldc {index : Nat} {v : Int32} (h : rx_ok X cc nL own D tys A d kc ks z) (hd : decode cc pc = .ok (.ldc index, 2)) (hw : Cond.constant own index v ∈ TB) (k : RR X nL D A kc ks ws lv (pc + 2) (.int v :: rest)) : RR X nL D A kc ks ws lv pc rest := by
  obtain ⟨p, l, e, R, s, m, args, below, meth, c, Q⟩ := X
  obtain ⟨hx, hb, hml, hown, hts, hK, hA, hR, hC, hE⟩ := h
  intro H locs ls hP hD hS hl
  exact lv_ldc hx hb hown (hts _ hw) hd (k H locs ls hP hD hS hl)
theorem r_tableOut {dflt lo hi : Int} {offs : Array Int} {len : Nat} {x : Int32} (tgt : Nat) (h : rx_ok X cc nL own D tys A d kc ks z) (hd : decode cc pc = .ok (.tableswitch dflt lo hi offs, len)) (hq : x.toInt < lo ∨ hi < x.toInt) (ht : (pc : Int) + dflt = (tgt : Int)) (k : RR X nL D A kc ks ws lv tgt rest) : RR X nL D A kc ks ws lv pc (.int x :: rest) := by
  obtain ⟨p, l, e, R, s, m, args, below, meth, c, Q⟩ := X
  obtain ⟨hx, hb, hml, hown, hts, hK, hA, hR, hC, hE⟩ := h
  intro H locs ls hP hD hS hl
  exact lv_tableOut hx hb hd hq ht (k H locs ls hP hD hS hl)
theorem r_tableIn {dflt lo hi : Int} {offs : Array Int} {len : Nat} {x : Int32} {off : Int} (tgt : Nat) (h : rx_ok X cc nL own D tys A d kc ks z) (hd : decode cc pc = .ok (.tableswitch dflt lo hi offs, len)) (h1 : ¬ x.toInt < lo) (h2 : ¬ hi < x.toInt) (ho : offs[(x.toInt - lo).toNat]? = some off) (ht : (pc : Int) + off = (tgt : Int)) (k : RR X nL D A kc ks ws lv tgt rest) : RR X nL D A kc ks ws lv pc (.int x :: rest) := by
  obtain ⟨p, l, e, R, s, m, args, below, meth, c, Q⟩ := X
  obtain ⟨hx, hb, hml, hown, hts, hK, hA, hR, hC, hE⟩ := h
  intro H locs ls hP hD hS hl
  exact lv_tableIn hx hb hd h1 h2 ho ht (k H locs ls hP hD hS hl)
theorem r_lookup {dflt : Int} {ps : Array (Int × Int)} {len : Nat} {x : Int32} {off : Int} (tgt : Nat) (h : rx_ok X cc nL own D tys A d kc ks z) (hd : decode cc pc = .ok (.lookupswitch dflt ps, len)) (hp : (ps.toList.zip (ps.toList.drop 1)).all (fun (a, next) => a.1 < next.1) = true) (ho : Op.lookupswitch.offset ps.toList dflt x.toInt = off) (ht : (pc : Int) + off = (tgt : Int)) (k : RR X nL D A kc ks ws lv tgt rest) : RR X nL D A kc ks ws lv pc (.int x :: rest) := by
  obtain ⟨p, l, e, R, s, m, args, below, meth, c, Q⟩ := X
  obtain ⟨hx, hb, hml, hown, hts, hK, hA, hR, hC, hE⟩ := h
  intro H locs ls hP hD hS hl
  exact lv_lookup hx hb hd hp ho ht (k H locs ls hP hD hS hl)
theorem r_get {ref C : String} {T : u_T} {N ci index a : Nat} {fs : List Value} {v : Value} (q0 k0 : Nat) (h : rx_ok X cc nL own D tys A d kc ks z) (hd : decode cc pc = .ok (.getfield index, 3)) (he : ws[q0]? = some (a, .inr (ci, fs))) (hc : vwCl[ci]? = some (C, T, N)) (hin : ∀ w ∈ u_ws C T N, w ∈ TB) (hk : k0 < N) (hlink : Cond.fieldLink own index ref (T k0).2.1 (T k0).2.2.1 ∈ TB) (href : (T k0).1 = ref) (hv : fs[k0]? = some v)
    (k : RR X nL D A kc ks ws lv (pc + 3) (v :: rest)) : RR X nL D A kc ks ws lv pc (.ref a :: rest) := by
  obtain ⟨p, l, e, R, s, m, args, below, meth, c, Q⟩ := X
  obtain ⟨hx, hb, hml, hown, hts, hK, hA, hR, hC, hE⟩ := h
  intro H locs ls hP hD hS hl
  subst href
  exact va_get hx hb hts hin hown hK hP q0 he hc k0 hk (hts _ hlink) (fun _ h9 => h9) hv hd (k H locs ls hP hD hS hl)
theorem r_put {ref C : String} {T : u_T} {N ci index a : Nat} {fs : List Value} {v : Value} {ty : FieldType} {ty0 : Nat → FieldType} (q0 k0 : Nat) (h : rx_ok X cc nL own D tys A d kc ks z) (hd : decode cc pc = .ok (.putfield index, 3)) (he : ws[q0]? = some (a, .inr (ci, fs))) (hc : vwCl[ci]? = some (C, T, N)) (hin : ∀ w ∈ u_ws C T N, w ∈ TB) (hty : ∀ k, k < N → parseFieldDescriptor (T k).2.2.1 = some (ty0 k)) (hnm : ∀ a, a < N → ∀ b, b < N → a ≠ b → (T a).2.1 ≠ (T b).2.1) (hk : k0 < N) (hlink : Cond.fieldLink own index ref (T k0).2.1 (T k0).2.2.1 ∈ TB) (href : (T k0).1 = ref) (hfin : (T k0).2.2.2 = false) (hty0 : ty0 k0 = ty) (hn : narrow ty v = v) (hfit : fits ty v = true) (hl0 : k0 < fs.length)
    (k : RR X nL D A kc ks (ws.set q0 (a, .inr (ci, fs.set k0 v))) lv (pc + 3) rest) : RR X nL D A kc ks ws lv pc (v :: .ref a :: rest) := by
  obtain ⟨p, l, e, R, s, m, args, below, meth, c, Q⟩ := X
  obtain ⟨hx, hb, hml, hown, hts, hK, hA, hR, hC, hE⟩ := h
  intro H locs ls hP hD hS hl
  subst href
  exact va_put hx hb hts hin ty0 hty hnm hown hK hP hD hS q0 he hc k0 hk (hts _ hlink) (fun _ h9 => h9) hfin ((hty k0 hk).trans (by rw [hty0])) hn hfit hl0 hd (fun H locs hP hD hS => k H locs ls hP hD hS hl)
theorem r_putF {ref C : String} {T : u_T} {N ci index a : Nat} {fs : List Value} {v : Value} {ty : FieldType} {ty0 : Nat → FieldType} (q0 k0 : Nat) (h : rx_ok X cc nL own D tys A d kc ks z) (hin2 : X.2.2.2.2.2.2.2.2.1.name = "<init>") (hd : decode cc pc = .ok (.putfield index, 3)) (he : ws[q0]? = some (a, .inr (ci, fs))) (hc : vwCl[ci]? = some (C, T, N)) (hin : ∀ w ∈ u_ws C T N, w ∈ TB) (hty : ∀ k, k < N → parseFieldDescriptor (T k).2.2.1 = some (ty0 k)) (hnm : ∀ a, a < N → ∀ b, b < N → a ≠ b → (T a).2.1 ≠ (T b).2.1) (hk : k0 < N) (hlink : Cond.fieldLink own index ref (T k0).2.1 (T k0).2.2.1 ∈ TB) (href : (T k0).1 = ref) (hfin : (T k0).2.2.2 = true) (hdecl : (T k0).1 = own) (hty0 : ty0 k0 = ty) (hn : narrow ty v = v) (hfit : fits ty v = true) (hl0 : k0 < fs.length)
    (k : RR X nL D A kc ks (ws.set q0 (a, .inr (ci, fs.set k0 v))) lv (pc + 3) rest) : RR X nL D A kc ks ws lv pc (v :: .ref a :: rest) := by
  obtain ⟨p, l, e, R, s, m, args, below, meth, c, Q⟩ := X
  obtain ⟨hx, hb, hml, hown, hts, hK, hA, hR, hC, hE⟩ := h
  intro H locs ls hP hD hS hl
  subst href
  exact va_putF hx hb hts hin ty0 hty hnm hown hK hP hD hS q0 he hc k0 hk (hts _ hlink) (fun _ h9 => h9) hfin hin2 hdecl ((hty k0 hk).trans (by rw [hty0])) hn hfit hl0 hd (fun H locs hP hD hS => k H locs ls hP hD hS hl)
theorem rx_in {i : Int32} {j n : Nat} (hi : i = nI j) (hj : j < n) (hn : n < 2 ^ 31) : vp_in i n ∧ i.toNatClampNeg = j := by
  subst hi
  exact ⟨vp_in_nI hj hn, nI_clamp (Nat.lt_trans hj hn)⟩
theorem r_iald {a n : Nat} {cA : ClassId} {f : Nat → Int32} {i : Int32} (q0 t0 j : Nat) (h : rx_ok X cc nL own D tys A d kc ks z) (hd : decode cc pc = .ok (.iaload, 1)) (ha : ws[q0]? = some (a, .inl (cA, n, .inl f))) (ht : tys[t0]? = some (cA, .int)) (hi : i = nI j) (hj : j < n) (hn : n < 2 ^ 31)
    (k : RR X nL D A kc ks ws lv (pc + 1) (.int (f j) :: rest)) : RR X nL D A kc ks ws lv pc (.int i :: .ref a :: rest) := by
  obtain ⟨p, l, e, R, s, m, args, below, meth, c, Q⟩ := X
  obtain ⟨hx, hb, hml, hown, hts, hK, hA, hR, hC, hE⟩ := h
  intro H locs ls hP hD hS hl
  obtain ⟨h1, h2⟩ := rx_in hi hj hn
  refine va_iald hx hb hK hP q0 t0 ha ht h1 hd ?_
  rw [h2]
  exact k H locs ls hP hD hS hl
theorem r_zald {a n : Nat} {cA : ClassId} {f : Nat → Int32} {i : Int32} (q0 t0 j : Nat) (h : rx_ok X cc nL own D tys A d kc ks z) (hd : decode cc pc = .ok (.baload, 1)) (ha : ws[q0]? = some (a, .inl (cA, n, .inl f))) (ht : tys[t0]? = some (cA, .boolean)) (hi : i = nI j) (hj : j < n) (hn : n < 2 ^ 31)
    (k : RR X nL D A kc ks ws lv (pc + 1) (.int (f j) :: rest)) : RR X nL D A kc ks ws lv pc (.int i :: .ref a :: rest) := by
  obtain ⟨p, l, e, R, s, m, args, below, meth, c, Q⟩ := X
  obtain ⟨hx, hb, hml, hown, hts, hK, hA, hR, hC, hE⟩ := h
  intro H locs ls hP hD hS hl
  obtain ⟨h1, h2⟩ := rx_in hi hj hn
  refine va_zald hx hb hK hP q0 t0 ha ht h1 hd ?_
  rw [h2]
  exact k H locs ls hP hD hS hl
theorem r_iast {a n : Nat} {cA : ClassId} {f : Nat → Int32} {i x : Int32} (q0 t0 j : Nat) (h : rx_ok X cc nL own D tys A d kc ks z) (hd : decode cc pc = .ok (.iastore, 1)) (ha : ws[q0]? = some (a, .inl (cA, n, .inl f))) (ht : tys[t0]? = some (cA, .int)) (hi : i = nI j) (hj : j < n) (hn : n < 2 ^ 31)
    (k : RR X nL D A kc ks (ws.set q0 (a, .inl (cA, n, .inl (upd f j x)))) lv (pc + 1) rest) : RR X nL D A kc ks ws lv pc (.int x :: .int i :: .ref a :: rest) := by
  obtain ⟨p, l, e, R, s, m, args, below, meth, c, Q⟩ := X
  obtain ⟨hx, hb, hml, hown, hts, hK, hA, hR, hC, hE⟩ := h
  intro H locs ls hP hD hS hl
  obtain ⟨h1, h2⟩ := rx_in hi hj hn
  refine va_iast hx hb hK hP hD hS q0 t0 ha ht h1 hd (fun H locs hP hD hS => ?_)
  rw [h2] at hP hD
  exact k H locs ls hP hD hS hl
theorem r_zast {a n : Nat} {cA : ClassId} {f : Nat → Int32} {i x : Int32} (q0 t0 j : Nat) (h : rx_ok X cc nL own D tys A d kc ks z) (hd : decode cc pc = .ok (.bastore, 1)) (ha : ws[q0]? = some (a, .inl (cA, n, .inl f))) (ht : tys[t0]? = some (cA, .boolean)) (hi : i = nI j) (hj : j < n) (hn : n < 2 ^ 31) {y : Int32} (hy : vp_nar .boolean x = y)
    (k : RR X nL D A kc ks (ws.set q0 (a, .inl (cA, n, .inl (upd f j y)))) lv (pc + 1) rest) : RR X nL D A kc ks ws lv pc (.int x :: .int i :: .ref a :: rest) := by
  obtain ⟨p, l, e, R, s, m, args, below, meth, c, Q⟩ := X
  obtain ⟨hx, hb, hml, hown, hts, hK, hA, hR, hC, hE⟩ := h
  intro H locs ls hP hD hS hl
  obtain ⟨h1, h2⟩ := rx_in hi hj hn
  refine va_zast hx hb hK hP hD hS q0 t0 ha ht h1 hd (fun H locs hP hD hS => ?_)
  rw [h2, hy] at hP hD
  exact k H locs ls hP hD hS hl
theorem r_aald {a n : Nat} {cA : ClassId} {C : String} {f : Nat → Option Nat} {i : Int32} {v : Nat} (q0 t0 j : Nat) (h : rx_ok X cc nL own D tys A d kc ks z) (hd : decode cc pc = .ok (.aaload, 1)) (ha : ws[q0]? = some (a, .inl (cA, n, .inr (.inr (.inr (.inr f)))))) (ht : tys[t0]? = some (cA, .object C)) (hi : i = nI j) (hj : j < n) (hn : n < 2 ^ 31) (hv : f j = some v)
    (k : RR X nL D A kc ks ws lv (pc + 1) (.ref v :: rest)) : RR X nL D A kc ks ws lv pc (.int i :: .ref a :: rest) := by
  obtain ⟨p, l, e, R, s, m, args, below, meth, c, Q⟩ := X
  obtain ⟨hx, hb, hml, hown, hts, hK, hA, hR, hC, hE⟩ := h
  intro H locs ls hP hD hS hl
  obtain ⟨h1, h2⟩ := rx_in hi hj hn
  refine va_aldq hx hb hK hP q0 t0 ha ht h1 hd ?_
  rw [h2, hv]
  exact k H locs ls hP hD hS hl
theorem r_alen {a : Nat} {cA : ClassId} {x : vp_A} {ty : FieldType} {v : Int32} (q0 t0 : Nat) (h : rx_ok X cc nL own D tys A d kc ks z) (hd : decode cc pc = .ok (.arraylength, 1)) (ha : ws[q0]? = some (a, .inl (cA, x))) (ht : tys[t0]? = some (cA, ty)) (hv : Int32.ofNat x.1 = v)
    (k : RR X nL D A kc ks ws lv (pc + 1) (.int v :: rest)) : RR X nL D A kc ks ws lv pc (.ref a :: rest) := by
  obtain ⟨p, l, e, R, s, m, args, below, meth, c, Q⟩ := X
  obtain ⟨hx, hb, hml, hown, hts, hK, hA, hR, hC, hE⟩ := h
  intro H locs ls hP hD hS hl
  exact va_alen hx hb hK hP q0 t0 ha ht hv hd (k H locs ls hP hD hS hl)
theorem r_min {index : Nat} {x y : Int32} (h : rx_ok X cc nL own D tys A d kc ks z) (hd : decode cc pc = .ok (.invokestatic index, 3)) (hlink : Cond.methodLink own index Lib.Math.min.name ∈ TB) (hstat : Cond.static Lib.Math.min.name ∈ TB) (hini : Cond.initialized "java/lang/Math" ∈ TB) (hcode : Cond.code Lib.Math.min.name Lib.Math.min.code 2 (some .int) ∈ TB) (hd1 : 1 ≤ d) (hrest : (rest.map fun v => v.category).sum ≤ 8)
    (k : RR X nL D A kc ks ws lv (pc + 3) (.int (if y < x then y else x) :: rest)) : RR X nL D A kc ks ws lv pc (.int y :: .int x :: rest) := by
  obtain ⟨p, l, e, R, s, m, args, below, meth, c, Q⟩ := X
  obtain ⟨hx, hb, hml, hown, hts, hK, hA, hR, hC, hE⟩ := h
  intro H locs ls hP hD hS hl
  exact va_mmin hx hb (hml.trans hl.1.symm) hown (hts _ hlink) (hts _ hstat) (hts _ hini) (hts _ hcode) (by omega) (by omega) hC.1 hC.2 hd (k H locs ls hP hD hS hl)
theorem r_max {index : Nat} {x y : Int32} (h : rx_ok X cc nL own D tys A d kc ks z) (hd : decode cc pc = .ok (.invokestatic index, 3)) (hlink : Cond.methodLink own index Lib.Math.max.name ∈ TB) (hstat : Cond.static Lib.Math.max.name ∈ TB) (hini : Cond.initialized "java/lang/Math" ∈ TB) (hcode : Cond.code Lib.Math.max.name Lib.Math.max.code 2 (some .int) ∈ TB) (hd1 : 1 ≤ d) (hrest : (rest.map fun v => v.category).sum ≤ 8)
    (k : RR X nL D A kc ks ws lv (pc + 3) (.int (if x < y then y else x) :: rest)) : RR X nL D A kc ks ws lv pc (.int y :: .int x :: rest) := by
  obtain ⟨p, l, e, R, s, m, args, below, meth, c, Q⟩ := X
  obtain ⟨hx, hb, hml, hown, hts, hK, hA, hR, hC, hE⟩ := h
  intro H locs ls hP hD hS hl
  exact va_mmax hx hb (hml.trans hl.1.symm) hown (hts _ hlink) (hts _ hstat) (hts _ hini) (hts _ hcode) (by omega) (by omega) hC.1 hC.2 hd (k H locs ls hP hD hS hl)
theorem r_minl {index : Nat} {x y : Int64} (h : rx_ok X cc nL own D tys A d kc ks z) (hd : decode cc pc = .ok (.invokestatic index, 3)) (hlink : Cond.methodLink own index Lib.MathLoose.min_long.x ∈ TB) (hstat : Cond.static Lib.MathLoose.min_long.x ∈ TB) (hini : Cond.initialized "java/lang/Math" ∈ TB) (hcode : Cond.code Lib.MathLoose.min_long.x Lib.MathLoose.min_long.code 4 (some .long) ∈ TB) (hd1 : 1 ≤ d) (hrest : (rest.map fun v => v.category).sum ≤ 8)
    (k : RR X nL D A kc ks ws lv (pc + 3) (.long (if y < x then y else x) :: rest)) : RR X nL D A kc ks ws lv pc (.long y :: .long x :: rest) := by
  obtain ⟨p, l, e, R, s, m, args, below, meth, c, Q⟩ := X
  obtain ⟨hx, hb, hml, hown, hts, hK, hA, hR, hC, hE⟩ := h
  intro H locs ls hP hD hS hl
  exact va_mmin_long hx hb (hml.trans hl.1.symm) hown (hts _ hlink) (hts _ hstat) (hts _ hini) (hts _ hcode) (by omega) (by omega) hC.1 hC.2 hd (k H locs ls hP hD hS hl)
theorem r_copy {index a a0 n0 n1 : Nat} {c0 c1 : ClassId} {f g : Nat → Int32} {sp dp n : Int32} (q0 q1 t0 t1 i0 i1 i2 : Nat) (h : rx_ok X cc nL own D tys A d kc ks z) (hd : decode cc pc = .ok (.invokestatic index, 3)) (hlink : Cond.methodLink own index arraycopyName ∈ TB) (hnat : Cond.native arraycopyName ∈ TB) (hstat : Cond.static arraycopyName ∈ TB) (hini : Cond.initialized "java/lang/System" ∈ TB)
    (ha0 : ws[q0]? = some (a0, .inl (c0, n0, .inl f))) (ha1 : ws[q1]? = some (a, .inl (c1, n1, .inl g))) (ht0 : tys[t0]? = some (c0, .int)) (ht1 : tys[t1]? = some (c1, .int)) (hi0 : sp = nI i0) (hi1 : dp = nI i1) (hi2 : n = nI i2) (h4 : i0 + i2 ≤ n0) (h5 : i1 + i2 ≤ n1) (hn0 : n0 < 2 ^ 31) (hn1 : n1 < 2 ^ 31) (hd1 : 1 ≤ d) (hrest : (rest.map fun v => v.category).sum ≤ 8)
    (k : RR X nL D A kc ks (ws.set q1 (a, .inl (c1, n1, .inl (va_cpy f g i0 i1 i2)))) lv (pc + 3) rest) : RR X nL D A kc ks ws lv pc (.int n :: .int dp :: .ref a :: .int sp :: .ref a0 :: rest) := by
  obtain ⟨p, l, e, R, s, m, args, below, meth, c, Q⟩ := X
  obtain ⟨hx, hb, hml, hown, hts, hK, hA, hR, hC, hE⟩ := h
  intro H locs ls hP hD hS hl
  subst hi0 hi1 hi2
  have e0 : (nI i0).toNatClampNeg = i0 := nI_clamp (by omega)
  have e1 : (nI i1).toNatClampNeg = i1 := nI_clamp (by omega)
  have e2 : (nI i2).toNatClampNeg = i2 := nI_clamp (by omega)
  have hw : nativeFrameWords "java/lang/System" "arraycopy" 5 + 11 ≤ 32 := by decide
  refine va_copyi hx hb (hml.trans hl.1.symm) hown (hts _ hlink) (hts _ hnat) (hts _ hstat) (hts _ hini) hK hP hD hS q0 q1 t0 t1 ha0 ha1 ht0 ht1 rfl (nI_pos (by omega)) (nI_pos (by omega)) (nI_pos (by omega)) (by rw [e0, e2]; exact h4) (by rw [e1, e2]; exact h5) (fun _ _ => rfl) (by omega) (by omega) hd (fun H locs hP hD hS => ?_)
  rw [e0, e1, e2] at hP hD
  exact k H locs ls hP hD hS hl
end RL
theorem rx_inc (p : Nat) : nI p + Int32.ofInt 1 = nI (p + 1) := nI_1 p

/-! Contracts. -/
/-- what a method's end says: an outcome u that 'post' allows, its answer, its world; nothing else has changed -/
def ct_Q {S : Type} (D : va_G) (wi : va_W) (sz : Nat) (post : S → Prop) (rv : S → Option Value) (wo : S → va_W) : Array Value → State → Outcome → State → Prop :=
  fun _ st oc t => (∃ u : S, post u ∧ oc = .returned (rv u) ∧ va_P D vwCl (wo u) t.heap) ∧ va_F (va_A wi sz) st t
def ct_P (D : va_G) (tys : List (ClassId × FieldType)) (z : Option Nat) (av : List Value) (wi : va_W) (sz : Nat) : Array Value → State → Prop :=
  va_Pc av (fun U => U.heap.size = sz ∧ va_P D vwCl wi U.heap ∧ va_K D vwCl tys U ∧ va_D (fun _ => True) wi ∧ ez z (va_A wi sz) U U.heap)
/-- the contract of a method that makes nothing: d frames below it at most -/
def CT {S : Type} (l : Launch) (D : va_G) (tys : List (ClassId × FieldType)) (z : Option Nat) (y : MethodName) (cc : ByteArray) (nL : Nat) (ret : Option FieldType) (d : Nat) (av : List Value) (wi : va_W) (post : S → Prop) (rv : S → Option Value) (wo : S → va_W) : Prop :=
  ∀ sz : Nat, Met l y (Cond.code y cc nL ret :: TB) { frames := d, cells := 0, slots := 0, locals := 40 * d } (ct_P D tys z av wi sz) (ct_Q D wi sz post rv wo) 0 0 (va_A wi sz)
def rx_fin {S : Type} (X : rx_T) (ret : Option FieldType) (D : va_G) (wi : va_W) (A : Nat → Prop) (post : S → Prop) (rv : S → Option Value) (wo : S → va_W) : Prop :=
  match X with
  | (_, _, _, _, s, _, args, below, meth, _, Q) => meth.sig.returnType = ret ∧ meth.locks = false ∧ ∃ sz : Nat, A = va_A wi sz ∧ Q = MQ below (ct_Q D wi sz post rv wo) args s 0 0 (va_A wi sz)
theorem ez_moved {z : Option Nat} {A : Nat → Prop} {u U : State} {H : Heap} (hvm : u.vm.Alike U.vm) (h : ez z A u H) : ez z A U H := by
  cases z with
  | none => trivial
  | some t => exact ⟨h.1.moved hvm, h.2.moved hvm⟩
theorem ez_kept {z : Option Nat} {A B : Nat → Prop} {U : State} {H0 H : Heap} {locs : List Loc} (h : ez z A U H0) (hS : va_S A H0 H locs) (hAB : ∀ q, B q → A q) : ez z B U H := by
  cases z with
  | none => trivial
  | some t => exact ⟨(h.1.kept hS.2.1).narrow hAB, (h.2.kept hS.2.1).narrow hAB⟩
theorem ez_sub {z z' : Option Nat} {A : Nat → Prop} {U : State} {H : Heap} (h : ez z A U H) (hz : z' = none ∨ z' = z) : ez z' A U H := by
  rcases hz with rfl | rfl
  · trivial
  · exact h
theorem CT.of {S : Type} {l : Launch} {D : va_G} {tys : List (ClassId × FieldType)} {z : Option Nat} {y : MethodName} {cc : ByteArray} {nL : Nat} {ret : Option FieldType} {d : Nat} {av : List Value} {wi : va_W} {post : S → Prop} {rv : S → Option Value} {wo : S → va_W} (hy : plainName y.cls = true) (hlen : (lg_sl av).length ≤ nL)
    (body : ∀ (X : rx_T) (A : Nat → Prop), X.2.1 = l → rx_ok X cc nL y.cls D tys A d 0 0 z → rx_fin X ret D wi A post rv wo → RR X nL D A 0 0 wi (lv_args 0 av) 0 []) : CT l D tys z y cc nL ret d av wi post rv wo := by
  intro sz
  refine Met.ofW (cc := cc) (maxL := nL) (ret := ret) hy rfl ?_
  intro p e s m args below meth c s₁ B hml hv
  obtain ⟨rfl, hsz, hP, hK, hD0, hE⟩ := hv
  have hts := atoms_spec (ws := Cond.code y cc nL ret :: TB) B.pre
  have hown : s.vm.findClass y.cls = some m.cls := findClass_of_methodNamed B.named
  subst hsz
  have hD := hD0.self (sz := s.heap.size)
  rw [lg_entry_eq]
  have hl := lv_entry av (n := nL) hlen
  exact body (p, l, e, _, s, m, _, below, meth, c, _) (va_A wi s.heap.size) rfl ⟨B.exec, B.bytes, hml, hown, fun w hw => hts w (List.mem_cons_of_mem _ hw), hK, fun q h => Or.inr h, ⟨Nat.le_refl _, Nat.le_refl _⟩, ⟨Nat.le_refl _, Nat.le_refl _⟩, hE⟩ ⟨B.returns, B.notSynchronized, s.heap.size, rfl, rfl⟩ s.heap [] _ hP hD va_S.rf hl
section RC
variable {X : rx_T} {cc : ByteArray} {nL : Nat} {own : String} {z : Option Nat} {D : va_G} {tys : List (ClassId × FieldType)} {A : Nat → Prop} {d kc ks pc : Nat} {ws wi : va_W} {lv : List (Nat × Value)} {rest st : List Value} {S : Type} {post : S → Prop} {rv : S → Option Value} {wo : S → va_W}
theorem r_iret {v : Int32} (u : S) (h : rx_ok X cc nL own D tys A d 0 0 z) (hf : rx_fin X (some .int) D wi A post rv wo) (hd : decode cc pc = .ok (.ireturn, 1)) (hp : post u) (hv : rv u = some (.int v)) (hw : ws = wo u) : RR X nL D A 0 0 ws lv pc [.int v] := by
  obtain ⟨p, l, e, R, s, m, args, below, meth, c, Q⟩ := X
  obtain ⟨hx, hb, hml, hown, hts, hK, hA, hR, hC, hE⟩ := h
  obtain ⟨hr, hlk, sz, rfl, rfl⟩ := hf
  intro H locs ls hP hD hS hl
  exact W.iret hx hb hr (fun t ht _ => ⟨⟨u, hp, by rw [hv], by rw [ht, ← hw]; exact hP⟩, hS.F ht⟩) hS.2.2 hd hlk
theorem r_zret {v : Int32} (u : S) (h : rx_ok X cc nL own D tys A d 0 0 z) (hf : rx_fin X (some .boolean) D wi A post rv wo) (hd : decode cc pc = .ok (.ireturn, 1)) (hn : narrow .boolean (.int v) = .int v) (hp : post u) (hv : rv u = some (.int v)) (hw : ws = wo u) : RR X nL D A 0 0 ws lv pc [.int v] := by
  obtain ⟨p, l, e, R, s, m, args, below, meth, c, Q⟩ := X
  obtain ⟨hx, hb, hml, hown, hts, hK, hA, hR, hC, hE⟩ := h
  obtain ⟨hr, hlk, sz, rfl, rfl⟩ := hf
  intro H locs ls hP hD hS hl
  exact W.zret hx hb hr hn (fun t ht _ => ⟨⟨u, hp, by rw [hv], by rw [ht, ← hw]; exact hP⟩, hS.F ht⟩) hS.2.2 hd hlk
theorem r_lret {v : Int64} (u : S) (h : rx_ok X cc nL own D tys A d 0 0 z) (hf : rx_fin X (some .long) D wi A post rv wo) (hd : decode cc pc = .ok (.lreturn, 1)) (hp : post u) (hv : rv u = some (.long v)) (hw : ws = wo u) : RR X nL D A 0 0 ws lv pc [.long v] := by
  obtain ⟨p, l, e, R, s, m, args, below, meth, c, Q⟩ := X
  obtain ⟨hx, hb, hml, hown, hts, hK, hA, hR, hC, hE⟩ := h
  obtain ⟨hr, hlk, sz, rfl, rfl⟩ := hf
  intro H locs ls hP hD hS hl
  exact W.lret hx hb hr (fun t ht _ => ⟨⟨u, hp, by rw [hv], by rw [ht, ← hw]; exact hP⟩, hS.F ht⟩) hS.2.2 hd hlk
theorem r_vret (u : S) (h : rx_ok X cc nL own D tys A d 0 0 z) (hf : rx_fin X none D wi A post rv wo) (hd : decode cc pc = .ok (.return_, 1)) (hp : post u) (hv : rv u = none) (hw : ws = wo u) : RR X nL D A 0 0 ws lv pc [] := by
  obtain ⟨p, l, e, R, s, m, args, below, meth, c, Q⟩ := X
  obtain ⟨hx, hb, hml, hown, hts, hK, hA, hR, hC, hE⟩ := h
  obtain ⟨hr, hlk, sz, rfl, rfl⟩ := hf
  intro H locs ls hP hD hS hl
  exact W.vret hx hb hr (fun t ht _ => ⟨⟨u, hp, by rw [hv], by rw [ht, ← hw]; exact hP⟩, hS.F ht⟩) hS.2.2 hd hlk
end RC
/-- the callee's cells are put back at their places -/
def wput : va_W → List Nat → va_W → va_W
  | ws, i :: is, q :: cs => wput (ws.set i q) is cs
  | ws, _, _ => ws
theorem wput_at : ∀ (is : List Nat) (cs ws : va_W), is.length = cs.length → ∀ (k : Nat) (q : Nat × va_E), (wput ws is cs)[k]? = some q → (∃ j : Nat, is[j]? = some k ∧ cs[j]? = some q) ∨ (k ∉ is ∧ ws[k]? = some q)
  | [], cs, ws, _, k, q, h => Or.inr ⟨List.not_mem_nil, by simpa [wput] using h⟩
  | i :: is, [], ws, hl, k, q, h => by simp at hl
  | i :: is, c :: cs, ws, hl, k, q, h => by
    have h' : (wput (ws.set i c) is cs)[k]? = some q := h
    rcases wput_at is cs (ws.set i c) (by simpa using hl) k q h' with ⟨j, h1, h2⟩ | ⟨h1, h2⟩
    · exact Or.inl ⟨j + 1, by simpa using h1, by simpa using h2⟩
    · by_cases e : k = i
      · subst e
        have hlt : k < ws.length := by
          have := (List.getElem?_eq_some_iff.mp h2).1
          simpa using this
        rw [List.getElem?_set_self hlt] at h2
        cases h2
        exact Or.inl ⟨0, rfl, rfl⟩
      · rw [List.getElem?_set_ne (Ne.symm e)] at h2
        exact Or.inr ⟨by simp [e, h1], h2⟩
theorem wmap_at {is : List Nat} {ws wi : va_W} (hC : is.map (fun i => ws[i]?) = wi.map some) {j k : Nat} (hj : is[j]? = some k) : wi[j]? = ws[k]? := by
  have h1 : (is.map (fun i => ws[i]?))[j]? = some (ws[k]?) := by rw [List.getElem?_map, hj]; rfl
  rw [hC, List.getElem?_map] at h1
  cases hw : wi[j]? with
  | none => rw [hw] at h1; cases h1
  | some q => rw [hw] at h1; exact Option.some.inj h1
theorem wmap_back {is : List Nat} {ws wi : va_W} (hC : is.map (fun i => ws[i]?) = wi.map some) {j : Nat} {q : Nat × va_E} (hj : wi[j]? = some q) : ∃ k, is[j]? = some k ∧ ws[k]? = some q := by
  have h1 : (is.map (fun i => ws[i]?))[j]? = some (some q) := by rw [hC, List.getElem?_map, hj]; rfl
  rw [List.getElem?_map] at h1
  cases hi : is[j]? with
  | none => rw [hi] at h1; cases h1
  | some i => rw [hi] at h1; exact ⟨i, rfl, Option.some.inj h1⟩
theorem wput_ad {is : List Nat} {ws wi cs : va_W} (hC : is.map (fun i => ws[i]?) = wi.map some) (had : cs.map (fun q => q.1) = wi.map (fun q => q.1)) {k : Nat} {q : Nat × va_E} (h : (wput ws is cs)[k]? = some q) : ∃ q0, ws[k]? = some q0 ∧ q0.1 = q.1 := by
  have hlen : is.length = cs.length := by
    have a := congrArg List.length hC
    have b := congrArg List.length had
    simp at a b
    omega
  rcases wput_at is cs ws hlen k q h with ⟨j, h1, h2⟩ | ⟨-, h2⟩
  · have h3 := wmap_at hC h1
    have h4 : (cs.map (fun q => q.1))[j]? = some q.1 := by rw [List.getElem?_map, h2]; rfl
    rw [had, List.getElem?_map, h3] at h4
    cases hw : ws[k]? with
    | none => rw [hw] at h4; cases h4
    | some q0 => rw [hw] at h4; exact ⟨q0, rfl, Option.some.inj h4⟩
  · exact ⟨q, h2, rfl⟩
theorem wput_D {A : Nat → Prop} {is : List Nat} {ws wi cs : va_W} (hD : va_D A ws) (hC : is.map (fun i => ws[i]?) = wi.map some) (had : cs.map (fun q => q.1) = wi.map (fun q => q.1)) : va_D A (wput ws is cs) := by
  refine ⟨fun i j x y hi hj hxy => ?_, fun k q hk => ?_⟩
  · obtain ⟨x0, h1, h2⟩ := wput_ad hC had hi
    obtain ⟨y0, h3, h4⟩ := wput_ad hC had hj
    exact hD.1 i j x0 y0 h1 h3 (h2.trans (hxy.trans h4.symm))
  · obtain ⟨q0, h1, h2⟩ := wput_ad hC had hk
    rw [← h2]
    exact hD.2 k q0 h1
theorem wput_P {A : Nat → Prop} {D : va_G} {is : List Nat} {ws wi cs : va_W} {H H1 : Heap} (hP : va_P D vwCl ws H) (hD : va_D A ws) (hC : is.map (fun i => ws[i]?) = wi.map some) (had : cs.map (fun q => q.1) = wi.map (fun q => q.1)) (hk : ∀ q : Nat, q < H.size → ¬ va_A wi H.size q → H1[q]? = H[q]?) (hP1 : va_P D vwCl cs H1) : va_P D vwCl (wput ws is cs) H1 := by
  have hlen : is.length = cs.length := by
    have a := congrArg List.length hC
    have b := congrArg List.length had
    simp at a b
    omega
  intro k q hq
  rcases wput_at is cs ws hlen k q hq with ⟨j, h1, h2⟩ | ⟨h1, h2⟩
  · exact hP1 j q h2
  · have hlt := (hP k q h2).lt
    refine (hP k q h2).kept (hk q.1 hlt ?_)
    rintro (⟨j, e, h3⟩ | h3)
    · obtain ⟨i, h4, h5⟩ := wmap_back hC h3
      have hki := hD.1 k i q (q.1, e) h2 h5 rfl
      subst hki
      exact h1 (List.mem_of_getElem? h4)
    · omega
theorem w_call {p : Program} {l : Launch} {e : Env} {R : Room} {s : State} {m : MethodId} {args a : Array Value} {below : List Frame} {meth : Method} {c : Code} {H : Heap} {locs : List Loc} {kc ks pc : Nat} {Q : State → Prop} {ls : Array Slot} {st0 rest : List Value} {D : va_G} {A : Nat → Prop} {wi : va_W} {S : Type} {post : S → Prop} {rv : S → Option Value} {wo : S → va_W} (wn : S → va_W)
    (hS : va_S A s.heap H locs) (hF : ∀ q, va_A wi H.size q → A q)
    (hr : va_Run p l e R s m args below meth c H locs kc ks 0 0 (F0 m pc ls st0) rest (ct_Q D wi H.size post rv wo a) (va_A wi H.size))
    (hn : ∀ (u : S) (H1 : Heap), (∀ q : Nat, q < H.size → ¬ va_A wi H.size q → H1[q]? = H[q]?) → va_P D vwCl (wo u) H1 → va_P D vwCl (wn u) H1 ∧ va_D A (wn u))
    (kk : ∀ (u : S) (H1 : Heap) (locs1 : List Loc), post u → va_P D vwCl (wn u) H1 → va_D A (wn u) → va_S A s.heap H1 locs1 → W p l e R s m args below meth c H1 locs1 kc ks Q (F0 m (pc + 3) ls ((rv u).toList ++ rest))) : W p l e R s m args below meth c H locs kc ks Q (F0 m pc ls st0) := by
  intro T hT X
  obtain ⟨v, st₀, t, T', L, h0, X', hL, e1, e2, ⟨⟨u, hp, hv, hP1⟩, hz, hk⟩, stp⟩ := hr T hT X
  cases hv
  rw [h0] at hz hk
  have hk1 : ∀ q : Nat, q < H.size → ¬ va_A wi H.size q → T'.heap[q]? = H[q]? := fun q h1 h2 => by rw [e1]; exact hk q h1 h2
  obtain ⟨n1, n2⟩ := hn u T'.heap hk1 (by rw [e1]; exact hP1)
  obtain ⟨t2, a1, b1⟩ := kk u T'.heap (locs ++ L) hp n1 n2
    ⟨Nat.le_trans hS.1 (by rw [e1]; exact hz), fun q h1 h2 => by rw [hk1 q (Nat.lt_of_lt_of_le h1 hS.1) (fun w => h2 (hF q w))]; exact hS.2.1 q h1 h2, fun q hq => by
      rcases List.mem_append.mp hq with h | h
      · exact hS.2.2 q h
      · exact hF _ (hL q h)⟩ T' rfl X'
  exact ⟨t2, stp t2 a1, b1⟩
theorem wall_D {A : Nat → Prop} {ws wo : va_W} (hD : va_D A ws) (had : wo.map (fun q => q.1) = ws.map (fun q => q.1)) : va_D A wo := by
  have key : ∀ (k : Nat) (q : Nat × va_E), wo[k]? = some q → ∃ q0, ws[k]? = some q0 ∧ q0.1 = q.1 := by
    intro k q hk
    have h4 : (wo.map (fun q => q.1))[k]? = some q.1 := by rw [List.getElem?_map, hk]; rfl
    rw [had, List.getElem?_map] at h4
    cases hw : ws[k]? with
    | none => rw [hw] at h4; cases h4
    | some q0 => rw [hw] at h4; exact ⟨q0, rfl, Option.some.inj h4⟩
  refine ⟨fun i j x y hi hj hxy => ?_, fun k q hk => ?_⟩
  · obtain ⟨x0, h1, h2⟩ := key i x hi
    obtain ⟨y0, h3, h4⟩ := key j y hj
    exact hD.1 i j x0 y0 h1 h3 (h2.trans (hxy.trans h4.symm))
  · obtain ⟨q0, h1, h2⟩ := key k q hk
    rw [← h2]
    exact hD.2 k q0 h1
theorem wall_F {A0 : Nat → Prop} {ws : va_W} {H0 H : Heap} {locs : List Loc} (hD : va_D A0 ws) (hS : va_S A0 H0 H locs) (hA : ∀ q, H0.size ≤ q → A0 q) : ∀ q, va_A ws H.size q → A0 q := by
  rintro q (⟨k, e, h⟩ | h)
  · exact hD.2 k (q, e) h
  · exact hA q (Nat.le_trans hS.1 h)
theorem tb_in {y : MethodName} {cc : ByteArray} {nL : Nat} {ret : Option FieldType} (h : Cond.code y cc nL ret ∈ TB) : GoodIn TB (Cond.code y cc nL ret :: TB) := by
  intro w hw
  rcases List.mem_cons.mp hw with rfl | hw
  · exact ⟨h, tb_good _ h⟩
  · exact ⟨hw, tb_good _ hw⟩
theorem ct_blind {D : va_G} {tys : List (ClassId × FieldType)} {z : Option Nat} {av : List Value} {wi : va_W} {sz : Nat} : FrameBlind (ct_P D tys z av wi sz) := by
  intro a U g mk q
  obtain ⟨q0, q1, qP, qK, qD, qE⟩ := q
  exact ⟨q0, q1, qP, va_K.moved (u := U) (U := U.calling g mk a) (Vm.Alike.refl U.vm) qK, qD, ez_moved (u := U) (U := U.calling g mk a) (Vm.Alike.refl U.vm) qE⟩
section RD
variable {X : rx_T} {cc : ByteArray} {nL : Nat} {own : String} {z z' : Option Nat} {D : va_G} {tys : List (ClassId × FieldType)} {A : Nat → Prop} {d d' kc ks pc : Nat} {ws wi : va_W} {lv : List (Nat × Value)} {rest st : List Value} {S : Type} {post : S → Prop} {rv : S → Option Value} {wo : S → va_W} {y : MethodName} {cy : ByteArray} {ny n index b : Nat} {ret : Option FieldType} {As : List Value}
theorem r_callV {ci : Nat} {T : u_T} {N q0 : Nat} {fs : List Value} (is : List Nat) (h : rx_ok X cc nL own D tys A d kc ks z) (hd : decode cc pc = .ok (.invokevirtual index, 3)) (hcw : CWV y cy ny ret n) (hlink : Cond.methodLink own index y ∈ TB) (hM : CT X.2.1 D tys z' y cy ny ret d' (.ref b :: As) wi post rv wo) (hz : z' = none ∨ z' = z) (hst : As.reverse ++ .ref b :: rest = st) (hn : As.length = n) (hrecv : wi[q0]? = some (b, .inr (ci, fs))) (hci : vwCl[ci]? = some (y.cls, T, N)) (hd' : d' < d) (hrest : (rest.map fun v => v.category).sum ≤ 8) (hC : is.map (fun i => ws[i]?) = wi.map some) (had : ∀ u, (wo u).map (fun q => q.1) = wi.map (fun q => q.1)) (hnd : va_nd is = true)
    (k : ∀ u, post u → RR X nL D A kc ks (wput ws is (wo u)) lv (pc + 3) ((rv u).toList ++ rest)) : RR X nL D A kc ks ws lv pc st := by
  obtain ⟨p, l, e, R, s, m, args, below, meth, c, Q⟩ := X
  obtain ⟨hx, hb, hml, hown, hts, hK, hA, hR, hRC, hE⟩ := h
  obtain ⟨w1, w2, w3, w4, w5, w6⟩ := hcw
  subst hst
  intro H locs ls hP hD hS hl
  have hPc : va_P D vwCl wi H := fun j q hj => by
    obtain ⟨i, -, hi⟩ := wmap_back hC hj
    exact hP i q hi
  have hDc : va_D (fun _ => True) wi := by
    have h1 := hD.sub is hnd hC
    exact h1.weaken (fun _ _ _ _ => trivial)
  have hF := va_free hD hS hA is hC
  refine w_call (fun u => wput ws is (wo u)) hS hF (va_runV (As := As) (rest := rest) (C := y.cls) ⟨hx, hb, hml, hown, hts⟩ (hM H.size) ⟨callB_of n hts (tb_in w4) rfl rfl rfl (hts _ w3) (hts _ hlink) w6 ⟨by show d' + 1 ≤ R.frames; omega, by show 8 + (ny + 11) + 40 * d' ≤ R.locals; omega⟩, hts _ w1, hts _ w2⟩ ⟨ct_blind, va_recv hK hPc hci hrecv, fun U hU hW => ⟨rfl, by rw [hU], by rw [hU]; exact hPc, va_K.moved hW.alike hK, hDc, ez_sub (ez_moved hW.alike (by rw [hU]; exact ez_kept hE hS hF)) hz⟩⟩ rfl hn hl.1 rfl (lv_room hrest) hd ⟨hRC.1, hRC.2⟩) (fun u H1 hk hP1 => ⟨wput_P hP hD hC (had u) hk hP1, wput_D hD hC (had u)⟩) ?_
  intro u H1 locs1 hp hP hD hS
  exact k u hp H1 locs1 ls hP hD hS hl
theorem r_callS (is : List Nat) (h : rx_ok X cc nL own D tys A d kc ks z) (hd : decode cc pc = .ok (.invokestatic index, 3)) (hcw : CWS y cy ny ret n) (hlink : Cond.methodLink own index y ∈ TB) (hM : CT X.2.1 D tys z' y cy ny ret d' As wi post rv wo) (hz : z' = none ∨ z' = z) (hst : As.reverse ++ rest = st) (hn : As.length = n) (hd' : d' < d) (hrest : (rest.map fun v => v.category).sum ≤ 8) (hC : is.map (fun i => ws[i]?) = wi.map some) (had : ∀ u, (wo u).map (fun q => q.1) = wi.map (fun q => q.1)) (hnd : va_nd is = true)
    (k : ∀ u, post u → RR X nL D A kc ks (wput ws is (wo u)) lv (pc + 3) ((rv u).toList ++ rest)) : RR X nL D A kc ks ws lv pc st := by
  obtain ⟨p, l, e, R, s, m, args, below, meth, c, Q⟩ := X
  obtain ⟨hx, hb, hml, hown, hts, hK, hA, hR, hRC, hE⟩ := h
  obtain ⟨w1, w3, w4, w5, w6⟩ := hcw
  subst hst
  intro H locs ls hP hD hS hl
  have hPc : va_P D vwCl wi H := fun j q hj => by
    obtain ⟨i, -, hi⟩ := wmap_back hC hj
    exact hP i q hi
  have hDc : va_D (fun _ => True) wi := by
    have h1 := hD.sub is hnd hC
    exact h1.weaken (fun _ _ _ _ => trivial)
  have hF := va_free hD hS hA is hC
  refine w_call (fun u => wput ws is (wo u)) hS hF (va_runS (As := As) (rest := rest) ⟨hx, hb, hml, hown, hts⟩ (hM H.size) ⟨callB_of n hts (tb_in w4) rfl rfl rfl (hts _ w3) (hts _ hlink) w6 ⟨by show d' + 1 ≤ R.frames; omega, by show 8 + (ny + 11) + 40 * d' ≤ R.locals; omega⟩, hts _ w1⟩ ⟨ct_blind, fun U hU hW => ⟨rfl, by rw [hU], by rw [hU]; exact hPc, va_K.moved hW.alike hK, hDc, ez_sub (ez_moved hW.alike (by rw [hU]; exact ez_kept hE hS hF)) hz⟩⟩ rfl hn hl.1 rfl (lv_room hrest) hd ⟨hRC.1, hRC.2⟩) (fun u H1 hk hP1 => ⟨wput_P hP hD hC (had u) hk hP1, wput_D hD hC (had u)⟩) ?_
  intro u H1 locs1 hp hP hD hS
  exact k u hp H1 locs1 ls hP hD hS hl
theorem r_callVw {ci : Nat} {T : u_T} {N q0 : Nat} {fs : List Value} (h : rx_ok X cc nL own D tys A d kc ks z) (hd : decode cc pc = .ok (.invokevirtual index, 3)) (hcw : CWV y cy ny ret n) (hlink : Cond.methodLink own index y ∈ TB) (hM : CT X.2.1 D tys z' y cy ny ret d' (.ref b :: As) ws post rv wo) (hz : z' = none ∨ z' = z) (hst : As.reverse ++ .ref b :: rest = st) (hn : As.length = n) (hrecv : ws[q0]? = some (b, .inr (ci, fs))) (hci : vwCl[ci]? = some (y.cls, T, N)) (hd' : d' < d) (hrest : (rest.map fun v => v.category).sum ≤ 8) (had : ∀ u, (wo u).map (fun q => q.1) = ws.map (fun q => q.1))
    (k : ∀ u, post u → RR X nL D A kc ks (wo u) lv (pc + 3) ((rv u).toList ++ rest)) : RR X nL D A kc ks ws lv pc st := by
  obtain ⟨p, l, e, R, s, m, args, below, meth, c, Q⟩ := X
  obtain ⟨hx, hb, hml, hown, hts, hK, hA, hR, hRC, hE⟩ := h
  obtain ⟨w1, w2, w3, w4, w5, w6⟩ := hcw
  subst hst
  intro H locs ls hP hD hS hl
  have hPc : va_P D vwCl ws H := hP
  have hDc : va_D (fun _ => True) ws := hD.weaken (fun _ _ _ _ => trivial)
  have hF := wall_F hD hS hA
  refine w_call wo hS hF (va_runV (As := As) (rest := rest) (C := y.cls) ⟨hx, hb, hml, hown, hts⟩ (hM H.size) ⟨callB_of n hts (tb_in w4) rfl rfl rfl (hts _ w3) (hts _ hlink) w6 ⟨by show d' + 1 ≤ R.frames; omega, by show 8 + (ny + 11) + 40 * d' ≤ R.locals; omega⟩, hts _ w1, hts _ w2⟩ ⟨ct_blind, va_recv hK hPc hci hrecv, fun U hU hW => ⟨rfl, by rw [hU], by rw [hU]; exact hPc, va_K.moved hW.alike hK, hDc, ez_sub (ez_moved hW.alike (by rw [hU]; exact ez_kept hE hS hF)) hz⟩⟩ rfl hn hl.1 rfl (lv_room hrest) hd ⟨hRC.1, hRC.2⟩) (fun u H1 hk hP1 => ⟨hP1, wall_D hD (had u)⟩) ?_
  intro u H1 locs1 hp hP hD hS
  exact k u hp H1 locs1 ls hP hD hS hl
theorem r_callSw (h : rx_ok X cc nL own D tys A d kc ks z) (hd : decode cc pc = .ok (.invokestatic index, 3)) (hcw : CWS y cy ny ret n) (hlink : Cond.methodLink own index y ∈ TB) (hM : CT X.2.1 D tys z' y cy ny ret d' As ws post rv wo) (hz : z' = none ∨ z' = z) (hst : As.reverse ++ rest = st) (hn : As.length = n) (hd' : d' < d) (hrest : (rest.map fun v => v.category).sum ≤ 8) (had : ∀ u, (wo u).map (fun q => q.1) = ws.map (fun q => q.1))
    (k : ∀ u, post u → RR X nL D A kc ks (wo u) lv (pc + 3) ((rv u).toList ++ rest)) : RR X nL D A kc ks ws lv pc st := by
  obtain ⟨p, l, e, R, s, m, args, below, meth, c, Q⟩ := X
  obtain ⟨hx, hb, hml, hown, hts, hK, hA, hR, hRC, hE⟩ := h
  obtain ⟨w1, w3, w4, w5, w6⟩ := hcw
  subst hst
  intro H locs ls hP hD hS hl
  have hPc : va_P D vwCl ws H := hP
  have hDc : va_D (fun _ => True) ws := hD.weaken (fun _ _ _ _ => trivial)
  have hF := wall_F hD hS hA
  refine w_call wo hS hF (va_runS (As := As) (rest := rest) ⟨hx, hb, hml, hown, hts⟩ (hM H.size) ⟨callB_of n hts (tb_in w4) rfl rfl rfl (hts _ w3) (hts _ hlink) w6 ⟨by show d' + 1 ≤ R.frames; omega, by show 8 + (ny + 11) + 40 * d' ≤ R.locals; omega⟩, hts _ w1⟩ ⟨ct_blind, fun U hU hW => ⟨rfl, by rw [hU], by rw [hU]; exact hPc, va_K.moved hW.alike hK, hDc, ez_sub (ez_moved hW.alike (by rw [hU]; exact ez_kept hE hS hF)) hz⟩⟩ rfl hn hl.1 rfl (lv_room hrest) hd ⟨hRC.1, hRC.2⟩) (fun u H1 hk hP1 => ⟨hP1, wall_D hD (had u)⟩) ?_
  intro u H1 locs1 hp hP hD hS
  exact k u hp H1 locs1 ls hP hD hS hl
theorem r_callVi {ri : S → Int32} {ci : Nat} {T : u_T} {N q0 : Nat} {fs : List Value} (is : List Nat) (h : rx_ok X cc nL own D tys A d kc ks z) (hd : decode cc pc = .ok (.invokevirtual index, 3)) (hcw : CWV y cy ny ret n) (hlink : Cond.methodLink own index y ∈ TB) (hM : CT X.2.1 D tys z' y cy ny ret d' (.ref b :: As) wi post (fun u => some (.int (ri u))) wo) (hz : z' = none ∨ z' = z) (hst : As.reverse ++ .ref b :: rest = st) (hn : As.length = n) (hrecv : wi[q0]? = some (b, .inr (ci, fs))) (hci : vwCl[ci]? = some (y.cls, T, N)) (hd' : d' < d) (hrest : (rest.map fun v => v.category).sum ≤ 8) (hC : is.map (fun i => ws[i]?) = wi.map some) (had : ∀ u, (wo u).map (fun q => q.1) = wi.map (fun q => q.1)) (hnd : va_nd is = true)
    (k : ∀ u, post u → RR X nL D A kc ks (wput ws is (wo u)) lv (pc + 3) (.int (ri u) :: rest)) : RR X nL D A kc ks ws lv pc st :=
  r_callV is h hd hcw hlink hM hz hst hn hrecv hci hd' hrest hC had hnd k
theorem r_callVl {ri : S → Int64} {ci : Nat} {T : u_T} {N q0 : Nat} {fs : List Value} (is : List Nat) (h : rx_ok X cc nL own D tys A d kc ks z) (hd : decode cc pc = .ok (.invokevirtual index, 3)) (hcw : CWV y cy ny ret n) (hlink : Cond.methodLink own index y ∈ TB) (hM : CT X.2.1 D tys z' y cy ny ret d' (.ref b :: As) wi post (fun u => some (.long (ri u))) wo) (hz : z' = none ∨ z' = z) (hst : As.reverse ++ .ref b :: rest = st) (hn : As.length = n) (hrecv : wi[q0]? = some (b, .inr (ci, fs))) (hci : vwCl[ci]? = some (y.cls, T, N)) (hd' : d' < d) (hrest : (rest.map fun v => v.category).sum ≤ 8) (hC : is.map (fun i => ws[i]?) = wi.map some) (had : ∀ u, (wo u).map (fun q => q.1) = wi.map (fun q => q.1)) (hnd : va_nd is = true)
    (k : ∀ u, post u → RR X nL D A kc ks (wput ws is (wo u)) lv (pc + 3) (.long (ri u) :: rest)) : RR X nL D A kc ks ws lv pc st :=
  r_callV is h hd hcw hlink hM hz hst hn hrecv hci hd' hrest hC had hnd k
theorem r_callVv {ci : Nat} {T : u_T} {N q0 : Nat} {fs : List Value} (is : List Nat) (h : rx_ok X cc nL own D tys A d kc ks z) (hd : decode cc pc = .ok (.invokevirtual index, 3)) (hcw : CWV y cy ny ret n) (hlink : Cond.methodLink own index y ∈ TB) (hM : CT X.2.1 D tys z' y cy ny ret d' (.ref b :: As) wi post (fun _ => none) wo) (hz : z' = none ∨ z' = z) (hst : As.reverse ++ .ref b :: rest = st) (hn : As.length = n) (hrecv : wi[q0]? = some (b, .inr (ci, fs))) (hci : vwCl[ci]? = some (y.cls, T, N)) (hd' : d' < d) (hrest : (rest.map fun v => v.category).sum ≤ 8) (hC : is.map (fun i => ws[i]?) = wi.map some) (had : ∀ u, (wo u).map (fun q => q.1) = wi.map (fun q => q.1)) (hnd : va_nd is = true)
    (k : ∀ u, post u → RR X nL D A kc ks (wput ws is (wo u)) lv (pc + 3) rest) : RR X nL D A kc ks ws lv pc st :=
  r_callV is h hd hcw hlink hM hz hst hn hrecv hci hd' hrest hC had hnd k
theorem r_callSi {ri : S → Int32} (is : List Nat) (h : rx_ok X cc nL own D tys A d kc ks z) (hd : decode cc pc = .ok (.invokestatic index, 3)) (hcw : CWS y cy ny ret n) (hlink : Cond.methodLink own index y ∈ TB) (hM : CT X.2.1 D tys z' y cy ny ret d' As wi post (fun u => some (.int (ri u))) wo) (hz : z' = none ∨ z' = z) (hst : As.reverse ++ rest = st) (hn : As.length = n) (hd' : d' < d) (hrest : (rest.map fun v => v.category).sum ≤ 8) (hC : is.map (fun i => ws[i]?) = wi.map some) (had : ∀ u, (wo u).map (fun q => q.1) = wi.map (fun q => q.1)) (hnd : va_nd is = true)
    (k : ∀ u, post u → RR X nL D A kc ks (wput ws is (wo u)) lv (pc + 3) (.int (ri u) :: rest)) : RR X nL D A kc ks ws lv pc st :=
  r_callS is h hd hcw hlink hM hz hst hn hd' hrest hC had hnd k
theorem r_callSl {ri : S → Int64} (is : List Nat) (h : rx_ok X cc nL own D tys A d kc ks z) (hd : decode cc pc = .ok (.invokestatic index, 3)) (hcw : CWS y cy ny ret n) (hlink : Cond.methodLink own index y ∈ TB) (hM : CT X.2.1 D tys z' y cy ny ret d' As wi post (fun u => some (.long (ri u))) wo) (hz : z' = none ∨ z' = z) (hst : As.reverse ++ rest = st) (hn : As.length = n) (hd' : d' < d) (hrest : (rest.map fun v => v.category).sum ≤ 8) (hC : is.map (fun i => ws[i]?) = wi.map some) (had : ∀ u, (wo u).map (fun q => q.1) = wi.map (fun q => q.1)) (hnd : va_nd is = true)
    (k : ∀ u, post u → RR X nL D A kc ks (wput ws is (wo u)) lv (pc + 3) (.long (ri u) :: rest)) : RR X nL D A kc ks ws lv pc st :=
  r_callS is h hd hcw hlink hM hz hst hn hd' hrest hC had hnd k
theorem r_callSv (is : List Nat) (h : rx_ok X cc nL own D tys A d kc ks z) (hd : decode cc pc = .ok (.invokestatic index, 3)) (hcw : CWS y cy ny ret n) (hlink : Cond.methodLink own index y ∈ TB) (hM : CT X.2.1 D tys z' y cy ny ret d' As wi post (fun _ => none) wo) (hz : z' = none ∨ z' = z) (hst : As.reverse ++ rest = st) (hn : As.length = n) (hd' : d' < d) (hrest : (rest.map fun v => v.category).sum ≤ 8) (hC : is.map (fun i => ws[i]?) = wi.map some) (had : ∀ u, (wo u).map (fun q => q.1) = wi.map (fun q => q.1)) (hnd : va_nd is = true)
    (k : ∀ u, post u → RR X nL D A kc ks (wput ws is (wo u)) lv (pc + 3) rest) : RR X nL D A kc ks ws lv pc st :=
  r_callS is h hd hcw hlink hM hz hst hn hd' hrest hC had hnd k
theorem r_callVwi {ri : S → Int32} {ci : Nat} {T : u_T} {N q0 : Nat} {fs : List Value} (h : rx_ok X cc nL own D tys A d kc ks z) (hd : decode cc pc = .ok (.invokevirtual index, 3)) (hcw : CWV y cy ny ret n) (hlink : Cond.methodLink own index y ∈ TB) (hM : CT X.2.1 D tys z' y cy ny ret d' (.ref b :: As) ws post (fun u => some (.int (ri u))) wo) (hz : z' = none ∨ z' = z) (hst : As.reverse ++ .ref b :: rest = st) (hn : As.length = n) (hrecv : ws[q0]? = some (b, .inr (ci, fs))) (hci : vwCl[ci]? = some (y.cls, T, N)) (hd' : d' < d) (hrest : (rest.map fun v => v.category).sum ≤ 8) (had : ∀ u, (wo u).map (fun q => q.1) = ws.map (fun q => q.1))
    (k : ∀ u, post u → RR X nL D A kc ks (wo u) lv (pc + 3) (.int (ri u) :: rest)) : RR X nL D A kc ks ws lv pc st :=
  r_callVw h hd hcw hlink hM hz hst hn hrecv hci hd' hrest had k
theorem r_callVwl {ri : S → Int64} {ci : Nat} {T : u_T} {N q0 : Nat} {fs : List Value} (h : rx_ok X cc nL own D tys A d kc ks z) (hd : decode cc pc = .ok (.invokevirtual index, 3)) (hcw : CWV y cy ny ret n) (hlink : Cond.methodLink own index y ∈ TB) (hM : CT X.2.1 D tys z' y cy ny ret d' (.ref b :: As) ws post (fun u => some (.long (ri u))) wo) (hz : z' = none ∨ z' = z) (hst : As.reverse ++ .ref b :: rest = st) (hn : As.length = n) (hrecv : ws[q0]? = some (b, .inr (ci, fs))) (hci : vwCl[ci]? = some (y.cls, T, N)) (hd' : d' < d) (hrest : (rest.map fun v => v.category).sum ≤ 8) (had : ∀ u, (wo u).map (fun q => q.1) = ws.map (fun q => q.1))
    (k : ∀ u, post u → RR X nL D A kc ks (wo u) lv (pc + 3) (.long (ri u) :: rest)) : RR X nL D A kc ks ws lv pc st :=
  r_callVw h hd hcw hlink hM hz hst hn hrecv hci hd' hrest had k
theorem r_callVwv {ci : Nat} {T : u_T} {N q0 : Nat} {fs : List Value} (h : rx_ok X cc nL own D tys A d kc ks z) (hd : decode cc pc = .ok (.invokevirtual index, 3)) (hcw : CWV y cy ny ret n) (hlink : Cond.methodLink own index y ∈ TB) (hM : CT X.2.1 D tys z' y cy ny ret d' (.ref b :: As) ws post (fun _ => none) wo) (hz : z' = none ∨ z' = z) (hst : As.reverse ++ .ref b :: rest = st) (hn : As.length = n) (hrecv : ws[q0]? = some (b, .inr (ci, fs))) (hci : vwCl[ci]? = some (y.cls, T, N)) (hd' : d' < d) (hrest : (rest.map fun v => v.category).sum ≤ 8) (had : ∀ u, (wo u).map (fun q => q.1) = ws.map (fun q => q.1))
    (k : ∀ u, post u → RR X nL D A kc ks (wo u) lv (pc + 3) rest) : RR X nL D A kc ks ws lv pc st :=
  r_callVw h hd hcw hlink hM hz hst hn hrecv hci hd' hrest had k
theorem r_callSwi {ri : S → Int32} (h : rx_ok X cc nL own D tys A d kc ks z) (hd : decode cc pc = .ok (.invokestatic index, 3)) (hcw : CWS y cy ny ret n) (hlink : Cond.methodLink own index y ∈ TB) (hM : CT X.2.1 D tys z' y cy ny ret d' As ws post (fun u => some (.int (ri u))) wo) (hz : z' = none ∨ z' = z) (hst : As.reverse ++ rest = st) (hn : As.length = n) (hd' : d' < d) (hrest : (rest.map fun v => v.category).sum ≤ 8) (had : ∀ u, (wo u).map (fun q => q.1) = ws.map (fun q => q.1))
    (k : ∀ u, post u → RR X nL D A kc ks (wo u) lv (pc + 3) (.int (ri u) :: rest)) : RR X nL D A kc ks ws lv pc st :=
  r_callSw h hd hcw hlink hM hz hst hn hd' hrest had k
theorem r_callSwl {ri : S → Int64} (h : rx_ok X cc nL own D tys A d kc ks z) (hd : decode cc pc = .ok (.invokestatic index, 3)) (hcw : CWS y cy ny ret n) (hlink : Cond.methodLink own index y ∈ TB) (hM : CT X.2.1 D tys z' y cy ny ret d' As ws post (fun u => some (.long (ri u))) wo) (hz : z' = none ∨ z' = z) (hst : As.reverse ++ rest = st) (hn : As.length = n) (hd' : d' < d) (hrest : (rest.map fun v => v.category).sum ≤ 8) (had : ∀ u, (wo u).map (fun q => q.1) = ws.map (fun q => q.1))
    (k : ∀ u, post u → RR X nL D A kc ks (wo u) lv (pc + 3) (.long (ri u) :: rest)) : RR X nL D A kc ks ws lv pc st :=
  r_callSw h hd hcw hlink hM hz hst hn hd' hrest had k
theorem r_callSwv (h : rx_ok X cc nL own D tys A d kc ks z) (hd : decode cc pc = .ok (.invokestatic index, 3)) (hcw : CWS y cy ny ret n) (hlink : Cond.methodLink own index y ∈ TB) (hM : CT X.2.1 D tys z' y cy ny ret d' As ws post (fun _ => none) wo) (hz : z' = none ∨ z' = z) (hst : As.reverse ++ rest = st) (hn : As.length = n) (hd' : d' < d) (hrest : (rest.map fun v => v.category).sum ≤ 8) (had : ∀ u, (wo u).map (fun q => q.1) = ws.map (fun q => q.1))
    (k : ∀ u, post u → RR X nL D A kc ks (wo u) lv (pc + 3) rest) : RR X nL D A kc ks ws lv pc st :=
  r_callSw h hd hcw hlink hM hz hst hn hd' hrest had k
theorem r_gets {t : Nat} {ref : String} (h : rx_ok X cc nL own D tys A d kc ks (some t)) (hd : decode cc pc = .ok (.getstatic index, 3)) (hlink : Cond.fieldLink own index "GoalScanner" "OPERANDS" "[I" ∈ TB) (k : RR X nL D A kc ks ws lv (pc + 3) (.ref t :: rest)) : RR X nL D A kc ks ws lv pc rest := by
  obtain ⟨p, l, e, R, s, m, args, below, meth, c, Q⟩ := X
  obtain ⟨hx, hb, hml, hown, hts, hK, hA, hR, hRC, hE⟩ := h
  intro H locs ls hP hD hS hl
  exact va_gets hx hb hE.1 hS hown (hts _ hlink) (fun _ h9 => h9) hd (k H locs ls hP hD hS hl)
theorem r_ti {t j : Nat} {i : Int32} (h : rx_ok X cc nL own D tys A d kc ks (some t)) (hd : decode cc pc = .ok (.iaload, 1)) (hi : i = nI j) (hj : j < 22) (k : RR X nL D A kc ks ws lv (pc + 1) (.int (nI (opsN j)) :: rest)) : RR X nL D A kc ks ws lv pc (.int i :: .ref t :: rest) := by
  obtain ⟨p, l, e, R, s, m, args, below, meth, c, Q⟩ := X
  obtain ⟨hx, hb, hml, hown, hts, hK, hA, hR, hRC, hE⟩ := h
  obtain ⟨h1, h2⟩ := rx_in (n := 22) hi hj (by decide)
  intro H locs ls hP hD hS hl
  exact va_ti hx hb hE.2 hS h1 (by rw [h2]) hd (k H locs ls hP hD hS hl)
end RD

