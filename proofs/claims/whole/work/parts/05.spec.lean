/-! What the document's EVALUATION is, as a function: a STATE is five ints (its place, four variables), a RESULT an int and a STATE. -/
abbrev St : Type := Fin 5 → Int32
abbrev Rs : Type := Int32 × St
def stSet (s : St) (k : Nat) (v : Int32) : St := fun c => if c.val = k then v else s c
def stGet (s : St) (k : Nat) : Int32 := if h : k < 5 then s ⟨k, h⟩ else 0
def stPl (s : St) : Nat := (s 0).toNatClampNeg
/-- a character of a SORT -/
def isDig (x : Int32) : Bool := decide (¬ x < nI 48) && decide (¬ nI 57 < x)
def isLet (x : Int32) : Bool := decide (¬ x < nI 97) && decide (¬ nI 122 < x)
def inSort (x a : Int32) : Bool :=
  if a = nI 0 then isDig x else if a = nI 1 then isLet x else if a = nI 2 then isLet x || isDig x else if a = nI 3 then decide (x = nI 32) || decide (x = nI 9) else if a = nI 4 then true else decide (x = a - nI 256)
def atSort (tl : Nat) (ch : Nat → Int32) (a : Int32) (q : Nat) : Bool := decide (q < tl) && inSort (ch q) a
/-- the place behind the run from q on, of at most n characters -/
def runL (b : Nat → Bool) : Nat → Nat → Nat
  | 0, q => q
  | n + 1, q => if b q = true then runL b n (q + 1) else q
def decL (ch : Nat → Int32) : Nat → Nat → Int32 → Int32
  | 0, _, v => v
  | n + 1, q, v => decL ch n (q + 1) (v * nI 10 + ch q - nI 48)
/-- the places of the SORT among the n from q on, at most k of them -/
def seekL (b : Nat → Bool) : Nat → Nat → Nat → List Nat
  | 0, _, _ => []
  | n + 1, q, k => if k = 0 then [] else if b q = true then q :: seekL b n (q + 1) (k - 1) else seekL b n (q + 1) k
/-- how many of x, x + 1, .. up to y, at most 8 -/
def serN (x y : Int32) : Nat := if y < x then 0 else min 8 ((y.toInt - x.toInt).toNat + 1)
def serL (x y : Int32) : List Int32 := (List.range (serN x y)).map (fun k => x + nI k)
/-- the ints that a pair gives -/
def pairL (k : Nat) (x y : Int32) : List Int32 :=
  if k = 9 then [x + y] else if k = 10 then [x - y] else if k = 11 then [x * y] else if k = 12 then (if x < y then [y] else []) else if k = 13 then (if x = y then [y] else []) else if k = 14 then serL x y else [y]
def goL (tl : Nat) (r : Rs) : List Rs := if ¬ r.1 < 0 ∧ r.1 ≤ nI tl then [(r.1, stSet r.2 0 r.1)] else []
def bestL (b : Rs) : List Rs → Rs
  | [] => b
  | r :: l => bestL (if b.1 < r.1 then r else b) l
abbrev Nd : Type := (Nat → Nat) × (Nat → Int32) × (Nat → Int32) × (Nat → Int32)
/-- the place of an operand -/
def opN (x : Int32) : Nat := x.toNatClampNeg
def ev (tl : Nat) (ch : Nat → Int32) (N : Nd) : Nat → Nat → St → List Rs
  | 0, _, _ => []
  | n + 1, i, s =>
    let k := N.1 i
    let a := N.2.1 i
    let ea := ev tl ch N n (opN a)
    let eb := ev tl ch N n (opN (N.2.2.1 i))
    let ec := ev tl ch N n (opN (N.2.2.2 i))
    let p := stPl s
    if k = 0 then [(a, s)]
    else if k = 1 then [(stGet s (1 + opN a), s)]
    else if k = 2 then [(s 0, s)]
    else if k = 3 then [(nI tl, s)]
    else if k = 4 then (if atSort tl ch a p = true then [(ch p, stSet s 0 (nI (p + 1)))] else [])
    else if k = 5 then (let q := runL (atSort tl ch a) 24 p; if p < q then [(nI (q - p), stSet s 0 (nI q))] else [])
    else if k = 6 then (let q := runL (atSort tl ch (nI 0)) 9 p; if p < q then [(decL ch (q - p) p (nI 0), stSet s 0 (nI q))] else [])
    else if k = 7 then (seekL (atSort tl ch a) (tl - p) p 8).map (fun j => (nI j, s))
    else if k = 8 then (ea s).flatMap (goL tl)
    else if k = 15 then ea s ++ eb s
    else if k = 17 then (eb s).map (fun r => (r.1, stSet r.2 (1 + opN a) r.1))
    else if k = 18 then (eb s).take (opN a)
    else if k = 19 then (match ea s with | [] => ec s | x :: _ => eb x.2)
    else if k = 20 then (if (ea s).isEmpty = true then [(nI 0, s)] else [])
    else if k = 21 then (match ea s with | [] => [] | x :: l => [bestL x l])
    else (ea s).flatMap (fun x => (eb x.2).flatMap (fun y => (pairL k x.1 y.1).map (fun v => (v, y.2))))
/-- row r of an array of rows -/
def gRow (f : Nat → Int32) (r : Nat) : Rs := (f (6 * r), fun c => f (6 * r + 1 + c.val))
def Holds (f : Nat → Int32) (z : Nat) (L : List Rs) : Prop := ∀ (k : Nat) (h : k < L.length), gRow f (z + k) = L[k]
def Same (f g : Nat → Int32) (m : Nat) : Prop := ∀ j, j < m → g j = f j
theorem Same.refl (f : Nat → Int32) (m : Nat) : Same f f m := fun _ _ => rfl
theorem Same.trans {f g h : Nat → Int32} {m n : Nat} (a : Same f g m) (b : Same g h n) (hm : m ≤ n) : Same f h m := fun j hj => (b j (Nat.lt_of_lt_of_le hj hm)).trans (a j hj)
theorem Same.row {f g : Nat → Int32} {m r : Nat} (a : Same f g m) (h : 6 * r + 6 ≤ m) : gRow g r = gRow f r := by
  unfold gRow
  rw [a (6 * r) (by omega)]
  congr 1
  funext c
  exact a _ (by have := c.isLt; omega)
theorem Holds.nil (f : Nat → Int32) (z : Nat) : Holds f z [] := fun k h => absurd h (Nat.not_lt_zero k)
theorem Holds.same {f g : Nat → Int32} {z m : Nat} {L : List Rs} (h : Holds f z L) (a : Same f g m) (hm : 6 * (z + L.length) ≤ m) : Holds g z L := fun k hk => by
  rw [a.row (by omega), h k hk]
theorem Holds.app {f : Nat → Int32} {z : Nat} {L M : List Rs} (h : Holds f z L) (h2 : Holds f (z + L.length) M) : Holds f z (L ++ M) := by
  intro k hk
  by_cases hl : k < L.length
  · rw [List.getElem_append_left hl]
    exact h k hl
  · rw [List.getElem_append_right (by omega)]
    have h3 := h2 (k - L.length) (by simp at hk; omega)
    rw [← h3]
    congr 1
    omega
theorem Holds.left {f : Nat → Int32} {z : Nat} {L M : List Rs} (h : Holds f z (L ++ M)) : Holds f z L := fun k hk => by
  have := h k (by simp; omega)
  rw [List.getElem_append_left hk] at this
  exact this
theorem Holds.one {f : Nat → Int32} {z : Nat} {r : Rs} (h : gRow f z = r) : Holds f z [r] := fun k hk => by
  have : k = 0 := by simpa using hk
  subst this
  simpa using h
theorem gRow_ext {f g : Nat → Int32} {r q : Nat} (h : ∀ c, c < 6 → f (6 * r + c) = g (6 * q + c)) : gRow f r = gRow g q := by
  unfold gRow
  have h0 := h 0 (by omega)
  simp only [Nat.add_zero] at h0
  rw [h0]
  congr 1
  funext c
  have := h (1 + c.val) (by have := c.isLt; omega)
  rw [← Nat.add_assoc, ← Nat.add_assoc] at this
  exact this
/-- a new row: the STATE of row 'from', the int x -/
def pushF (f : Nat → Int32) (src z : Nat) (x : Int32) : Nat → Int32 := upd (va_cpy f f (src * 6) (z * 6) 6) (z * 6) x
theorem pushF_same (f : Nat → Int32) (src z : Nat) (x : Int32) : Same f (pushF f src z x) (6 * z) := fun j hj => by
  unfold pushF
  rw [pk_un (by omega), pk_cpy_out (by omega)]
theorem pushF_row (f : Nat → Int32) (src z : Nat) (x : Int32) : gRow (pushF f src z x) z = (x, (gRow f src).2) := by
  unfold gRow pushF
  refine Prod.ext ?_ ?_
  · show upd _ (z * 6) x (6 * z) = x
    rw [Nat.mul_comm 6 z]
    exact pk_us
  · funext c
    have hc := c.isLt
    show upd _ (z * 6) x (6 * z + 1 + c.val) = f (6 * src + 1 + c.val)
    rw [pk_un (by omega), pk_cpy_in (by omega) (by omega)]
    congr 1
    omega
/-- the same with another place -/
def pushP (f : Nat → Int32) (src z : Nat) (x p : Int32) : Nat → Int32 := upd (pushF f src z x) (z * 6 + 1) p
theorem pushP_same (f : Nat → Int32) (src z : Nat) (x p : Int32) : Same f (pushP f src z x p) (6 * z) := fun j hj => by
  unfold pushP
  rw [pk_un (by omega)]
  exact pushF_same f src z x j hj
theorem pushP_row (f : Nat → Int32) (src z : Nat) (x p : Int32) : gRow (pushP f src z x p) z = (x, stSet (gRow f src).2 0 p) := by
  have h := pushF_row f src z x
  unfold gRow at h ⊢
  refine Prod.ext ?_ ?_
  · show upd _ (z * 6 + 1) p (6 * z) = x
    rw [pk_un (by omega)]
    exact congrArg Prod.fst h
  · funext c
    have h2 := congrFun (congrArg Prod.snd h) c
    show upd _ (z * 6 + 1) p (6 * z + 1 + c.val) = stSet _ 0 p c
    unfold stSet
    by_cases hc : c.val = 0
    · rw [if_pos hc, hc, show 6 * z + 1 + 0 = z * 6 + 1 by omega]
      exact pk_us
    · rw [if_neg hc, pk_un (by omega)]
      exact h2
/-- rows from 'lo' up to 'hi' go, of z in all -/
def remF (f : Nat → Int32) (lo hi z : Nat) : Nat → Int32 := va_cpy f f (hi * 6) (lo * 6) ((z - hi) * 6)
theorem remF_same (f : Nat → Int32) (lo hi z : Nat) : Same f (remF f lo hi z) (6 * lo) := fun j hj => by
  unfold remF
  exact pk_cpy_out (by omega)
theorem remF_holds {f : Nat → Int32} {lo hi z : Nat} {L : List Rs} (h : Holds f hi L) (hz : hi + L.length = z) : Holds (remF f lo hi z) lo L := by
  intro k hk
  rw [← h k hk]
  refine gRow_ext fun c hc => ?_
  unfold remF
  rw [pk_cpy_in (by omega) (by omega)]
  congr 1
  omega
