/-! ===== A SMALL MACHINE: the instructions that the class, the law and the reference use, over a heap of numbered cells ('places'): no addresses, no frames, no tables. What it computes the real machine computes (part 04); all that is proved of the class is proved of it. ===== -/
/-- a cell: ints | references (the elements' class) | an object (its class, its fields). Places from 1000 on are cells that were there before: Strings (class 7), read-only ints (8: the script, 9: a static row), bytes (10) -/
abbrev MC : Type := (Nat × (Nat → Int32)) ⊕ ((Nat × Nat × (Nat → Option Nat)) ⊕ (Nat × List Value))
abbrev MH : Type := Nat → MC
/-- how many cells the world has; cells and slots made -/
abbrev MA : Type := Nat × Nat × Nat
abbrev ML : Type := List (Option Value)
/-- pc, locals, stack, counts, heap -/
abbrev MS : Type := Nat × ML × List Value × MA × MH
abbrev MR : Type := Option Value × MA × MH
/-- an instruction, its length, and what its link says -/
abbrev MI : Type := Instr × Nat × Nat × Nat × Int
/-- go on | return | call a method with these arguments, and go on there -/
abbrev MAct : Type := MS ⊕ (MR ⊕ (Nat × List Value × Nat × ML × List Value))
def mjunk : MC := .inr (.inl (99, 0, fun _ => none))
def mup (h : MH) (q : Nat) (c : MC) : MH := fun k => if k = q then c else h k
def mfu {α : Type} (f : Nat → α) (k : Nat) (x : α) : Nat → α := fun j => if j = k then x else f j
def mget (ls : ML) (k : Nat) : Option Value := match ls[k]? with
  | some (some v) => some v
  | _ => none
def mlg : Option Value → Bool
  | some (.long _) => true
  | some (.double _) => true
  | _ => false
def mprev (ls : ML) (k : Nat) : Bool := match k with
  | 0 => false
  | j + 1 => match ls[j]? with
    | some o => mlg o
    | none => false
def mst1 (ls : ML) (k : Nat) (v : Value) : Option ML := if k < ls.length then (if mprev ls k = true then none else some (ls.set k (some v))) else none
def mst2 (ls : ML) (k : Nat) (v : Value) : Option ML := if k + 1 < ls.length then (if mprev ls k = true then none else some ((ls.set k (some v)).set (k + 1) none)) else none
def mjmp (pc : Nat) (off : Int) : Option Nat := if 0 ≤ (pc : Int) + off then some ((pc : Int) + off).toNat else none
def nx (pc : Nat) (ls : ML) (st : List Value) (a : MA) (h : MH) : Option MAct := some (.inl (pc, ls, st, a, h))
def jx (pc : Nat) (off : Int) (ls : ML) (st : List Value) (a : MA) (h : MH) : Option MAct := match mjmp pc off with
  | some t => nx t ls st a h
  | none => none
/-- a value fits a field of this sort: 0 int, 1 boolean, 2 reference -/
def mok (z : Nat) (v : Value) : Bool := match v with
  | .int x => z == 0 || (z == 1 && (x == 0 || x == 1))
  | .ref _ => z == 2
  | .null => z == 2
  | _ => false
/-- an int fits an answer of this sort: 0 int, 1 boolean, 2 char, 3 byte -/
def mrt (z : Nat) (x : Int32) : Bool := match z with
  | 0 => true
  | 1 => x == 0 || x == 1
  | 2 => decide (0 ≤ x) && decide (x < 65536)
  | 3 => decide (-128 ≤ x) && decide (x < 128)
  | _ => false
def mdf : Nat → List Value
  | 0 => [.null, .int 0, .int 0]
  | 1 => [.null, .int 0]
  | 2 => [.null, .int 0, .int 0, .int 0, .int 0]
  | 3 => [.int 0, .int 0, .int 0, .int 0, .int 0, .int 0]
  | 4 => [.null, .null, .null, .int 0, .int 0, .int 0, .int 0, .int 0]
  | 5 => [.null, .null, .null, .int 0, .null, .null, .null, .null]
  | 6 => [.null, .null, .null, .null, .int 0, .null, .null, .int 0, .null, .null, .null, .int 0, .int 0, .int 0, .int 0, .int 0, .int 0, .int 0]
  | _ => []
def mrf (r : Option Nat) : Value := match r with
  | none => .null
  | some q => .ref q
def mcat (st : List Value) : Nat := (st.map fun v => v.category).sum
def mcond (c : Jvm.ClassFile.Cond) (x y : Int32) : Bool := match c with
  | .eq => x == y
  | .ne => x != y
  | .lt => decide (x < y)
  | .ge => decide (y ≤ x)
  | .gt => decide (y < x)
  | .le => decide (x ≤ y)
def mld (h : MH) (q : Nat) (i : Int32) (byt : Bool) : Option Int32 := match h q with
  | .inl (n, f) => if i < 0 then none else if i.toNatClampNeg < n then (if byt = true then none else some (f i.toNatClampNeg)) else none
  | .inr (.inr (c, fs)) => if i < 0 then none else if (c = 8 ∨ c = 9) ∧ byt = false ∨ c = 10 ∧ byt = true then (match fs[i.toNatClampNeg]? with
    | some (.int x) => some x
    | _ => none) else none
  | _ => none
def mlen (h : MH) (q : Nat) : Option Int32 := match h q with
  | .inl (n, _) => some (Int32.ofNat n)
  | .inr (.inl (e, n, _)) => if e = 99 then none else some (Int32.ofNat n)
  | .inr (.inr (c, fs)) => if c = 8 ∨ c = 9 ∨ c = 10 then some (Int32.ofNat fs.length) else none
def mgf (h : MH) (q : Nat) (c k : Nat) : Option Value := match h q with
  | .inr (.inr (c', fs)) => if c' = c then fs[k]? else none
  | _ => none
def mpf (h : MH) (q : Nat) (c k : Nat) (v : Value) : Option MH := match h q with
  | .inr (.inr (c', fs)) => if c' = c ∧ c < 7 ∧ k < fs.length then some (mup h q (.inr (.inr (c', fs.set k v)))) else none
  | _ => none
def mis (h : MH) (q : Nat) (c : Int) : Bool := match h q with
  | .inr (.inr (c', _)) => (c' : Int) == c
  | _ => false
def mias (h : MH) (q : Nat) (i x : Int32) : Option MH := match h q with
  | .inl (n, f) => if i < 0 then none else if i.toNatClampNeg < n then some (mup h q (.inl (n, mfu f i.toNatClampNeg x))) else none
  | _ => none
def mald (h : MH) (q : Nat) (i : Int32) : Option Value := match h q with
  | .inr (.inl (e, n, f)) => if e = 99 then none else if i < 0 then none else if i.toNatClampNeg < n then some (mrf (f i.toNatClampNeg)) else none
  | _ => none
def maas (h : MH) (q : Nat) (i : Int32) (v : Nat) : Option MH := match h q with
  | .inr (.inl (e, n, f)) => if e = 99 then none else if i < 0 then none else if i.toNatClampNeg < n ∧ mis h v e = true then some (mup h q (.inr (.inl (e, n, mfu f i.toNatClampNeg (some v))))) else none
  | _ => none
def mcpy {α : Type} (f g : Nat → α) (sp dp n : Nat) : Nat → α := fun k => if dp ≤ k ∧ k < dp + n then f (sp + (k - dp)) else g k
def mcp (h : MH) (q0 : Nat) (sp : Int32) (q1 : Nat) (dp n : Int32) : Option MH := match h q0, h q1 with
  | .inl (n0, f), .inl (n1, g) => if sp < 0 ∨ dp < 0 ∨ n < 0 then none else if sp.toNatClampNeg + n.toNatClampNeg ≤ n0 ∧ dp.toNatClampNeg + n.toNatClampNeg ≤ n1 then some (mup h q1 (.inl (n1, mcpy f g sp.toNatClampNeg dp.toNatClampNeg n.toNatClampNeg))) else none
  | _, _ => none
def msw (x : Int32) (lo hi d : Int) (offs : Array Int) : Option Int := if x.toInt < lo ∨ hi < x.toInt then some d else offs[(x.toInt - lo).toNat]?
def mcall (k : Nat) (n : Nat) (c : Int) (pc : Nat) (ls : ML) (st : List Value) (a : MA) (h : MH) (M' : Nat) : Option MAct :=
  if st.length < n then none else match k with
    | 0 => if mcat (st.drop n) ≤ 8 then some (.inr (.inr (M', (st.take n).reverse, pc + 3, ls, st.drop n))) else none
    | 1 => (match st.drop n with
      | .ref b :: r => if mis h b c = true ∧ mcat r ≤ 8 then some (.inr (.inr (M', .ref b :: (st.take n).reverse, pc + 3, ls, r))) else none
      | _ => none)
    | _ => (match st.drop n with
      | .ref b :: r => if mcat r ≤ 8 then some (.inr (.inr (M', .ref b :: (st.take n).reverse, pc + 3, ls, r))) else none
      | _ => none)
