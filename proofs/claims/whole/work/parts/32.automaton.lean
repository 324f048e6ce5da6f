/- reading, as the reference does it: state, what is open (top first), open braces' items (top first), begun, items, the item, and the rows -/
abbrev aS : Type := (Nat × List Nat) × (List Nat × Nat × Nat × Nat) × ((Nat → Nat) × (Nat → Nat) × (Nat → Nat) × (Nat → Bool) × (Nat → Bool))
def aPut {α : Type} (f : Nat → α) (k : Nat) (x : α) : Nat → α := fun j => if j = k then x else f j
def aTop (o : List Nat) : Nat := o.headD 0
def aWh : List Nat → List Nat
  | 4 :: o => aWh o
  | o => o
def aIn (o : List Nat) : Bool := decide (aTop o = 2 ∨ aTop o = 3 ∨ aTop o = 5)
/-- a factor's first token, in state and stack alone -/
def aFac (c : Nat) (o : List Nat) : Option (Nat × List Nat) :=
  if c = 48 ∨ c = 34 then some (5, aWh o)
  else if c = 97 then some (4, o)
  else if c = 40 ∧ o.length ≠ 12 then some (2, 2 :: o)
  else if c = 45 ∧ o.length ≠ 12 then some (2, 4 :: o)
  else none
def aClo (o : List Nat) : Nat × List Nat := if aTop o = 5 then (6, o.tail) else (5, aWh o.tail)
/-- a token inside an item's own part: in state and stack alone; none: refused, or not of this kind -/
def aExp (c : Nat) (q : Nat × List Nat) : Option (Nat × List Nat) :=
  if q.1 = 2 then aFac c q.2
  else if q.1 = 3 then (if c = 41 then some (aClo q.2) else aFac c q.2)
  else if q.1 = 5 then
    (if c = 43 ∨ c = 45 ∨ c = 42 ∨ (c = 44 ∧ aIn q.2 = true ∧ aTop q.2 ≠ 2) then some (2, q.2)
     else if c = 41 ∧ aIn q.2 = true then some (aClo q.2) else none)
  else none
/-- a name that may be called: settled when the next token shows that it isn't -/
def aSet (c : Nat) (q : Nat × List Nat) : Nat × List Nat := if q.1 = 4 ∧ c ≠ 40 then (5, aWh q.2) else q
