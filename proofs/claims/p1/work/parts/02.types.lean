/-! ===== THE PURE MACHINE: heaps as functions, one step, runs; nothing of the model's states ===== -/
abbrev qA : Type := (Nat → Int32) ⊕ (Nat → Int64) ⊕ (Nat → Option Nat)
/-- a cell: an array (its type's number, length, contents) or an object (its class's number in vwCl, its fields) -/
abbrev qC : Type := (Nat × Nat × qA) ⊕ (Nat × (Nat → Value))
/-- the cells, the next address, the slots made so far -/
abbrev qH : Type := (Nat → qC) × Nat × Nat
abbrev qL : Type := List (Option Value)
abbrev qRes : Type := Option Value × qH
abbrev qF : Type := Nat × qL × List Value × qH
/-- an instruction, its length, what its constant pool index stands for -/
abbrev qI : Type := Instr × Nat × List Int
def qnF (ci : Nat) : Nat := [2, 2, 11, 6, 12, 3, 8, 5, 10, 5, 13, 63].getD ci 0
/-- the fields of a new object: 0 ints (booleans too), 1 longs, 2 references -/
def qdk : List (List Nat) := [[2, 0], [2, 0], [2, 0, 0, 0, 2, 2, 0, 2, 2, 2, 2], [2, 0, 0, 2, 2, 2], [2, 0, 0, 2, 2, 2, 0, 2, 2, 2, 2, 2], [0, 2, 0], [2, 0, 0, 0, 2, 0, 0, 0], [2, 2, 0, 1, 2], [0, 0, 0, 2, 2, 2, 2, 0, 2, 2], [2, 2, 0, 0, 2], [2, 0, 2, 0, 2, 2, 2, 2, 2, 2, 2, 2, 2], [0, 2, 2, 2, 2, 2, 2, 2, 0, 0, 2, 0, 2, 2, 2, 2, 2, 2, 0, 2, 2, 2, 0, 2, 2, 0, 2, 2, 0, 2, 2, 2, 0, 0, 2, 0, 2, 2, 2, 2, 2, 0, 2, 0, 2, 2, 2, 2, 2, 2, 2, 0, 0, 0, 0, 2, 0, 2, 0, 2, 1, 0, 0]]
def qdef (ci : Nat) : Nat → Value := fun k =>
  match (qdk.getD ci []).getD k 2 with
  | 0 => .int 0
  | 1 => .long 0
  | _ => .null
/-- a number beside an instruction -/
def qx (a : List Int) (k : Nat) : Nat := (a.getD k 0).toNat
abbrev qM : Type := MethodName × ByteArray × Nat × Option FieldType × Int × Nat × List (Nat × qI)
