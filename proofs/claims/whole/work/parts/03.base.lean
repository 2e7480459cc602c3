abbrev rI : Type := Instr × List Nat × List Nat
/-- a written number -/
def rc : List Nat → Int32
  | [v] => nI v
  | _ :: v :: _ => - nI v
  | [] => 0
def rcL : List Nat → Int64
  | [v] => lN v
  | _ :: v :: _ => - lN v
  | [] => 0
