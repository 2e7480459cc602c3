/-! ===== the static rows of the class, and the script ===== -/
def rTW : List Nat := [0, 1, 1, 1, 1, 1, 1, 1, 0, 1, 2, 3, 4, 5, 6, 7, 0, 1, 1, 2, 2, 3, 3, 4, 0, 1, 1, 1, 1, 1, 1, 1]
def rTC : List Nat := [1, 0, 0, 0, 0, 0, 0, 1, 1, 0, 0, 0, 0, 0, 1, 2, 1, 0, 0, 0, 0, 1, 3, 3, 1, 0, 0, 0, 1, 4, 6, 4, 1, 0, 0, 1, 5, 10, 10, 5, 1, 0, 1, 6, 15, 20, 15, 6, 1]
def rTB : List Nat := [0, 0, 0, 0, 0, 0, 0, 0, 1, 2, 3, 4, 5, 6, 0, 1, 3, 6, 10, 15, 21, 0, 1, 4, 10, 20, 35, 56, 0, 1, 5, 15, 35, 70, 126, 0, 1, 6, 21, 56, 126, 252, 0, 1, 7, 28, 84, 210, 462]
def rTO : List Nat := [0, 1, 1, 1, 1, 1, 1]
def rRo (L : Nat) (xs : Nat → Int32) : rQ
  | 0 => some (32, fun k => nI (rTW.getD k 0))
  | 1 => some (49, fun k => nI (rTC.getD k 0))
  | 2 => some (49, fun k => nI (rTB.getD k 0))
  | 3 => some (7, fun k => nI (rTO.getD k 0))
  | 4 => some (L, xs)
  | _ => none
