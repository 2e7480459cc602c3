/-! ===== what is made at the start ===== -/
def xo (h : rH) (k ci : Nat) (fs : List Value) : Bool := match h[k]? with
  | some (.inr (ci', fs')) => Nat.beq ci' ci && decide (fs' = fs)
  | _ => false
def xa (h : rH) (k tg N : Nat) : Bool := match h[k]? with
  | some (.inl (t, n, .inl _)) => Nat.beq t tg && Nat.beq n N
  | _ => false
def xl (h : rH) (k N : Nat) : Bool := match h[k]? with
  | some (.inl (t, n, .inr (.inl _))) => Nat.beq t 1 && Nat.beq n N
  | _ => false
def xv (h : rH) (k tg N : Nat) (val : List Nat) : Bool := match h[k]? with
  | some (.inl (t, n, .inl f)) => Nat.beq t tg && Nat.beq n N && (List.range N).all (fun j => decide (f j = nI (val.getD j 0)))
  | _ => false
def xtb (h : rH) (t : Nat) : Bool := xo h t 6 [.int (nI 4), .int (nI 5), .int (nI 0), .ref (t + 1), .ref (t + 2), .ref (t + 3), .ref (t + 4), .ref (t + 5), .int (nI 0)] && xv h (t + 1) 0 7 [0, 1, 1, 1, 1, 1, 0] && xv h (t + 2) 0 6 [] && xv h (t + 3) 0 6 [] && xv h (t + 4) 0 6 [] && xv h (t + 5) 0 6 []
def xgs (h : rH) (ci g : Nat) : Bool := xo h g ci [.ref (g + 1), .ref (g + 2), .int (nI 0), .int (nI 2), .int (nI 0)] && xa h (g + 1) 0 7 && xl h (g + 2) 7
def xcls (h : rH) : Bool := xo h 0 8 [.ref 1, .ref 7, .ref 20, .ref 21, .int (nI 0), .ref 22, .ref 25, .ref 28, .ref 31, .ref 39, .ref 45, .ref 48] && xo h 7 100 [.ref 8, .ref 14] && xo h 22 2 [.ref 23, .ref 24] && xtb h 1 && xtb h 8 && xtb h 14 && xv h 20 3 2 [] && xv h 21 0 48 [] && xa h 23 0 6 && xa h 24 0 7 && xgs h 4 25 && xgs h 7 28
def xcl2 (h : rH) : Bool := xo h 31 1 [.ref 32, .ref 35, .ref 36, .ref 37, .ref 38, .int (nI 0)] && xgs h 4 32 && xv h 35 0 9 [] && xa h 36 0 63 && xl h 37 9 && xv h 38 0 7 [] && xo h 39 5 [.ref 40, .ref 43, .ref 44, .long (- lN 1), .int (nI 0), .int (nI 0)] && xgs h 7 40 && xa h 43 0 6 && xa h 44 0 6 && xo h 45 0 [.ref 46, .ref 47] && xa h 46 0 7 && xa h 47 2 924 && xo h 48 3 [.ref 49, .ref 52, .int (nI 0), .int (nI 0), .int (nI 0), .int (- nI 1), .int (nI 0)] && xgs h 7 49 && xa h 52 0 6
def xmod (h : rH) : Bool := xo h 53 9 [.int (nI 4), .int (nI 5), .int (nI 0), .ref 54, .ref 55, .int (nI 0), .ref 56, .int (nI 0), .ref 57, .ref 58, .ref 59, .int (nI 0), .ref 60, .ref 61, .ref 62, .long (lN 0), .ref 63, .ref 64, .long (lN 0), .ref 65, .ref 66, .ref 67, .ref 68, .ref 69] && xv h 54 0 7 [0, 1, 1, 1, 1, 1, 0] && xv h 55 0 6 [] && xv h 56 0 18 [] && xv h 57 0 48 [] && xa h 58 0 7 && xa h 59 0 7 && xa h 60 0 7 && xa h 61 0 7 && xa h 62 0 7 && xa h 63 0 6 && xa h 64 0 6 && xa h 65 0 6 && xa h 66 0 46656 && xa h 67 0 46656 && xa h 68 0 72 && xv h 69 3 2 []
def xst (o : Option xR) : Bool := match o with
  | some (.inl (pc, L, st, h, k, z)) => Nat.beq pc 16 && decide (L = [.ref 1000004, .ref 0, .ref 53, .null]) && decide (st = []) && Nat.beq k 70 && Nat.beq z 94894 && Nat.beq h.length 70 && xcls h && xcl2 h && xmod h
  | _ => false
theorem start_ok : xst (xr 3000 1000 16 tb_L_law 70 94894 (0, [.ref 1000004, .null, .null, .null], [], [], 0, 0)) = true := by decide +kernel
