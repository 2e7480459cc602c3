/-! ===== A SMALL MACHINE over cells that are numbered, not addressed: a cell is an array (number of its type, length, contents) or an object (number of its class, fields); refs from 1000000 on are arrays that nobody writes ===== -/
abbrev rE : Type := (Nat × vp_A) ⊕ (Nat × List Value)
abbrev rH : Type := List rE
abbrev rK : Type := Nat × List Value × List Value × rH × Nat × Nat
abbrev rR : Type := Option Value → rH → Prop
abbrev rCall : Type := Nat → Nat → Nat → List Value → rH → rR → Prop
abbrev rQ : Type := Nat → Option (Nat × (Nat → Int32))
abbrev rO : Type := rK ⊕ (Prop × rK) ⊕ (Prop × rK × rK) ⊕ ((Nat × Nat × Nat × List Value × rH) × (Option Value → rH → rK)) ⊕ (Prop × Option Value × rH)
def rfind : List (Nat × rI) → Nat → Option rI
  | [], _ => none
  | e :: t, pc => bif Nat.beq e.1 pc then some e.2 else rfind t pc
/-- the int array behind a ref -/
def rgetI (ro : rQ) (h : rH) (r : Nat) : Option (Nat × (Nat → Int32)) :=
  bif Nat.ble 1000000 r then ro (r - 1000000) else match h[r]? with
    | some (.inl (0, n, .inl f)) => some (n, f)
    | _ => none
/-- arguments off the stack, in their order -/
def rpop : Nat → List Value → List Value → Option (List Value × List Value)
  | 0, st, acc => some (acc, st)
  | n + 1, v :: st, acc => rpop n st (v :: acc)
  | _ + 1, [], _ => none
/-- no long's second half at place i -/
def rcl (L : List Value) (i : Nat) : Bool := Nat.blt i L.length && (match i with
  | 0 => true
  | j + 1 => match L[j]? with
    | some v => Nat.beq v.category 1
    | none => true)
def rlook : List Nat → Nat → Option Nat
  | a :: b :: t, k => bif Nat.beq a k then some b else rlook t k
  | _, _ => none
def rargs : List Value → Nat → List Value
  | [], n => List.replicate n .null
  | v :: vs, n => if v.category = 2 then v :: .null :: rargs vs (n - 2) else v :: rargs vs (n - 1)
def rbr (c : Jvm.ClassFile.Cond) (x y : Int32) (a b : rK) : rO := match c with
  | .eq => .inr (.inr (.inl (x = y, a, b)))
  | .ne => .inr (.inr (.inl (x = y, b, a)))
  | .lt => .inr (.inr (.inl (x < y, a, b)))
  | .ge => .inr (.inr (.inl (y ≤ x, a, b)))
  | .gt => .inr (.inr (.inl (y < x, a, b)))
  | .le => .inr (.inr (.inl (x ≤ y, a, b)))
/-- where a switch goes -/
def rsw (d : Nat) (lo hi : Int) (ts : List Nat) (x : Int32) : Nat := if x.toInt < lo ∨ hi < x.toInt then d else ts.getD (x.toInt - lo).toNat 0
def rwd (st : List Value) : Bool := Nat.ble ((st.map fun v => v.category).sum) 8
/-- an object's fields when it is made -/
def rnew : Nat → List Value
  | 0 => [.null, .null]
  | 1 => [.null, .null, .null, .null, .null, .int 0]
  | 2 => [.null, .null]
  | 3 => [.null, .null, .int 0, .int 0, .int 0, .int 0, .int 0]
  | 4 => [.null, .null, .int 0, .int 0, .int 0]
  | 5 => [.null, .null, .null, .long 0, .int 0, .int 0]
  | 6 => [.int 0, .int 0, .int 0, .null, .null, .null, .null, .null, .int 0]
  | 7 => [.null, .null, .int 0, .int 0, .int 0]
  | 8 => [.null, .null, .null, .null, .int 0, .null, .null, .null, .null, .null, .null, .null]
  | 9 => [.int 0, .int 0, .int 0, .null, .null, .int 0, .null, .int 0, .null, .null, .null, .int 0, .null, .null, .null, .long 0, .null, .null, .long 0, .null, .null, .null, .null, .null]
  | _ => []
def rload (L st : List Value) (h : rH) (k z pc' i : Nat) : Option rO := match L[i]? with
  | some (.int x) => some (.inl (pc', L, .int x :: st, h, k, z))
  | _ => none
def rloadL (L st : List Value) (h : rH) (k z pc' i : Nat) : Option rO := match L[i]? with
  | some (.long x) => some (.inl (pc', L, .long x :: st, h, k, z))
  | _ => none
def rloadA (L st : List Value) (h : rH) (k z pc' i : Nat) : Option rO := match L[i]? with
  | some (.ref x) => some (.inl (pc', L, .ref x :: st, h, k, z))
  | _ => none
def rstore (L st : List Value) (h : rH) (k z pc' i : Nat) : Option rO := match st with
  | .int x :: st => bif rcl L i then some (.inl (pc', L.set i (.int x), st, h, k, z)) else none
  | _ => none
def rstoreA (L st : List Value) (h : rH) (k z pc' i : Nat) : Option rO := match st with
  | .ref x :: st => bif rcl L i then some (.inl (pc', L.set i (.ref x), st, h, k, z)) else none
  | _ => none
def rstoreL (L st : List Value) (h : rH) (k z pc' i : Nat) : Option rO := match st with
  | .long x :: st => bif rcl L i && Nat.blt (i + 1) L.length then some (.inl (pc', (L.set i (.long x)).set (i + 1) .null, st, h, k, z)) else none
  | _ => none
def rinc (L st : List Value) (h : rH) (k z pc' i : Nat) (n : Int32) : Option rO := match L[i]? with
  | some (.int x) => bif rcl L i then some (.inl (pc', L.set i (.int (x + n)), st, h, k, z)) else none
  | _ => none
def rbin (f : Int32 → Int32 → Int32) (L st : List Value) (h : rH) (k z pc' : Nat) : Option rO := match st with
  | .int y :: .int x :: st => some (.inl (pc', L, .int (f x y) :: st, h, k, z))
  | _ => none
def rbinL (f : Int64 → Int64 → Int64) (L st : List Value) (h : rH) (k z pc' : Nat) : Option rO := match st with
  | .long y :: .long x :: st => some (.inl (pc', L, .long (f x y) :: st, h, k, z))
  | _ => none
def rdiv (f : Int32 → Int32 → Int32) (L st : List Value) (h : rH) (k z pc' : Nat) : Option rO := match st with
  | .int y :: .int x :: st => some (.inr (.inl (¬ y = 0, pc', L, .int (f x y) :: st, h, k, z)))
  | _ => none
def rdivL (f : Int64 → Int64 → Int64) (L st : List Value) (h : rH) (k z pc' : Nat) : Option rO := match st with
  | .long y :: .long x :: st => some (.inr (.inl (¬ y = 0, pc', L, .long (f x y) :: st, h, k, z)))
  | _ => none
def raldI (ro : rQ) (L st : List Value) (h : rH) (k z pc' : Nat) : Option rO := match st with
  | .int i :: .ref r :: st => match rgetI ro h r with
    | some (n, f) => some (.inr (.inl (vp_in i n, pc', L, .int (f i.toNatClampNeg) :: st, h, k, z)))
    | none => none
  | _ => none
def raldL (L st : List Value) (h : rH) (k z pc' : Nat) : Option rO := match st with
  | .int i :: .ref r :: st => match h[r]? with
    | some (.inl (1, n, .inr (.inl f))) => some (.inr (.inl (vp_in i n, pc', L, .long (f i.toNatClampNeg) :: st, h, k, z)))
    | _ => none
  | _ => none
def raldB (L st : List Value) (h : rH) (k z pc' : Nat) : Option rO := match st with
  | .int i :: .ref r :: st => match h[r]? with
    | some (.inl (2, n, .inl f)) => some (.inr (.inl (vp_in i n, pc', L, .int (f i.toNatClampNeg) :: st, h, k, z)))
    | some (.inl (3, n, .inl f)) => some (.inr (.inl (vp_in i n, pc', L, .int (f i.toNatClampNeg) :: st, h, k, z)))
    | _ => none
  | _ => none
def raldA (L st : List Value) (h : rH) (k z pc' : Nat) : Option rO := match st with
  | .int i :: .ref r :: st => match h[r]? with
    | some (.inr (100, fs)) => (match fs.getD i.toNatClampNeg .null with
      | .ref a => some (.inr (.inl (vp_in i fs.length, pc', L, .ref a :: st, h, k, z)))
      | _ => none)
    | _ => none
  | _ => none
def rastI (L st : List Value) (h : rH) (k z pc' : Nat) : Option rO := match st with
  | .int x :: .int i :: .ref r :: st => match h[r]? with
    | some (.inl (0, n, .inl f)) => some (.inr (.inl (vp_in i n, pc', L, st, h.set r (.inl (0, n, .inl (upd f i.toNatClampNeg x))), k, z)))
    | _ => none
  | _ => none
def rastL (L st : List Value) (h : rH) (k z pc' : Nat) : Option rO := match st with
  | .long x :: .int i :: .ref r :: st => match h[r]? with
    | some (.inl (1, n, .inr (.inl f))) => some (.inr (.inl (vp_in i n, pc', L, st, h.set r (.inl (1, n, .inr (.inl (vp_updL f i.toNatClampNeg x)))), k, z)))
    | _ => none
  | _ => none
def rastB (L st : List Value) (h : rH) (k z pc' : Nat) : Option rO := match st with
  | .int x :: .int i :: .ref r :: st => match h[r]? with
    | some (.inl (2, n, .inl f)) => some (.inr (.inl (vp_in i n, pc', L, st, h.set r (.inl (2, n, .inl (upd f i.toNatClampNeg (vp_nar .byte x)))), k, z)))
    | some (.inl (3, n, .inl f)) => some (.inr (.inl (vp_in i n, pc', L, st, h.set r (.inl (3, n, .inl (upd f i.toNatClampNeg (vp_nar .boolean x)))), k, z)))
    | _ => none
  | _ => none
def rastA (L st : List Value) (h : rH) (k z pc' : Nat) : Option rO := match st with
  | .ref v :: .int i :: .ref r :: st => match h[r]?, h[v]? with
    | some (.inr (100, fs)), some (.inr (6, _)) => some (.inr (.inl (vp_in i fs.length, pc', L, st, h.set r (.inr (100, fs.set i.toNatClampNeg (.ref v))), k, z)))
    | _, _ => none
  | _ => none
def ralen (ro : rQ) (L st : List Value) (h : rH) (k z pc' : Nat) : Option rO := match st with
  | .ref r :: st => match rgetI ro h r with
    | some (n, _) => some (.inl (pc', L, .int (nI n) :: st, h, k, z))
    | none => none
  | _ => none
def rgetf (aux : List Nat) (L st : List Value) (h : rH) (k z pc' : Nat) : Option rO := match aux, st with
  | q :: cs, .ref r :: st => match h[r]? with
    | some (.inr (ci, fs)) => bif cs.contains ci then (match fs[q]? with
      | some v => some (.inl (pc', L, v :: st, h, k, z))
      | none => none) else none
    | _ => none
  | _, _ => none
def rputf (aux : List Nat) (L st : List Value) (h : rH) (k z pc' : Nat) : Option rO := match aux, st with
  | q :: _ :: ty :: cs, v :: .ref r :: st => match h[r]? with
    | some (.inr (ci, fs)) => bif cs.contains ci && Nat.blt q fs.length then (match ty, v with
      | 3, .int x => some (.inr (.inl (x = 0 ∨ x = 1, pc', L, st, h.set r (.inr (ci, fs.set q v)), k, z)))
      | 0, .int _ => some (.inl (pc', L, st, h.set r (.inr (ci, fs.set q v)), k, z))
      | 1, .long _ => some (.inl (pc', L, st, h.set r (.inr (ci, fs.set q v)), k, z))
      | 2, .ref _ => some (.inl (pc', L, st, h.set r (.inr (ci, fs.set q v)), k, z))
      | _, _ => none) else none
    | _ => none
  | _, _ => none
/-- refs that are in use -/
def rwfv (n : Nat) (L : List Value) : Bool := L.all (fun v => match v with
  | .ref k => Nat.blt k n || Nat.ble 1000000 k
  | _ => true)
def rwfE (n : Nat) (e : rE) : Bool := match e with
  | .inr (_, fs) => rwfv n fs
  | .inl _ => true
def rmk (MC MS : Nat) (L st : List Value) (h : rH) (k z pc' N : Nat) (e : rE) : Option rO :=
  bif Nat.ble (k + 1) MC && Nat.ble (z + N) MS && Nat.ble h.length 900000 && rwfv h.length L && rwfv h.length st && h.all (rwfE h.length) then some (.inl (pc', L, .ref h.length :: st, h ++ [e], k + 1, z + N)) else none
def rnewa (MC MS : Nat) (aty : ArrayType) (L st : List Value) (h : rH) (k z pc' : Nat) (aux : List Nat) : Option rO := match st, aux with
  | .int n :: st, [N] => bif decide (n = nI N) && Nat.ble N 1000000 then (match aty with
    | .int => rmk MC MS L st h k z pc' N (.inl (0, N, .inl (fun _ => 0)))
    | .long => rmk MC MS L st h k z pc' N (.inl (1, N, .inr (.inl (fun _ => 0))))
    | .byte => rmk MC MS L st h k z pc' N (.inl (2, N, .inl (fun _ => 0)))
    | .boolean => rmk MC MS L st h k z pc' N (.inl (3, N, .inl (fun _ => 0)))
    | _ => none) else none
  | _, _ => none
def rnewq (MC MS : Nat) (L st : List Value) (h : rH) (k z pc' : Nat) (aux : List Nat) : Option rO := match st, aux with
  | .int n :: st, [N] => bif decide (n = nI N) && Nat.ble N 1000000 then rmk MC MS L st h k z pc' N (.inr (100, List.replicate N .null)) else none
  | _, _ => none
def rnewc (MC MS : Nat) (L st : List Value) (h : rH) (k z pc' : Nat) (aux : List Nat) : Option rO := match aux with
  | [ci] => rmk MC MS L st h k z pc' (rnew ci).length (.inr (ci, rnew ci))
  | _ => none
def rcopy (L st : List Value) (h : rH) (k z pc' : Nat) : Option rO := match st with
  | .int n :: .int dp :: .ref a :: .int sp :: .ref b :: st => match h[b]?, h[a]? with
    | some (.inl (0, n0, .inl f)), some (.inl (0, n1, .inl g)) => bif rwd st then some (.inr (.inl ((¬ sp < 0 ∧ ¬ dp < 0 ∧ ¬ n < 0 ∧ sp.toNatClampNeg + n.toNatClampNeg ≤ n0 ∧ dp.toNatClampNeg + n.toNatClampNeg ≤ n1), pc', L, st, h.set a (.inl (0, n1, .inl (va_cpy f g sp.toNatClampNeg dp.toNatClampNeg n.toNatClampNeg))), k, z))) else none
    | _, _ => none
  | _ => none
def rinv (MC MS f mc ms : Nat) (As : List Value) (L st : List Value) (h : rH) (k z pc' : Nat) : Option rO :=
  bif Nat.ble (k + mc) MC && Nat.ble (z + ms) MS && rwd st && (Nat.beq mc 0 || (rwfv h.length L && rwfv h.length st)) then some (.inr (.inr (.inr (.inl ((f, mc, ms, As, h), fun r h' => (pc', L, r.toList ++ st, h', k + mc, z + ms)))))) else none
def rstat (MC MS : Nat) (aux : List Nat) (L st : List Value) (h : rH) (k z pc' : Nat) : Option rO := match aux with
  | [2] => rcopy L st h k z pc'
  | [_, f, n, mc, ms] => match rpop n st [] with
    | some (As, st) => rinv MC MS f mc ms As L st h k z pc'
    | none => none
  | _ => none
def rspec (MC MS : Nat) (aux : List Nat) (L st : List Value) (h : rH) (k z pc' : Nat) : Option rO := match aux with
  | [0] => (match st with
    | .ref _ :: st => bif rwd st then some (.inl (pc', L, st, h, k, z)) else none
    | _ => none)
  | [_, f, n, mc, ms] => match rpop n st [] with
    | some (As, .ref r :: st) => rinv MC MS f mc ms (.ref r :: As) L st h k z pc'
    | _ => none
  | _ => none
def rvirt (MC MS : Nat) (aux : List Nat) (L st : List Value) (h : rH) (k z pc' : Nat) : Option rO := match aux with
  | _ :: n :: ps => match rpop n st [] with
    | some (As, .ref r :: st) => (match h[r]? with
      | some (.inr (ci, _)) => (match rlook ps ci with
        | some f => rinv MC MS f 0 0 (.ref r :: As) L st h k z pc'
        | none => none)
      | _ => none)
    | _ => none
  | _ => none
def rret (MC MS : Nat) (aux : List Nat) (st : List Value) (h : rH) (k z : Nat) : Option rO := bif Nat.ble k MC && Nat.ble z MS then (match aux, st with
  | [0], [.int v] => some (.inr (.inr (.inr (.inr (True, some (.int v), h)))))
  | [1], [.int v] => some (.inr (.inr (.inr (.inr (v = 0 ∨ v = 1, some (.int v), h)))))
  | [2], [.long v] => some (.inr (.inr (.inr (.inr (True, some (.long v), h)))))
  | [3], [] => some (.inr (.inr (.inr (.inr (True, none, h)))))
  | _, _ => none) else none
def rjump (aux : List Nat) (f : Nat → Option rO) : Option rO := match aux with
  | [t] => f t
  | _ => none
def rop (ro : rQ) (MC MS : Nat) (e : rI) (c : rK) : Option rO := match c with
  | (pc, L, st, h, k, z) => match e.1 with
    | .iconst _ => some (.inl (pc + 1, L, .int (rc e.2.1) :: st, h, k, z))
    | .bipush _ => some (.inl (pc + 2, L, .int (rc e.2.1) :: st, h, k, z))
    | .sipush _ => some (.inl (pc + 3, L, .int (rc e.2.1) :: st, h, k, z))
    | .ldc _ => some (.inl (pc + 2, L, .int (rc e.2.1) :: st, h, k, z))
    | .ldc_w _ => some (.inl (pc + 3, L, .int (rc e.2.1) :: st, h, k, z))
    | .lconst _ => some (.inl (pc + 1, L, .long (rcL e.2.1) :: st, h, k, z))
    | .ldc2_w _ => some (.inl (pc + 3, L, .long (rcL e.2.1) :: st, h, k, z))
    | .iload_n i => rload L st h k z (pc + 1) i.val
    | .iload i => rload L st h k z (pc + 2) i
    | .lload_n i => rloadL L st h k z (pc + 1) i.val
    | .lload i => rloadL L st h k z (pc + 2) i
    | .aload_n i => rloadA L st h k z (pc + 1) i.val
    | .istore_n i => rstore L st h k z (pc + 1) i.val
    | .istore i => rstore L st h k z (pc + 2) i
    | .lstore_n i => rstoreL L st h k z (pc + 1) i.val
    | .lstore i => rstoreL L st h k z (pc + 2) i
    | .astore_n i => rstoreA L st h k z (pc + 1) i.val
    | .iinc i _ => rinc L st h k z (pc + 3) i (rc e.2.1)
    | .iadd => rbin (fun x y => x + y) L st h k z (pc + 1)
    | .isub => rbin (fun x y => x - y) L st h k z (pc + 1)
    | .imul => rbin (fun x y => x * y) L st h k z (pc + 1)
    | .iand => rbin (fun x y => x &&& y) L st h k z (pc + 1)
    | .ior => rbin (fun x y => x ||| y) L st h k z (pc + 1)
    | .ishl => rbin (fun x y => x <<< (y &&& 31)) L st h k z (pc + 1)
    | .ishr => rbin (fun x y => x >>> (y &&& 31)) L st h k z (pc + 1)
    | .iushr => rbin (fun x y => (x.toUInt32 >>> (y.toUInt32 &&& Int32.toUInt32 31)).toInt32) L st h k z (pc + 1)
    | .idiv => rdiv (fun x y => x / y) L st h k z (pc + 1)
    | .irem => rdiv (fun x y => x - x / y * y) L st h k z (pc + 1)
    | .ladd => rbinL (fun x y => x + y) L st h k z (pc + 1)
    | .lsub => rbinL (fun x y => x - y) L st h k z (pc + 1)
    | .lmul => rbinL (fun x y => x * y) L st h k z (pc + 1)
    | .ldiv => rdivL (fun x y => x / y) L st h k z (pc + 1)
    | .lrem => rdivL (fun x y => x - x / y * y) L st h k z (pc + 1)
    | .lcmp => (match st with
      | .long y :: .long x :: st => some (.inl (pc + 1, L, .int (lg_cmp x y) :: st, h, k, z))
      | _ => none)
    | .i2l => (match st with
      | .int x :: st => some (.inl (pc + 1, L, .long x.toInt64 :: st, h, k, z))
      | _ => none)
    | .l2i => (match st with
      | .long x :: st => some (.inl (pc + 1, L, .int x.toInt32 :: st, h, k, z))
      | _ => none)
    | .i2b => (match st with
      | .int x :: st => some (.inl (pc + 1, L, .int x.toInt8.toInt32 :: st, h, k, z))
      | _ => none)
    | .dup => (match st with
      | .int x :: st => some (.inl (pc + 1, L, .int x :: .int x :: st, h, k, z))
      | .ref x :: st => some (.inl (pc + 1, L, .ref x :: .ref x :: st, h, k, z))
      | _ => none)
    | .dup2 => (match st with
      | .int x :: .ref y :: st => some (.inl (pc + 1, L, .int x :: .ref y :: .int x :: .ref y :: st, h, k, z))
      | .long x :: st => some (.inl (pc + 1, L, .long x :: .long x :: st, h, k, z))
      | _ => none)
    | .iaload => raldI ro L st h k z (pc + 1)
    | .laload => raldL L st h k z (pc + 1)
    | .baload => raldB L st h k z (pc + 1)
    | .aaload => raldA L st h k z (pc + 1)
    | .iastore => rastI L st h k z (pc + 1)
    | .lastore => rastL L st h k z (pc + 1)
    | .bastore => rastB L st h k z (pc + 1)
    | .aastore => rastA L st h k z (pc + 1)
    | .arraylength => ralen ro L st h k z (pc + 1)
    | .getfield _ => rgetf e.2.1 L st h k z (pc + 3)
    | .putfield _ => rputf e.2.1 L st h k z (pc + 3)
    | .getstatic _ => rjump e.2.1 (fun r => some (.inl (pc + 3, L, .ref r :: st, h, k, z)))
    | .new _ => rnewc MC MS L st h k z (pc + 3) e.2.1
    | .newarray a => rnewa MC MS a L st h k z (pc + 2) e.2.1
    | .anewarray _ => rnewq MC MS L st h k z (pc + 3) e.2.1
    | .ifCond cd _ => rjump e.2.1 (fun t => match st with
      | .int x :: st => some (rbr cd x 0 (t, L, st, h, k, z) (pc + 3, L, st, h, k, z))
      | _ => none)
    | .if_icmp cd _ => rjump e.2.1 (fun t => match st with
      | .int y :: .int x :: st => some (rbr cd x y (t, L, st, h, k, z) (pc + 3, L, st, h, k, z))
      | _ => none)
    | .goto _ => rjump e.2.1 (fun t => some (.inl (t, L, st, h, k, z)))
    | .tableswitch _ lo hi _ => (match e.2.1, st with
      | _ :: d :: ts, .int x :: st => some (.inl (rsw d lo hi ts x, L, st, h, k, z))
      | _, _ => none)
    | .invokestatic _ => rstat MC MS e.2.1 L st h k z (pc + 3)
    | .invokespecial _ => rspec MC MS e.2.1 L st h k z (pc + 3)
    | .invokevirtual _ => rvirt MC MS e.2.1 L st h k z (pc + 3)
    | .ireturn => rret MC MS e.2.1 st h k z
    | .lreturn => rret MC MS e.2.1 st h k z
    | .return_ => rret MC MS e.2.1 st h k z
    | _ => none
/-- one step on the way to P, with R for what a return gives -/
def rstp (call : rCall) (R : rR) (o : Option rO) (P : rK → Prop) : Prop := match o with
  | none => False
  | some (.inl c) => P c
  | some (.inr (.inl (g, c))) => g ∧ P c
  | some (.inr (.inr (.inl (b, c1, c2)))) => (b → P c1) ∧ (¬ b → P c2)
  | some (.inr (.inr (.inr (.inl ((f, mc, ms, As, h), kk))))) => call f mc ms As h (fun r h' => P (kk r h'))
  | some (.inr (.inr (.inr (.inr (g, v, h))))) => g ∧ R v h
def rnext (ro : rQ) (tb : List (Nat × rI)) (MC MS : Nat) (c : rK) : Option rO := match rfind tb c.1 with
  | some e => rop ro MC MS e c
  | none => none
/-- from c the method comes to a return with R -/
def rT (ro : rQ) (call : rCall) (tb : List (Nat × rI)) (MC MS : Nat) (R : rR) (c : rK) : Prop := ∀ P : rK → Prop, (∀ c, rstp call R (rnext ro tb MC MS c) P → P c) → P c
def rMon (call : rCall) : Prop := ∀ (f mc ms : Nat) (As : List Value) (h : rH) (R R' : rR), (∀ r h, R r h → R' r h) → call f mc ms As h R → call f mc ms As h R'
theorem rstp_mono {call : rCall} (hm : rMon call) {R R' : rR} (hR : ∀ r h, R r h → R' r h) {o : Option rO} {P P' : rK → Prop} (hP : ∀ c, P c → P' c) (h : rstp call R o P) : rstp call R' o P' := by
  rcases o with _ | (c | ⟨g, c⟩ | ⟨b, c1, c2⟩ | ⟨⟨f, mc, ms, As, hh⟩, kk⟩ | ⟨g, v, hh⟩)
  · exact h
  · exact hP _ h
  · exact ⟨h.1, hP _ h.2⟩
  · exact ⟨fun b => hP _ (h.1 b), fun b => hP _ (h.2 b)⟩
  · exact hm _ _ _ _ _ _ _ (fun r h' => hP _) h
  · exact ⟨h.1, hR _ _ h.2⟩
theorem rT_step {ro : rQ} {call : rCall} (hm : rMon call) {tb : List (Nat × rI)} {MC MS : Nat} {R : rR} {c : rK} (h : rstp call R (rnext ro tb MC MS c) (rT ro call tb MC MS R)) : rT ro call tb MC MS R c :=
  fun P hP => hP c (rstp_mono hm (fun _ _ h => h) (fun c h => h P hP) h)
theorem rT_mono {ro : rQ} {call : rCall} (hm : rMon call) {tb : List (Nat × rI)} {MC MS : Nat} {R R' : rR} (hR : ∀ r h, R r h → R' r h) {c : rK} (h : rT ro call tb MC MS R c) : rT ro call tb MC MS R' c :=
  h _ (fun _ h => rT_step hm (rstp_mono hm hR (fun _ h => h) h))
/-- n steps at most, up to the places where 'stop' says so -/
def rev (ro : rQ) (call : rCall) (tb : List (Nat × rI)) (MC MS : Nat) (R : rR) (stop : Nat → Bool) : Nat → rK → Prop
  | 0, c => rT ro call tb MC MS R c
  | n + 1, c => rstp call R (rnext ro tb MC MS c) (fun c' => bif stop c'.1 then rT ro call tb MC MS R c' else rev ro call tb MC MS R stop n c')
theorem rev_T {ro : rQ} {call : rCall} (hm : rMon call) {tb : List (Nat × rI)} {MC MS : Nat} {R : rR} (stop : Nat → Bool) : ∀ (n : Nat) {c : rK}, rev ro call tb MC MS R stop n c → rT ro call tb MC MS R c
  | 0, _, h => h
  | n + 1, _, h => rT_step hm (rstp_mono hm (fun _ _ h => h) (fun c' h => by
      cases hs : stop c'.1
      · rw [hs] at h; exact rev_T hm stop n h
      · rw [hs] at h; exact h) h)
