/-! ===== what a program decides of the tables: each instruction is what the code holds, each link is a word of lw_tbl ===== -/
def rBig : List Cond := lw_tbl.filter goodWord
def risN : Cond → Bool
  | .fieldLinkNest .. | .methodLinkNest .. | .declares _ => true
  | _ => false
def rNst : List Cond := lw_tbl.filter risN
def rCl : List vw_C := [(RX0, TX0, 2), (RX1, TX1, 6), (RX2, TX2, 2), (RX3, TX3, 7), (RX4, TX4, 5), (RX5, TX5, 6), (RX6, TX6, 9), (RX8, TX8, 5), (RX9, TX9, 12), (RX10, TX10, 24)]
/-- the word at a place, a good one -/
def rwordB (p : Nat) (w : Cond) : Bool := decide (lw_tbl[p]? = some w) && goodWord w
def rnestB (p : Nat) (w : Cond) : Bool := decide (lw_tbl[p]? = some w) && risN w
theorem rwordB_mem {p : Nat} {w : Cond} (h : rwordB p w = true) : w ∈ rBig := by
  simp only [rwordB, Bool.and_eq_true, decide_eq_true_eq] at h
  exact List.mem_filter.mpr ⟨List.mem_of_getElem? h.1, h.2⟩
theorem rnestB_mem {p : Nat} {w : Cond} (h : rnestB p w = true) : w ∈ rNst := by
  simp only [rnestB, Bool.and_eq_true, decide_eq_true_eq] at h
  exact List.mem_filter.mpr ⟨List.mem_of_getElem? h.1, h.2⟩
def rlen : Instr → List Nat → Nat
  | .bipush _, _ | .ldc _, _ | .iload _, _ | .lload _, _ | .istore _, _ | .lstore _, _ | .newarray _, _ => 2
  | .sipush _, _ | .ldc_w _, _ | .ldc2_w _, _ | .iinc .., _ | .getfield _, _ | .putfield _, _ | .getstatic _, _ | .new _, _ | .anewarray _, _ | .ifCond .., _ | .if_icmp .., _ | .goto _, _ | .invokestatic _, _ | .invokespecial _, _ | .invokevirtual _, _ => 3
  | .tableswitch .., n :: _ => n
  | _, _ => 1
/-- a field of an object of class ci: place q, by the link at place p (and the word 'same field' behind it) -/
def rfieldB (own : String) (idx q ci : Nat) (pos : List Nat) : Bool := match rCl[ci]?, pos with
  | some (_, T, N), [p] => Nat.blt q N && rwordB p (.fieldLink own idx (T q).1 (T q).2.1 (T q).2.2.1)
  | some (C, T, N), [p, p2] => Nat.blt q N && rwordB p (.fieldLink own idx C (T q).2.1 (T q).2.2.1) && rwordB p2 (.sameField C (T q).1 (T q).2.1 (T q).2.2.1)
  | _, _ => false
def rtyB (ci q ty : Nat) : Bool := match rCl[ci]? with
  | some (_, T, _) => match ty, parseFieldDescriptor (T q).2.2.1 with
    | 0, some .int => true
    | 1, some .long => true
    | 2, some (.object _) => true
    | 2, some (.array _) => true
    | 3, some .boolean => true
    | _, _ => false
  | none => false
def rfinB (own : String) (ci q fin : Nat) : Bool := match rCl[ci]? with
  | some (_, T, _) => match fin with
    | 0 => !(T q).2.2.2
    | _ => (T q).2.2.2 && decide ((T q).1 = own)
  | none => false
/-- a callee: its name and how many arguments -/
def rnotMH (s : String) : Bool := decide (s ≠ "java/lang/invoke/MethodHandle") && decide (s ≠ "java/lang/invoke/VarHandle")
def rparB (d : String) (n : Nat) : Bool := decide ((parseMethodDescriptor d).map (fun d => d.parameters.length) = some n)
def ryB (f : Nat) (g : MethodName → Bool) : Bool := match pgm[f]? with
  | some (y, _, _, _, _) => g y
  | none => false
def rUB (own : String) (idx n : Nat) (x : MethodName) : List Nat → List Nat → Bool
  | [], [] => true
  | ci :: f :: ps, p1 :: p2 :: p3 :: pos => (match rCl[ci]? with
      | some (C, _, _) => ryB f (fun y => rwordB p1 (.selects C x y) && rwordB p2 (.instanceMethod y) && rwordB p3 (.initialized y.cls))
      | none => false) && rUB own idx n x ps pos
  | _, _ => false
def rchk (own : String) (init : Bool) (bytes : ByteArray) (e : Nat × rI) : Bool := match e with
  | (pc, i, aux, pos) => decide (decode bytes pc = .ok (i, rlen i aux)) && (match i with
    | .iconst n => decide (Int32.ofInt n = rc aux)
    | .bipush n => decide ((Int8.ofInt n).toInt32 = rc aux)
    | .sipush n => decide ((Int16.ofInt n).toInt32 = rc aux)
    | .iinc _ n => decide (Int32.ofInt n = rc aux)
    | .lconst n => decide (Int64.ofNat n.val = rcL aux)
    | .ldc x | .ldc_w x => (match pos with
      | [p] => rwordB p (.constant own x (rc aux))
      | _ => false)
    | .ldc2_w x => (match pos with
      | [p] => rwordB p (.constantLong own x (rcL aux))
      | _ => false)
    | .goto o | .ifCond _ o | .if_icmp _ o => (match aux with
      | [t] => decide ((pc : Int) + o = (t : Int))
      | _ => false)
    | .tableswitch d lo hi os => (match aux with
      | _ :: t :: ts => decide ((pc : Int) + d = (t : Int)) && decide (lo ≤ hi) && decide (os.toList.length = (hi - lo).toNat + 1) && decide (os.toList.map (fun o => (pc : Int) + o) = ts.map (fun t : Nat => (t : Int)))
      | _ => false)
    | .getfield x => (match aux with
      | q :: cs => cs.all (fun ci => rfieldB own x q ci pos)
      | _ => false)
    | .putfield x => (match aux with
      | q :: fin :: ty :: cs => (decide (fin = 0) || init) && cs.all (fun ci => rfieldB own x q ci pos && rtyB ci q ty && rfinB own ci q fin)
      | _ => false)
    | .getstatic x => (match aux, pos with
      | [r], [kd, p] => (match r with
        | 1000000 => decide (kd = 0) && rwordB p (.fieldLink own x "LeastAlone" "WINNING" "[I")
        | 1000001 => decide (kd = 0) && rwordB p (.fieldLink own x "LeastAlone" "CHOOSE" "[I")
        | 1000002 => decide (kd = 1) && rnestB p (.fieldLinkNest own x "LeastAlone" "BELOW" "[I" "LeastAlone")
        | 1000003 => decide (kd = 1) && rnestB p (.fieldLinkNest own x "LeastAlone" "ONES" "[I" "LeastAlone")
        | _ => false)
      | _, _ => false)
    | .new x => (match aux, pos with
      | [ci], [p1, p2, p3] => (match rCl[ci]? with
        | some (C, _, N) => rwordB p1 (.classLink own x C) && rwordB p2 (.instantiable C N) && rwordB p3 (.initialized C)
        | none => false)
      | _, _ => false)
    | .newarray a => (match pos with
      | [p] => rwordB p (.arrayClass (newarray.typeOf a))
      | _ => false)
    | .anewarray x => (match pos with
      | [p1, _] => rwordB p1 (.classLink own x "LeastAlone$Table")
      | _ => false)
    | .invokestatic x => (match aux, pos with
      | [2], [p1, p2, p3, p4] => rwordB p1 (.methodLink own x arraycopyName) && rwordB p2 (.native arraycopyName) && rwordB p3 (.static arraycopyName) && rwordB p4 (.initialized "java/lang/System")
      | [0, f, n, _, _], [p1, p2, p3] => ryB f (fun y => rwordB p1 (.methodLink own x y) && rwordB p2 (.static y) && rwordB p3 (.initialized y.cls) && rnotMH y.cls && rparB y.desc n)
      | [1, f, n, _, _], [p1, p2, p3] => ryB f (fun y => rnestB p1 (.methodLinkNest own x y "LeastAlone") && rwordB p2 (.static y) && rwordB p3 (.initialized y.cls) && rnotMH y.cls && rparB y.desc n)
      | _, _ => false)
    | .invokespecial x => (match aux, pos with
      | [0], [p1, p2, p3] => rwordB p1 (.methodLink own x Lib.objectInit) && rwordB p2 (.instanceMethod Lib.objectInit) && rwordB p3 (.code Lib.objectInit ⟨#[0xb1]⟩ 1 none)
      | [1, f, n, _, _], [p1, p2, p3] => ryB f (fun y => rwordB p1 (.methodLink own x y) && rwordB p2 (.instanceMethod y) && rwordB p3 (.initialized y.cls) && rnotMH y.cls && rparB y.desc n && decide (y.name = "<init>"))
      | [2, f, n, _, _], [p1, p2, p3] => ryB f (fun y => rnestB p1 (.methodLinkNest own x y "LeastAlone") && rwordB p2 (.instanceMethod y) && rwordB p3 (.initialized y.cls) && rnotMH y.cls && rparB y.desc n && decide (y.name = "<init>"))
      | _, _ => false)
    | .invokevirtual x => (match aux, pos with
      | [0, n, ci, f], [p1, p2, p3, p4] => ryB f (fun y => rwordB p1 (.methodLink own x y) && rwordB p2 (.instanceMethod y) && rwordB p3 (.selects y.cls y y) && rwordB p4 (.initialized y.cls) && rnotMH y.cls && rparB y.desc n && (match rCl[ci]? with
        | some (C, _, _) => decide (C = y.cls)
        | none => false))
      | [1, n, ci, f], [p1, p2, p3, p4] => ryB f (fun y => rnestB p1 (.methodLinkNest own x y "LeastAlone") && rwordB p2 (.instanceMethod y) && rwordB p3 (.selects y.cls y y) && rwordB p4 (.initialized y.cls) && rnotMH y.cls && rparB y.desc n && (match rCl[ci]? with
        | some (C, _, _) => decide (C = y.cls)
        | none => false))
      | 2 :: n :: ps, p1 :: p2 :: p3 :: pos => (match lw_tbl[p1]? with
        | some (.methodLink _ _ q) => rwordB p1 (.methodLink own x q) && rwordB p2 (.sameMethod q.cls "LeastAlone$Tally" q.name q.desc) && rnestB p3 (.declares ⟨"LeastAlone$Tally", q.name, q.desc⟩) && rparB q.desc n && rUB own x n q ps pos
        | _ => false)
      | _, _ => false)
    | .ireturn => decide (aux = [0]) || decide (aux = [1])
    | .lreturn => decide (aux = [2])
    | .return_ => decide (aux = [3])
    | _ => true)
def rretB (ret : Option FieldType) (tb : List (Nat × rI)) : Bool := tb.all (fun e => match e.2.1 with
  | .ireturn => (decide (ret = some .int) && decide (e.2.2.1 = [0])) || (decide (ret = some .boolean) && decide (e.2.2.1 = [1]))
  | .lreturn => decide (ret = some .long)
  | .return_ => decide (ret = none)
  | _ => true)
/-- a method's table is right -/
def rmetB (q : rP) : Bool := match q with
  | (y, bytes, n, ret, tb) => tb.all (rchk y.cls (decide (y.name = "<init>")) bytes) && rretB ret tb && plainName y.cls && Nat.ble n 30
