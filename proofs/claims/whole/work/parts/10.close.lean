/-! ===== each instruction of the small machine, by the kit's row ===== -/
def rSt (base : Nat) (ro : rQ) (ad : Nat → Nat) (U : State) (H : Heap) : Prop :=
  (∀ w ∈ rNst, va_Nw w U) ∧ va_AO "LeastAlone$Table" U ∧ va_Z "LeastAlone" "WINNING" "[I" (.ref (ad 1000000)) (rAA base) U H ∧ va_Z "LeastAlone" "CHOOSE" "[I" (.ref (ad 1000001)) (rAA base) U H ∧ va_Z "LeastAlone" "BELOW" "[I" (.ref (ad 1000002)) (rAA base) U H ∧ va_Z "LeastAlone" "ONES" "[I" (.ref (ad 1000003)) (rAA base) U H ∧
  ∀ (k n : Nat) (f : Nat → Int32), ro k = some (n, f) → va_T .int (ad (1000000 + k)) n (fun j => .int (f j)) (rAA base) U H
def rwd0 (D : va_G) (cA : Nat → ClassId) (base : Nat) (ad : Nat → Nat) (h : rH) (H : Heap) : Prop := va_P D rCl (rws ad cA h) H ∧ va_D (rAA base) (rws ad cA h)
def rwld (D : va_G) (cA : Nat → ClassId) (base : Nat) (ro : rQ) (s : State) (H : Heap) (locs : List Loc) (ad : Nat → Nat) (h : rH) : Prop := va_P D rCl (rws ad cA h) H ∧ va_D (rAA base) (rws ad cA h) ∧ va_S (rAA base) s.heap H locs ∧ rSt base ro ad s s.heap
def rxt (MC n0 : Nat) (ad0 ad : Nat → Nat) (h : rH) : Prop := (MC = 0 → ad = ad0) ∧ (∀ k, k < n0 ∨ 1000000 ≤ k → ad k = ad0 k) ∧ n0 ≤ h.length
def rCtx (p : Program) (Rm : Room) (s : State) (m : MethodId) (args : Array Value) (meth : Method) (cd : Code) (own : String) (init : Bool) (bytes : ByteArray) (nL : Nat) (D : va_G) (cA : Nat → ClassId) (base MC MS d : Nat) : Prop :=
  p.tables.exec = Jvm.exec ∧ cd.code = bytes ∧ cd.maxLocals = nL ∧ s.vm.findClass own = some m.cls ∧ (∀ w ∈ rBig, w.before args s = true) ∧ (init = true → meth.name = "<init>") ∧ va_K D rCl (rtys cA) s ∧ base ≤ s.heap.size ∧ d + 1 ≤ Rm.frames ∧ 60 * (d + 1) ≤ Rm.locals ∧ MC ≤ Rm.cells ∧ MS ≤ Rm.slots
section RC
variable {p : Program} {l : Launch} {e : Env} {Rm : Room} {s : State} {m : MethodId} {args : Array Value} {below : List Frame} {meth : Method} {cd : Code} {Q : State → Prop}
variable {own : String} {init : Bool} {bytes : ByteArray} {nL : Nat} {D : va_G} {cA : Nat → ClassId} {base MC MS d n0 : Nat} {ro : rQ} {ad0 : Nat → Nat}
def rPr (p : Program) (l : Launch) (e : Env) (Rm : Room) (s : State) (m : MethodId) (args : Array Value) (below : List Frame) (meth : Method) (cd : Code) (Q : State → Prop) (nL : Nat) (D : va_G) (cA : Nat → ClassId) (base MC n0 : Nat) (ro : rQ) (ad0 : Nat → Nat) (c : rK) : Prop :=
  ∀ (ad : Nat → Nat) (H : Heap) (locs : List Loc) (ls : Array Slot), rwld D cA base ro s H locs ad c.2.2.2.1 → rxt MC n0 ad0 ad c.2.2.2.1 → lv_has ls nL (rprs ad 0 c.2.1) → c.2.1.length = nL → W p l e Rm s m args below meth cd H locs c.2.2.2.2.1 c.2.2.2.2.2 Q (F0 m c.1 ls (c.2.2.1.map (rv ad)))
variable {call : rCall} {R : rR} {pc pc' k z : Nat} {L st : List Value} {h : rH}
abbrev rPP (p : Program) (l : Launch) (e : Env) (Rm : Room) (s : State) (m : MethodId) (args : Array Value) (below : List Frame) (meth : Method) (cd : Code) (Q : State → Prop) (nL : Nat) (D : va_G) (cA : Nat → ClassId) (base MC n0 : Nat) (ro : rQ) (ad0 : Nat → Nat) : rK → Prop := rPr p l e Rm s m args below meth cd Q nL D cA base MC n0 ro ad0
theorem rk_push {v : Value} (hs : rPr p l e Rm s m args below meth cd Q nL D cA base MC n0 ro ad0 (pc', L, v :: st, h, k, z))
    (row : ∀ (ad : Nat → Nat) (H : Heap) (locs : List Loc) (ls : Array Slot), lv_has ls nL (rprs ad 0 L) → W p l e Rm s m args below meth cd H locs k z Q (F0 m pc' ls (rv ad v :: st.map (rv ad))) → W p l e Rm s m args below meth cd H locs k z Q (F0 m pc ls (st.map (rv ad)))) :
    rPr p l e Rm s m args below meth cd Q nL D cA base MC n0 ro ad0 (pc, L, st, h, k, z) :=
  fun ad H locs ls hw hx2 hl hn => row ad H locs ls hl (hs ad H locs ls hw hx2 hl hn)
theorem rk_load {i : Nat} (hs : rstp call R (rload L st h k z pc' i) (rPr p l e Rm s m args below meth cd Q nL D cA base MC n0 ro ad0))
    (row : ∀ (x : Int32) (rest : List Value) (H : Heap) (locs : List Loc) (ls : Array Slot), ls[i]? = some (.val (.int x)) → W p l e Rm s m args below meth cd H locs k z Q (F0 m pc' ls (.int x :: rest)) → W p l e Rm s m args below meth cd H locs k z Q (F0 m pc ls rest)) :
    rPr p l e Rm s m args below meth cd Q nL D cA base MC n0 ro ad0 (pc, L, st, h, k, z) := by
  unfold rload at hs
  split at hs
  · rename_i x hx
    exact fun ad H locs ls hw hx2 hl hn => row x _ H locs ls (rget_at hl hx (by simp)) (hs ad H locs ls hw hx2 hl hn)
  · exact False.elim hs
theorem rk_loadL {i : Nat} (hs : rstp call R (rloadL L st h k z pc' i) (rPr p l e Rm s m args below meth cd Q nL D cA base MC n0 ro ad0))
    (row : ∀ (x : Int64) (rest : List Value) (H : Heap) (locs : List Loc) (ls : Array Slot), ls[i]? = some (.val (.long x)) → W p l e Rm s m args below meth cd H locs k z Q (F0 m pc' ls (.long x :: rest)) → W p l e Rm s m args below meth cd H locs k z Q (F0 m pc ls rest)) :
    rPr p l e Rm s m args below meth cd Q nL D cA base MC n0 ro ad0 (pc, L, st, h, k, z) := by
  unfold rloadL at hs
  split at hs
  · rename_i x hx
    exact fun ad H locs ls hw hx2 hl hn => row x _ H locs ls (rget_at hl hx (by simp)) (hs ad H locs ls hw hx2 hl hn)
  · exact False.elim hs
theorem rk_loadA {i : Nat} (hs : rstp call R (rloadA L st h k z pc' i) (rPr p l e Rm s m args below meth cd Q nL D cA base MC n0 ro ad0))
    (row : ∀ (x : Nat) (rest : List Value) (H : Heap) (locs : List Loc) (ls : Array Slot), ls[i]? = some (.val (.ref x)) → W p l e Rm s m args below meth cd H locs k z Q (F0 m pc' ls (.ref x :: rest)) → W p l e Rm s m args below meth cd H locs k z Q (F0 m pc ls rest)) :
    rPr p l e Rm s m args below meth cd Q nL D cA base MC n0 ro ad0 (pc, L, st, h, k, z) := by
  unfold rloadA at hs
  split at hs
  · rename_i x hx
    exact fun ad H locs ls hw hx2 hl hn => row (ad x) _ H locs ls (rget_at hl hx (by simp)) (hs ad H locs ls hw hx2 hl hn)
  · exact False.elim hs
theorem rk_store {i : Nat} (hs : rstp call R (rstore L st h k z pc' i) (rPr p l e Rm s m args below meth cd Q nL D cA base MC n0 ro ad0))
    (row : ∀ (x : Int32) (rest : List Value) (H : Heap) (locs : List Loc) (ls : Array Slot) (lv : List (Nat × Value)), lv_has ls nL lv → i < nL → (∀ ls' : Array Slot, lv_has ls' nL ((i, Value.int x) :: lv.filter (fun q => !(q.1 == i) && !(q.1 + 1 == i && q.2.category == 2))) → W p l e Rm s m args below meth cd H locs k z Q (F0 m pc' ls' rest)) → W p l e Rm s m args below meth cd H locs k z Q (F0 m pc ls (.int x :: rest))) :
    rPr p l e Rm s m args below meth cd Q nL D cA base MC n0 ro ad0 (pc, L, st, h, k, z) := by
  unfold rstore at hs
  split at hs
  · rename_i x st
    cases hc : rcl L i
    · rw [hc] at hs; exact False.elim hs
    · rw [hc] at hs
      exact fun ad H locs ls hw hx2 hl hn => row x _ H locs ls _ hl (by rw [← hn]; exact rcl_lt hc) (fun ls' hl' => hs ad H locs ls' hw hx2 (lv_has_sub hl' (rset_sub hc (by simp))) (by show (L.set i _).length = nL; rw [List.length_set]; exact hn))
  · exact False.elim hs
theorem rk_storeA {i : Nat} (hs : rstp call R (rstoreA L st h k z pc' i) (rPr p l e Rm s m args below meth cd Q nL D cA base MC n0 ro ad0))
    (row : ∀ (x : Nat) (rest : List Value) (H : Heap) (locs : List Loc) (ls : Array Slot) (lv : List (Nat × Value)), lv_has ls nL lv → i < nL → (∀ ls' : Array Slot, lv_has ls' nL ((i, Value.ref x) :: lv.filter (fun q => !(q.1 == i) && !(q.1 + 1 == i && q.2.category == 2))) → W p l e Rm s m args below meth cd H locs k z Q (F0 m pc' ls' rest)) → W p l e Rm s m args below meth cd H locs k z Q (F0 m pc ls (.ref x :: rest))) :
    rPr p l e Rm s m args below meth cd Q nL D cA base MC n0 ro ad0 (pc, L, st, h, k, z) := by
  unfold rstoreA at hs
  split at hs
  · rename_i x st
    cases hc : rcl L i
    · rw [hc] at hs; exact False.elim hs
    · rw [hc] at hs
      exact fun ad H locs ls hw hx2 hl hn => row (ad x) _ H locs ls _ hl (by rw [← hn]; exact rcl_lt hc) (fun ls' hl' => hs ad H locs ls' hw hx2 (lv_has_sub hl' (rset_sub hc (by simp))) (by show (L.set i _).length = nL; rw [List.length_set]; exact hn))
  · exact False.elim hs
theorem rk_storeL {i : Nat} (hs : rstp call R (rstoreL L st h k z pc' i) (rPr p l e Rm s m args below meth cd Q nL D cA base MC n0 ro ad0))
    (row : ∀ (x : Int64) (rest : List Value) (H : Heap) (locs : List Loc) (ls : Array Slot) (lv : List (Nat × Value)), lv_has ls nL lv → i + 1 < nL → (∀ ls' : Array Slot, lv_has ls' nL ((i, Value.long x) :: lv.filter (fun q => !(q.1 == i) && (!(q.1 == i + 1) && !(q.1 + 1 == i && q.2.category == 2)))) → W p l e Rm s m args below meth cd H locs k z Q (F0 m pc' ls' rest)) → W p l e Rm s m args below meth cd H locs k z Q (F0 m pc ls (.long x :: rest))) :
    rPr p l e Rm s m args below meth cd Q nL D cA base MC n0 ro ad0 (pc, L, st, h, k, z) := by
  unfold rstoreL at hs
  split at hs
  · rename_i x st
    cases hc : rcl L i && Nat.blt (i + 1) L.length
    · rw [hc] at hs; exact False.elim hs
    · rw [hc] at hs
      simp only [Bool.and_eq_true] at hc
      have h2 : i + 1 < L.length := Nat.le_of_ble_eq_true hc.2
      exact fun ad H locs ls hw hx2 hl hn => row x _ H locs ls _ hl (by rw [← hn]; exact h2) (fun ls' hl' => hs ad H locs ls' hw hx2 (lv_has_sub hl' (rsetL_sub hc.1 h2)) (by show ((L.set i _).set (i + 1) _).length = nL; rw [List.length_set, List.length_set]; exact hn))
  · exact False.elim hs
theorem rk_inc {i : Nat} {n : Int32} (hs : rstp call R (rinc L st h k z pc' i n) (rPr p l e Rm s m args below meth cd Q nL D cA base MC n0 ro ad0))
    (row : ∀ (x : Int32) (rest : List Value) (H : Heap) (locs : List Loc) (ls : Array Slot) (lv : List (Nat × Value)) (q : Nat), lv_has ls nL lv → lv[q]? = some (i, .int x) → i < nL → (∀ ls' : Array Slot, lv_has ls' nL ((i, Value.int (x + n)) :: lv.filter (fun q => !(q.1 == i) && !(q.1 + 1 == i && q.2.category == 2))) → W p l e Rm s m args below meth cd H locs k z Q (F0 m pc' ls' rest)) → W p l e Rm s m args below meth cd H locs k z Q (F0 m pc ls rest)) :
    rPr p l e Rm s m args below meth cd Q nL D cA base MC n0 ro ad0 (pc, L, st, h, k, z) := by
  unfold rinc at hs
  split at hs
  · rename_i x hx
    cases hc : rcl L i
    · rw [hc] at hs; exact False.elim hs
    · rw [hc] at hs
      intro ad H locs ls hw hx2 hl hn
      obtain ⟨q, hq, hq2⟩ := List.mem_iff_getElem.mp ((rprs_mem ad L 0 (i, .int x)).mpr ⟨i, .int x, hx, by simp, by simp, rfl⟩)
      exact row x _ H locs ls _ q hl (by rw [List.getElem?_eq_getElem hq, hq2]) (by rw [← hn]; exact rcl_lt hc) (fun ls' hl' => hs ad H locs ls' hw hx2 (lv_has_sub hl' (rset_sub hc (by simp))) (by show (L.set i _).length = nL; rw [List.length_set]; exact hn))
  · exact False.elim hs
theorem rk_bin {f : Int32 → Int32 → Int32} (hs : rstp call R (rbin f L st h k z pc') (rPr p l e Rm s m args below meth cd Q nL D cA base MC n0 ro ad0))
    (row : ∀ (x y : Int32) (rest : List Value) (H : Heap) (locs : List Loc) (ls : Array Slot), W p l e Rm s m args below meth cd H locs k z Q (F0 m pc' ls (.int (f x y) :: rest)) → W p l e Rm s m args below meth cd H locs k z Q (F0 m pc ls (.int y :: .int x :: rest))) :
    rPr p l e Rm s m args below meth cd Q nL D cA base MC n0 ro ad0 (pc, L, st, h, k, z) := by
  unfold rbin at hs
  split at hs
  · exact fun ad H locs ls hw hx2 hl hn => row _ _ _ H locs ls (hs ad H locs ls hw hx2 hl hn)
  · exact False.elim hs
theorem rk_binL {f : Int64 → Int64 → Int64} (hs : rstp call R (rbinL f L st h k z pc') (rPr p l e Rm s m args below meth cd Q nL D cA base MC n0 ro ad0))
    (row : ∀ (x y : Int64) (rest : List Value) (H : Heap) (locs : List Loc) (ls : Array Slot), W p l e Rm s m args below meth cd H locs k z Q (F0 m pc' ls (.long (f x y) :: rest)) → W p l e Rm s m args below meth cd H locs k z Q (F0 m pc ls (.long y :: .long x :: rest))) :
    rPr p l e Rm s m args below meth cd Q nL D cA base MC n0 ro ad0 (pc, L, st, h, k, z) := by
  unfold rbinL at hs
  split at hs
  · exact fun ad H locs ls hw hx2 hl hn => row _ _ _ H locs ls (hs ad H locs ls hw hx2 hl hn)
  · exact False.elim hs
theorem rk_div {f : Int32 → Int32 → Int32} (hs : rstp call R (rdiv f L st h k z pc') (rPr p l e Rm s m args below meth cd Q nL D cA base MC n0 ro ad0))
    (row : ∀ (x y : Int32) (rest : List Value) (H : Heap) (locs : List Loc) (ls : Array Slot), ¬ y = 0 → W p l e Rm s m args below meth cd H locs k z Q (F0 m pc' ls (.int (f x y) :: rest)) → W p l e Rm s m args below meth cd H locs k z Q (F0 m pc ls (.int y :: .int x :: rest))) :
    rPr p l e Rm s m args below meth cd Q nL D cA base MC n0 ro ad0 (pc, L, st, h, k, z) := by
  unfold rdiv at hs
  split at hs
  · exact fun ad H locs ls hw hx2 hl hn => row _ _ _ H locs ls hs.1 (hs.2 ad H locs ls hw hx2 hl hn)
  · exact False.elim hs
theorem rk_divL {f : Int64 → Int64 → Int64} (hs : rstp call R (rdivL f L st h k z pc') (rPr p l e Rm s m args below meth cd Q nL D cA base MC n0 ro ad0))
    (row : ∀ (x y : Int64) (rest : List Value) (H : Heap) (locs : List Loc) (ls : Array Slot), ¬ y = 0 → W p l e Rm s m args below meth cd H locs k z Q (F0 m pc' ls (.long (f x y) :: rest)) → W p l e Rm s m args below meth cd H locs k z Q (F0 m pc ls (.long y :: .long x :: rest))) :
    rPr p l e Rm s m args below meth cd Q nL D cA base MC n0 ro ad0 (pc, L, st, h, k, z) := by
  unfold rdivL at hs
  split at hs
  · exact fun ad H locs ls hw hx2 hl hn => row _ _ _ H locs ls hs.1 (hs.2 ad H locs ls hw hx2 hl hn)
  · exact False.elim hs
theorem rk_aldI (X : rCtx p Rm s m args meth cd own init bytes nL D cA base MC MS d) (hd : decode bytes pc = .ok (.iaload, 1)) (hs : rstp call R (raldI ro L st h k z (pc + 1)) (rPr p l e Rm s m args below meth cd Q nL D cA base MC n0 ro ad0)) :
    rPr p l e Rm s m args below meth cd Q nL D cA base MC n0 ro ad0 (pc, L, st, h, k, z) := by
  unfold raldI at hs
  split at hs
  · rename_i i r st
    split at hs
    · rename_i n f hg
      intro ad H locs ls hw hx2 hl hn
      unfold rgetI at hg
      cases hb : Nat.ble 1000000 r
      · rw [hb] at hg
        simp only [cond_false] at hg
        split at hg
        · rename_i n2 f2 hr
          cases hg
          exact va_iald X.1 X.2.1 X.2.2.2.2.2.2.1 hw.1 r 0 (rws_get hr) rfl hs.1 hd (hs.2 ad H locs ls hw hx2 hl hn)
        · cases hg
      · rw [hb] at hg
        simp only [cond_true] at hg
        have hT := hw.2.2.2.2.2.2.2.2.2 _ _ _ hg
        have hr : 1000000 + (r - 1000000) = r := Nat.add_sub_of_le (Nat.le_of_ble_eq_true hb)
        rw [hr] at hT
        exact va_ti X.1 X.2.1 hT hw.2.2.1 hs.1 rfl hd (hs.2 ad H locs ls hw hx2 hl hn)
    · exact False.elim hs
  · exact False.elim hs
theorem rk_aldL (X : rCtx p Rm s m args meth cd own init bytes nL D cA base MC MS d) (hd : decode bytes pc = .ok (.laload, 1)) (hs : rstp call R (raldL L st h k z (pc + 1)) (rPr p l e Rm s m args below meth cd Q nL D cA base MC n0 ro ad0)) :
    rPr p l e Rm s m args below meth cd Q nL D cA base MC n0 ro ad0 (pc, L, st, h, k, z) := by
  unfold raldL at hs
  split at hs
  · split at hs
    · rename_i n f hr
      exact fun ad H locs ls hw hx2 hl hn => va_lald X.1 X.2.1 X.2.2.2.2.2.2.1 hw.1 _ 1 (rws_get hr) rfl hs.1 hd (hs.2 ad H locs ls hw hx2 hl hn)
    · exact False.elim hs
  · exact False.elim hs
theorem rk_aldB (X : rCtx p Rm s m args meth cd own init bytes nL D cA base MC MS d) (hd : decode bytes pc = .ok (.baload, 1)) (hs : rstp call R (raldB L st h k z (pc + 1)) (rPr p l e Rm s m args below meth cd Q nL D cA base MC n0 ro ad0)) :
    rPr p l e Rm s m args below meth cd Q nL D cA base MC n0 ro ad0 (pc, L, st, h, k, z) := by
  unfold raldB at hs
  split at hs
  · split at hs
    · rename_i n f hr
      exact fun ad H locs ls hw hx2 hl hn => va_bald X.1 X.2.1 X.2.2.2.2.2.2.1 hw.1 _ 2 (rws_get hr) rfl hs.1 hd (hs.2 ad H locs ls hw hx2 hl hn)
    · rename_i n f hr
      exact fun ad H locs ls hw hx2 hl hn => va_zald X.1 X.2.1 X.2.2.2.2.2.2.1 hw.1 _ 3 (rws_get hr) rfl hs.1 hd (hs.2 ad H locs ls hw hx2 hl hn)
    · exact False.elim hs
  · exact False.elim hs
theorem rk_aldA (X : rCtx p Rm s m args meth cd own init bytes nL D cA base MC MS d) (hd : decode bytes pc = .ok (.aaload, 1)) (hs : rstp call R (raldA L st h k z (pc + 1)) (rPr p l e Rm s m args below meth cd Q nL D cA base MC n0 ro ad0)) :
    rPr p l e Rm s m args below meth cd Q nL D cA base MC n0 ro ad0 (pc, L, st, h, k, z) := by
  unfold raldA at hs
  split at hs
  · split at hs
    · rename_i i r st0 x fs hr
      split at hs
      · rename_i a ha
        intro ad H locs ls hw hx2 hl hn
        have h1 : ¬ (i < 0 ∨ fs.length ≤ i.toNatClampNeg) := hs.1
        have hlt : i.toNatClampNeg < fs.length := Nat.not_le.mp fun q => h1 (Or.inr q)
        have hv : va_rf (rqf ad fs i.toNatClampNeg) = .ref (ad a) := by
          have : fs[i.toNatClampNeg]? = some (.ref a) := by
            rw [List.getD_eq_getElem?_getD] at ha
            cases hq : fs[i.toNatClampNeg]? with
            | none => rw [hq] at ha; cases ha
            | some w => rw [hq] at ha; exact congrArg some ha
          simp [rqf, this, va_rf]
        refine va_aldq X.1 X.2.1 X.2.2.2.2.2.2.1 hw.1 _ 4 (rws_get hr) rfl hs.1 hd ?_
        rw [hv]
        exact hs.2 ad H locs ls hw hx2 hl hn
      · exact False.elim hs
    · exact False.elim hs
  · exact False.elim hs
theorem rw_put {H H1 : Heap} {locs locs1 : List Loc} {ad : Nat → Nat} {r : Nat} {ee : rE} (hw : rwld D cA base ro s H locs ad h) (hP : va_P D rCl ((rws ad cA h).set r (ad r, rce ad cA ee)) H1) (hD : va_D (rAA base) ((rws ad cA h).set r (ad r, rce ad cA ee))) (hS : va_S (rAA base) s.heap H1 locs1) : rwld D cA base ro s H1 locs1 ad (h.set r ee) := by
  refine ⟨?_, ?_, hS, hw.2.2.2⟩
  · rw [rws_set]; exact hP
  · rw [rws_set]; exact hD
theorem rx_put {ad : Nat → Nat} {r : Nat} {ee : rE} (hx : rxt MC n0 ad0 ad h) : rxt MC n0 ad0 ad (h.set r ee) := ⟨hx.1, hx.2.1, by rw [List.length_set]; exact hx.2.2⟩
theorem rk_astI (X : rCtx p Rm s m args meth cd own init bytes nL D cA base MC MS d) (hd : decode bytes pc = .ok (.iastore, 1)) (hs : rstp call R (rastI L st h k z (pc + 1)) (rPr p l e Rm s m args below meth cd Q nL D cA base MC n0 ro ad0)) :
    rPr p l e Rm s m args below meth cd Q nL D cA base MC n0 ro ad0 (pc, L, st, h, k, z) := by
  unfold rastI at hs
  split at hs
  · split at hs
    · rename_i n f hr
      exact fun ad H locs ls hw hx2 hl hn => va_iast X.1 X.2.1 X.2.2.2.2.2.2.1 hw.1 hw.2.1 hw.2.2.1 _ 0 (rws_get hr) rfl hs.1 hd (fun H1 locs1 hP hD hS => hs.2 ad H1 locs1 ls (rw_put hw hP hD hS) (rx_put hx2) hl hn)
    · exact False.elim hs
  · exact False.elim hs
theorem rk_astL (X : rCtx p Rm s m args meth cd own init bytes nL D cA base MC MS d) (hd : decode bytes pc = .ok (.lastore, 1)) (hs : rstp call R (rastL L st h k z (pc + 1)) (rPr p l e Rm s m args below meth cd Q nL D cA base MC n0 ro ad0)) :
    rPr p l e Rm s m args below meth cd Q nL D cA base MC n0 ro ad0 (pc, L, st, h, k, z) := by
  unfold rastL at hs
  split at hs
  · split at hs
    · rename_i n f hr
      exact fun ad H locs ls hw hx2 hl hn => va_last X.1 X.2.1 X.2.2.2.2.2.2.1 hw.1 hw.2.1 hw.2.2.1 _ 1 (rws_get hr) rfl hs.1 hd (fun H1 locs1 hP hD hS => hs.2 ad H1 locs1 ls (rw_put hw hP hD hS) (rx_put hx2) hl hn)
    · exact False.elim hs
  · exact False.elim hs
theorem rk_astB (X : rCtx p Rm s m args meth cd own init bytes nL D cA base MC MS d) (hd : decode bytes pc = .ok (.bastore, 1)) (hs : rstp call R (rastB L st h k z (pc + 1)) (rPr p l e Rm s m args below meth cd Q nL D cA base MC n0 ro ad0)) :
    rPr p l e Rm s m args below meth cd Q nL D cA base MC n0 ro ad0 (pc, L, st, h, k, z) := by
  unfold rastB at hs
  split at hs
  · split at hs
    · rename_i n f hr
      exact fun ad H locs ls hw hx2 hl hn => va_bast X.1 X.2.1 X.2.2.2.2.2.2.1 hw.1 hw.2.1 hw.2.2.1 _ 2 (rws_get hr) rfl hs.1 hd (fun H1 locs1 hP hD hS => hs.2 ad H1 locs1 ls (rw_put hw hP hD hS) (rx_put hx2) hl hn)
    · rename_i n f hr
      exact fun ad H locs ls hw hx2 hl hn => va_zast X.1 X.2.1 X.2.2.2.2.2.2.1 hw.1 hw.2.1 hw.2.2.1 _ 3 (rws_get hr) rfl hs.1 hd (fun H1 locs1 hP hD hS => hs.2 ad H1 locs1 ls (rw_put hw hP hD hS) (rx_put hx2) hl hn)
    · exact False.elim hs
  · exact False.elim hs
theorem rk_alen (X : rCtx p Rm s m args meth cd own init bytes nL D cA base MC MS d) (hd : decode bytes pc = .ok (.arraylength, 1)) (hs : rstp call R (ralen ro L st h k z (pc + 1)) (rPr p l e Rm s m args below meth cd Q nL D cA base MC n0 ro ad0)) :
    rPr p l e Rm s m args below meth cd Q nL D cA base MC n0 ro ad0 (pc, L, st, h, k, z) := by
  unfold ralen at hs
  split at hs
  · rename_i r st
    split at hs
    · rename_i n f hg
      intro ad H locs ls hw hx2 hl hn
      unfold rgetI at hg
      cases hb : Nat.ble 1000000 r
      · rw [hb] at hg
        simp only [cond_false] at hg
        split at hg
        · rename_i n2 f2 hr
          cases hg
          exact va_alen X.1 X.2.1 X.2.2.2.2.2.2.1 hw.1 r 0 (rws_get hr) rfl rfl hd (hs ad H locs ls hw hx2 hl hn)
        · cases hg
      · rw [hb] at hg
        simp only [cond_true] at hg
        have hT := hw.2.2.2.2.2.2.2.2.2 _ _ _ hg
        have hr : 1000000 + (r - 1000000) = r := Nat.add_sub_of_le (Nat.le_of_ble_eq_true hb)
        rw [hr] at hT
        exact va_tlen X.1 X.2.1 hT hw.2.2.1 rfl hd (hs ad H locs ls hw hx2 hl hn)
    · exact False.elim hs
  · exact False.elim hs
end RC
