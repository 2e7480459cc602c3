/-! THE CLAIM OUT OF ONE WALK OF THE LAW'S BODY. Your part is whole_start (and what it stands on); all else here is the same for every law, but numbers. -/
def R_law : String := "LeastAloneLaw"
def lw_P (b : Addr) (xs : List Int32) (args : Array Value) (s : State) : Prop := args = #[.ref b] ∧ s.IntsAt b xs ∧ xs.length ≤ 2048 ∧ (Jvm.Cond.and given_1 narrow_1).before args s = true
def lw_Q (_ : Array Value) (s : State) (o : Outcome) (t : State) : Prop := o = .returned (some (.int 1)) ∧ Framed s o t [] 600000 7302250
def lw_Z (below : List Frame) (a : Array Value) (s : State) : State → Prop := fun t => ∃ o, t.status = .running ∧ Ended t below o ∧ lw_Q a s o t
/-- the law's own end, with 1 on the stack, nothing written that was there before, its room as the claim has it -/
theorem lw_ret {p : Program} {l : Launch} {e : Env} {s : State} {m : MethodId} {below : List Frame} {meth : Method} {c : Code} {b : Nat} (hx : p.tables.exec = Jvm.exec) (hb : c.code = code) (hr : meth.sig.returnType = ret) (hlocks : meth.locks = false) {pc : Nat} {H : Heap} {ls : Array Slot} (hdg : decode code pc = .ok (.ireturn, 1)) : W p l e room_1 s m #[Value.ref b] below meth c H [] 600000 7302250 (lw_Z below #[Value.ref b] s) (F0 m pc ls [.int 1]) := by
  intro T hT X
  obtain ⟨fs, hret, hrun, hended, hW, hframe⟩ := X.leave (v := some (.int 1)) (hlocks := hlocks) (fun h => by rw [hr] at h; cases h)
  have hmeth' : T.vm.method? m = some meth := X.method'
  refine ⟨T.setFrames fs, ?_, .returned (some (.int 1)), hrun, hended, rfl, ⟨_, rfl⟩, hW, hframe⟩
  jvm_step X.here [X.here.top, hx, hb, hdg, hmeth', hr, ret, narrow_b1]
  (try refine ⟨rfl, ?_⟩); (try refine ⟨rfl, ?_⟩)
  first | (intro acts; rw [hret _ acts rfl rfl rfl]) | rw [hret _ _ rfl rfl rfl]
  exact Steps.refl _
/-- what holds at the law's entry: the machine, the code, the tables' words (any of lw_tbl by 'hts w (by decide +kernel)'), the script of L ints xs at the cell b, what the Statement gives of the start (any of its parts by flat_of_before) -/
def lw_At (p : Program) (s : State) (m : MethodId) (meth : Method) (c : Code) (b L : Nat) (xs : Nat → Int32) : Prop :=
  p.tables.exec = Jvm.exec ∧ c.code = code ∧ meth.sig.returnType = ret ∧ c.maxLocals = 4 ∧ s.vm.findClass R_law = some m.cls ∧ (∀ w ∈ lw_tbl, w.before #[Value.ref b] s = true) ∧ va_X b L xs s s.heap ∧ b < s.heap.size ∧ meth.locks = false ∧ (Jvm.Cond.and given_1 narrow_1).before #[Value.ref b] s = true
/-- a static row of ints, as the Statement gives it -/
theorem rtab {args : Array Value} {s : State} {nm : String} {N : Nat} {tb : List Nat} (hs : ∀ c ∈ flatC (Jvm.Cond.and given_1 narrow_1), c.before args s = true) (hts : ∀ w ∈ lw_tbl, w.before args s = true) (hN : N < 2 ^ 31)
    (h1 : Cond.arrayOf (.static "LeastAlone" nm "[I") .int ∈ flatC (Jvm.Cond.and given_1 narrow_1)) (h2 : Cond.eq (.length (.static "LeastAlone" nm "[I")) (.int (Int32.ofNat N)) ∈ flatC (Jvm.Cond.and given_1 narrow_1))
    (h3 : (List.range N).all (fun j => decide (Cond.eq (.elem (.static "LeastAlone" nm "[I") (.int (Int32.ofNat j))) (.int (nI (tb.getD j 0))) ∈ flatC (Jvm.Cond.and given_1 narrow_1))) = true)
    (h4 : Cond.laysStatic "LeastAlone" nm "[I" ∈ lw_tbl) (h5 : Cond.initialized "LeastAlone" ∈ lw_tbl) :
    ∃ t : Nat, va_Z "LeastAlone" nm "[I" (.ref t) (rAA s.heap.size) s s.heap ∧ va_T .int t N (fun j => .int (nI (tb.getD j 0))) (rAA s.heap.size) s s.heap := by
  obtain ⟨t, ht, hT⟩ := va_Tof (A := rAA s.heap.size) (f := fun j => .int (nI (tb.getD j 0))) hN (hs _ h1) (va_eqt (hs _ h2)) (fun j hj => va_eqt (hs _ (by simpa using List.all_eq_true.mp h3 j (List.mem_range.mpr hj)))) (fun a ha => Nat.not_le.mpr ha)
  exact ⟨t, va_Zof (hts _ h4) (hts _ h5) ht (fun a ha => Nat.not_le.mpr ha), hT⟩
theorem rarr {args : Array Value} {s : State} {ty : FieldType} (h : (Cond.arrayClass ty).before args s = true) (hp : ∀ C, ty ≠ .object C) : ∃ c : ClassId, ArrOfT s c ty ∧ va_RA s c ty := by
  obtain ⟨c, k, comp, h1, h2, h3⟩ := Cond.arrayClass_spec h
  refine ⟨c, fun n z => ⟨fun k h => (by cases h), k, h2, comp, h3⟩, ?_⟩
  cases ty with
  | object C => exact absurd rfl (hp C)
  | _ => exact h1
theorem rarrQ {args : Array Value} {s : State} {C : String} (h : (Cond.arrayOver (.object C)).before args s = true) : ∃ c : ClassId, ArrOfT s c (.object C) ∧ va_RA s c (.object C) := by
  obtain ⟨comp, c, k, h1, h2, h3, h4, h5⟩ := Cond.arrayOver_spec h
  exact ⟨c, fun n z => ⟨fun k h => (by cases h), k, h3, comp, h4⟩, k, comp, h3, h4, h1, h5⟩
theorem rcls {args : Array Value} {s : State} (hts : ∀ w ∈ rBig, w.before args s = true) (hin : ∀ (ci : Nat) (q : vw_C), rCl[ci]? = some q → Cond.instantiable q.1 q.2.2 ∈ rBig) : ∃ (dC : Nat → ClassId) (dI : Nat → Nat → Nat), ∀ (c : Nat) (q : vw_C), rCl[c]? = some q → u_Kn s q.1 q.2.1 q.2.2 (dC c) (dI c) := by
  have h : ∀ c : Nat, ∃ (cC : ClassId) (iS : Nat → Nat), ∀ q : vw_C, rCl[c]? = some q → u_Kn s q.1 q.2.1 q.2.2 cC iS := by
    intro c
    cases hc : rCl[c]? with
    | none => exact ⟨0, fun _ => 0, fun q hq => by cases hq⟩
    | some q =>
      obtain ⟨cC, iS, hK⟩ := u_known (C := q.1) (T := q.2.1) (N := q.2.2) (n := q.2.2) hts (rCl_in hc) (hts _ (hin c q hc))
      exact ⟨cC, iS, fun q' hq' => by cases hq'; exact hK⟩
  exact ⟨fun c => (h c).choose, fun c => (h c).choose_spec.choose, fun c q hq => (h c).choose_spec.choose_spec q hq⟩
theorem rinst : ∀ (ci : Nat) (q : vw_C), rCl[ci]? = some q → Cond.instantiable q.1 q.2.2 ∈ rBig := by
  have h : (rCl.zip [278, 215, 133, 294, 149, 246, 70, 203, 62, 768]).all (fun q => rwordB q.2 (.instantiable q.1.1 q.1.2.2)) = true := by decide +kernel
  intro ci q hq
  have hl : ci < 10 := (List.getElem?_eq_some_iff.mp hq).1
  obtain ⟨pp, hp⟩ : ∃ pp, (rCl.zip [278, 215, 133, 294, 149, 246, 70, 203, 62, 768])[ci]? = some (q, pp) := by
    refine ⟨[278, 215, 133, 294, 149, 246, 70, 203, 62, 768][ci]'hl, ?_⟩
    rw [List.getElem?_zip_eq_some]
    exact ⟨hq, List.getElem?_eq_getElem hl⟩
  exact rwordB_mem (List.all_eq_true.mp h _ (List.mem_of_getElem? hp))
set_option maxHeartbeats 4000000 in
set_option maxRecDepth 100000 in
/-- THE LAW, out of what the small machine says of it -/
theorem whole_of {p : Program} {e : Env} {s : State} {m : MethodId} {below : List Frame} {meth : Method} {c : Code} (l : Launch) {b L : Nat} {xs : Nat → Int32} (C0 : lw_At p s m meth c b L xs)
    (hT : rT (rRo L xs) (rM (rRo L xs) 1000) tb_L_law 70 94894 (fun v _ => v = some (.int 1)) (0, [.ref 1000004, .null, .null, .null], [], [], 0, 0)) : W p l e room_1 s m #[Value.ref b] below meth c s.heap [] 0 0 (lw_Z below #[Value.ref b] s) (entryFrame m ([Value.ref b] : List Value).toArray 4) := by
  obtain ⟨hx, hb, hr, hml, hown, hts, hX, hbl, hlocks, hgv⟩ := id C0
  have hs := flat_of_before _ hgv
  have htsB : ∀ w ∈ rBig, w.before #[Value.ref b] s = true := fun w hw => hts w (List.mem_filter.mp hw).1
  obtain ⟨dC, dI, hKc⟩ := rcls htsB rinst
  obtain ⟨cI, aI⟩ := rarr (hts (.arrayClass .int) (List.mem_of_getElem? (i := 130) (by decide +kernel))) (fun _ => by simp)
  obtain ⟨cJ, aJ⟩ := rarr (hts (.arrayClass .long) (List.mem_of_getElem? (i := 201) (by decide +kernel))) (fun _ => by simp)
  obtain ⟨cB, aB⟩ := rarr (hts (.arrayClass .byte) (List.mem_of_getElem? (i := 292) (by decide +kernel))) (fun _ => by simp)
  obtain ⟨cZ, aZ⟩ := rarr (hts (.arrayClass .boolean) (List.mem_of_getElem? (i := 147) (by decide +kernel))) (fun _ => by simp)
  have hover : (Cond.arrayOver (.object "LeastAlone$Table")).before #[Value.ref b] s = true := hts _ (List.mem_of_getElem? (i := 131) (by decide +kernel))
  obtain ⟨cQ, aQ⟩ := rarrQ hover
  have hini : Cond.initialized "LeastAlone" ∈ lw_tbl := List.mem_of_getElem? (i := 48) (by decide +kernel)
  obtain ⟨tW, zW, wW⟩ := rtab (nm := "WINNING") (N := 32) (tb := rTW) hs hts (by decide) (by decide +kernel) (by decide +kernel) (by decide +kernel) (List.mem_of_getElem? (i := 425) (by decide +kernel)) hini
  obtain ⟨tC, zC, wC⟩ := rtab (nm := "CHOOSE") (N := 49) (tb := rTC) hs hts (by decide) (by decide +kernel) (by decide +kernel) (by decide +kernel) (List.mem_of_getElem? (i := 498) (by decide +kernel)) hini
  obtain ⟨tB, zB, wB⟩ := rtab (nm := "BELOW") (N := 49) (tb := rTB) hs hts (by decide) (by decide +kernel) (by decide +kernel) (by decide +kernel) (List.mem_of_getElem? (i := 670) (by decide +kernel)) hini
  obtain ⟨tO, zO, wO⟩ := rtab (nm := "ONES") (N := 7) (tb := rTO) hs hts (by decide) (by decide +kernel) (by decide +kernel) (by decide +kernel) (List.mem_of_getElem? (i := 716) (by decide +kernel)) hini
  obtain ⟨cA, e0, e1, e2, e3, e4⟩ : ∃ cA : Nat → ClassId, cA 0 = cI ∧ cA 1 = cJ ∧ cA 2 = cB ∧ cA 3 = cZ ∧ cA 4 = cQ := ⟨fun k => match k with | 0 => cI | 1 => cJ | 2 => cB | 3 => cZ | _ => cQ, rfl, rfl, rfl, rfl, rfl⟩
  have hK : va_K (dC, dI) rCl (rtys cA) s := by
    refine ⟨hKc, ?_⟩
    intro k q hq
    have hlt : k < 5 := (List.getElem?_eq_some_iff.mp hq).1
    rcases (show k = 0 ∨ k = 1 ∨ k = 2 ∨ k = 3 ∨ k = 4 by omega) with rfl | rfl | rfl | rfl | rfl <;> cases hq
    · rw [e0]; exact aI
    · rw [e1]; exact aJ
    · rw [e2]; exact aB
    · rw [e3]; exact aZ
    · rw [e4]; exact aQ
  obtain ⟨ad, d0, d1, d2, d3, d4⟩ : ∃ ad : Nat → Nat, ad 1000000 = tW ∧ ad 1000001 = tC ∧ ad 1000002 = tB ∧ ad 1000003 = tO ∧ ad 1000004 = b := by
    refine ⟨fun k => if k = 1000000 then tW else if k = 1000001 then tC else if k = 1000002 then tB else if k = 1000003 then tO else b, ?_, ?_, ?_, ?_, ?_⟩ <;> simp
  have hXT : va_T .int b L (fun j => .int (xs j)) (rAA s.heap.size) s s.heap := by
    obtain ⟨scr, h1, h2, h3, h4, h5⟩ := hX
    exact ⟨scr, h1, h2, h3, Nat.le_of_eq h4.symm, congrArg Nat.toInt32 h4, h5, Nat.not_le.mpr hbl⟩
  have hSt : rSt s.heap.size (rRo L xs) ad s s.heap := by
    refine ⟨fun w hw => ?_, hover, by rw [d0]; exact zW, by rw [d1]; exact zC, by rw [d2]; exact zB, by rw [d3]; exact zO, ?_⟩
    · have hq := (List.mem_filter.mp hw).2
      have hz := hts w (List.mem_filter.mp hw).1
      refine va_Nw.of ?_ hz
      cases w <;> first | rfl | (simp [risN] at hq)
    · intro k n f hk
      unfold rRo at hk
      split at hk
      · cases hk; rw [show 1000000 + 0 = 1000000 from rfl, d0]; exact wW
      · cases hk; rw [show 1000000 + 1 = 1000001 from rfl, d1]; exact wC
      · cases hk; rw [show 1000000 + 2 = 1000002 from rfl, d2]; exact wB
      · cases hk; rw [show 1000000 + 3 = 1000003 from rfl, d3]; exact wO
      · cases hk; rw [show 1000000 + 4 = 1000004 from rfl, d4]; exact hXT
      · cases hk
  have hok := ok_L_law
  simp only [rmetB, Bool.and_eq_true] at hok
  obtain ⟨⟨⟨hok, hrt⟩, -⟩, -⟩ := hok
  have X : rCtx p room_1 s m #[Value.ref b] meth c yL_law.cls (decide (yL_law.name = "<init>")) cL_law 4 (dC, dI) cA s.heap.size 70 94894 1000 := ⟨hx, hb, hml, hown, htsB, fun hi => absurd hi (by decide), hK, Nat.le_refl _, Nat.le_of_ble_eq_true rfl, Nat.le_of_ble_eq_true rfl, Nat.le_of_ble_eq_true rfl, Nat.le_of_ble_eq_true rfl⟩
  have hret : rRet p l e room_1 s m #[Value.ref b] below meth c (lw_Z below #[Value.ref b] s) cL_law (dC, dI) cA s.heap.size 70 94894 0 (rRo L xs) ad (fun v _ => v = some (.int 1)) (some .boolean) := by
    intro i aux v pc k z h' ad' H locs ls hi hd hR hk hz hw hx2
    rcases hi with ⟨rfl, x, rfl, hh⟩ | ⟨rfl, hh, -⟩ | ⟨rfl, hh, -⟩
    · cases hR
      refine va_forget hw.2.2.1.2.2 (W.widen (k := 600000) (n := 7302250) (Nat.le_trans hk (by decide)) (Nat.le_trans hz (by decide)) ?_)
      exact lw_ret hx hb hr hlocks hd
    · cases hh
    · cases hh
  have key := hT (rPr p l e room_1 s m #[Value.ref b] below meth c (lw_Z below #[Value.ref b] s) 4 (dC, dI) cA s.heap.size 70 0 (rRo L xs) ad) (rclose X (rsound l (dC, dI) cA s.heap.size (rRo L xs) 1000) hok hrt hSt.1 pgm_void hret)
  have hl := lv_entry ([Value.ref b] : List Value) (n := 4) (Nat.le_of_ble_eq_true rfl)
  rw [lg_entry_eq]
  have hnil : rws ad cA ([] : rH) = [] := rfl
  have hP0 : va_P (dC, dI) rCl (rws ad cA ([] : rH)) s.heap := by rw [hnil]; exact fun k q h => by simp at h
  have hD0 : va_D (rAA s.heap.size) (rws ad cA ([] : rH)) := by rw [hnil]; exact ⟨fun i j p q h => by simp at h, fun k q h => by simp at h⟩
  refine key ad s.heap [] _ ⟨hP0, hD0, va_S.rf, hSt⟩ ⟨fun _ => rfl, fun _ _ => rfl, Nat.le_refl _⟩ ?_ rfl
  have e5 : rprs ad 0 [.ref 1000004, .null, .null, .null] = [(0, Value.ref b)] := by
    show [(0, Value.ref (ad 1000004))] = _
    rw [d4]
  rw [show ((0, [.ref 1000004, .null, .null, .null], [], [], 0, 0) : rK).2.1 = [.ref 1000004, .null, .null, .null] from rfl, e5]
  exact hl
