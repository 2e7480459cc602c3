theorem rsl_len : ∀ (vs : List Value), (lg_sl vs).length = (vs.map fun v => v.category).sum
  | [] => rfl
  | v :: vs => by
    have ih := rsl_len vs
    rw [show lg_sl (v :: vs) = (if v.category = 2 then [.val v, .second] else [.val v]) ++ lg_sl vs from rfl, List.length_append, ih, List.map_cons, List.sum_cons]
    cases v <;> rfl
theorem pgm_void : ∀ (f : Nat) (q : rP), pgm[f]? = some q → q.1.name = "<init>" → q.2.2.2.1 = none := by
  have h : pgm.all (fun q => !(decide (q.1.name = "<init>")) || decide (q.2.2.2.1 = none)) = true := by decide +kernel
  intro f q hq hn
  have h1 := List.all_eq_true.mp h q (List.mem_of_getElem? hq)
  simpa [hn] using h1
set_option maxHeartbeats 1000000 in
theorem rsound (l : Launch) (D : va_G) (cA : Nat → ClassId) (base : Nat) (ro : rQ) : ∀ d, rMet l D cA base ro d
  | 0 => fun f mc ms As h R ad q hq hM => False.elim hM
  | d + 1 => by
    intro f mc ms As h R ad q hq hM
    have IH := rsound l D cA base ro d
    unfold rM at hM
    rw [hq] at hM
    obtain ⟨hargs, hT⟩ := hM
    have hmet := ok_met hq
    obtain ⟨y, bytes, n, ret, tb⟩ := q
    simp only [rmetB, Bool.and_eq_true] at hmet
    obtain ⟨⟨⟨hok, hrt⟩, hpl⟩, -⟩ := hmet
    simp only [Bool.and_eq_true] at hargs
    refine Met.ofW (cc := bytes) (maxL := n) (ret := ret) hpl rfl ?_
    intro p e s m args below meth c s₁ B hml hv
    obtain ⟨rfl, hK, hw0, hbase, hSt⟩ := hv
    have hts : ∀ w ∈ Cond.code y bytes n ret :: rBig, w.before (As.map (rv ad)).toArray s = true := atoms_spec (ws := Cond.code y bytes n ret :: rBig) B.pre
    have hown : s.vm.findClass y.cls = some m.cls := findClass_of_methodNamed B.named
    have hname := name_of_methodNamed B.named B.method
    have X : rCtx p (rRm (d + 1) mc ms) s m (As.map (rv ad)).toArray meth c y.cls (decide (y.name = "<init>")) bytes n D cA base mc ms d := ⟨B.exec, B.bytes, hml, hown, fun w hw => hts w (List.mem_cons_of_mem _ hw), fun hi => by rw [hname.1]; simpa using hi, hK, hbase, Nat.le_refl _, Nat.le_refl _, Nat.le_refl _, Nat.le_refl _⟩
    have hret : rRet p l e (rRm (d + 1) mc ms) s m (As.map (rv ad)).toArray below meth c (MQ below (rQc D cA base mc h.length ad R ret) (As.map (rv ad)).toArray s mc ms (rAA base)) bytes D cA base mc ms h.length ro ad R ret := by
      intro i aux v pc k z h' ad' H locs ls hi hd hR hk hz hw hx2
      refine W.widen hk hz ?_
      have hB : ∀ t : State, t.heap = H → rQB D cA base mc h.length ad (h', ad') t := fun t ht => ⟨by rw [ht]; exact ⟨hw.1, hw.2.1⟩, hx2⟩
      rcases hi with ⟨rfl, x, rfl, ⟨hr, -⟩ | ⟨hr, -, hx01⟩⟩ | ⟨rfl, hr, x, rfl⟩ | ⟨rfl, hr, rfl⟩
      · subst hr
        exact W.iret B.exec B.bytes B.returns (fun t ht hW => ⟨⟨x, (h', ad'), rfl, hR, hB t ht⟩, hw.2.2.1.F ht⟩) hw.2.2.1.2.2 hd B.notSynchronized
      · subst hr
        exact W.zret B.exec B.bytes B.returns (by rcases hx01 with rfl | rfl <;> rfl) (fun t ht hW => ⟨⟨x, (h', ad'), rfl, hR, hB t ht⟩, hw.2.2.1.F ht⟩) hw.2.2.1.2.2 hd B.notSynchronized
      · subst hr
        exact W.lret B.exec B.bytes B.returns (fun t ht hW => ⟨⟨x, (h', ad'), rfl, hR, hB t ht⟩, hw.2.2.1.F ht⟩) hw.2.2.1.2.2 hd B.notSynchronized
      · subst hr
        exact W.vret B.exec B.bytes B.returns (fun t ht hW => ⟨⟨(h', ad'), rfl, hR, hB t ht⟩, hw.2.2.1.F ht⟩) hw.2.2.1.2.2 hd B.notSynchronized
    have key := hT (rPr p l e (rRm (d + 1) mc ms) s m (As.map (rv ad)).toArray below meth c (MQ below (rQc D cA base mc h.length ad R ret) (As.map (rv ad)).toArray s mc ms (rAA base)) n D cA base mc h.length ro ad) (rclose X IH hok hrt hSt.1 pgm_void hret)
    have hnn : ∀ v ∈ As, v ≠ .null := fun v hv e => by
      have := List.all_eq_true.mp hargs.1 v hv
      rw [e] at this
      cases this
    have hsl : (lg_sl (As.map (rv ad))).length ≤ n := by
      rw [rsl_len, List.map_map, show (As.map ((fun v : Value => v.category) ∘ rv ad)) = As.map (fun v => v.category) from List.map_congr_left (fun v _ => rv_cat ad v)]
      exact Nat.le_of_ble_eq_true hargs.2
    have hra := rargs_has ad As n 0 hnn hsl
    have hl := lv_entry (As.map (rv ad)) (n := n) hsl
    rw [lg_entry_eq]
    exact key ad s.heap [] _ ⟨hw0.1, hw0.2, va_S.rf, hSt⟩ ⟨fun _ => rfl, fun _ _ => rfl, Nat.le_refl _⟩ (by rw [show ((0, rargs As n, [], h, 0, 0) : rK).2.1 = rargs As n from rfl, hra.1]; exact hl) hra.2
