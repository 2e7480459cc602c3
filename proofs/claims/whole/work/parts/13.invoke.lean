section RE
variable {p : Program} {l : Launch} {e : Env} {Rm : Room} {s : State} {m : MethodId} {args : Array Value} {below : List Frame} {meth : Method} {cd : Code} {Q : State → Prop}
variable {own : String} {init : Bool} {bytes : ByteArray} {nL : Nat} {D : va_G} {cA : Nat → ClassId} {base MC MS d n0 : Nat} {ro : rQ} {ad0 : Nat → Nat}
variable {R : rR} {pc pc' k z mc ms : Nat} {L st : List Value} {h : rH}
/-- what a call needs, whichever way it is linked -/
theorem rinv_spec {f : Nat} {As : List Value} {P : rK → Prop} {call : rCall} (hs : rstp call R (rinv MC MS f mc ms As L st h k z pc') P) :
    (k + mc ≤ MC ∧ z + ms ≤ MS ∧ rwd st = true ∧ (mc = 0 ∨ (rwfv h.length L = true ∧ rwfv h.length st = true))) ∧ call f mc ms As h (fun r h' => P (pc', L, r.toList ++ st, h', k + mc, z + ms)) := by
  unfold rinv at hs
  cases hb : Nat.ble (k + mc) MC && Nat.ble (z + ms) MS && rwd st && (Nat.beq mc 0 || (rwfv h.length L && rwfv h.length st))
  · rw [hb] at hs; exact False.elim hs
  · rw [hb] at hs
    simp only [Bool.and_eq_true, Bool.or_eq_true] at hb
    exact ⟨⟨Nat.le_of_ble_eq_true hb.1.1.1, Nat.le_of_ble_eq_true hb.1.1.2, hb.1.2, hb.2.elim (fun q => Or.inl (Nat.eq_of_beq_eq_true q)) Or.inr⟩, hs⟩
theorem ry_spec {f : Nat} {g : MethodName → Bool} (h : ryB f g = true) : ∃ q, pgm[f]? = some q ∧ g q.1 = true := by
  unfold ryB at h
  split at h
  · rename_i y b n r t hq
    exact ⟨_, hq, h⟩
  · cases h
theorem rpar_spec {dd : String} {n : Nat} (h : rparB dd n = true) : (parseMethodDescriptor dd).map (fun d => d.parameters.length) = some n := by simpa [rparB] using h
theorem rnot_spec {c : String} (h : rnotMH c = true) : c ≠ "java/lang/invoke/MethodHandle" ∧ c ≠ "java/lang/invoke/VarHandle" := by simpa [rnotMH] using h
theorem pg_max {f : Nat} {q : rP} (hq : pgm[f]? = some q) : q.2.2.1 ≤ 30 := by
  have h := ok_met hq
  obtain ⟨y, b, n, r, t⟩ := q
  simp only [rmetB, Bool.and_eq_true] at h
  exact Nat.le_of_ble_eq_true h.2
theorem rroom (X : rCtx p Rm s m args meth cd own init bytes nL D cA base MC MS d) {f : Nat} {q : rP} (hq : pgm[f]? = some q) : (rRm d mc ms).frames + 1 ≤ Rm.frames ∧ 8 + (q.2.2.1 + 11) + (rRm d mc ms).locals ≤ Rm.locals := by
  have h1 := X.2.2.2.2.2.2.2.2
  have h2 := pg_max hq
  refine ⟨h1.1, ?_⟩
  show 8 + (q.2.2.1 + 11) + 60 * d ≤ Rm.locals
  omega
theorem rwords (X : rCtx p Rm s m args meth cd own init bytes nL D cA base MC MS d) {f : Nat} {q : rP} (hq : pgm[f]? = some q) : ∀ w ∈ Cond.code q.1 q.2.1 q.2.2.1 q.2.2.2.1 :: rBig, w ∈ rBig := by
  intro w hw
  rcases List.mem_cons.mp hw with rfl | h
  · exact ok_code hq
  · exact h
theorem rk_stat (X : rCtx p Rm s m args meth cd own init bytes nL D cA base MC MS d) (IH : rMet l D cA base ro d) {idx f n : Nat} {As : List Value} {q : rP} (hq : pgm[f]? = some q) (hcw : (rm : Room) → rm.cells = mc → rm.slots = ms → rm.frames + 1 ≤ Rm.frames → 8 + (q.2.2.1 + 11) + rm.locals ≤ Rm.locals → (CallB Rm s args own idx q.1 q.2.1 q.2.2.1 q.2.2.2.1 (Cond.code q.1 q.2.1 q.2.2.1 q.2.2.2.1 :: rBig) rm mc ms n ∧ (Cond.static q.1).before args s = true) ∨ (va_CN Rm s args own idx q.1 "LeastAlone" q.2.1 q.2.2.1 q.2.2.2.1 (Cond.code q.1 q.2.1 q.2.2.1 q.2.2.2.1 :: rBig) rm mc ms n ∧ (Cond.static q.1).before args s = true))
    (hAs : As.length = n) (hd : decode bytes pc = .ok (.invokestatic idx, 3)) (hs : rstp (rM ro d) R (rinv MC MS f mc ms As L st h k z (pc + 3)) (rPr p l e Rm s m args below meth cd Q nL D cA base MC n0 ro ad0)) :
    rPr p l e Rm s m args below meth cd Q nL D cA base MC n0 ro ad0 (pc, L, As.reverse ++ st, h, k, z) := by
  obtain ⟨⟨hk, hz, hwd, hwf⟩, hc⟩ := rinv_spec hs
  intro ad H locs ls hw hx2 hl hn
  have hM := IH f mc ms As h _ ad q hq hc
  have hro := rroom X (mc := mc) (ms := ms) hq
  have hst : (As.reverse ++ st).map (rv ad) = (As.map (rv ad)).reverse ++ st.map (rv ad) := by rw [List.map_append, List.map_reverse]
  show W p l e Rm s m args below meth cd H locs k z Q (F0 m pc ls ((As.reverse ++ st).map (rv ad)))
  rw [hst]
  have hf : k + mc ≤ Rm.cells ∧ z + ms ≤ Rm.slots := ⟨Nat.le_trans hk X.2.2.2.2.2.2.2.2.2.2.1, Nat.le_trans hz X.2.2.2.2.2.2.2.2.2.2.2⟩
  rcases hcw (rRm d mc ms) rfl rfl hro.1 hro.2 with cw | cw
  · exact rk_go (va_runS (As := As.map (rv ad)) (rest := st.map (rv ad)) ⟨X.1, X.2.1, X.2.2.1, X.2.2.2.1, X.2.2.2.2.1⟩ hM cw ⟨rPc_blind, rPc_pre X hw⟩ rfl (by rw [List.length_map]; exact hAs) hl.1 rfl (lv_room (rwd_sum hwd ad)) hd hf) hw hx2 hl hn hwf hk
  · exact rk_go (va_runSN (As := As.map (rv ad)) (rest := st.map (rv ad)) ⟨X.1, X.2.1, X.2.2.1, X.2.2.2.1, X.2.2.2.2.1⟩ hM ⟨cw.1, cw.2, trivial⟩ ⟨rPc_blind, rPc_pre X hw⟩ rfl (by rw [List.length_map]; exact hAs) hl.1 rfl (lv_room (rwd_sum hwd ad)) hd hf) hw hx2 hl hn hwf hk
theorem rk_init (X : rCtx p Rm s m args meth cd own init bytes nL D cA base MC MS d) (IH : rMet l D cA base ro d) {idx f n r : Nat} {As : List Value} {q : rP} (hq : pgm[f]? = some q) (hrn : q.2.2.2.1 = none) (hcw : (rm : Room) → rm.cells = mc → rm.slots = ms → rm.frames + 1 ≤ Rm.frames → 8 + (q.2.2.1 + 11) + rm.locals ≤ Rm.locals → (CallB Rm s args own idx q.1 q.2.1 q.2.2.1 none (Cond.code q.1 q.2.1 q.2.2.1 none :: rBig) rm mc ms n ∧ q.1.name = "<init>" ∧ (Cond.instanceMethod q.1).before args s = true) ∨ (va_CN Rm s args own idx q.1 "LeastAlone" q.2.1 q.2.2.1 none (Cond.code q.1 q.2.1 q.2.2.1 none :: rBig) rm mc ms n ∧ q.1.name = "<init>" ∧ (Cond.instanceMethod q.1).before args s = true))
    (hAs : As.length = n) (hd : decode bytes pc = .ok (.invokespecial idx, 3)) (hs : rstp (rM ro d) R (rinv MC MS f mc ms (.ref r :: As) L st h k z (pc + 3)) (rPr p l e Rm s m args below meth cd Q nL D cA base MC n0 ro ad0)) :
    rPr p l e Rm s m args below meth cd Q nL D cA base MC n0 ro ad0 (pc, L, As.reverse ++ .ref r :: st, h, k, z) := by
  obtain ⟨⟨hk, hz, hwd, hwf⟩, hc⟩ := rinv_spec hs
  intro ad H locs ls hw hx2 hl hn
  have hM := IH f mc ms (.ref r :: As) h _ ad q hq hc
  rw [hrn] at hM
  have hro := rroom X (mc := mc) (ms := ms) hq
  have hst : (As.reverse ++ .ref r :: st).map (rv ad) = (As.map (rv ad)).reverse ++ .ref (ad r) :: st.map (rv ad) := by rw [List.map_append, List.map_reverse]; rfl
  show W p l e Rm s m args below meth cd H locs k z Q (F0 m pc ls ((As.reverse ++ .ref r :: st).map (rv ad)))
  rw [hst]
  have hf : k + mc ≤ Rm.cells ∧ z + ms ≤ Rm.slots := ⟨Nat.le_trans hk X.2.2.2.2.2.2.2.2.2.2.1, Nat.le_trans hz X.2.2.2.2.2.2.2.2.2.2.2⟩
  rcases hcw (rRm d mc ms) rfl rfl hro.1 hro.2 with cw | cw
  · exact rk_go (va_runI (As := As.map (rv ad)) (rest := st.map (rv ad)) ⟨X.1, X.2.1, X.2.2.1, X.2.2.2.1, X.2.2.2.2.1⟩ hM cw ⟨rPc_blind, rPc_pre X hw⟩ rfl (by rw [List.length_map]; exact hAs) hl.1 rfl (lv_room (rwd_sum hwd ad)) hd hf) hw hx2 hl hn hwf hk
  · exact rk_go (va_runIN (As := As.map (rv ad)) (rest := st.map (rv ad)) ⟨X.1, X.2.1, X.2.2.1, X.2.2.2.1, X.2.2.2.2.1⟩ hM cw ⟨rPc_blind, rPc_pre X hw⟩ rfl (by rw [List.length_map]; exact hAs) hl.1 rfl (lv_room (rwd_sum hwd ad)) hd hf) hw hx2 hl hn hwf hk
theorem rk_virt (X : rCtx p Rm s m args meth cd own init bytes nL D cA base MC MS d) (IH : rMet l D cA base ro d) {idx f n r ci : Nat} {C : String} {T : u_T} {N : Nat} {fs As : List Value} {q : rP} (hq : pgm[f]? = some q) (hr : h[r]? = some (.inr (ci, fs))) (hC : rCl[ci]? = some (C, T, N)) (hcw : (rm : Room) → rm.cells = mc → rm.slots = ms → rm.frames + 1 ≤ Rm.frames → 8 + (q.2.2.1 + 11) + rm.locals ≤ Rm.locals → CallW Rm s args own C idx q.1 q.2.1 q.2.2.1 q.2.2.2.1 (Cond.code q.1 q.2.1 q.2.2.1 q.2.2.2.1 :: rBig) rm mc ms n ∨ (va_CN Rm s args own idx q.1 "LeastAlone" q.2.1 q.2.2.1 q.2.2.2.1 (Cond.code q.1 q.2.1 q.2.2.1 q.2.2.2.1 :: rBig) rm mc ms n ∧ (Cond.instanceMethod q.1).before args s = true ∧ (Cond.selects C q.1 q.1).before args s = true) ∨ ∃ (owner : String) (x : MethodName), va_CU Rm s args own C owner idx x q.1 q.2.1 q.2.2.1 q.2.2.2.1 (Cond.code q.1 q.2.1 q.2.2.1 q.2.2.2.1 :: rBig) rm mc ms n)
    (hAs : As.length = n) (hd : decode bytes pc = .ok (.invokevirtual idx, 3)) (hs : rstp (rM ro d) R (rinv MC MS f mc ms (.ref r :: As) L st h k z (pc + 3)) (rPr p l e Rm s m args below meth cd Q nL D cA base MC n0 ro ad0)) :
    rPr p l e Rm s m args below meth cd Q nL D cA base MC n0 ro ad0 (pc, L, As.reverse ++ .ref r :: st, h, k, z) := by
  obtain ⟨⟨hk, hz, hwd, hwf⟩, hc⟩ := rinv_spec hs
  intro ad H locs ls hw hx2 hl hn
  have hM := IH f mc ms (.ref r :: As) h _ ad q hq hc
  have hro := rroom X (mc := mc) (ms := ms) hq
  have hst : (As.reverse ++ .ref r :: st).map (rv ad) = (As.map (rv ad)).reverse ++ .ref (ad r) :: st.map (rv ad) := by rw [List.map_append, List.map_reverse]; rfl
  show W p l e Rm s m args below meth cd H locs k z Q (F0 m pc ls ((As.reverse ++ .ref r :: st).map (rv ad)))
  rw [hst]
  have hf : k + mc ≤ Rm.cells ∧ z + ms ≤ Rm.slots := ⟨Nat.le_trans hk X.2.2.2.2.2.2.2.2.2.2.1, Nat.le_trans hz X.2.2.2.2.2.2.2.2.2.2.2⟩
  have he := rws_get (ad := ad) (cA := cA) hr
  rw [rce_obj (rCl_lt hC)] at he
  have hrecv := va_recv X.2.2.2.2.2.2.1 hw.1 hC he
  rcases hcw (rRm d mc ms) rfl rfl hro.1 hro.2 with cw | cw | ⟨owner, x, cw⟩
  · exact rk_go (va_runV (As := As.map (rv ad)) (rest := st.map (rv ad)) ⟨X.1, X.2.1, X.2.2.1, X.2.2.2.1, X.2.2.2.2.1⟩ hM cw ⟨rPc_blind, hrecv, rPc_pre X hw⟩ rfl (by rw [List.length_map]; exact hAs) hl.1 rfl (lv_room (rwd_sum hwd ad)) hd hf) hw hx2 hl hn hwf hk
  · exact rk_go (va_runVN (As := As.map (rv ad)) (rest := st.map (rv ad)) ⟨X.1, X.2.1, X.2.2.1, X.2.2.2.1, X.2.2.2.2.1⟩ hM cw ⟨rPc_blind, hrecv, rPc_pre X hw⟩ rfl (by rw [List.length_map]; exact hAs) hl.1 rfl (lv_room (rwd_sum hwd ad)) hd hf) hw hx2 hl hn hwf hk
  · exact rk_go (va_runU (As := As.map (rv ad)) (rest := st.map (rv ad)) ⟨X.1, X.2.1, X.2.2.1, X.2.2.2.1, X.2.2.2.2.1⟩ hM cw ⟨rPc_blind, hrecv, rPc_pre X hw⟩ rfl (by rw [List.length_map]; exact hAs) hl.1 rfl (lv_room (rwd_sum hwd ad)) hd hf) hw hx2 hl hn hwf hk
/-- a new cell -/
theorem rk_mk {N : Nat} {ee : rE} (X : rCtx p Rm s m args meth cd own init bytes nL D cA base MC MS d) {st0 : List Value} {call : rCall} (hs : rstp call R (rmk MC MS L st h k z pc' N ee) (rPr p l e Rm s m args below meth cd Q nL D cA base MC n0 ro ad0))
    (row : ∀ (ad : Nat → Nat) (H : Heap) (locs : List Loc) (ls : Array Slot), rwld D cA base ro s H locs ad h → k + 1 ≤ Rm.cells → z + N ≤ Rm.slots → (∀ (q : Nat) (H1 : Heap), va_P D rCl (rws ad cA h ++ [(q, rce (fun j => if j = h.length then q else ad j) cA ee)]) H1 → va_D (rAA base) (rws ad cA h ++ [(q, rce (fun j => if j = h.length then q else ad j) cA ee)]) → va_S (rAA base) s.heap H1 locs → W p l e Rm s m args below meth cd H1 locs (k + 1) (z + N) Q (F0 m pc' ls (.ref q :: st.map (rv ad)))) → W p l e Rm s m args below meth cd H locs k z Q (F0 m pc ls (st0.map (rv ad)))) :
    rPr p l e Rm s m args below meth cd Q nL D cA base MC n0 ro ad0 (pc, L, st0, h, k, z) := by
  unfold rmk at hs
  cases hb : Nat.ble (k + 1) MC && Nat.ble (z + N) MS && Nat.ble h.length 900000 && rwfv h.length L && rwfv h.length st && h.all (rwfE h.length)
  · rw [hb] at hs; exact False.elim hs
  · rw [hb] at hs
    simp only [Bool.and_eq_true] at hb
    obtain ⟨⟨⟨⟨⟨b1, b2⟩, b3⟩, b4⟩, b5⟩, b6⟩ := hb
    have hk := Nat.le_of_ble_eq_true b1
    have hz := Nat.le_of_ble_eq_true b2
    have hlen := Nat.le_of_ble_eq_true b3
    intro ad H locs ls hw hx2 hl hn
    refine row ad H locs ls hw (Nat.le_trans hk X.2.2.2.2.2.2.2.2.2.2.1) (Nat.le_trans hz X.2.2.2.2.2.2.2.2.2.2.2) (fun q H1 hP hD hS => ?_)
    have he : ∀ j, j < h.length ∨ 1000000 ≤ j → (fun j => if j = h.length then q else ad j) j = ad j := by
      intro j hj
      show (if j = h.length then q else ad j) = ad j
      rw [if_neg (by omega)]
    have hpush := rws_push (ad := ad) (cA := cA) (q := q) (e := ee) b6 (by omega)
    have key := hs (fun j => if j = h.length then q else ad j) H1 locs ls ⟨by rw [show ((pc', L, .ref h.length :: st, h ++ [ee], k + 1, z + N) : rK).2.2.2.1 = h ++ [ee] from rfl, hpush]; exact hP, by rw [show ((pc', L, .ref h.length :: st, h ++ [ee], k + 1, z + N) : rK).2.2.2.1 = h ++ [ee] from rfl, hpush]; exact hD, hS, rSt_ext (fun j hj => he j (Or.inr hj)) hw.2.2.2⟩
      ⟨fun h0 => by omega, fun j hj => (he j (hj.elim (fun q => Or.inl (Nat.lt_of_lt_of_le q hx2.2.2)) Or.inr)).trans (hx2.2.1 j hj), by show n0 ≤ (h ++ [ee]).length; rw [List.length_append]; exact Nat.le_trans hx2.2.2 (Nat.le_add_right _ _)⟩ (by rw [show ((pc', L, .ref h.length :: st, h ++ [ee], k + 1, z + N) : rK).2.1 = L from rfl, (rv_ext he b4).2]; exact hl) hn
    have e1 : (Value.ref h.length :: st).map (rv (fun j => if j = h.length then q else ad j)) = .ref q :: st.map (rv ad) := by
      rw [List.map_cons, (rv_ext he b5).1]
      show Value.ref (if h.length = h.length then q else ad h.length) :: _ = _
      rw [if_pos rfl]
    have key2 : W p l e Rm s m args below meth cd H1 locs (k + 1) (z + N) Q (F0 m pc' ls ((Value.ref h.length :: st).map (rv (fun j => if j = h.length then q else ad j)))) := key
    rw [e1] at key2
    exact key2
theorem rk_newc (X : rCtx p Rm s m args meth cd own init bytes nL D cA base MC MS d) {call : rCall} {idx ci : Nat} {C : String} {T : u_T} {N : Nat} (hc : rCl[ci]? = some (C, T, N)) (h1 : Cond.classLink own idx C ∈ rBig) (h2 : Cond.instantiable C N ∈ rBig) (h3 : Cond.initialized C ∈ rBig) (hd : decode bytes pc = .ok (.new idx, 3)) (hs : rstp call R (rnewc MC MS L st h k z (pc + 3) [ci]) (rPr p l e Rm s m args below meth cd Q nL D cA base MC n0 ro ad0)) :
    rPr p l e Rm s m args below meth cd Q nL D cA base MC n0 ro ad0 (pc, L, st, h, k, z) := by
  have hts := X.2.2.2.2.1
  have hnew := rnew_ok hc
  refine rk_mk X hs (fun ad H locs ls hw hk hz kk => ?_)
  rw [hnew.1] at hz kk
  refine va_new X.1 X.2.1 hts (rCl_in hc) (rtyf ci) (rtyf_ok hc) X.2.2.2.1 (hts _ h1) (hts _ h2) (hts _ h3) X.2.2.2.2.2.2.1 hw.1 hw.2.1 hw.2.2.1 (fun q hq => Nat.le_trans X.2.2.2.2.2.2.2.1 hq) hc (fs := (rnew ci).map (rv ad)) (hnew.2 ad) hk hz hd (fun q H1 hP hD hS => ?_)
  have e1 : rce (fun j => if j = h.length then q else ad j) cA (.inr (ci, rnew ci)) = .inr (ci, (rnew ci).map (rv ad)) := by
    rw [rce_obj (rCl_lt hc)]
    congr 2
    have h10 : ci < 10 := (List.getElem?_eq_some_iff.mp hc).1
    rcases (show ci = 0 ∨ ci = 1 ∨ ci = 2 ∨ ci = 3 ∨ ci = 4 ∨ ci = 5 ∨ ci = 6 ∨ ci = 7 ∨ ci = 8 ∨ ci = 9 by omega) with rfl | rfl | rfl | rfl | rfl | rfl | rfl | rfl | rfl | rfl <;> rfl
  exact kk q H1 (by rw [e1]; exact hP) (by rw [e1]; exact hD) hS
theorem rcA_eq (X : rCtx p Rm s m args meth cd own init bytes nL D cA base MC MS d) {c1 : ClassId} {ty : FieldType} {t : Nat} (ht : (rtys cA)[t]? = some (cA t, ty)) (hp : ∀ C, ty ≠ .object C) (hK : va_K D rCl (rtys cA ++ [(c1, ty)]) s) : c1 = cA t := by
  have h1 := (X.2.2.2.2.2.2.1.2 t _ ht).2
  have h2 := (hK.2 (rtys cA).length (c1, ty) (by simp)).2
  cases ty with
  | object C => exact absurd rfl (hp C)
  | _ =>
    unfold va_RA at h1 h2
    simp only at h1 h2
    exact Option.some.inj (h2.symm.trans h1)
theorem rk_newa (X : rCtx p Rm s m args meth cd own init bytes nL D cA base MC MS d) {call : rCall} {aty : ArrayType} {aux : List Nat} (h1 : Cond.arrayClass (newarray.typeOf aty) ∈ rBig) (hd : decode bytes pc = .ok (.newarray aty, 2)) (hs : rstp call R (rnewa MC MS aty L st h k z (pc + 2) aux) (rPr p l e Rm s m args below meth cd Q nL D cA base MC n0 ro ad0)) :
    rPr p l e Rm s m args below meth cd Q nL D cA base MC n0 ro ad0 (pc, L, st, h, k, z) := by
  have hts := X.2.2.2.2.1
  unfold rnewa at hs
  split at hs
  · rename_i n st N
    cases hb : decide (n = nI N) && Nat.ble N 1000000
    · rw [hb] at hs; exact False.elim hs
    · rw [hb] at hs
      simp only [Bool.and_eq_true, decide_eq_true_eq] at hb
      obtain ⟨rfl, hN⟩ := hb
      have hN := Nat.le_of_ble_eq_true hN
      simp only [cond_true] at hs
      have hA : ∀ q, s.heap.size ≤ q → rAA base q := fun q hq => Nat.le_trans X.2.2.2.2.2.2.2.1 hq
      split at hs
      · refine rk_mk X hs (fun ad H locs ls hw hk hz kk => ?_)
        refine va_newa X.1 X.2.1 (hts _ h1) rfl X.2.2.2.2.2.2.1 hw.1 hw.2.1 hw.2.2.1 hA (a0 := (N, .inl (fun _ => 0))) (fun _ => rfl) (nI_pos (by omega)) (nI_clamp (by omega)) (by show N * 4 ≤ _; omega) hk hz hd (fun q c1 H1 hK hP hD hS => ?_)
        cases rcA_eq X (t := 0) rfl (fun _ => by simp [newarray.typeOf]) hK
        exact kk q H1 hP hD hS
      · refine rk_mk X hs (fun ad H locs ls hw hk hz kk => ?_)
        refine va_newa X.1 X.2.1 (hts _ h1) rfl X.2.2.2.2.2.2.1 hw.1 hw.2.1 hw.2.2.1 hA (a0 := (N, .inr (.inl (fun _ => 0)))) (fun _ => rfl) (nI_pos (by omega)) (nI_clamp (by omega)) (by show N * 8 ≤ _; omega) hk hz hd (fun q c1 H1 hK hP hD hS => ?_)
        cases rcA_eq X (t := 1) rfl (fun _ => by simp [newarray.typeOf]) hK
        exact kk q H1 hP hD hS
      · refine rk_mk X hs (fun ad H locs ls hw hk hz kk => ?_)
        refine va_newa X.1 X.2.1 (hts _ h1) rfl X.2.2.2.2.2.2.1 hw.1 hw.2.1 hw.2.2.1 hA (a0 := (N, .inl (fun _ => 0))) (fun _ => rfl) (nI_pos (by omega)) (nI_clamp (by omega)) (by show N * 1 ≤ _; omega) hk hz hd (fun q c1 H1 hK hP hD hS => ?_)
        cases rcA_eq X (t := 2) rfl (fun _ => by simp [newarray.typeOf]) hK
        exact kk q H1 hP hD hS
      · refine rk_mk X hs (fun ad H locs ls hw hk hz kk => ?_)
        refine va_newa X.1 X.2.1 (hts _ h1) rfl X.2.2.2.2.2.2.1 hw.1 hw.2.1 hw.2.2.1 hA (a0 := (N, .inl (fun _ => 0))) (fun _ => rfl) (nI_pos (by omega)) (nI_clamp (by omega)) (by show N * 1 ≤ _; omega) hk hz hd (fun q c1 H1 hK hP hD hS => ?_)
        cases rcA_eq X (t := 3) rfl (fun _ => by simp [newarray.typeOf]) hK
        exact kk q H1 hP hD hS
      · exact False.elim hs
  · exact False.elim hs
theorem rk_newq (X : rCtx p Rm s m args meth cd own init bytes nL D cA base MC MS d) {call : rCall} {idx : Nat} {aux : List Nat} (h1 : Cond.classLink own idx "LeastAlone$Table" ∈ rBig) (hd : decode bytes pc = .ok (.anewarray idx, 3)) (hs : rstp call R (rnewq MC MS L st h k z (pc + 3) aux) (rPr p l e Rm s m args below meth cd Q nL D cA base MC n0 ro ad0)) :
    rPr p l e Rm s m args below meth cd Q nL D cA base MC n0 ro ad0 (pc, L, st, h, k, z) := by
  have hts := X.2.2.2.2.1
  unfold rnewq at hs
  split at hs
  · rename_i n st N
    cases hb : decide (n = nI N) && Nat.ble N 1000000
    · rw [hb] at hs; exact False.elim hs
    · rw [hb] at hs
      simp only [Bool.and_eq_true, decide_eq_true_eq] at hb
      obtain ⟨rfl, hN⟩ := hb
      have hN := Nat.le_of_ble_eq_true hN
      simp only [cond_true] at hs
      have hA : ∀ q, s.heap.size ≤ q → rAA base q := fun q hq => Nat.le_trans X.2.2.2.2.2.2.2.1 hq
      refine rk_mk X hs (fun ad H locs ls hw hk hz kk => ?_)
      refine va_newq X.1 X.2.1 X.2.2.2.1 (hts _ h1) hw.2.2.2.2.1 X.2.2.2.2.2.2.1 hw.1 hw.2.1 hw.2.2.1 hA (nI_pos (by omega)) (nI_clamp (by omega)) (by omega) hk hz hd (fun q c1 H1 hK hP hD hS => ?_)
      have hc1 : c1 = cA 4 := by
        have g1 := (X.2.2.2.2.2.2.1.2 4 _ rfl).2
        have g2 := (hK.2 (rtys cA).length (c1, FieldType.object "LeastAlone$Table") (by simp)).2
        obtain ⟨_, _, _, _, _, e1⟩ := g1
        obtain ⟨_, _, _, _, _, e2⟩ := g2
        exact Option.some.inj (e2.symm.trans e1)
      subst hc1
      have e1 : rce (fun j => if j = h.length then q else ad j) cA (.inr (100, List.replicate N .null)) = .inl (cA 4, N, .inr (.inr (.inr (.inr (fun _ => none))))) := by
        show (Sum.inl (cA 4, (List.replicate N Value.null).length, .inr (.inr (.inr (.inr (rqf _ (List.replicate N Value.null)))))) : va_E) = _
        rw [List.length_replicate]
        congr 7
        funext j
        unfold rqf
        rw [List.getElem?_replicate]
        by_cases hj : j < N <;> simp [hj]
      exact kk q H1 (by rw [e1]; exact hP) (by rw [e1]; exact hD) hS
  · exact False.elim hs
theorem rk_astA (X : rCtx p Rm s m args meth cd own init bytes nL D cA base MC MS d) {call : rCall} (hd : decode bytes pc = .ok (.aastore, 1)) (hs : rstp call R (rastA L st h k z (pc + 1)) (rPr p l e Rm s m args below meth cd Q nL D cA base MC n0 ro ad0)) :
    rPr p l e Rm s m args below meth cd Q nL D cA base MC n0 ro ad0 (pc, L, st, h, k, z) := by
  unfold rastA at hs
  split at hs
  · rename_i v i r st
    split at hs
    · rename_i fs fv hr hv
      intro ad H locs ls hw hx2 hl hn
      have hlt : i.toNatClampNeg < fs.length := by
        have h1 : ¬ (i < 0 ∨ fs.length ≤ i.toNatClampNeg) := hs.1
        exact Nat.not_le.mp fun q => h1 (Or.inr q)
      have he := rws_get (ad := ad) (cA := cA) hv
      rw [rce_obj (by decide)] at he
      refine va_astq X.1 X.2.1 X.2.2.2.2.2.2.1 hw.1 hw.2.1 hw.2.2.1 r 4 v 6 (r := (RX6, TX6, 9)) (rws_get hr) rfl he rfl hs.1 hd (fun H1 locs1 hP hD hS => ?_)
      have e1 : rce ad cA (.inr (100, fs.set i.toNatClampNeg (.ref v))) = .inl (cA 4, fs.length, .inr (.inr (.inr (.inr (va_up (rqf ad fs) i.toNatClampNeg (some (ad v))))))) := by
        show (Sum.inl (cA 4, (fs.set i.toNatClampNeg (.ref v)).length, .inr (.inr (.inr (.inr (rqf ad (fs.set i.toNatClampNeg (.ref v))))))) : va_E) = _
        rw [List.length_set]
        congr 7
        funext j
        unfold rqf va_up
        by_cases hj : j = i.toNatClampNeg
        · subst hj
          rw [List.getElem?_set_self hlt, if_pos rfl]
        · rw [List.getElem?_set_ne (fun q => hj q.symm), if_neg hj]
      exact hs.2 ad H1 locs1 ls (rw_put hw (by rw [e1]; exact hP) (by rw [e1]; exact hD) hS) (rx_put hx2) hl hn
    · exact False.elim hs
  · exact False.elim hs
theorem rk_copy (X : rCtx p Rm s m args meth cd own init bytes nL D cA base MC MS d) {call : rCall} {idx : Nat} (h1 : Cond.methodLink own idx arraycopyName ∈ rBig) (h2 : Cond.native arraycopyName ∈ rBig) (h3 : Cond.static arraycopyName ∈ rBig) (h4 : Cond.initialized "java/lang/System" ∈ rBig) (hd : decode bytes pc = .ok (.invokestatic idx, 3)) (hs : rstp call R (rcopy L st h k z (pc + 3)) (rPr p l e Rm s m args below meth cd Q nL D cA base MC n0 ro ad0)) :
    rPr p l e Rm s m args below meth cd Q nL D cA base MC n0 ro ad0 (pc, L, st, h, k, z) := by
  have hts := X.2.2.2.2.1
  unfold rcopy at hs
  split at hs
  · rename_i n dp a sp b st
    split at hs
    · rename_i n0 f n1 g hb ha
      cases hwd : rwd st
      · rw [hwd] at hs; exact False.elim hs
      · rw [hwd] at hs
        obtain ⟨⟨g1, g2, g3, g4, g5⟩, hs⟩ := hs
        intro ad H locs ls hw hx2 hl hn
        exact va_copyi X.1 X.2.1 (by rw [X.2.2.1, hl.1]) X.2.2.2.1 (hts _ h1) (hts _ h2) (hts _ h3) (hts _ h4) X.2.2.2.2.2.2.1 hw.1 hw.2.1 hw.2.2.1 b a 0 0 (rws_get hb) (rws_get ha) rfl rfl rfl g1 g2 g3 g4 g5 (fun _ _ => rfl) (by have := X.2.2.2.2.2.2.2.2.1; omega) (by
          have e1 := rwd_sum hwd ad
          have e2 : nativeFrameWords "java/lang/System" "arraycopy" 5 ≤ 40 := by decide +kernel
          have e3 := X.2.2.2.2.2.2.2.2.2.1
          omega) hd (fun H1 locs1 hP hD hS => hs ad H1 locs1 ls (rw_put hw hP hD hS) (rx_put hx2) hl hn)
    · exact False.elim hs
  · exact False.elim hs
end RE
