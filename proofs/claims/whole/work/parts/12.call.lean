/-! ===== making cells, calls ===== -/
theorem rv_ext {n : Nat} {ad ad' : Nat → Nat} (he : ∀ k, k < n ∨ 1000000 ≤ k → ad' k = ad k) : ∀ {L : List Value}, rwfv n L = true → L.map (rv ad') = L.map (rv ad) ∧ ∀ i, rprs ad' i L = rprs ad i L
  | [], _ => ⟨rfl, fun _ => rfl⟩
  | v :: L, h => by
    simp only [rwfv, List.all_cons, Bool.and_eq_true] at h
    have ih := rv_ext he (L := L) h.2
    have hv : rv ad' v = rv ad v := by
      cases v with
      | ref k =>
        have h1 := h.1
        simp only [Bool.or_eq_true] at h1
        show Value.ref (ad' k) = Value.ref (ad k)
        rw [he k (h1.elim (fun q => Or.inl (Nat.le_of_ble_eq_true q)) (fun q => Or.inr (Nat.le_of_ble_eq_true q)))]
      | _ => rfl
    refine ⟨by rw [List.map_cons, List.map_cons, hv, ih.1], fun i => ?_⟩
    cases v with
    | null => exact ih.2 (i + 1)
    | _ =>
      show (i, rv ad' _) :: rprs ad' (i + 1) L = (i, rv ad _) :: rprs ad (i + 1) L
      rw [hv, ih.2]
theorem rqf_ext {n : Nat} {ad ad' : Nat → Nat} (he : ∀ k, k < n ∨ 1000000 ≤ k → ad' k = ad k) {fs : List Value} (h : rwfv n fs = true) : rqf ad' fs = rqf ad fs := by
  funext j
  unfold rqf
  cases hj : fs[j]? with
  | none => rfl
  | some v =>
    cases v with
    | ref k =>
      have h1 := List.all_eq_true.mp h _ (List.mem_of_getElem? hj)
      simp only [Bool.or_eq_true] at h1
      show some (ad' k) = some (ad k)
      rw [he k (h1.elim (fun q => Or.inl (Nat.le_of_ble_eq_true q)) (fun q => Or.inr (Nat.le_of_ble_eq_true q)))]
    | _ => rfl
theorem rce_ext {n : Nat} {ad ad' : Nat → Nat} {cA : Nat → ClassId} (he : ∀ k, k < n ∨ 1000000 ≤ k → ad' k = ad k) {e : rE} (h : rwfE n e = true) : rce ad' cA e = rce ad cA e := by
  rcases e with ⟨t, a⟩ | ⟨ci, fs⟩
  · rfl
  · have h1 : rwfv n fs = true := h
    by_cases hc : ci = 100
    · subst hc
      show (Sum.inl (cA 4, fs.length, .inr (.inr (.inr (.inr (rqf ad' fs))))) : va_E) = .inl (cA 4, fs.length, .inr (.inr (.inr (.inr (rqf ad fs)))))
      rw [rqf_ext he h1]
    · rw [rce_obj hc, rce_obj hc, (rv_ext he h1).1]
theorem rws_push {ad : Nat → Nat} {cA : Nat → ClassId} {h : rH} {q : Nat} {e : rE} (hwf : h.all (rwfE h.length) = true) (hl : h.length < 1000000) :
    rws (fun k => if k = h.length then q else ad k) cA (h ++ [e]) = rws ad cA h ++ [(q, rce (fun k => if k = h.length then q else ad k) cA e)] := by
  have he : ∀ k, k < h.length ∨ 1000000 ≤ k → (fun k => if k = h.length then q else ad k) k = ad k := by
    intro k hk
    show (if k = h.length then q else ad k) = ad k
    rw [if_neg (by omega)]
  unfold rws
  rw [List.mapIdx_append]
  congr 1
  · apply List.ext_getElem?
    intro i
    rw [List.getElem?_mapIdx, List.getElem?_mapIdx]
    cases hi : h[i]? with
    | none => rfl
    | some c =>
      have hlt : i < h.length := (List.getElem?_eq_some_iff.mp hi).1
      simp only [Option.map_some]
      rw [rce_ext he (List.all_eq_true.mp hwf _ (List.mem_of_getElem? hi)), if_neg (by omega)]
  · simp
theorem rSt_ext {base : Nat} {ro : rQ} {ad ad' : Nat → Nat} {U : State} {H : Heap} (he : ∀ k, 1000000 ≤ k → ad' k = ad k) (h : rSt base ro ad U H) : rSt base ro ad' U H := by
  obtain ⟨h1, h2, h3, h4, h5, h6, h7⟩ := h
  refine ⟨h1, h2, ?_, ?_, ?_, ?_, fun k n f hk => ?_⟩
  · rw [he _ (Nat.le_refl _)]; exact h3
  · rw [he _ (by decide)]; exact h4
  · rw [he _ (by decide)]; exact h5
  · rw [he _ (by decide)]; exact h6
  · rw [he _ (Nat.le_add_right _ _)]; exact h7 k n f hk
theorem rSt_blind {base : Nat} {ro : rQ} {ad : Nat → Nat} {u U : State} {H : Heap} (hv : u.vm = U.vm) (h : rSt base ro ad u H) : rSt base ro ad U H := by
  obtain ⟨h1, h2, h3, h4, h5, h6, h7⟩ := h
  have ha : u.vm.Alike U.vm := by rw [hv]; exact Vm.Alike.refl U.vm
  refine ⟨fun w hw => va_Nw.same ?_ hv (h1 w hw), h2.moved ha, h3.moved ha, h4.moved ha, h5.moved ha, h6.moved ha, fun k n f hk => (h7 k n f hk).moved ha⟩
  have := (List.mem_filter.mp hw).2
  cases w <;> first | rfl | (simp [risN] at this)
theorem rSt_go {base : Nat} {ro : rQ} {ad : Nat → Nat} {s U : State} {H : Heap} {locs : List Loc} (hW : s.WarmedH U.vm) (hS : va_S (rAA base) s.heap H locs) (hU : U.heap = H) (h : rSt base ro ad s s.heap) : rSt base ro ad U U.heap := by
  obtain ⟨h1, h2, h3, h4, h5, h6, h7⟩ := h
  rw [hU]
  refine ⟨fun w hw => ?_, h2.moved hW.alike, (h3.moved hW.alike).kept hS.2.1, (h4.moved hW.alike).kept hS.2.1, (h5.moved hW.alike).kept hS.2.1, (h6.moved hW.alike).kept hS.2.1, fun k n f hk => ((h7 k n f hk).moved hW.alike).kept hS.2.1⟩
  have hq := (List.mem_filter.mp hw).2
  have hz := h1 w hw
  cases w <;> first | exact va_Nw.warmF hW hz | exact va_Nw.warmM hW hz | exact va_Nw.warmD hW hz | (simp [risN] at hq)
def rM (ro : rQ) : Nat → rCall
  | 0 => fun _ _ _ _ _ _ => False
  | d + 1 => fun f mc ms As h R => match pgm[f]? with
    | some q => (As.all (fun v => match v with | .null => false | _ => true) && Nat.ble ((As.map (fun v => v.category)).sum) q.2.2.1) = true ∧ rT ro (rM ro d) q.2.2.2.2 mc ms R (0, rargs As q.2.2.1, [], h, 0, 0)
    | none => False
theorem rM_mono (ro : rQ) : ∀ d, rMon (rM ro d)
  | 0, _, _, _, _, _, _, _, _, h => h
  | d + 1, f, mc, ms, As, h, R, R', hR, hc => by
    unfold rM at hc ⊢
    split at hc
    · exact ⟨hc.1, rT_mono (rM_mono ro d) hR hc.2⟩
    · exact hc
theorem rstp_call {call call' : rCall} (hcc : ∀ f mc ms As h R, call f mc ms As h R → call' f mc ms As h R) {R : rR} {o : Option rO} {P : rK → Prop} (h : rstp call R o P) : rstp call' R o P := by
  rcases o with _ | (c | ⟨g, c⟩ | ⟨b, c1, c2⟩ | ⟨⟨f, mc, ms, As, hh⟩, kk⟩ | ⟨g, v, hh⟩)
  · exact h
  · exact h
  · exact h
  · exact h
  · exact hcc _ _ _ _ _ _ h
  · exact h
theorem rM_succ (ro : rQ) : ∀ (d f mc ms : Nat) (As : List Value) (h : rH) (R : rR), rM ro d f mc ms As h R → rM ro (d + 1) f mc ms As h R
  | 0, _, _, _, _, _, _, h => False.elim h
  | d + 1, f, mc, ms, As, h, R, hc => by
    unfold rM at hc ⊢
    split at hc
    · rename_i q hq
      refine ⟨hc.1, hc.2 _ (fun c hs => rT_step (rM_mono ro (d + 1)) (rstp_call (rM_succ ro d) hs))⟩
    · exact hc
theorem rM_le (ro : rQ) {a b : Nat} (hab : a ≤ b) {f mc ms : Nat} {As : List Value} {h : rH} {R : rR} (hc : rM ro a f mc ms As h R) : rM ro b f mc ms As h R := by
  induction hab with
  | refl => exact hc
  | step _ ih => exact rM_succ ro _ _ _ _ _ _ _ ih
def rQB (D : va_G) (cA : Nat → ClassId) (base mc n : Nat) (ad : Nat → Nat) (u : rH × (Nat → Nat)) (t : State) : Prop := rwd0 D cA base u.2 u.1 t.heap ∧ rxt mc n ad u.2 u.1
def rQc (D : va_G) (cA : Nat → ClassId) (base mc n : Nat) (ad : Nat → Nat) (R : rR) (ret : Option FieldType) : Array Value → State → Outcome → State → Prop := match ret with
  | none => va_Qv (fun u : rH × (Nat → Nat) => R none u.1) (rQB D cA base mc n ad) (rAA base)
  | some .long => va_Ql (fun x (u : rH × (Nat → Nat)) => R (some (.long x)) u.1) (rQB D cA base mc n ad) (rAA base)
  | some _ => va_Qi (fun x (u : rH × (Nat → Nat)) => R (some (.int x)) u.1) (rQB D cA base mc n ad) (rAA base)
def rPc (D : va_G) (cA : Nat → ClassId) (base : Nat) (ro : rQ) (ad : Nat → Nat) (h : rH) (As : List Value) : Array Value → State → Prop := va_Pc (As.map (rv ad)) (fun U => va_K D rCl (rtys cA) U ∧ rwd0 D cA base ad h U.heap ∧ base ≤ U.heap.size ∧ rSt base ro ad U U.heap)
def rRm (d mc ms : Nat) : Room := { frames := d, cells := mc, slots := ms, locals := 60 * d }
def rMet (l : Launch) (D : va_G) (cA : Nat → ClassId) (base : Nat) (ro : rQ) (d : Nat) : Prop := ∀ (f mc ms : Nat) (As : List Value) (h : rH) (R : rR) (ad : Nat → Nat) (q : rP), pgm[f]? = some q → rM ro d f mc ms As h R → Met l q.1 (.code q.1 q.2.1 q.2.2.1 q.2.2.2.1 :: rBig) (rRm d mc ms) (rPc D cA base ro ad h As) (rQc D cA base mc h.length ad R q.2.2.2.1) mc ms (rAA base)
theorem rBig_good : ∀ w ∈ rBig, (w.onTables && w.keeps) = true ∨ ∃ ty, w = .arrayClass ty := fun w hw => good_of_word (List.mem_filter.mp hw).2
theorem rBig_in {ws : List Cond} (h : ∀ w ∈ ws, w ∈ rBig) : GoodIn rBig ws := fun w hw => ⟨h w hw, rBig_good w (h w hw)⟩
section RD
variable {p : Program} {l : Launch} {e : Env} {Rm : Room} {s : State} {m : MethodId} {args : Array Value} {below : List Frame} {meth : Method} {cd : Code} {Q : State → Prop}
variable {own : String} {init : Bool} {bytes : ByteArray} {nL : Nat} {D : va_G} {cA : Nat → ClassId} {base MC MS d n0 : Nat} {ro : rQ} {ad0 : Nat → Nat}
variable {call : rCall} {R : rR} {pc pc' k z mc ms : Nat} {L st : List Value} {h : rH}
theorem rPc_blind {ad : Nat → Nat} {As : List Value} : FrameBlind (rPc D cA base ro ad h As) := by
  intro a U g mk hp
  obtain ⟨h1, hK, hw, hb, hS⟩ := hp
  exact ⟨h1, va_K.moved (u := U) (U := U.calling g mk a) (Vm.Alike.refl U.vm) hK, hw, hb, rSt_blind (u := U) (U := U.calling g mk a) rfl hS⟩
theorem rPc_pre (X : rCtx p Rm s m args meth cd own init bytes nL D cA base MC MS d) {H : Heap} {locs : List Loc} {ad : Nat → Nat} {As : List Value} (hw : rwld D cA base ro s H locs ad h) : ∀ U : State, U.heap = H → s.WarmedH U.vm → rPc D cA base ro ad h As (As.map (rv ad)).toArray U := by
  intro U hU hW
  refine ⟨rfl, va_K.moved hW.alike X.2.2.2.2.2.2.1, ?_, ?_, rSt_go hW hw.2.2.1 hU hw.2.2.2⟩
  · rw [hU]; exact ⟨hw.1, hw.2.1⟩
  · rw [hU]; exact Nat.le_trans X.2.2.2.2.2.2.2.1 hw.2.2.1.1
/-- behind a call -/
theorem rk_go {H : Heap} {locs : List Loc} {ls : Array Slot} {ad : Nat → Nat} {st0 : List Value} {ret : Option FieldType} {a : Array Value}
    (hr : va_Run p l e Rm s m args below meth cd H locs k z mc ms (F0 m pc ls st0) (st.map (rv ad)) (rQc D cA base mc h.length ad (fun r h' => rPr p l e Rm s m args below meth cd Q nL D cA base MC n0 ro ad0 (pc + 3, L, r.toList ++ st, h', k + mc, z + ms)) ret a) (rAA base))
    (hw : rwld D cA base ro s H locs ad h) (hx2 : rxt MC n0 ad0 ad h) (hl : lv_has ls nL (rprs ad 0 L)) (hn : L.length = nL) (hwf : mc = 0 ∨ (rwfv h.length L = true ∧ rwfv h.length st = true)) (hMC : k + mc ≤ MC) : W p l e Rm s m args below meth cd H locs k z Q (F0 m pc ls st0) := by
  have fin : ∀ (u : rH × (Nat → Nat)) (v : List Value) (t : State) (H1 : Heap) (locs1 : List Loc), (∀ ad : Nat → Nat, v.map (rv ad) = v) → t.heap = H1 → rQB D cA base mc h.length ad u t → va_S (rAA base) s.heap H1 locs1 → rPr p l e Rm s m args below meth cd Q nL D cA base MC n0 ro ad0 (pc + 3, L, v ++ st, u.1, k + mc, z + ms) → W p l e Rm s m args below meth cd H1 locs1 (k + mc) (z + ms) Q (F0 m (pc + 3) ls (v ++ st.map (rv ad))) := by
    intro u v t H1 locs1 hv ht hB hS hp
    obtain ⟨⟨hP1, hD1⟩, hx0, hx1, hxl⟩ := hB
    rw [ht] at hP1
    have hst : st.map (rv u.2) = st.map (rv ad) ∧ rprs u.2 0 L = rprs ad 0 L := by
      rcases hwf with h0 | ⟨h1, h2⟩
      · rw [hx0 h0]; exact ⟨rfl, rfl⟩
      · exact ⟨(rv_ext hx1 h2).1, (rv_ext hx1 h1).2 0⟩
    have key := hp u.2 H1 locs1 ls ⟨hP1, hD1, hS, rSt_ext (fun k hk => hx1 k (Or.inr hk)) hw.2.2.2⟩ ⟨fun h0 => (hx0 (by omega)).trans (hx2.1 h0), fun k hk => (hx1 k (hk.elim (fun q => Or.inl (Nat.lt_of_lt_of_le q hx2.2.2)) Or.inr)).trans (hx2.2.1 k hk), Nat.le_trans hx2.2.2 hxl⟩ (by rw [show ((pc + 3, L, v ++ st, u.1, k + mc, z + ms) : rK).2.1 = L from rfl, hst.2]; exact hl) hn
    have e1 : (v ++ st).map (rv u.2) = v ++ st.map (rv ad) := by rw [List.map_append, hv, hst.1]
    have key2 : W p l e Rm s m args below meth cd H1 locs1 (k + mc) (z + ms) Q (F0 m (pc + 3) ls ((v ++ st).map (rv u.2))) := key
    rw [e1] at key2
    exact key2
  cases ret with
  | none => exact va_callv (a := a) hr hw.2.2.1 (fun q _ h => h) (fun q h => h) (fun u t H1 locs1 ht _ hp hB _ _ hS => fin u [] t H1 locs1 (fun _ => rfl) ht hB hS hp)
  | some ty =>
    cases ty with
    | long => exact va_calll (a := a) hr hw.2.2.1 (fun q _ h => h) (fun q h => h) (fun x u t H1 locs1 ht _ hp hB _ _ hS => fin u [.long x] t H1 locs1 (fun _ => rfl) ht hB hS hp)
    | _ => exact va_calli (a := a) hr hw.2.2.1 (fun q _ h => h) (fun q h => h) (fun x u t H1 locs1 ht _ hp hB _ _ hS => fin u [.int x] t H1 locs1 (fun _ => rfl) ht hB hS hp)
theorem rwd_sum {st : List Value} (h : rwd st = true) (ad : Nat → Nat) : ((st.map (rv ad)).map fun v => v.category).sum ≤ 8 := by
  have e1 : ((st.map (rv ad)).map fun v => v.category) = st.map fun v => v.category := by
    rw [List.map_map]
    apply List.map_congr_left
    intro v _
    exact rv_cat ad v
  rw [e1]
  exact Nat.le_of_ble_eq_true h
end RD
