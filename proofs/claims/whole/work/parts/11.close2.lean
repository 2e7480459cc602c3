section RC2
variable {p : Program} {l : Launch} {e : Env} {Rm : Room} {s : State} {m : MethodId} {args : Array Value} {below : List Frame} {meth : Method} {cd : Code} {Q : State → Prop}
variable {own : String} {init : Bool} {bytes : ByteArray} {nL : Nat} {D : va_G} {cA : Nat → ClassId} {base MC MS d n0 : Nat} {ro : rQ} {ad0 : Nat → Nat}
variable {call : rCall} {R : rR} {pc pc' k z : Nat} {L st : List Value} {h : rH}
theorem rce_obj {ad : Nat → Nat} {ci : Nat} {fs : List Value} (hc : ci ≠ 100) : rce ad cA (.inr (ci, fs)) = .inr (ci, fs.map (rv ad)) := by
  unfold rce
  split
  · rename_i h; cases h
  · rename_i h; cases h; exact absurd rfl hc
  · rename_i h; cases h; rfl
theorem rCl_lt {ci : Nat} {q : vw_C} (h : rCl[ci]? = some q) : ci ≠ 100 := by
  have h1 : ci < rCl.length := (List.getElem?_eq_some_iff.mp h).1
  have h2 : ci < 10 := h1
  omega
/-- what 'rfieldB' says: the field's link, and that it's the field of that name -/
theorem rfield_spec (X : rCtx p Rm s m args meth cd own init bytes nL D cA base MC MS d) {idx q ci : Nat} {pos : List Nat} (hf : rfieldB own idx q ci pos = true) :
    ∃ (C : String) (T : u_T) (N : Nat) (ref : String), rCl[ci]? = some (C, T, N) ∧ q < N ∧ (Cond.fieldLink own idx ref (T q).2.1 (T q).2.2.1).before args s = true ∧ ∀ x, s.fieldFound? (T q).1 (T q).2.1 (T q).2.2.1 = some x → s.fieldFound? ref (T q).2.1 (T q).2.2.1 = some x := by
  have hts := X.2.2.2.2.1
  unfold rfieldB at hf
  split at hf
  · rename_i C T N p0 hc
    simp only [Bool.and_eq_true] at hf
    exact ⟨C, T, N, _, hc, Nat.le_of_ble_eq_true hf.1, hts _ (rwordB_mem hf.2), fun _ h => h⟩
  · rename_i C T N p0 p2 hc
    simp only [Bool.and_eq_true] at hf
    exact ⟨C, T, N, _, hc, Nat.le_of_ble_eq_true hf.1.1, hts _ (rwordB_mem hf.1.2), fun x h => u_same (hts _ (rwordB_mem hf.2)) x h⟩
  · cases hf
theorem rk_getf (X : rCtx p Rm s m args meth cd own init bytes nL D cA base MC MS d) {idx q : Nat} {cs pos : List Nat} (hck : cs.all (fun ci => rfieldB own idx q ci pos) = true) (hd : decode bytes pc = .ok (.getfield idx, 3)) (hs : rstp call R (rgetf (q :: cs) L st h k z (pc + 3)) (rPr p l e Rm s m args below meth cd Q nL D cA base MC n0 ro ad0)) :
    rPr p l e Rm s m args below meth cd Q nL D cA base MC n0 ro ad0 (pc, L, st, h, k, z) := by
  unfold rgetf at hs
  split at hs
  · rename_i q' cs' r st hq
    cases hq
    split at hs
    · rename_i ci fs hr
      cases hb : cs.contains ci
      · rw [hb] at hs; exact False.elim hs
      · rw [hb] at hs
        simp only [cond_true] at hs
        split at hs
        · rename_i v hv
          obtain ⟨C, T, N, ref, hc, hqN, hlink, hsame⟩ := rfield_spec X (List.all_eq_true.mp hck ci (by simpa using hb))
          intro ad H locs ls hw hx2 hl hn
          have he := rws_get (ad := ad) (cA := cA) hr
          rw [rce_obj (rCl_lt hc)] at he
          exact va_get X.1 X.2.1 X.2.2.2.2.1 (rCl_in hc) X.2.2.2.1 X.2.2.2.2.2.2.1 hw.1 r he hc q hqN hlink hsame (by rw [List.getElem?_map, hv]; rfl) hd (hs ad H locs ls hw hx2 hl hn)
        · exact False.elim hs
    · exact False.elim hs
  · exact False.elim hs
def rtyf (ci : Nat) : Nat → FieldType := match ci with
  | 0 => tyX0 | 1 => tyX1 | 2 => tyX2 | 3 => tyX3 | 4 => tyX4 | 5 => tyX5 | 6 => tyX6 | 7 => tyX8 | 8 => tyX9 | _ => tyX10
theorem rtyf_ok {ci : Nat} {C : String} {T : u_T} {N : Nat} (hc : rCl[ci]? = some (C, T, N)) : ∀ k, k < N → parseFieldDescriptor (T k).2.2.1 = some (rtyf ci k) := by
  have h1 : ci < 10 := (List.getElem?_eq_some_iff.mp hc).1
  rcases (show ci = 0 ∨ ci = 1 ∨ ci = 2 ∨ ci = 3 ∨ ci = 4 ∨ ci = 5 ∨ ci = 6 ∨ ci = 7 ∨ ci = 8 ∨ ci = 9 by omega) with rfl | rfl | rfl | rfl | rfl | rfl | rfl | rfl | rfl | rfl <;> cases hc
  · exact tyX0_ok
  · exact tyX1_ok
  · exact tyX2_ok
  · exact tyX3_ok
  · exact tyX4_ok
  · exact tyX5_ok
  · exact tyX6_ok
  · exact tyX8_ok
  · exact tyX9_ok
  · exact tyX10_ok
theorem rnm_ok {ci : Nat} {C : String} {T : u_T} {N : Nat} (hc : rCl[ci]? = some (C, T, N)) : ∀ a, a < N → ∀ b, b < N → a ≠ b → (T a).2.1 ≠ (T b).2.1 := by
  have h1 : ci < 10 := (List.getElem?_eq_some_iff.mp hc).1
  rcases (show ci = 0 ∨ ci = 1 ∨ ci = 2 ∨ ci = 3 ∨ ci = 4 ∨ ci = 5 ∨ ci = 6 ∨ ci = 7 ∨ ci = 8 ∨ ci = 9 by omega) with rfl | rfl | rfl | rfl | rfl | rfl | rfl | rfl | rfl | rfl <;> cases hc
  · exact nmX0
  · exact nmX1
  · exact nmX2
  · exact nmX3
  · exact nmX4
  · exact nmX5
  · exact nmX6
  · exact nmX8
  · exact nmX9
  · exact nmX10
theorem rnew_ok {ci : Nat} {C : String} {T : u_T} {N : Nat} (hc : rCl[ci]? = some (C, T, N)) : (rnew ci).length = N ∧ ∀ (ad : Nat → Nat) (j : Nat), j < N → defaultValue (rtyf ci j) = vp_V ((rnew ci).map (rv ad)) j := by
  have h1 : ci < 10 := (List.getElem?_eq_some_iff.mp hc).1
  have key : (∀ j, j < N → defaultValue (rtyf ci j) = vp_V (rnew ci) j ∧ (rnew ci).getD j .null ≠ .ref 0 ∧ ∀ a, (rnew ci).getD j .null ≠ .ref a) → ∀ (ad : Nat → Nat) (j : Nat), j < N → defaultValue (rtyf ci j) = vp_V ((rnew ci).map (rv ad)) j := by
    intro hk ad j hj
    rw [(hk j hj).1]
    have h3 := (hk j hj).2.2
    unfold vp_V
    rw [List.getD_eq_getElem?_getD, List.getD_eq_getElem?_getD, List.getElem?_map]
    rw [List.getD_eq_getElem?_getD] at h3
    cases hq : (rnew ci)[j]? with
    | none => rfl
    | some w =>
      rw [hq] at h3
      simp only [Option.map_some, Option.getD_some] at h3 ⊢
      cases w <;> first | rfl | exact absurd rfl (h3 _)
  have all : ∀ (l : List Value), l.all (fun v => match v with | .ref _ => false | _ => true) = true → ∀ (j a : Nat), l.getD j .null ≠ .ref a := by
    intro l hl j a e
    rw [List.getD_eq_getElem?_getD] at e
    cases hq : l[j]? with
    | none => rw [hq] at e; cases e
    | some w =>
      rw [hq] at e
      simp only [Option.getD_some] at e
      have := List.all_eq_true.mp hl w (List.mem_of_getElem? hq)
      rw [e] at this
      cases this
  rcases (show ci = 0 ∨ ci = 1 ∨ ci = 2 ∨ ci = 3 ∨ ci = 4 ∨ ci = 5 ∨ ci = 6 ∨ ci = 7 ∨ ci = 8 ∨ ci = 9 by omega) with rfl | rfl | rfl | rfl | rfl | rfl | rfl | rfl | rfl | rfl <;> cases hc <;> refine ⟨rfl, key (fun j hj => ⟨?_, all _ rfl j 0, all _ rfl j⟩)⟩ <;> revert j <;> decide +kernel
theorem rty_spec {ci q ty : Nat} {C : String} {T : u_T} {N : Nat} (hc : rCl[ci]? = some (C, T, N)) (h : rtyB ci q ty = true) : (ty = 0 ∧ parseFieldDescriptor (T q).2.2.1 = some .int) ∨ (ty = 1 ∧ parseFieldDescriptor (T q).2.2.1 = some .long) ∨ (ty = 2 ∧ ∃ t, parseFieldDescriptor (T q).2.2.1 = some t ∧ ∀ a, narrow t (.ref a) = .ref a ∧ fits t (.ref a) = true) ∨ (ty = 3 ∧ parseFieldDescriptor (T q).2.2.1 = some .boolean) := by
  unfold rtyB at h
  rw [hc] at h
  simp only at h
  split at h
  · rename_i h1; exact Or.inl ⟨rfl, h1⟩
  · rename_i h1; exact Or.inr (Or.inl ⟨rfl, h1⟩)
  · rename_i h1; exact Or.inr (Or.inr (Or.inl ⟨rfl, _, h1, fun a => ⟨rfl, rfl⟩⟩))
  · rename_i h1; exact Or.inr (Or.inr (Or.inl ⟨rfl, _, h1, fun a => ⟨rfl, rfl⟩⟩))
  · rename_i h1; exact Or.inr (Or.inr (Or.inr ⟨rfl, h1⟩))
  · cases h
/-- a field's row, final or not -/
theorem rput_row (X : rCtx p Rm s m args meth cd own init bytes nL D cA base MC MS d) {H : Heap} {locs : List Loc} {ls : Array Slot} {ad : Nat → Nat} {rest : List Value} {idx q fin ci r : Nat} {pos : List Nat} {fs : List Value} {v : Value} {t : FieldType} (hck : rfieldB own idx q ci pos = true) (hi : fin = 0 ∨ init = true) (hfin : rfinB own ci q fin = true) (hty : ∀ (C : String) (T : u_T) (N : Nat), rCl[ci]? = some (C, T, N) → parseFieldDescriptor (T q).2.2.1 = some t) (hn : narrow t (rv ad v) = rv ad v) (hfit : fits t (rv ad v) = true) (hq : q < fs.length) (hw : rwld D cA base ro s H locs ad h) (hr : h[r]? = some (.inr (ci, fs))) (hd : decode bytes pc = .ok (.putfield idx, 3))
    (kk : ∀ (H1 : Heap) (locs1 : List Loc), rwld D cA base ro s H1 locs1 ad (h.set r (.inr (ci, fs.set q v))) → W p l e Rm s m args below meth cd H1 locs1 k z Q (F0 m (pc + 3) ls rest)) :
    W p l e Rm s m args below meth cd H locs k z Q (F0 m pc ls (rv ad v :: .ref (ad r) :: rest)) := by
  obtain ⟨C, T, N, ref, hc, hqN, hlink, hsame⟩ := rfield_spec X hck
  have he := rws_get (ad := ad) (cA := cA) hr
  rw [rce_obj (rCl_lt hc)] at he
  have hnew : rce ad cA (.inr (ci, fs.set q v)) = .inr (ci, (fs.map (rv ad)).set q (rv ad v)) := by
    rw [rce_obj (rCl_lt hc), List.map_set]
  unfold rfinB at hfin
  rw [hc] at hfin
  simp only at hfin
  have fin0 : (T q).2.2.2 = false → W p l e Rm s m args below meth cd H locs k z Q (F0 m pc ls (rv ad v :: .ref (ad r) :: rest)) := fun hf =>
    va_put X.1 X.2.1 X.2.2.2.2.1 (rCl_in hc) (rtyf ci) (rtyf_ok hc) (rnm_ok hc) X.2.2.2.1 X.2.2.2.2.2.2.1 hw.1 hw.2.1 hw.2.2.1 r he hc q hqN hlink hsame hf (hty _ _ _ hc) hn hfit (by rw [List.length_map]; exact hq) hd
      (fun H1 locs1 hP hD hS => kk H1 locs1 (rw_put hw (by rw [hnew]; exact hP) (by rw [hnew]; exact hD) hS))
  rcases Nat.eq_zero_or_pos fin with h0 | h0
  · subst h0
    simp only [Bool.not_eq_true'] at hfin
    exact fin0 hfin
  · obtain ⟨j, rfl⟩ : ∃ j, fin = j + 1 := ⟨fin - 1, by omega⟩
    simp only [Bool.and_eq_true, decide_eq_true_eq] at hfin
    have hin : meth.name = "<init>" := X.2.2.2.2.2.1 (hi.resolve_left (by omega))
    exact va_putF X.1 X.2.1 X.2.2.2.2.1 (rCl_in hc) (rtyf ci) (rtyf_ok hc) (rnm_ok hc) X.2.2.2.1 X.2.2.2.2.2.2.1 hw.1 hw.2.1 hw.2.2.1 r he hc q hqN hlink hsame hfin.1 hin hfin.2 (hty _ _ _ hc) hn hfit (by rw [List.length_map]; exact hq) hd
      (fun H1 locs1 hP hD hS => kk H1 locs1 (rw_put hw (by rw [hnew]; exact hP) (by rw [hnew]; exact hD) hS))
theorem rk_putf (X : rCtx p Rm s m args meth cd own init bytes nL D cA base MC MS d) {idx q fin ty : Nat} {cs pos : List Nat} (hi : fin = 0 ∨ init = true) (hck : cs.all (fun ci => rfieldB own idx q ci pos && rtyB ci q ty && rfinB own ci q fin) = true) (hd : decode bytes pc = .ok (.putfield idx, 3)) (hs : rstp call R (rputf (q :: fin :: ty :: cs) L st h k z (pc + 3)) (rPr p l e Rm s m args below meth cd Q nL D cA base MC n0 ro ad0)) :
    rPr p l e Rm s m args below meth cd Q nL D cA base MC n0 ro ad0 (pc, L, st, h, k, z) := by
  unfold rputf at hs
  split at hs
  · rename_i q' fin' ty' cs' v r st hq
    cases hq
    split at hs
    · rename_i ci fs hr
      cases hb : cs.contains ci && Nat.blt q fs.length
      · rw [hb] at hs; exact False.elim hs
      · rw [hb] at hs
        simp only [cond_true] at hs
        simp only [Bool.and_eq_true] at hb
        have hql : q < fs.length := Nat.le_of_ble_eq_true hb.2
        have hc3 := List.all_eq_true.mp hck ci (by simpa using hb.1)
        simp only [Bool.and_eq_true] at hc3
        obtain ⟨C, T, N, ref, hc, -, -, -⟩ := rfield_spec X hc3.1.1
        have hU : ∀ {C' : String} {T' : u_T} {N' : Nat}, rCl[ci]? = some (C', T', N') → T' = T := fun h' => by rw [hc] at h'; cases h'; rfl
        have hsp := rty_spec hc hc3.1.2
        split at hs
        · rename_i x
          intro ad H locs ls hw hx2 hl hn
          rcases hsp with ⟨h', -⟩ | ⟨h', -⟩ | ⟨h', -⟩ | ⟨-, hp⟩
          · cases h'
          · cases h'
          · cases h'
          · exact rput_row X (t := .boolean) (v := .int x) hc3.1.1 hi hc3.2 (fun C' T' N' h' => by rw [hU h']; exact hp) (by rcases hs.1 with rfl | rfl <;> rfl) (by rcases hs.1 with rfl | rfl <;> rfl) hql hw hr hd (fun H1 locs1 hw1 => hs.2 ad H1 locs1 ls hw1 (rx_put hx2) hl hn)
        · rename_i x
          intro ad H locs ls hw hx2 hl hn
          rcases hsp with ⟨-, hp⟩ | ⟨h', -⟩ | ⟨h', -⟩ | ⟨h', -⟩
          · exact rput_row X (t := .int) (v := .int x) hc3.1.1 hi hc3.2 (fun C' T' N' h' => by rw [hU h']; exact hp) rfl rfl hql hw hr hd (fun H1 locs1 hw1 => hs ad H1 locs1 ls hw1 (rx_put hx2) hl hn)
          · cases h'
          · cases h'
          · cases h'
        · rename_i x
          intro ad H locs ls hw hx2 hl hn
          rcases hsp with ⟨h', -⟩ | ⟨-, hp⟩ | ⟨h', -⟩ | ⟨h', -⟩
          · cases h'
          · exact rput_row X (t := .long) (v := .long x) hc3.1.1 hi hc3.2 (fun C' T' N' h' => by rw [hU h']; exact hp) rfl rfl hql hw hr hd (fun H1 locs1 hw1 => hs ad H1 locs1 ls hw1 (rx_put hx2) hl hn)
          · cases h'
          · cases h'
        · rename_i x
          intro ad H locs ls hw hx2 hl hn
          rcases hsp with ⟨h', -⟩ | ⟨h', -⟩ | ⟨-, t, hp, ht⟩ | ⟨h', -⟩
          · cases h'
          · cases h'
          · exact rput_row X (t := t) (v := .ref x) hc3.1.1 hi hc3.2 (fun C' T' N' h' => by rw [hU h']; exact hp) (ht _).1 (ht _).2 hql hw hr hd (fun H1 locs1 hw1 => hs ad H1 locs1 ls hw1 (rx_put hx2) hl hn)
          · cases h'
        · exact False.elim hs
    · exact False.elim hs
  · exact False.elim hs
end RC2
