/-! ===== every instruction, every method ===== -/
theorem rUB_spec {own : String} {idx n : Nat} {x : MethodName} : ∀ {ps pos : List Nat}, rUB own idx n x ps pos = true → ∀ {ci f : Nat}, rlook ps ci = some f → ∃ (C : String) (T : u_T) (N : Nat) (q : rP), rCl[ci]? = some (C, T, N) ∧ pgm[f]? = some q ∧ Cond.selects C x q.1 ∈ rBig ∧ Cond.instanceMethod q.1 ∈ rBig ∧ Cond.initialized q.1.cls ∈ rBig
  | [], _, _, ci, f, hl => by cases hl
  | [_], _, _, ci, f, hl => by cases hl
  | a :: b :: ps, [], h, _, _, _ => by cases h
  | a :: b :: ps, [_], h, _, _, _ => by cases h
  | a :: b :: ps, [_, _], h, _, _, _ => by cases h
  | a :: b :: ps, p1 :: p2 :: p3 :: pos, h, ci, f, hl => by
    rw [rUB] at h
    simp only [Bool.and_eq_true] at h
    rw [rlook] at hl
    cases hb : Nat.beq a ci
    · rw [hb] at hl
      exact rUB_spec (ps := ps) (pos := pos) h.2 hl
    · rw [hb] at hl
      have e1 := Nat.eq_of_beq_eq_true hb
      cases hl
      subst e1
      have h1 := h.1
      split at h1
      · rename_i C T N hC
        obtain ⟨q, hq, hg⟩ := ry_spec h1
        simp only [Bool.and_eq_true] at hg
        exact ⟨C, T, N, q, hC, hq, rwordB_mem hg.1.1, rwordB_mem hg.1.2, rwordB_mem hg.2⟩
      · cases h1
section RF
variable {p : Program} {l : Launch} {e : Env} {Rm : Room} {s : State} {m : MethodId} {args : Array Value} {below : List Frame} {meth : Method} {cd : Code} {Q : State → Prop}
variable {own : String} {init : Bool} {bytes : ByteArray} {nL : Nat} {D : va_G} {cA : Nat → ClassId} {base MC MS d n0 : Nat} {ro : rQ} {ad0 : Nat → Nat}
variable {R : rR} {pc pc' k z mc ms : Nat} {L st : List Value} {h : rH}
theorem rk_istat (X : rCtx p Rm s m args meth cd own init bytes nL D cA base MC MS d) (IH : rMet l D cA base ro d) {idx : Nat} {aux pos : List Nat} (hck : (match aux, pos with
      | [2], [p1, p2, p3, p4] => rwordB p1 (.methodLink own idx arraycopyName) && rwordB p2 (.native arraycopyName) && rwordB p3 (.static arraycopyName) && rwordB p4 (.initialized "java/lang/System")
      | [0, f, n, _, _], [p1, p2, p3] => ryB f (fun y => rwordB p1 (.methodLink own idx y) && rwordB p2 (.static y) && rwordB p3 (.initialized y.cls) && rnotMH y.cls && rparB y.desc n)
      | [1, f, n, _, _], [p1, p2, p3] => ryB f (fun y => rnestB p1 (.methodLinkNest own idx y "LeastAlone") && rwordB p2 (.static y) && rwordB p3 (.initialized y.cls) && rnotMH y.cls && rparB y.desc n)
      | _, _ => false) = true) (hnst : ∀ w ∈ rNst, va_Nw w s) (hd : decode bytes pc = .ok (.invokestatic idx, 3)) (hs : rstp (rM ro d) R (rstat MC MS aux L st h k z (pc + 3)) (rPr p l e Rm s m args below meth cd Q nL D cA base MC n0 ro ad0)) :
    rPr p l e Rm s m args below meth cd Q nL D cA base MC n0 ro ad0 (pc, L, st, h, k, z) := by
  have hts := X.2.2.2.2.1
  split at hck
  · simp only [Bool.and_eq_true] at hck
    exact rk_copy X (rwordB_mem hck.1.1.1) (rwordB_mem hck.1.1.2) (rwordB_mem hck.1.2) (rwordB_mem hck.2) hd hs
  · rename_i f n mc ms p1 p2 p3
    obtain ⟨q, hq, hg⟩ := ry_spec hck
    simp only [Bool.and_eq_true] at hg
    obtain ⟨⟨⟨⟨g1, g2⟩, g3⟩, g4⟩, g5⟩ := hg
    unfold rstat at hs
    simp only at hs
    split at hs
    · rename_i As st' hpop
      obtain ⟨Bs, hA, hlen, rfl⟩ := rpop_spec hpop
      rw [List.append_nil] at hA
      subst hA
      refine rk_stat X IH hq (fun rm r1 r2 r3 r4 => Or.inl (va_cwS n hts (rBig_in ?_) rfl r1 r2 ⟨(rnot_spec g4).1, (rnot_spec g4).2, rpar_spec g5⟩ ⟨r3, r4⟩)) hlen hd hs
      intro w hw
      rcases List.mem_append.mp hw with h1 | h1
      · simp only [List.mem_cons, List.not_mem_nil, or_false] at h1
        rcases h1 with rfl | rfl | rfl
        · exact rwordB_mem g1
        · exact rwordB_mem g2
        · exact rwordB_mem g3
      · exact rwords X hq w h1
    · exact False.elim hs
  · rename_i f n mc ms p1 p2 p3
    obtain ⟨q, hq, hg⟩ := ry_spec hck
    simp only [Bool.and_eq_true] at hg
    obtain ⟨⟨⟨⟨g1, g2⟩, g3⟩, g4⟩, g5⟩ := hg
    unfold rstat at hs
    simp only at hs
    split at hs
    · rename_i As st' hpop
      obtain ⟨Bs, hA, hlen, rfl⟩ := rpop_spec hpop
      rw [List.append_nil] at hA
      subst hA
      exact rk_stat X IH hq (fun rm r1 r2 r3 r4 => Or.inr ⟨va_cnB n hts (rBig_in (rwords X hq)) rfl r1 r2 (hnst _ (rnestB_mem g1)) (hts _ (rwordB_mem g3)) ⟨(rnot_spec g4).1, (rnot_spec g4).2, rpar_spec g5⟩ ⟨r3, r4⟩, hts _ (rwordB_mem g2)⟩) hlen hd hs
    · exact False.elim hs
  · cases hck
theorem rk_ispec (X : rCtx p Rm s m args meth cd own init bytes nL D cA base MC MS d) (IH : rMet l D cA base ro d) {idx : Nat} {aux pos : List Nat} (hck : (match aux, pos with
      | [0], [p1, p2, p3] => rwordB p1 (.methodLink own idx Lib.objectInit) && rwordB p2 (.instanceMethod Lib.objectInit) && rwordB p3 (.code Lib.objectInit ⟨#[0xb1]⟩ 1 none)
      | [1, f, n, _, _], [p1, p2, p3] => ryB f (fun y => rwordB p1 (.methodLink own idx y) && rwordB p2 (.instanceMethod y) && rwordB p3 (.initialized y.cls) && rnotMH y.cls && rparB y.desc n && decide (y.name = "<init>"))
      | [2, f, n, _, _], [p1, p2, p3] => ryB f (fun y => rnestB p1 (.methodLinkNest own idx y "LeastAlone") && rwordB p2 (.instanceMethod y) && rwordB p3 (.initialized y.cls) && rnotMH y.cls && rparB y.desc n && decide (y.name = "<init>"))
      | _, _ => false) = true) (hnst : ∀ w ∈ rNst, va_Nw w s) (hvoid : ∀ (f : Nat) (q : rP), pgm[f]? = some q → q.1.name = "<init>" → q.2.2.2.1 = none) (hd : decode bytes pc = .ok (.invokespecial idx, 3)) (hs : rstp (rM ro d) R (rspec MC MS aux L st h k z (pc + 3)) (rPr p l e Rm s m args below meth cd Q nL D cA base MC n0 ro ad0)) :
    rPr p l e Rm s m args below meth cd Q nL D cA base MC n0 ro ad0 (pc, L, st, h, k, z) := by
  have hts := X.2.2.2.2.1
  split at hck
  · simp only [Bool.and_eq_true] at hck
    unfold rspec at hs
    simp only at hs
    split at hs
    · rename_i r st'
      cases hwd : rwd st'
      · rw [hwd] at hs; exact False.elim hs
      · rw [hwd] at hs
        intro ad H locs ls hw hx2 hl hn
        exact W.objInit X.1 X.2.1 X.2.2.2.1 (hts _ (rwordB_mem hck.1.1)) (hts _ (rwordB_mem hck.1.2)) (hts _ (rwordB_mem hck.2)) rfl (by rw [X.2.2.1]; exact hl.1) rfl hd (by have := X.2.2.2.2.2.2.2.2.1; omega) (by
          have e1 : 2 * (F0 m pc ls ((.ref r :: st').map (rv ad))).monitorRoom + ((st'.map (rv ad)).map fun v => v.category).sum ≤ 8 := lv_room (rwd_sum hwd ad)
          have e3 := X.2.2.2.2.2.2.2.2.2.1
          have e4 : 2 * (F0 m pc ls ((.ref r :: st').map (rv ad))).monitorRoom + ((st'.map (rv ad)).map fun v => v.category).sum + 12 ≤ Rm.locals := by omega
          exact e4) (hs ad H locs ls hw hx2 hl hn)
    · exact False.elim hs
  · rename_i f n mc ms p1 p2 p3
    obtain ⟨q, hq, hg⟩ := ry_spec hck
    simp only [Bool.and_eq_true, decide_eq_true_eq] at hg
    obtain ⟨⟨⟨⟨⟨g1, g2⟩, g3⟩, g4⟩, g5⟩, g6⟩ := hg
    have hr := hvoid f q hq g6
    unfold rspec at hs
    simp only at hs
    split at hs
    · rename_i As r st' hpop
      obtain ⟨Bs, hA, hlen, rfl⟩ := rpop_spec hpop
      rw [List.append_nil] at hA
      subst hA
      exact rk_init X IH hq hr (fun rm r1 r2 r3 r4 => Or.inl (cwI n hts (rBig_in (by have := rwords X hq; rw [hr] at this; exact this)) rfl r1 r2 (hts _ (rwordB_mem g3)) (hts _ (rwordB_mem g1)) (hts _ (rwordB_mem g2)) g6 ⟨(rnot_spec g4).1, (rnot_spec g4).2, rpar_spec g5⟩ ⟨r3, r4⟩)) hlen hd hs
    · exact False.elim hs
  · rename_i f n mc ms p1 p2 p3
    obtain ⟨q, hq, hg⟩ := ry_spec hck
    simp only [Bool.and_eq_true, decide_eq_true_eq] at hg
    obtain ⟨⟨⟨⟨⟨g1, g2⟩, g3⟩, g4⟩, g5⟩, g6⟩ := hg
    have hr := hvoid f q hq g6
    unfold rspec at hs
    simp only at hs
    split at hs
    · rename_i As r st' hpop
      obtain ⟨Bs, hA, hlen, rfl⟩ := rpop_spec hpop
      rw [List.append_nil] at hA
      subst hA
      exact rk_init X IH hq hr (fun rm r1 r2 r3 r4 => Or.inr ⟨va_cnB n hts (rBig_in (by have := rwords X hq; rw [hr] at this; exact this)) rfl r1 r2 (hnst _ (rnestB_mem g1)) (hts _ (rwordB_mem g3)) ⟨(rnot_spec g4).1, (rnot_spec g4).2, rpar_spec g5⟩ ⟨r3, r4⟩, g6, hts _ (rwordB_mem g2)⟩) hlen hd hs
    · exact False.elim hs
  · cases hck
theorem rk_ivirt (X : rCtx p Rm s m args meth cd own init bytes nL D cA base MC MS d) (IH : rMet l D cA base ro d) {idx : Nat} {aux pos : List Nat} (hck : (match aux, pos with
      | [0, n, ci, f], [p1, p2, p3, p4] => ryB f (fun y => rwordB p1 (.methodLink own idx y) && rwordB p2 (.instanceMethod y) && rwordB p3 (.selects y.cls y y) && rwordB p4 (.initialized y.cls) && rnotMH y.cls && rparB y.desc n && (match rCl[ci]? with
        | some (C, _, _) => decide (C = y.cls)
        | none => false))
      | [1, n, ci, f], [p1, p2, p3, p4] => ryB f (fun y => rnestB p1 (.methodLinkNest own idx y "LeastAlone") && rwordB p2 (.instanceMethod y) && rwordB p3 (.selects y.cls y y) && rwordB p4 (.initialized y.cls) && rnotMH y.cls && rparB y.desc n && (match rCl[ci]? with
        | some (C, _, _) => decide (C = y.cls)
        | none => false))
      | 2 :: n :: ps, p1 :: p2 :: p3 :: pos => (match lw_tbl[p1]? with
        | some (.methodLink _ _ q) => rwordB p1 (.methodLink own idx q) && rwordB p2 (.sameMethod q.cls "LeastAlone$Tally" q.name q.desc) && rnestB p3 (.declares ⟨"LeastAlone$Tally", q.name, q.desc⟩) && rparB q.desc n && rUB own idx n q ps pos
        | _ => false)
      | _, _ => false) = true) (hnst : ∀ w ∈ rNst, va_Nw w s) (hd : decode bytes pc = .ok (.invokevirtual idx, 3)) (hs : rstp (rM ro d) R (rvirt MC MS aux L st h k z (pc + 3)) (rPr p l e Rm s m args below meth cd Q nL D cA base MC n0 ro ad0)) :
    rPr p l e Rm s m args below meth cd Q nL D cA base MC n0 ro ad0 (pc, L, st, h, k, z) := by
  have hts := X.2.2.2.2.1
  have look1 : ∀ {ci f ci' f' : Nat}, rlook [ci, f] ci' = some f' → ci' = ci ∧ f' = f := by
    intro ci f ci' f' hl
    rw [rlook] at hl
    cases hb : Nat.beq ci ci'
    · rw [hb] at hl; cases hl
    · rw [hb] at hl
      cases hl
      exact ⟨(Nat.eq_of_beq_eq_true hb).symm, rfl⟩
  split at hck
  · rename_i n ci f p1 p2 p3 p4
    obtain ⟨q, hq, hg⟩ := ry_spec hck
    simp only [Bool.and_eq_true] at hg
    obtain ⟨⟨⟨⟨⟨⟨g1, g2⟩, g3⟩, g3b⟩, g4⟩, g5⟩, g6⟩ := hg
    unfold rvirt at hs
    simp only at hs
    split at hs
    · rename_i As r st' hpop
      obtain ⟨Bs, hA, hlen, rfl⟩ := rpop_spec hpop
      rw [List.append_nil] at hA
      subst hA
      split at hs
      · rename_i ci' fs hr
        split at hs
        · rename_i f' hlk
          obtain ⟨rfl, rfl⟩ := look1 hlk
          split at g6
          · rename_i C T N hC
            simp only [decide_eq_true_eq] at g6
            refine rk_virt X IH hq hr hC (fun rm r1 r2 r3 r4 => Or.inl (cwV n hts (rBig_in ?_) rfl r1 r2 ⟨g6.symm, (rnot_spec g4).1, (rnot_spec g4).2, rpar_spec g5⟩ ⟨r3, r4⟩)) hlen hd hs
            intro w hw
            rcases List.mem_append.mp hw with h1 | h1
            · simp only [List.mem_cons, List.not_mem_nil, or_false] at h1
              rcases h1 with rfl | rfl | rfl | rfl
              · exact rwordB_mem g1
              · exact rwordB_mem g2
              · rw [g6]; exact rwordB_mem g3
              · rw [g6]; exact rwordB_mem g3b
            · exact rwords X hq w h1
          · cases g6
        · exact False.elim hs
      · exact False.elim hs
    · exact False.elim hs
  · rename_i n ci f p1 p2 p3 p4
    obtain ⟨q, hq, hg⟩ := ry_spec hck
    simp only [Bool.and_eq_true] at hg
    obtain ⟨⟨⟨⟨⟨⟨g1, g2⟩, g3⟩, g3b⟩, g4⟩, g5⟩, g6⟩ := hg
    unfold rvirt at hs
    simp only at hs
    split at hs
    · rename_i As r st' hpop
      obtain ⟨Bs, hA, hlen, rfl⟩ := rpop_spec hpop
      rw [List.append_nil] at hA
      subst hA
      split at hs
      · rename_i ci' fs hr
        split at hs
        · rename_i f' hlk
          obtain ⟨rfl, rfl⟩ := look1 hlk
          split at g6
          · rename_i C T N hC
            simp only [decide_eq_true_eq] at g6
            subst g6
            exact rk_virt X IH hq hr hC (fun rm r1 r2 r3 r4 => Or.inr (Or.inl ⟨va_cnB n hts (rBig_in (rwords X hq)) rfl r1 r2 (hnst _ (rnestB_mem g1)) (hts _ (rwordB_mem g3b)) ⟨(rnot_spec g4).1, (rnot_spec g4).2, rpar_spec g5⟩ ⟨r3, r4⟩, hts _ (rwordB_mem g2), hts _ (rwordB_mem g3)⟩)) hlen hd hs
          · cases g6
        · exact False.elim hs
      · exact False.elim hs
    · exact False.elim hs
  · rename_i n ps p1 p2 p3 pos
    split at hck
    · rename_i o1 o2 x hx1
      simp only [Bool.and_eq_true] at hck
      obtain ⟨⟨⟨⟨g1, g2⟩, g3⟩, g4⟩, g5⟩ := hck
      unfold rvirt at hs
      simp only at hs
      split at hs
      · rename_i As r st' hpop
        obtain ⟨Bs, hA, hlen, rfl⟩ := rpop_spec hpop
        rw [List.append_nil] at hA
        subst hA
        split at hs
        · rename_i ci' fs hr
          split at hs
          · rename_i f' hlk
            obtain ⟨C, T, N, q, hC, hq, w1, w2, w3⟩ := rUB_spec g5 hlk
            refine rk_virt X IH hq hr hC (fun rm r1 r2 r3 r4 => Or.inr (Or.inr ⟨"LeastAlone$Tally", x, va_cwA n hts (rBig_in ?_) rfl r1 r2 (hnst _ (rnestB_mem g3)) ⟨by decide, by decide, rpar_spec g4⟩ ⟨r3, r4⟩⟩)) hlen hd hs
            intro w hw
            rcases List.mem_append.mp hw with h1 | h1
            · simp only [List.mem_cons, List.not_mem_nil, or_false] at h1
              rcases h1 with rfl | rfl | rfl | rfl | rfl
              · exact rwordB_mem g1
              · exact rwordB_mem g2
              · exact w1
              · exact w2
              · exact w3
            · exact rwords X hq w h1
          · exact False.elim hs
        · exact False.elim hs
      · exact False.elim hs
    · cases hck
  · cases hck
theorem rk_br {call : rCall} {cdn : Jvm.ClassFile.Cond} {x y : Int32} {a b : rK} {P : rK → Prop} (hs : rstp call R (some (rbr cdn x y a b)) P) : match cdn with
    | .eq => (x = y → P a) ∧ (¬ x = y → P b)
    | .ne => (¬ x = y → P a) ∧ (x = y → P b)
    | .lt => (x < y → P a) ∧ (¬ x < y → P b)
    | .ge => (y ≤ x → P a) ∧ (¬ y ≤ x → P b)
    | .gt => (y < x → P a) ∧ (¬ y < x → P b)
    | .le => (x ≤ y → P a) ∧ (¬ x ≤ y → P b) := by
  cases cdn <;> first | exact hs | exact ⟨hs.2, hs.1⟩
end RF
