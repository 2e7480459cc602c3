/-! ===== a plain run of the small machine, for what is made at the start ===== -/
def xin (i : Int32) (n : Nat) : Bool := !(decide (i < 0)) && !(decide (n ≤ i.toNatClampNeg))
theorem xin_ok {i : Int32} {n : Nat} (h : xin i n = true) : vp_in i n := by
  simp only [xin, Bool.and_eq_true, Bool.not_eq_true', decide_eq_false_iff_not] at h
  exact fun q => q.elim h.1 h.2
def ro0 : rQ := fun _ => none
def xno : Instr → Bool
  | .iaload => false
  | .arraylength => false
  | _ => true
theorem rop_ro {ro : rQ} {MC MS : Nat} {e : rI} {c : rK} (h : xno e.1 = true) : rop ro0 MC MS e c = rop ro MC MS e c := by
  obtain ⟨ins, aux, pos⟩ := e
  cases ins <;> first | rfl | exact absurd (show false = true from h) (by decide)
/-- a guard that holds -/
def xg (e : rI) (c : rK) : Bool := match e.1, c with
  | .iastore, (_, _, .int _ :: .int i :: .ref r :: _, h, _, _) => (match h[r]? with
    | some (.inl (0, n, .inl _)) => xin i n
    | _ => false)
  | .aastore, (_, _, .ref _ :: .int i :: .ref r :: _, h, _, _) => (match h[r]? with
    | some (.inr (100, fs)) => xin i fs.length
    | _ => false)
  | .putfield _, (_, _, .int x :: _, _, _, _) => decide (x = 0) || decide (x = 1)
  | _, _ => false
theorem xg_ok {ro : rQ} {MC MS : Nat} {e : rI} {c c' : rK} {g : Prop} (h : rop ro MC MS e c = some (.inr (.inl (g, c')))) (hx : xg e c = true) : g := by
  obtain ⟨ins, aux, pos⟩ := e
  obtain ⟨pc, L, st, hh, k, z⟩ := c
  unfold xg at hx
  split at hx
  · rename_i h1 h2
    simp only at h1
    subst h1
    simp only [Prod.mk.injEq] at h2
    obtain ⟨-, -, rfl, rfl, -, -⟩ := h2
    simp only [rop, rastI] at h
    split at hx
    · rename_i hc
      rw [hc] at h
      simp only [Option.some.injEq, Sum.inr.injEq, Sum.inl.injEq, Prod.mk.injEq] at h
      rw [← h.1]
      exact xin_ok hx
    · exact absurd hx (by decide)
  · rename_i h1 h2
    simp only at h1
    subst h1
    simp only [Prod.mk.injEq] at h2
    obtain ⟨-, -, rfl, rfl, -, -⟩ := h2
    simp only [rop, rastA] at h
    split at hx
    · rename_i hc
      rw [hc] at h
      split at h
      · rename_i h3 _
        simp only [Option.some.injEq, Sum.inr.injEq, Prod.mk.injEq, true_and] at h3
        simp only [Option.some.injEq, Sum.inr.injEq, Sum.inl.injEq, Prod.mk.injEq] at h
        rw [← h.1, ← h3]
        exact xin_ok hx
      · exact absurd h (by simp)
    · exact absurd hx (by decide)
  · rename_i h1 h2
    simp only at h1
    subst h1
    simp only [Prod.mk.injEq] at h2
    obtain ⟨-, -, rfl, rfl, -, -⟩ := h2
    simp only [rop, rputf, cond_eq_ite] at h
    split at h
    · split at h
      · split at h
        · split at h
          all_goals first
            | (exfalso; simp at h; done)
            | (simp only [Option.some.injEq, Sum.inr.injEq, Sum.inl.injEq, Prod.mk.injEq] at h
               rw [← h.1]
               simp only [Bool.or_eq_true, decide_eq_true_eq] at hx
               first | exact hx | simp_all)
        · exact absurd h (by simp)
      · exact absurd h (by simp)
    · exact absurd h (by simp)
  · exact absurd hx (by decide)
def xc (cd : Jvm.ClassFile.Cond) (x y : Int32) : Bool := match cd with
  | .eq => decide (x = y)
  | .ne => decide (x = y)
  | .lt => decide (x < y)
  | .ge => decide (y ≤ x)
  | .gt => decide (y < x)
  | .le => decide (x ≤ y)
/-- which way a branch goes -/
def xb (e : rI) (c : rK) : Option Bool := match e.1, c with
  | .ifCond cd _, (_, _, .int x :: _, _, _, _) => some (xc cd x 0)
  | .if_icmp cd _, (_, _, .int y :: .int x :: _, _, _, _) => some (xc cd x y)
  | _, _ => none
theorem rbr_ok {cd : Jvm.ClassFile.Cond} {x y : Int32} {a b c1 c2 : rK} {p : Prop} (h : rbr cd x y a b = .inr (.inr (.inl (p, c1, c2)))) : p ↔ xc cd x y = true := by
  cases cd <;> (simp only [rbr, Sum.inr.injEq, Sum.inl.injEq, Prod.mk.injEq] at h; rw [← h.1]; simp only [xc, decide_eq_true_eq])
theorem xb_ok {ro : rQ} {MC MS : Nat} {e : rI} {c c1 c2 : rK} {p : Prop} {t : Bool} (h : rop ro MC MS e c = some (.inr (.inr (.inl (p, c1, c2))))) (hx : xb e c = some t) : p ↔ t = true := by
  obtain ⟨ins, aux, pos⟩ := e
  obtain ⟨pc, L, st, hh, k, z⟩ := c
  unfold xb at hx
  split at hx
  · rename_i h1 h2
    simp only at h1
    subst h1
    simp only [Prod.mk.injEq] at h2
    obtain ⟨-, -, rfl, rfl, -, -⟩ := h2
    have hx := Option.some.inj hx
    simp only [rop, rjump] at h
    split at h
    · have h := Option.some.inj h
      rw [← hx]
      exact rbr_ok h
    · exact absurd h (by simp)
  · rename_i h1 h2
    simp only at h1
    subst h1
    simp only [Prod.mk.injEq] at h2
    obtain ⟨-, -, rfl, rfl, -, -⟩ := h2
    have hx := Option.some.inj hx
    simp only [rop, rjump] at h
    split at h
    · have h := Option.some.inj h
      rw [← hx]
      exact rbr_ok h
    · exact absurd h (by simp)
  · exact absurd hx (by simp)
/-- a return that may be -/
def xq (e : rI) (c : rK) : Bool := match e.1, e.2.1, c with
  | .return_, [3], _ => true
  | .ireturn, [1], (_, _, .int x :: _, _, _, _) => decide (x = 0) || decide (x = 1)
  | _, _, _ => false
theorem xq_ok {ro : rQ} {MC MS : Nat} {e : rI} {c : rK} {g : Prop} {v : Option Value} {h' : rH} (h : rop ro MC MS e c = some (.inr (.inr (.inr (.inr (g, v, h')))))) (hx : xq e c = true) : g := by
  obtain ⟨ins, aux, pos⟩ := e
  obtain ⟨pc, L, st, hh, k, z⟩ := c
  unfold xq at hx
  split at hx
  · rename_i h1 h2
    simp only at h1 h2
    subst h1
    subst h2
    simp only [rop, rret, cond_eq_ite] at h
    split at h
    · split at h
      all_goals first
        | (exfalso; simp at h; done)
        | (simp only [Option.some.injEq, Sum.inr.injEq, Prod.mk.injEq] at h; rw [← h.1]; exact trivial)
        | (exfalso; simp_all; done)
    · exact absurd h (by simp)
  · rename_i h1 h2 h3
    simp only at h1 h2
    subst h1
    subst h2
    simp only [Prod.mk.injEq] at h3
    obtain ⟨-, -, rfl, rfl, -, -⟩ := h3
    simp only [rop, rret, cond_eq_ite] at h
    simp only [Bool.or_eq_true, decide_eq_true_eq] at hx
    split at h
    · split at h
      all_goals first
        | (exfalso; simp at h; done)
        | (simp only [Option.some.injEq, Sum.inr.injEq, Prod.mk.injEq] at h; rw [← h.1]; first | exact hx | exact trivial | (simp_all; done))
        | (exfalso; simp_all; done)
    · exact absurd h (by simp)
  · exact absurd hx (by decide)
abbrev xR : Type := rK ⊕ (Option Value × rH)
def xr : Nat → Nat → Nat → List (Nat × rI) → Nat → Nat → rK → Option xR
  | 0, _, _, _, _, _, _ => none
  | n + 1, d, stop, tb, MC, MS, c => bif Nat.beq c.1 stop then some (.inl c) else match rfind tb c.1 with
    | none => none
    | some e => bif xno e.1 then (match rop ro0 MC MS e c with
      | none => none
      | some (.inl c') => xr n d stop tb MC MS c'
      | some (.inr (.inl (_, c'))) => bif xg e c then xr n d stop tb MC MS c' else none
      | some (.inr (.inr (.inl (_, c1, c2)))) => (match xb e c with
        | some true => xr n d stop tb MC MS c1
        | some false => xr n d stop tb MC MS c2
        | none => none)
      | some (.inr (.inr (.inr (.inl ((f, mc, ms, As, h), kk))))) => (match d, pgm[f]? with
        | d' + 1, some q => bif As.all (fun v => match v with | .null => false | _ => true) && Nat.ble ((As.map (fun v => v.category)).sum) q.2.2.1 then (match xr n d' 999999 q.2.2.2.2 mc ms (0, rargs As q.2.2.1, [], h, 0, 0) with
          | some (.inr (v, h')) => xr n d stop tb MC MS (kk v h')
          | _ => none) else none
        | _, _ => none)
      | some (.inr (.inr (.inr (.inr (_, v, h))))) => bif xq e c then some (.inr (v, h)) else none) else none
def xF (ro : rQ) (d : Nat) (tb : List (Nat × rI)) (MC MS : Nat) (R : rR) (r : xR) : Prop := match r with
  | .inl c => rT ro (rM ro d) tb MC MS R c
  | .inr (v, h) => R v h
theorem xr_ok {ro : rQ} : ∀ (n d stop : Nat) (tb : List (Nat × rI)) (MC MS : Nat) (c : rK) (r : xR) (R : rR), xr n d stop tb MC MS c = some r → xF ro d tb MC MS R r → rT ro (rM ro d) tb MC MS R c
  | 0, d, stop, tb, MC, MS, c, r, R, h, _ => absurd h (by simp [xr])
  | n + 1, d, stop, tb, MC, MS, c, r, R, h, hF => by
    rw [xr] at h
    cases hs : Nat.beq c.1 stop with
    | true =>
      rw [hs, cond_true] at h
      have := Option.some.inj h
      subst this
      exact hF
    | false =>
      rw [hs, cond_false] at h
      cases hf : rfind tb c.1 with
      | none => rw [hf] at h; exact absurd h (by simp)
      | some e =>
        rw [hf] at h
        simp only at h
        cases hn : xno e.1 with
        | false => rw [hn, cond_false] at h; exact absurd h (by simp)
        | true =>
          rw [hn, cond_true] at h
          have hro := rop_ro (ro := ro) (MC := MC) (MS := MS) (c := c) hn
          rw [hro] at h
          refine rT_step (rM_mono ro d) ?_
          have hnx : rnext ro tb MC MS c = rop ro MC MS e c := by unfold rnext; rw [hf]
          rw [hnx]
          cases ho : rop ro MC MS e c with
          | none => rw [ho] at h; exact absurd h (by simp)
          | some o =>
            rw [ho] at h
            rcases o with c' | ⟨g, c'⟩ | ⟨b, c1, c2⟩ | ⟨⟨f, mc, ms, As, hh⟩, kk⟩ | ⟨g, v, hh⟩
            · exact xr_ok n d stop tb MC MS c' r R h hF
            · simp only at h
              cases hg : xg e c with
              | false => rw [hg, cond_false] at h; exact absurd h (by simp)
              | true =>
                rw [hg, cond_true] at h
                exact ⟨xg_ok ho hg, xr_ok n d stop tb MC MS c' r R h hF⟩
            · simp only at h
              cases hb : xb e c with
              | none => rw [hb] at h; exact absurd h (by simp)
              | some t =>
                have hbt := xb_ok ho hb
                rw [hb] at h
                cases t with
                | true => exact ⟨fun _ => xr_ok n d stop tb MC MS c1 r R h hF, fun q => absurd (hbt.mpr rfl) q⟩
                | false => exact ⟨fun q => absurd (hbt.mp q) (by decide), fun _ => xr_ok n d stop tb MC MS c2 r R h hF⟩
            · simp only at h
              cases d with
              | zero => exact absurd h (by simp)
              | succ d' =>
                cases hp : pgm[f]? with
                | none => rw [hp] at h; exact absurd h (by simp)
                | some q =>
                  rw [hp] at h
                  simp only at h
                  cases ha : (As.all (fun v => match v with | .null => false | _ => true) && Nat.ble ((As.map (fun v => v.category)).sum) q.2.2.1) with
                  | false => rw [ha, cond_false] at h; exact absurd h (by simp)
                  | true =>
                    rw [ha, cond_true] at h
                    cases hx : xr n d' 999999 q.2.2.2.2 mc ms (0, rargs As q.2.2.1, [], hh, 0, 0) with
                    | none => rw [hx] at h; exact absurd h (by simp)
                    | some r' =>
                      rw [hx] at h
                      rcases r' with c'' | ⟨v, h'⟩
                      · exact absurd h (by simp)
                      · show rM ro (d' + 1) f mc ms As hh _
                        unfold rM
                        rw [hp]
                        exact ⟨ha, xr_ok n d' 999999 _ mc ms _ _ _ hx (xr_ok n (d' + 1) stop tb MC MS _ r R h hF)⟩
            · simp only at h
              cases hq : xq e c with
              | false => rw [hq, cond_false] at h; exact absurd h (by simp)
              | true =>
                rw [hq, cond_true] at h
                have := Option.some.inj h
                subst this
                exact ⟨xq_ok ho hq, hF⟩
