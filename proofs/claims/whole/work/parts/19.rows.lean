/-! ===== the small machine as rewrite rules: rU is rT of a method that makes nothing ===== -/
theorem rT_iff {ro : rQ} {call : rCall} (hm : rMon call) {tb : List (Nat × rI)} {MC MS : Nat} {R : rR} {c : rK} : rT ro call tb MC MS R c ↔ rstp call R (rnext ro tb MC MS c) (rT ro call tb MC MS R) :=
  ⟨fun h => h (fun c => rstp call R (rnext ro tb MC MS c) (rT ro call tb MC MS R)) (fun _ h => rstp_mono hm (fun _ _ h => h) (fun _ h => rT_step hm h) h), rT_step hm⟩
def rU (ro : rQ) (d : Nat) (tb : List (Nat × rI)) (R : rR) (pc : Nat) (L st : List Value) (h : rH) : Prop := rT ro (rM ro d) tb 0 0 R (pc, L, st, h, 0, 0)
theorem rU_iff {ro : rQ} {d : Nat} {tb : List (Nat × rI)} {R : rR} {pc : Nat} {L st : List Value} {h : rH} : rU ro d tb R pc L st h ↔ rstp (rM ro d) R (rnext ro tb 0 0 (pc, L, st, h, 0, 0)) (fun c => rT ro (rM ro d) tb 0 0 R c) := rT_iff (rM_mono ro d)
theorem rM_iff {ro : rQ} {d f : Nat} {As : List Value} {h : rH} {R : rR} {q : rP} (hq : pgm[f]? = some q) {L : List Value} (hL : ((As.all (fun v => match v with | .null => false | _ => true) && Nat.ble ((As.map (fun v => v.category)).sum) q.2.2.1), rargs As q.2.2.1) = (true, L)) : rM ro (d + 1) f 0 0 As h R ↔ rU ro d q.2.2.2.2 R 0 L [] h := by
  obtain ⟨h1, h2⟩ := Prod.mk.inj hL
  subst h2
  simp only [rM, hq]
  exact ⟨fun h => h.2, fun h => ⟨h1, h⟩⟩
def rAi (ro : rQ) (h : rH) (r : Nat) (i : Int32) (K : Int32 → Prop) : Prop := match rgetI ro h r with
  | some (n, f) => vp_in i n ∧ K (f i.toNatClampNeg)
  | none => False
def rAl (h : rH) (r : Nat) (i : Int32) (K : Int64 → Prop) : Prop := match h[r]? with
  | some (.inl (1, n, .inr (.inl f))) => vp_in i n ∧ K (f i.toNatClampNeg)
  | _ => False
def rAb (h : rH) (r : Nat) (i : Int32) (K : Int32 → Prop) : Prop := match h[r]? with
  | some (.inl (2, n, .inl f)) => vp_in i n ∧ K (f i.toNatClampNeg)
  | some (.inl (3, n, .inl f)) => vp_in i n ∧ K (f i.toNatClampNeg)
  | _ => False
def rAa (h : rH) (r : Nat) (i : Int32) (K : Nat → Prop) : Prop := match h[r]? with
  | some (.inr (100, fs)) => (match fs.getD i.toNatClampNeg .null with
    | .ref a => vp_in i fs.length ∧ K a
    | _ => False)
  | _ => False
def rSi (h : rH) (r : Nat) (i x : Int32) (K : rH → Prop) : Prop := match h[r]? with
  | some (.inl (0, n, .inl f)) => vp_in i n ∧ K (h.set r (.inl (0, n, .inl (upd f i.toNatClampNeg x))))
  | _ => False
def rSl (h : rH) (r : Nat) (i : Int32) (x : Int64) (K : rH → Prop) : Prop := match h[r]? with
  | some (.inl (1, n, .inr (.inl f))) => vp_in i n ∧ K (h.set r (.inl (1, n, .inr (.inl (vp_updL f i.toNatClampNeg x)))))
  | _ => False
def rSb (h : rH) (r : Nat) (i x : Int32) (K : rH → Prop) : Prop := match h[r]? with
  | some (.inl (2, n, .inl f)) => vp_in i n ∧ K (h.set r (.inl (2, n, .inl (upd f i.toNatClampNeg (vp_nar .byte x)))))
  | some (.inl (3, n, .inl f)) => vp_in i n ∧ K (h.set r (.inl (3, n, .inl (upd f i.toNatClampNeg (vp_nar .boolean x)))))
  | _ => False
def rLn (ro : rQ) (h : rH) (r : Nat) (K : Int32 → Prop) : Prop := match rgetI ro h r with
  | some (n, _) => K (nI n)
  | none => False
def rGf (h : rH) (r q : Nat) (cs : List Nat) (K : Value → Prop) : Prop := match h[r]? with
  | some (.inr (ci, fs)) => cs.contains ci = true ∧ (match fs[q]? with
    | some v => K v
    | none => False)
  | _ => False
def rPf (h : rH) (r : Nat) (aux : List Nat) (v : Value) (K : rH → Prop) : Prop := match aux, h[r]? with
  | q :: _ :: ty :: cs, some (.inr (ci, fs)) => (cs.contains ci && Nat.blt q fs.length) = true ∧ (match ty, v with
      | 3, .int x => (x = 0 ∨ x = 1) ∧ K (h.set r (.inr (ci, fs.set q v)))
      | 0, .int _ => K (h.set r (.inr (ci, fs.set q v)))
      | 1, .long _ => K (h.set r (.inr (ci, fs.set q v)))
      | 2, .ref _ => K (h.set r (.inr (ci, fs.set q v)))
      | _, _ => False)
  | _, _ => False
def rCp (h : rH) (b : Nat) (sp : Int32) (a : Nat) (dp n : Int32) (K : rH → Prop) : Prop := match h[b]?, h[a]? with
  | some (.inl (0, n0, .inl f)), some (.inl (0, n1, .inl g)) => (¬ sp < 0 ∧ ¬ dp < 0 ∧ ¬ n < 0 ∧ sp.toNatClampNeg + n.toNatClampNeg ≤ n0 ∧ dp.toNatClampNeg + n.toNatClampNeg ≤ n1) ∧ K (h.set a (.inl (0, n1, .inl (va_cpy f g sp.toNatClampNeg dp.toNatClampNeg n.toNatClampNeg))))
  | _, _ => False
def rVc (ro : rQ) (d : Nat) (ps : List Nat) (r : Nat) (As : List Value) (h : rH) (R : rR) : Prop := match h[r]? with
  | some (.inr (ci, _)) => (match rlook ps ci with
    | some f => rM ro d f 0 0 (.ref r :: As) h R
    | none => False)
  | _ => False
section UR
variable {ro : rQ} {d : Nat} {tb : List (Nat × rI)} {R : rR} {pc pc' : Nat} {L st : List Value} {h : rH} {r : Nat} {i x : Int32}
theorem u_ai (hn : rnext ro tb 0 0 (pc, L, .int i :: .ref r :: st, h, 0, 0) = raldI ro L (.int i :: .ref r :: st) h 0 0 pc') : rU ro d tb R pc L (.int i :: .ref r :: st) h ↔ rAi ro h r i (fun v => rU ro d tb R pc' L (.int v :: st) h) := by
  rw [rU_iff, hn]
  unfold raldI rAi
  simp only
  generalize rgetI ro h r = o
  rcases o with _ | ⟨n, f⟩ <;> exact Iff.rfl
theorem u_al (hn : rnext ro tb 0 0 (pc, L, .int i :: .ref r :: st, h, 0, 0) = raldL L (.int i :: .ref r :: st) h 0 0 pc') : rU ro d tb R pc L (.int i :: .ref r :: st) h ↔ rAl h r i (fun v => rU ro d tb R pc' L (.long v :: st) h) := by
  rw [rU_iff, hn]
  unfold raldL rAl
  simp only
  generalize h[r]? = o
  split
  · exact Iff.rfl
  · rename_i hx
    split
    · exact (hx _ _ rfl).elim
    · exact Iff.rfl
theorem u_ab (hn : rnext ro tb 0 0 (pc, L, .int i :: .ref r :: st, h, 0, 0) = raldB L (.int i :: .ref r :: st) h 0 0 pc') : rU ro d tb R pc L (.int i :: .ref r :: st) h ↔ rAb h r i (fun v => rU ro d tb R pc' L (.int v :: st) h) := by
  rw [rU_iff, hn]
  unfold raldB rAb
  simp only
  generalize h[r]? = o
  split
  · exact Iff.rfl
  · exact Iff.rfl
  · rename_i hx hy
    split
    · exact (hx _ _ rfl).elim
    · exact (hy _ _ rfl).elim
    · exact Iff.rfl
theorem u_aa (hn : rnext ro tb 0 0 (pc, L, .int i :: .ref r :: st, h, 0, 0) = raldA L (.int i :: .ref r :: st) h 0 0 pc') : rU ro d tb R pc L (.int i :: .ref r :: st) h ↔ rAa h r i (fun v => rU ro d tb R pc' L (.ref v :: st) h) := by
  rw [rU_iff, hn]
  unfold raldA rAa
  simp only
  generalize h[r]? = o
  split
  · rename_i fs
    change _ ↔ (match fs.getD i.toNatClampNeg .null with | .ref a => vp_in i fs.length ∧ rU ro d tb R pc' L (.ref a :: st) h | _ => False)
    generalize fs.getD i.toNatClampNeg .null = w
    cases w <;> exact Iff.rfl
  · rename_i hx
    split
    · exact (hx _ rfl).elim
    · exact Iff.rfl
theorem u_si (hn : rnext ro tb 0 0 (pc, L, .int x :: .int i :: .ref r :: st, h, 0, 0) = rastI L (.int x :: .int i :: .ref r :: st) h 0 0 pc') : rU ro d tb R pc L (.int x :: .int i :: .ref r :: st) h ↔ rSi h r i x (fun h => rU ro d tb R pc' L st h) := by
  rw [rU_iff, hn]
  unfold rastI rSi
  simp only
  generalize h[r]? = o
  split
  · exact Iff.rfl
  · rename_i hx
    split
    · exact (hx _ _ rfl).elim
    · exact Iff.rfl
theorem u_sl {x : Int64} (hn : rnext ro tb 0 0 (pc, L, .long x :: .int i :: .ref r :: st, h, 0, 0) = rastL L (.long x :: .int i :: .ref r :: st) h 0 0 pc') : rU ro d tb R pc L (.long x :: .int i :: .ref r :: st) h ↔ rSl h r i x (fun h => rU ro d tb R pc' L st h) := by
  rw [rU_iff, hn]
  unfold rastL rSl
  simp only
  generalize h[r]? = o
  split
  · exact Iff.rfl
  · rename_i hx
    split
    · exact (hx _ _ rfl).elim
    · exact Iff.rfl
theorem u_sb (hn : rnext ro tb 0 0 (pc, L, .int x :: .int i :: .ref r :: st, h, 0, 0) = rastB L (.int x :: .int i :: .ref r :: st) h 0 0 pc') : rU ro d tb R pc L (.int x :: .int i :: .ref r :: st) h ↔ rSb h r i x (fun h => rU ro d tb R pc' L st h) := by
  rw [rU_iff, hn]
  unfold rastB rSb
  simp only
  generalize h[r]? = o
  split
  · exact Iff.rfl
  · exact Iff.rfl
  · rename_i hx hy
    split
    · exact (hx _ _ rfl).elim
    · exact (hy _ _ rfl).elim
    · exact Iff.rfl
theorem u_ln (hn : rnext ro tb 0 0 (pc, L, .ref r :: st, h, 0, 0) = ralen ro L (.ref r :: st) h 0 0 pc') : rU ro d tb R pc L (.ref r :: st) h ↔ rLn ro h r (fun v => rU ro d tb R pc' L (.int v :: st) h) := by
  rw [rU_iff, hn]
  unfold ralen rLn
  simp only
  generalize rgetI ro h r = o
  rcases o with _ | ⟨n, f⟩ <;> exact Iff.rfl
theorem u_gf {q : Nat} {cs : List Nat} (hn : rnext ro tb 0 0 (pc, L, .ref r :: st, h, 0, 0) = rgetf (q :: cs) L (.ref r :: st) h 0 0 pc') : rU ro d tb R pc L (.ref r :: st) h ↔ rGf h r q cs (fun v => rU ro d tb R pc' L (v :: st) h) := by
  rw [rU_iff, hn]
  unfold rgetf rGf
  simp only
  generalize h[r]? = o
  rcases o with _ | (a | ⟨ci, fs⟩)
  · exact Iff.rfl
  · exact Iff.rfl
  · simp only
    cases hb : cs.contains ci
    · exact ⟨fun h => False.elim h, fun h => by cases h.1⟩
    · simp only [cond_true, true_and]
      generalize fs[q]? = w
      cases w <;> exact Iff.rfl
theorem u_pf {v : Value} {aux : List Nat} (hn : rnext ro tb 0 0 (pc, L, v :: .ref r :: st, h, 0, 0) = rputf aux L (v :: .ref r :: st) h 0 0 pc') : rU ro d tb R pc L (v :: .ref r :: st) h ↔ rPf h r aux v (fun h => rU ro d tb R pc' L st h) := by
  rw [rU_iff, hn]
  unfold rputf rPf
  rcases aux with _ | ⟨q, _ | ⟨fin, _ | ⟨ty, cs⟩⟩⟩
  · exact Iff.rfl
  · exact Iff.rfl
  · exact Iff.rfl
  · simp only
    generalize h[r]? = o
    rcases o with _ | (a | ⟨ci, fs⟩)
    · exact Iff.rfl
    · exact Iff.rfl
    · simp only
      cases hb : cs.contains ci && Nat.blt q fs.length
      · exact ⟨fun h => False.elim h, fun h => by cases h.1⟩
      · simp only [cond_true, true_and]
        rcases ty with _ | _ | _ | _ | ty <;> cases v <;> exact Iff.rfl
theorem u_cp {b a : Nat} {sp dp n : Int32} (hn : rnext ro tb 0 0 (pc, L, .int n :: .int dp :: .ref a :: .int sp :: .ref b :: st, h, 0, 0) = rcopy L (.int n :: .int dp :: .ref a :: .int sp :: .ref b :: st) h 0 0 pc') (hw : rwd st = true := by rfl) : rU ro d tb R pc L (.int n :: .int dp :: .ref a :: .int sp :: .ref b :: st) h ↔ rCp h b sp a dp n (fun h => rU ro d tb R pc' L st h) := by
  rw [rU_iff, hn]
  unfold rcopy rCp
  simp only
  generalize h[b]? = o1
  generalize h[a]? = o2
  split
  · rw [hw]; exact Iff.rfl
  · rename_i hx
    split
    · exact (hx _ _ _ _ rfl rfl).elim
    · exact Iff.rfl
theorem u_vc {As rest : List Value} {kd n : Nat} {ps : List Nat} {st0 : List Value} (hn : (rnext ro tb 0 0 (pc, L, st0, h, 0, 0), rpop n st0 []) = (rvirt 0 0 (kd :: n :: ps) L st0 h 0 0 pc', some (As, .ref r :: rest))) (hw : rwd rest = true := by rfl) : rU ro d tb R pc L st0 h ↔ rVc ro d ps r As h (fun v h => rU ro d tb R pc' L (v.toList ++ rest) h) := by
  obtain ⟨h1, h2⟩ := Prod.mk.inj hn
  rw [rU_iff, h1]
  unfold rvirt rVc
  simp only [h2]
  generalize ho : h[r]? = o
  rcases o with _ | (a | ⟨ci, fs⟩)
  · exact Iff.rfl
  · exact Iff.rfl
  · simp only
    generalize rlook ps ci = w
    rcases w with _ | f
    · exact Iff.rfl
    · simp only
      unfold rinv
      rw [hw]
      exact Iff.rfl
theorem u_st {i : Nat} (hn : rnext ro tb 0 0 (pc, L, .int x :: st, h, 0, 0) = rstore L (.int x :: st) h 0 0 pc' i) : rU ro d tb R pc L (.int x :: st) h ↔ rcl L i = true ∧ rU ro d tb R pc' (L.set i (.int x)) st h := by
  rw [rU_iff, hn]
  unfold rstore
  simp only
  cases rcl L i
  · exact ⟨fun h => False.elim h, fun h => by cases h.1⟩
  · exact ⟨fun h => ⟨rfl, h⟩, fun h => h.2⟩
theorem u_sta {i r : Nat} (hn : rnext ro tb 0 0 (pc, L, .ref r :: st, h, 0, 0) = rstoreA L (.ref r :: st) h 0 0 pc' i) : rU ro d tb R pc L (.ref r :: st) h ↔ rcl L i = true ∧ rU ro d tb R pc' (L.set i (.ref r)) st h := by
  rw [rU_iff, hn]
  unfold rstoreA
  simp only
  cases rcl L i
  · exact ⟨fun h => False.elim h, fun h => by cases h.1⟩
  · exact ⟨fun h => ⟨rfl, h⟩, fun h => h.2⟩
theorem u_stl {i : Nat} {x : Int64} (hn : rnext ro tb 0 0 (pc, L, .long x :: st, h, 0, 0) = rstoreL L (.long x :: st) h 0 0 pc' i) (hl : Nat.blt (i + 1) L.length = true := by rfl) : rU ro d tb R pc L (.long x :: st) h ↔ rcl L i = true ∧ rU ro d tb R pc' ((L.set i (.long x)).set (i + 1) .null) st h := by
  rw [rU_iff, hn]
  unfold rstoreL
  simp only
  rw [hl, Bool.and_true]
  cases rcl L i
  · exact ⟨fun h => False.elim h, fun h => by cases h.1⟩
  · exact ⟨fun h => ⟨rfl, h⟩, fun h => h.2⟩
theorem u_inc {i : Nat} {n : Int32} (hn : (rnext ro tb 0 0 (pc, L, st, h, 0, 0), L[i]?) = (rinc L st h 0 0 pc' i n, some (.int x))) : rU ro d tb R pc L st h ↔ rcl L i = true ∧ rU ro d tb R pc' (L.set i (.int (x + n))) st h := by
  obtain ⟨h1, h2⟩ := Prod.mk.inj hn
  rw [rU_iff, h1]
  unfold rinc
  rw [h2]
  simp only
  cases rcl L i
  · exact ⟨fun h => False.elim h, fun h => by cases h.1⟩
  · exact ⟨fun h => ⟨rfl, h⟩, fun h => h.2⟩
theorem u_ret {v : Option Value} (hn : rnext ro tb 0 0 (pc, L, st, h, 0, 0) = some (.inr (.inr (.inr (.inr (True, v, h)))))) : rU ro d tb R pc L st h ↔ R v h := by
  rw [rU_iff, hn]
  exact ⟨fun h => h.2, fun h => ⟨trivial, h⟩⟩
theorem u_retz {x : Int32} (hn : rnext ro tb 0 0 (pc, L, st, h, 0, 0) = some (.inr (.inr (.inr (.inr (x = 0 ∨ x = 1, some (.int x), h)))))) : rU ro d tb R pc L st h ↔ (x = 0 ∨ x = 1) ∧ R (some (.int x)) h := by
  rw [rU_iff, hn]
  exact Iff.rfl
end UR
