/-! ===== THE SMALL MACHINE IS SOUND: what it comes to, the machine comes to ===== -/
def rtys (cA : Nat → ClassId) : List (ClassId × FieldType) := [(cA 0, .int), (cA 1, .long), (cA 2, .byte), (cA 3, .boolean), (cA 4, .object "LeastAlone$Table")]
abbrev rAA (base : Nat) : Nat → Prop := fun q => base ≤ q
def rv (ad : Nat → Nat) : Value → Value
  | .ref k => .ref (ad k)
  | v => v
theorem rv_cat (ad : Nat → Nat) (v : Value) : (rv ad v).category = v.category := by cases v <;> rfl
def rqf (ad : Nat → Nat) (fs : List Value) (k : Nat) : Option Nat := match fs[k]? with
  | some (.ref a) => some (ad a)
  | _ => none
def rce (ad : Nat → Nat) (cA : Nat → ClassId) : rE → va_E
  | .inl (t, a) => .inl (cA t, a)
  | .inr (100, fs) => .inl (cA 4, fs.length, .inr (.inr (.inr (.inr (rqf ad fs)))))
  | .inr (ci, fs) => .inr (ci, fs.map (rv ad))
def rws (ad : Nat → Nat) (cA : Nat → ClassId) (h : rH) : va_W := h.mapIdx (fun k e => (ad k, rce ad cA e))
theorem rws_get {ad : Nat → Nat} {cA : Nat → ClassId} {h : rH} {r : Nat} {e : rE} (he : h[r]? = some e) : (rws ad cA h)[r]? = some (ad r, rce ad cA e) := by
  rw [rws, List.getElem?_mapIdx, he]; rfl
theorem rws_set {ad : Nat → Nat} {cA : Nat → ClassId} {h : rH} {r : Nat} {e : rE} : rws ad cA (h.set r e) = (rws ad cA h).set r (ad r, rce ad cA e) := by
  apply List.ext_getElem?
  intro i
  rw [rws, List.getElem?_mapIdx, List.getElem?_set, List.getElem?_set, rws, List.getElem?_mapIdx, List.length_mapIdx]
  by_cases hi : r = i
  · subst hi
    by_cases hl : r < h.length <;> simp [hl]
  · simp [hi]
def rprs (ad : Nat → Nat) : Nat → List Value → List (Nat × Value)
  | _, [] => []
  | i, .null :: L => rprs ad (i + 1) L
  | i, v :: L => (i, rv ad v) :: rprs ad (i + 1) L
theorem rprs_mem (ad : Nat → Nat) : ∀ (L : List Value) (i : Nat) (q : Nat × Value), q ∈ rprs ad i L ↔ ∃ (k : Nat) (v : Value), L[k]? = some v ∧ v ≠ .null ∧ q.1 = i + k ∧ q.2 = rv ad v
  | [], i, q => by simp [rprs]
  | v :: L, i, q => by
    have ih := rprs_mem ad L (i + 1) q
    by_cases hv : v = .null
    · subst hv
      rw [show rprs ad i (.null :: L) = rprs ad (i + 1) L from rfl, ih]
      constructor
      · rintro ⟨k, v, h1, h2, h3, h4⟩
        exact ⟨k + 1, v, by simpa using h1, h2, by omega, h4⟩
      · rintro ⟨k, v, h1, h2, h3, h4⟩
        cases k with
        | zero => simp at h1; exact absurd h1.symm h2
        | succ k => exact ⟨k, v, by simpa using h1, h2, by omega, h4⟩
    · rw [show rprs ad i (v :: L) = (i, rv ad v) :: rprs ad (i + 1) L by cases v <;> first | rfl | exact absurd rfl hv, List.mem_cons, ih]
      constructor
      · rintro (h | ⟨k, w, h1, h2, h3, h4⟩)
        · subst h; exact ⟨0, v, rfl, hv, rfl, rfl⟩
        · exact ⟨k + 1, w, by simpa using h1, h2, by omega, h4⟩
      · rintro ⟨k, w, h1, h2, h3, h4⟩
        cases k with
        | zero =>
          simp at h1
          subst h1
          exact Or.inl (Prod.ext h3 h4)
        | succ k => exact Or.inr ⟨k, w, by simpa using h1, h2, by omega, h4⟩
theorem lv_has_sub {ls : Array Slot} {n : Nat} {l l' : List (Nat × Value)} (h : lv_has ls n l) (hs : ∀ q ∈ l', q ∈ l) : lv_has ls n l' := ⟨h.1, h.2.1, fun q hq => h.2.2 q (hs q hq)⟩
theorem rget_at {ad : Nat → Nat} {ls : Array Slot} {n i : Nat} {L : List Value} {v : Value} (h : lv_has ls n (rprs ad 0 L)) (hi : L[i]? = some v) (hv : v ≠ .null) : ls[i]? = some (.val (rv ad v)) :=
  h.2.2 (i, rv ad v) ((rprs_mem ad L 0 _).mpr ⟨i, v, hi, hv, by simp, rfl⟩)
theorem rcl_lt {L : List Value} {i : Nat} (h : rcl L i = true) : i < L.length := by
  simp only [rcl, Bool.and_eq_true] at h
  have h1 := h.1
  simp only [Nat.blt] at h1
  exact Nat.le_of_ble_eq_true h1
theorem rcl_cat {L : List Value} {j : Nat} (h : rcl L (j + 1) = true) {v : Value} (hv : L[j]? = some v) : v.category = 1 := by
  simp only [rcl, Bool.and_eq_true, hv] at h
  exact Nat.eq_of_beq_eq_true h.2
theorem rset_sub {ad : Nat → Nat} {L : List Value} {i : Nat} {x : Value} (hc : rcl L i = true) (hx : x ≠ .null) : ∀ q ∈ rprs ad 0 (L.set i x), q ∈ (i, rv ad x) :: (rprs ad 0 L).filter (fun q => !(q.1 == i) && !(q.1 + 1 == i && q.2.category == 2)) := by
  intro q hq
  obtain ⟨k, v, h1, h2, h3, h4⟩ := (rprs_mem ad _ 0 q).mp hq
  rw [Nat.zero_add] at h3
  by_cases hk : i = k
  · subst hk
    rw [List.getElem?_set_self (rcl_lt hc)] at h1
    cases h1
    exact List.mem_cons.mpr (Or.inl (Prod.ext h3 h4))
  · rw [List.getElem?_set_ne hk] at h1
    refine List.mem_cons.mpr (Or.inr (List.mem_filter.mpr ⟨(rprs_mem ad _ 0 q).mpr ⟨k, v, h1, h2, by omega, h4⟩, ?_⟩))
    have e1 : (q.1 == i) = false := by rw [h3]; simp; omega
    rw [e1]
    by_cases hj : k + 1 = i
    · subst hj
      have hcat := rcl_cat hc h1
      rw [h4, rv_cat, hcat]
      simp
    · have e2 : (q.1 + 1 == i) = false := by rw [h3]; simp; omega
      rw [e2]; rfl
theorem rsetL_sub {ad : Nat → Nat} {L : List Value} {i : Nat} {x : Int64} (hc : rcl L i = true) (hl : i + 1 < L.length) : ∀ q ∈ rprs ad 0 ((L.set i (.long x)).set (i + 1) .null), q ∈ (i, Value.long x) :: (rprs ad 0 L).filter (fun q => !(q.1 == i) && (!(q.1 == i + 1) && !(q.1 + 1 == i && q.2.category == 2))) := by
  intro q hq
  obtain ⟨k, v, h1, h2, h3, h4⟩ := (rprs_mem ad _ 0 q).mp hq
  rw [Nat.zero_add] at h3
  by_cases hk1 : i + 1 = k
  · subst hk1
    rw [List.getElem?_set_self (by rw [List.length_set]; exact hl)] at h1
    cases h1
    exact absurd rfl h2
  · rw [List.getElem?_set_ne hk1] at h1
    by_cases hk : i = k
    · subst hk
      rw [List.getElem?_set_self (rcl_lt hc)] at h1
      cases h1
      exact List.mem_cons.mpr (Or.inl (Prod.ext h3 h4))
    · rw [List.getElem?_set_ne hk] at h1
      refine List.mem_cons.mpr (Or.inr (List.mem_filter.mpr ⟨(rprs_mem ad _ 0 q).mpr ⟨k, v, h1, h2, by omega, h4⟩, ?_⟩))
      have e1 : (q.1 == i) = false := by rw [h3]; simp; omega
      have e3 : (q.1 == i + 1) = false := by rw [h3]; simp; omega
      rw [e1, e3]
      by_cases hj : k + 1 = i
      · subst hj
        have hcat := rcl_cat hc h1
        rw [h4, rv_cat, hcat]
        simp
      · have e2 : (q.1 + 1 == i) = false := by rw [h3]; simp; omega
        rw [e2]; rfl
theorem rfind_mem : ∀ {tb : List (Nat × rI)} {pc : Nat} {e : rI}, rfind tb pc = some e → (pc, e) ∈ tb
  | [], _, _, h => by cases h
  | q :: t, pc, e, h => by
    rw [rfind] at h
    cases hb : Nat.beq q.1 pc
    · rw [hb] at h
      exact List.mem_cons_of_mem _ (rfind_mem h)
    · rw [hb] at h
      have h1 := Nat.eq_of_beq_eq_true hb
      cases h
      subst h1
      exact List.mem_cons_self
theorem rpop_spec : ∀ {n : Nat} {st acc As rest : List Value}, rpop n st acc = some (As, rest) → ∃ Bs, As = Bs ++ acc ∧ Bs.length = n ∧ st = Bs.reverse ++ rest
  | 0, st, acc, As, rest, h => by cases h; exact ⟨[], rfl, rfl, rfl⟩
  | n + 1, [], acc, As, rest, h => by cases h
  | n + 1, v :: st, acc, As, rest, h => by
    obtain ⟨Bs, h1, h2, h3⟩ := rpop_spec (n := n) (st := st) (acc := v :: acc) h
    refine ⟨Bs ++ [v], ?_, ?_, ?_⟩
    · rw [h1]; simp
    · simp [h2]
    · rw [h3]; simp
theorem rargs_has (ad : Nat → Nat) : ∀ (vs : List Value) (n i : Nat), (∀ v ∈ vs, v ≠ .null) → (lg_sl (vs.map (rv ad))).length ≤ n → rprs ad i (rargs vs n) = lv_args i (vs.map (rv ad)) ∧ (rargs vs n).length = n
  | [], n, i, _, _ => by
    refine ⟨?_, by simp [rargs]⟩
    have key : ∀ (n i : Nat), rprs ad i (List.replicate n Value.null) = [] := by
      intro n
      induction n with
      | zero => intro i; rfl
      | succ n ih => intro i; rw [List.replicate_succ]; exact ih (i + 1)
    exact key n i
  | v :: vs, n, i, hv, hn => by
    have hv0 : v ≠ .null := hv v List.mem_cons_self
    have hvs : ∀ w ∈ vs, w ≠ .null := fun w hw => hv w (List.mem_cons_of_mem _ hw)
    by_cases hc : v.category = 2
    · have hs : (lg_sl ((v :: vs).map (rv ad))).length = 2 + (lg_sl (vs.map (rv ad))).length := by
        cases v <;> simp [Value.category] at hc <;> simp [lg_sl, rv, Value.category] <;> omega
      have ih := rargs_has ad vs (n - 2) (i + 2) hvs (by omega)
      rw [show rargs (v :: vs) n = v :: .null :: rargs vs (n - 2) by simp [rargs, hc]]
      refine ⟨?_, by simp [ih.2]; omega⟩
      rw [show rprs ad i (v :: .null :: rargs vs (n - 2)) = (i, rv ad v) :: rprs ad (i + 1 + 1) (rargs vs (n - 2)) by cases v <;> first | rfl | exact absurd rfl hv0, ih.1]
      rw [List.map_cons, lv_args, rv_cat, if_pos hc]
    · have hs : (lg_sl ((v :: vs).map (rv ad))).length = 1 + (lg_sl (vs.map (rv ad))).length := by
        cases v <;> simp [Value.category] at hc <;> simp [lg_sl, rv, Value.category] <;> omega
      have ih := rargs_has ad vs (n - 1) (i + 1) hvs (by omega)
      rw [show rargs (v :: vs) n = v :: rargs vs (n - 1) by simp [rargs, hc]]
      refine ⟨?_, by simp [ih.2]; omega⟩
      rw [show rprs ad i (v :: rargs vs (n - 1)) = (i, rv ad v) :: rprs ad (i + 1) (rargs vs (n - 1)) by cases v <;> first | rfl | exact absurd rfl hv0, ih.1]
      rw [List.map_cons, lv_args, rv_cat, if_neg hc]
