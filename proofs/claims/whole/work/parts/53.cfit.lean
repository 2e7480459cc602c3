/-! ===== the class: rows that fit ===== -/
def wsF (T : TS) (s : Nat → Nat) : Nat := winF T.2.2.1 T.2.1 (slB s T.1 0 zrB)
def sA (T : TS) (k : Nat) : Nat := (T.2.2.2.2.2.2 (3 * k + 1)).toNatClampNeg
def sX (T : TS) (k : Nat) : Nat := (T.2.2.2.2.2.2 (3 * k + 2)).toNatClampNeg
def sH (T : TS) (k : Nat) : Int32 := T.2.2.2.2.2.2 (3 * k)
abbrev seC (T : TS) (k : Nat) (s : Nat → Nat) : Prop := if sH T k = nI 2 then wsF T s = 0 else s (sA T k) = sX T k ∧ (sH T k = nI 1 ∨ wsF T s = sX T k)
def seeB (T : TS) (s : Nat → Nat) : Nat → Bool
  | 0 => true
  | k + 1 => seeB T s k && decide (seC T k s)
abbrev FST : Type := (Nat → Nat) × Option Nat × Bool
def bnS (S : FST) (a b : Nat) : FST := (updN S.1 a b, S.2.1, S.2.2 || (decide (S.1 a ≠ 0) && decide (S.1 a ≠ b)))
def dmS (S : FST) (q : Nat) : FST := (S.1, some q, S.2.2 || (decide (S.2.1 ≠ none) && decide (S.2.1 ≠ some q)))
def rdS (T : TS) : Nat → FST
  | 0 => (fun _ => 0, none, false)
  | k + 1 => if sH T k = nI 2 then dmS (rdS T k) 0 else if sH T k = nI 1 then bnS (rdS T k) (sA T k) (sX T k) else dmS (bnS (rdS T k) (sA T k) (sX T k)) (sX T k)
abbrev mok (mw : Option Nat) (q : Nat) : Prop := ∀ p, mw = some p → q = p
def fOK (n m : Nat) (S : FST) : Prop := (∀ j, S.1 j ≤ m) ∧ (∀ j, n ≤ j → S.1 j = 0) ∧ ∀ q, S.2.1 = some q → q ≤ m
def FP (T : TS) (S : FST) (s : Nat → Nat) : Prop := S.2.2 = false ∧ (∀ i, i < T.1 → S.1 i = 0 ∨ s i = S.1 i) ∧ mok S.2.1 (wsF T s)
theorem VS.sg {n m v si : Nat} {w fo : Nat → Nat} {st : Nat → Int32} (hV : VS (n, m, v, w, fo, si, st)) {k : Nat} (hk : k < si) : sH (n, m, v, w, fo, si, st) k = nI 2 ∨ ((sH (n, m, v, w, fo, si, st) k = nI 0 ∨ sH (n, m, v, w, fo, si, st) k = nI 1) ∧ sA (n, m, v, w, fo, si, st) k < n ∧ 1 ≤ sX (n, m, v, w, fo, si, st) k ∧ sX (n, m, v, w, fo, si, st) k ≤ m ∧ st (3 * k + 1) = nI (sA (n, m, v, w, fo, si, st) k) ∧ st (3 * k + 2) = nI (sX (n, m, v, w, fo, si, st) k)) := by
  have hn := hV.1
  have hm := hV.2.1
  rcases hV.2.2.2.2.2.2.2.2.2 k hk with h | ⟨h, a, b, h1, h2, h3, h4, h5⟩
  · exact Or.inl h
  · refine Or.inr ⟨h, ?_⟩
    have ha : sA (n, m, v, w, fo, si, st) k = a := by
      show (st (3 * k + 1)).toNatClampNeg = a
      rw [h4, nI_c (by omega)]
    have hx : sX (n, m, v, w, fo, si, st) k = b := by
      show (st (3 * k + 2)).toNatClampNeg = b
      rw [h5, nI_c (by omega)]
    rw [ha, hx]
    exact ⟨h1, h2, h3, h4, h5⟩
theorem bn_ok {n m a b : Nat} {S : FST} (h : fOK n m S) (ha : a < n) (hb : b ≤ m) : fOK n m (bnS S a b) := by
  refine ⟨fun j => ?_, fun j hj => ?_, h.2.2⟩
  · show updN S.1 a b j ≤ m
    unfold updN
    split
    · exact hb
    · exact h.1 j
  · show updN S.1 a b j = 0
    unfold updN
    rw [if_neg (by omega)]
    exact h.2.1 j hj
theorem dm_ok {n m q : Nat} {S : FST} (h : fOK n m S) (hq : q ≤ m) : fOK n m (dmS S q) := ⟨h.1, h.2.1, fun p hp => by have := Option.some.inj hp; omega⟩
theorem rd_ok {n m v si : Nat} {w fo : Nat → Nat} {st : Nat → Int32} (hV : VS (n, m, v, w, fo, si, st)) : ∀ k, k ≤ si → fOK n m (rdS (n, m, v, w, fo, si, st) k)
  | 0, _ => ⟨fun _ => Nat.zero_le _, fun _ _ => rfl, fun q hq => absurd hq (by simp [rdS])⟩
  | k + 1, hk => by
    have ih := rd_ok hV k (by omega)
    rw [rdS]
    rcases hV.sg (show k < si by omega) with h | ⟨h, h1, h2, h3, -⟩
    · rw [if_pos h]; exact dm_ok ih (Nat.zero_le _)
    · split
      · exact dm_ok ih (Nat.zero_le _)
      · split
        · exact bn_ok ih h1 h3
        · exact dm_ok (bn_ok ih h1 h3) h3
theorem bn_iff {T : TS} {S : FST} {a b : Nat} {s : Nat → Nat} (ha : a < T.1) (hb : 1 ≤ b) : FP T (bnS S a b) s ↔ (FP T S s ∧ s a = b) := by
  unfold FP bnS
  simp only [Bool.or_eq_false_iff, Bool.and_eq_false_imp, decide_eq_true_eq, decide_eq_false_iff_not, Decidable.not_not]
  constructor
  · rintro ⟨⟨h1, h2⟩, h3, h4⟩
    have hsa : s a = b := by
      have := h3 a ha
      unfold updN at this
      rw [if_pos rfl] at this
      omega
    refine ⟨⟨h1, fun i hi => ?_, h4⟩, hsa⟩
    by_cases e : i = a
    · subst e
      by_cases h0 : S.1 i = 0
      · exact Or.inl h0
      · exact Or.inr (by rw [hsa, h2 h0])
    · have := h3 i hi
      unfold updN at this
      rw [if_neg e] at this
      exact this
  · rintro ⟨⟨h1, h3, h4⟩, hsa⟩
    refine ⟨⟨h1, fun h0 => ?_⟩, fun i hi => ?_, h4⟩
    · have := (h3 a ha).resolve_left h0
      rw [← this, hsa]
    · unfold updN
      by_cases e : i = a
      · rw [if_pos e, e]; exact Or.inr hsa
      · rw [if_neg e]; exact h3 i hi
theorem dm_iff {T : TS} {S : FST} {q : Nat} {s : Nat → Nat} : FP T (dmS S q) s ↔ (FP T S s ∧ wsF T s = q) := by
  unfold FP dmS
  simp only [Bool.or_eq_false_iff, Bool.and_eq_false_imp, decide_eq_true_eq, decide_eq_false_iff_not, Decidable.not_not]
  constructor
  · rintro ⟨⟨h1, h2⟩, h3, h4⟩
    have hq := h4 q rfl
    refine ⟨⟨h1, h3, fun p hp => ?_⟩, hq⟩
    have := h2 (by rw [hp]; simp)
    rw [hp] at this
    rw [hq]
    exact (Option.some.inj this).symm
  · rintro ⟨⟨h1, h3, h4⟩, hq⟩
    refine ⟨⟨h1, fun h0 => ?_⟩, h3, fun p hp => by rw [hq]; exact Option.some.inj hp⟩
    cases hS : S.2.1 with
    | none => exact absurd hS h0
    | some p => rw [← hq, h4 p hS]
theorem see_iff {n m v si : Nat} {w fo : Nat → Nat} {st : Nat → Int32} (hV : VS (n, m, v, w, fo, si, st)) {s : Nat → Nat} : ∀ k, k ≤ si → (seeB (n, m, v, w, fo, si, st) s k = true ↔ FP (n, m, v, w, fo, si, st) (rdS (n, m, v, w, fo, si, st) k) s)
  | 0, _ => ⟨fun _ => ⟨rfl, fun _ _ => Or.inl rfl, fun p hp => absurd hp (by simp [rdS])⟩, fun _ => rfl⟩
  | k + 1, hk => by
    have ih := see_iff hV (s := s) k (by omega)
    rw [seeB, Bool.and_eq_true, ih, decide_eq_true_eq, rdS]
    unfold seC
    rcases hV.sg (show k < si by omega) with h | ⟨h, h1, h2, h3, -⟩
    · rw [if_pos h, if_pos h, dm_iff]
    · have hne : ¬ sH (n, m, v, w, fo, si, st) k = nI 2 := by rcases h with h | h <;> rw [h] <;> decide
      rw [if_neg hne, if_neg hne]
      rcases h with h | h
      · have hne1 : ¬ sH (n, m, v, w, fo, si, st) k = nI 1 := by rw [h]; decide
        rw [if_neg hne1, dm_iff, bn_iff h1 h2, and_assoc]
        exact ⟨fun q => ⟨q.1, q.2.1, q.2.2.resolve_left hne1⟩, fun q => ⟨q.1, q.2.1, Or.inr q.2.2⟩⟩
      · rw [if_pos h, bn_iff h1 h2]
        exact ⟨fun q => ⟨q.1, q.2.1⟩, fun q => ⟨q.1, q.2, Or.inl h⟩⟩
def oneF (j : Nat) : Nat := rTO.getD j 0
def gM (v m : Nat) (mw : Option Nat) (f : Nat → Int32) : Nat := match mw with
  | none => 1
  | some q => if winF v m f = q then 1 else 0
def rwN (T : TS) (S : FST) : Nat := if S.2.2 then 0 else FF oneF (gM T.2.2.1 T.2.1 S.2.1) T.2.1 1 (jnK (fun i => some (S.1 i)) T.1 0 0) (jnB (fun i => some (S.1 i)) T.1 0 zrB)
theorem one_1 : ∀ j, j < 7 → 1 ≤ j → oneF j = 1 := by decide +kernel
theorem one_sm : ∀ m, m < 7 → smF oneF m 1 = m := by decide +kernel
theorem suR_pos {h : Nat → Nat} : ∀ N, 0 < suR N h ↔ ∃ c, c < N ∧ 0 < h c
  | 0 => ⟨fun q => absurd q (Nat.lt_irrefl 0), fun ⟨c, hc, _⟩ => by omega⟩
  | N + 1 => by
    have ih := suR_pos (h := h) N
    rw [suR]
    constructor
    · intro q
      by_cases h0 : 0 < suR N h
      · obtain ⟨c, h1, h2⟩ := ih.mp h0
        exact ⟨c, by omega, h2⟩
      · exact ⟨N, Nat.lt_succ_self _, by omega⟩
    · rintro ⟨c, h1, h2⟩
      by_cases e : c = N
      · subst e; omega
      · have := ih.mpr ⟨c, by omega, h2⟩
        omega
theorem rwN_sum {T : TS} {S : FST} (hm : 1 ≤ T.2.1 ∧ T.2.1 ≤ 6) (hS : ∀ j, S.1 j ≤ T.2.1) (p : Nat → Bool) (hp : ∀ c, p c = true ↔ FP T S (rwC T.2.1 T.1 c)) : rwN T S = suR (T.2.1 ^ T.1) (fun c => if p c then 1 else 0) := by
  unfold rwN
  cases hc : S.2.2 with
  | true =>
    rw [if_pos rfl]
    have : ∀ M, suR M (fun c => if p c then 1 else 0) = 0 := by
      intro M
      induction M with
      | zero => rfl
      | succ M ih =>
        rw [suR, ih]
        have : p M = false := by
          cases hq : p M with
          | false => rfl
          | true => have := ((hp M).mp hq).1; rw [hc] at this; exact absurd this (by decide)
        rw [this]; rfl
    exact (this _).symm
  | false =>
    rw [if_neg (by decide), cnt_codes hm.1 (fun j h1 h2 => one_1 j (by omega) h1) hS T.1 0 zrB]
    refine suR_cg (fun c _ => ?_)
    have key : p c = true ↔ (okR S.1 0 T.1 (rwC T.2.1 T.1 c) ∧ mok S.2.1 (wsF T (rwC T.2.1 T.1 c))) := by
      rw [hp c]
      unfold FP
      constructor
      · rintro ⟨-, h1, h2⟩
        exact ⟨fun j hj => by rw [Nat.zero_add]; exact h1 j hj, h2⟩
      · rintro ⟨h1, h2⟩
        exact ⟨hc, fun j hj => by have := h1 j hj; rw [Nat.zero_add] at this; exact this, h2⟩
    have hg : gM T.2.2.1 T.2.1 S.2.1 (slB (rwC T.2.1 T.1 c) T.1 0 zrB) = if mok S.2.1 (wsF T (rwC T.2.1 T.1 c)) then 1 else 0 := by
      unfold gM mok wsF
      cases S.2.1 with
      | none => rw [if_pos (fun p hp => absurd hp (by simp))]
      | some q =>
        show (if winF T.2.2.1 T.2.1 (slB (rwC T.2.1 T.1 c) T.1 0 zrB) = q then 1 else 0) = _
        by_cases e : winF T.2.2.1 T.2.1 (slB (rwC T.2.1 T.1 c) T.1 0 zrB) = q
        · rw [if_pos e, if_pos (fun p hp => by rw [e]; exact Option.some.inj hp)]
        · rw [if_neg e, if_neg (fun h => e (h q rfl))]
    rw [hg]
    by_cases h1 : okR S.1 0 T.1 (rwC T.2.1 T.1 c)
    · rw [if_pos h1]
      by_cases h2 : mok S.2.1 (wsF T (rwC T.2.1 T.1 c))
      · rw [if_pos h2, if_pos (key.mpr ⟨h1, h2⟩)]
      · rw [if_neg h2, if_neg (fun q => h2 (key.mp q).2)]
    · rw [if_neg h1, if_neg (fun q => h1 (key.mp q).1)]
theorem rwN_pos {T : TS} {S : FST} (hm : 1 ≤ T.2.1 ∧ T.2.1 ≤ 6) (hS : ∀ j, S.1 j ≤ T.2.1) : 0 < rwN T S ↔ ∃ c, c < T.2.1 ^ T.1 ∧ FP T S (rwC T.2.1 T.1 c) := by
  have hd : ∀ c, ∃ b : Bool, b = true ↔ FP T S (rwC T.2.1 T.1 c) := fun c => (Classical.em (FP T S (rwC T.2.1 T.1 c))).elim (fun h => ⟨true, fun _ => h, fun _ => rfl⟩) (fun h => ⟨false, fun q => absurd q (by decide), fun q => absurd q h⟩)
  have hp : ∀ c, (Classical.choose (hd c)) = true ↔ FP T S (rwC T.2.1 T.1 c) := fun c => Classical.choose_spec (hd c)
  rw [rwN_sum hm hS (fun c => Classical.choose (hd c)) hp, suR_pos]
  constructor
  · rintro ⟨c, h1, h2⟩
    refine ⟨c, h1, (hp c).mp ?_⟩
    cases hq : Classical.choose (hd c) with
    | true => rfl
    | false => rw [hq] at h2; exact absurd h2 (by decide)
  · rintro ⟨c, h1, h2⟩
    exact ⟨c, h1, by rw [if_pos ((hp c).mpr h2)]; decide⟩
