/-! ===== rows of slips as codes ===== -/
def rwC (m r c j : Nat) : Nat := c / m ^ (r - 1 - j) % m + 1
def fsC (p : Nat → Bool) : Nat → Option Nat
  | 0 => none
  | c + 1 => match fsC p c with
    | some a => some a
    | none => if p c then some c else none
theorem fsC_no {p : Nat → Bool} : ∀ N, fsC p N = none → ∀ c, c < N → p c = false
  | 0, _, c, hc => by omega
  | N + 1, h, c, hc => by
    rw [fsC] at h
    cases hq : fsC p N with
    | some a => rw [hq] at h; exact absurd h (by simp)
    | none =>
      rw [hq] at h
      by_cases e : c = N
      · subst e
        cases hp : p c with
        | false => rfl
        | true => rw [hp] at h; exact absurd h (by simp)
      · exact fsC_no N hq c (by omega)
theorem fsC_yes {p : Nat → Bool} : ∀ N a, fsC p N = some a → a < N ∧ p a = true ∧ ∀ c, c < a → p c = false
  | 0, a, h => absurd h (by simp [fsC])
  | N + 1, a, h => by
    rw [fsC] at h
    cases hq : fsC p N with
    | some b =>
      rw [hq] at h
      have hb : b = a := Option.some.inj h
      subst hb
      obtain ⟨h1, h2⟩ := fsC_yes N b hq
      exact ⟨by omega, h2⟩
    | none =>
      rw [hq] at h
      cases hp : p N with
      | false => rw [hp] at h; exact absurd h (by simp)
      | true =>
        rw [hp] at h
        have : N = a := by simpa using h
        subst this
        exact ⟨Nat.lt_succ_self _, hp, fsC_no N hq⟩
theorem rwC_le {m r c j : Nat} (hm : 1 ≤ m) : 1 ≤ rwC m r c j ∧ rwC m r c j ≤ m := by
  have := Nat.mod_lt (c / m ^ (r - 1 - j)) (show 0 < m by omega)
  unfold rwC
  omega
theorem rwC_0 {m r c y : Nat} (hc : c < m ^ r) (hy : y < m) : rwC m (r + 1) (y * m ^ r + c) 0 = y + 1 := by
  unfold rwC
  rw [show r + 1 - 1 - 0 = r by omega, Nat.mul_comm, Nat.mul_add_div (by omega), Nat.div_eq_of_lt hc, show y + 0 = y from rfl, Nat.mod_eq_of_lt hy]
theorem rwC_s {m r c y j : Nat} (hm : 1 ≤ m) (hj : j < r) : rwC m (r + 1) (y * m ^ r + c) (j + 1) = rwC m r c j := by
  unfold rwC
  obtain ⟨e, he⟩ : ∃ e, r = e + 1 + j := ⟨r - 1 - j, by omega⟩
  subst he
  rw [show e + 1 + j + 1 - 1 - (j + 1) = e by omega, show e + 1 + j - 1 - j = e by omega, show e + 1 + j = e + (j + 1) by omega, Nat.pow_add, ← Nat.mul_assoc, Nat.mul_comm y, Nat.mul_assoc, Nat.mul_add_div (Nat.pow_pos (by omega)), Nat.pow_succ, ← Nat.mul_assoc, Nat.mul_add_mod_self_right]
theorem suR_split {h : Nat → Nat} {K : Nat} : ∀ m, suR (m * K) h = suR m (fun y => suR K (fun c => h (y * K + c)))
  | 0 => by rw [Nat.zero_mul]; rfl
  | m + 1 => by
    have ha : ∀ b, suR (m * K + b) h = suR (m * K) h + suR b (fun c => h (m * K + c)) := by
      intro b
      induction b with
      | zero => rw [Nat.add_zero]; rfl
      | succ b ih => rw [← Nat.add_assoc, suR, ih, suR, Nat.add_assoc]
    rw [Nat.add_mul, Nat.one_mul, ha, suR_split m, suR]
theorem suR_smF {h : Nat → Nat} : ∀ m x, suR m (fun y => h (y + x)) = smF h m x
  | 0, _ => rfl
  | m + 1, x => by
    rw [suR_shift, smF, Nat.zero_add, ← suR_smF m (x + 1)]
    congr 1
    exact suR_cg (fun i _ => by rw [show i + 1 + x = i + (x + 1) by omega])
theorem ad1_cm {b : Nat → Int32} (x y : Nat) : ad1 (ad1 b x 1) y 1 = ad1 (ad1 b y 1) x 1 := by
  by_cases h : x = y
  · rw [h]
  · exact ad1_comm b 1 1 h
theorem jnB_ad {q : Nat → Option Nat} {y : Nat} : ∀ r i b, jnB q r i (ad1 b y 1) = ad1 (jnB q r i b) y 1
  | 0, _, _ => rfl
  | r + 1, i, b => by
    rw [jnB, jnB]
    cases q i with
    | none => exact jnB_ad r (i + 1) b
    | some z =>
      cases z with
      | zero => exact jnB_ad r (i + 1) b
      | succ z =>
        show jnB q r (i + 1) (ad1 (ad1 b y 1) (z + 1) 1) = ad1 (jnB q r (i + 1) (ad1 b (z + 1) 1)) y 1
        rw [ad1_cm, jnB_ad r (i + 1)]
theorem jnK_ad {q : Nat → Option Nat} : ∀ r i k, jnK q r i (k + 1) = jnK q r i k + 1
  | 0, _, _ => rfl
  | r + 1, i, k => by
    rw [jnK, jnK]
    cases q i with
    | none => exact jnK_ad r (i + 1) k
    | some z =>
      cases z with
      | zero => exact jnK_ad r (i + 1) (k + 1)
      | succ z => exact jnK_ad r (i + 1) k
abbrev okR (bd : Nat → Nat) (i r : Nat) (s : Nat → Nat) : Prop := ∀ j, j < r → bd (i + j) = 0 ∨ s j = bd (i + j)
theorem slB_sh {s s' : Nat → Nat} : ∀ r i b, (∀ j, s (i + j) = s' j) → slB s r i b = slB s' r 0 b := by
  have key : ∀ r i k b (s s' : Nat → Nat), (∀ j, s (i + j) = s' (k + j)) → slB s r i b = slB s' r k b := by
    intro r
    induction r with
    | zero => intro i k b s s' _; rfl
    | succ r ih =>
      intro i k b s s' h
      rw [slB, slB, show s i = s' k from h 0]
      exact ih (i + 1) (k + 1) _ s s' (fun j => by have := h (1 + j); rw [show i + 1 + j = i + (1 + j) by omega, show k + 1 + j = k + (1 + j) by omega]; exact this)
  intro r i b h
  exact key r i 0 b s s' (fun j => by rw [Nat.zero_add]; exact h j)
theorem cnt_codes {w bd : Nat → Nat} {g : (Nat → Int32) → Nat} {m : Nat} (hm : 1 ≤ m) (hw : ∀ j, 1 ≤ j → j ≤ m → w j = 1) (hbd : ∀ j, bd j ≤ m) : ∀ r i b, FF w g m 1 (jnK (fun i => some (bd i)) r i 0) (jnB (fun i => some (bd i)) r i b) = suR (m ^ r) (fun c => if okR bd i r (rwC m r c) then g (slB (rwC m r c) r 0 b) else 0)
  | 0, i, b => by
    rw [Nat.pow_zero, suR, suR, Nat.zero_add, if_pos (fun j hj => absurd hj (by omega))]
    rfl
  | r + 1, i, b => by
    rw [Nat.pow_succ, Nat.mul_comm, suR_split m, jnK, jnB]
    have hstep : ∀ y c, y < m → c < m ^ r → (if okR bd i (r + 1) (rwC m (r + 1) (y * m ^ r + c)) then g (slB (rwC m (r + 1) (y * m ^ r + c)) (r + 1) 0 b) else 0) = if bd i = 0 ∨ y + 1 = bd i then (if okR bd (i + 1) r (rwC m r c) then g (slB (rwC m r c) r 0 (ad1 b (y + 1) 1)) else 0) else 0 := by
      intro y c hy hc
      have hok : okR bd i (r + 1) (rwC m (r + 1) (y * m ^ r + c)) ↔ ((bd i = 0 ∨ y + 1 = bd i) ∧ okR bd (i + 1) r (rwC m r c)) := by
        constructor
        · intro h
          refine ⟨by have := h 0 (by omega); rw [rwC_0 hc hy, Nat.add_zero] at this; exact this, fun j hj => ?_⟩
          have := h (j + 1) (by omega)
          rw [rwC_s hm hj, show i + (j + 1) = i + 1 + j by omega] at this
          exact this
        · rintro ⟨h1, h2⟩ j hj
          cases j with
          | zero => rw [rwC_0 hc hy]; exact h1
          | succ j =>
            rw [rwC_s hm (by omega), show i + (j + 1) = i + 1 + j by omega]
            exact h2 j (by omega)
      have hsl : slB (rwC m (r + 1) (y * m ^ r + c)) (r + 1) 0 b = slB (rwC m r c) r 0 (ad1 b (y + 1) 1) := by
        rw [slB, rwC_0 hc hy]
        have h1 : slB (rwC m (r + 1) (y * m ^ r + c)) r (0 + 1) (ad1 b (y + 1) 1) = slB (fun j => rwC m (r + 1) (y * m ^ r + c) (j + 1)) r 0 (ad1 b (y + 1) 1) := slB_sh r 1 _ (fun j => by rw [Nat.add_comm 1 j])
        rw [h1]
        exact slB_cg r 0 _ (fun j _ h2 => rwC_s hm (by omega))
      by_cases h1 : bd i = 0 ∨ y + 1 = bd i
      · rw [if_pos h1]
        by_cases h2 : okR bd (i + 1) r (rwC m r c)
        · rw [if_pos h2, if_pos (hok.mpr ⟨h1, h2⟩), hsl]
        · rw [if_neg h2, if_neg (fun q => h2 (hok.mp q).2)]
      · rw [if_neg h1, if_neg (fun q => h1 (hok.mp q).1)]
    rw [suR_cg (fun y hy => suR_cg (fun c hc => hstep y c hy hc))]
    cases hb : bd i with
    | zero =>
      show FF w g m 1 (jnK (fun i => some (bd i)) r (i + 1) (0 + 1)) (jnB (fun i => some (bd i)) r (i + 1) b) = _
      rw [jnK_ad, FF, ← suR_smF]
      refine suR_cg (fun y hy => ?_)
      rw [hw (y + 1) (by omega) (by omega), Nat.one_mul, ← jnB_ad, cnt_codes hm hw hbd r (i + 1)]
      refine suR_cg (fun c _ => ?_)
      rw [if_pos (Or.inl rfl)]
    | succ z =>
      show FF w g m 1 (jnK (fun i => some (bd i)) r (i + 1) 0) (jnB (fun i => some (bd i)) r (i + 1) (ad1 b (z + 1) 1)) = _
      rw [cnt_codes hm hw hbd r (i + 1)]
      have hz := hbd i
      have hone : ∀ (F : Nat → Nat), suR m (fun y => if y = z then F y else 0) = F z := by
        intro F
        have : ∀ M, suR M (fun y => if y = z then F y else 0) = if z < M then F z else 0 := by
          intro M
          induction M with
          | zero => rfl
          | succ M ih =>
            rw [suR, ih]
            by_cases h1 : z < M
            · rw [if_pos h1, if_neg (by omega), if_pos (by omega)]; rfl
            · by_cases h2 : M = z
              · rw [if_neg h1, if_pos h2, if_pos (by omega), h2, Nat.zero_add]
              · rw [if_neg h1, if_neg h2, if_neg (by omega)]
        rw [this, if_pos (by omega)]
      rw [← hone (fun y => suR (m ^ r) (fun c => if okR bd (i + 1) r (rwC m r c) then g (slB (rwC m r c) r 0 (ad1 b (y + 1) 1)) else 0))]
      refine suR_cg (fun y _ => ?_)
      by_cases e : y = z
      · rw [if_pos e]
        exact suR_cg (fun c _ => by rw [if_pos (Or.inr (by omega))])
      · rw [if_neg e]
        have : ∀ M, suR M (fun c => if z + 1 = 0 ∨ y + 1 = z + 1 then (if okR bd (i + 1) r (rwC m r c) then g (slB (rwC m r c) r 0 (ad1 b (y + 1) 1)) else 0) else 0) = 0 := by
          intro M
          induction M with
          | zero => rfl
          | succ M ih => rw [suR, ih, if_neg (by omega)]
        exact (this _).symm
