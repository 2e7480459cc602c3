/-! ===== late ones: rows as codes, and who wins in the end ===== -/
def wnC (v m n c : Nat) : Nat := winF v m (slB (rwC m n c) n 0 zrB)
/-- the row in the end: r men still to write, i wrote already, their row has the code p -/
def ldC (v m n : Nat) (fo : Nat → Nat) : Nat → Nat → Nat → Nat
  | 0, _, p => p
  | r + 1, i, p => ldC v m n fo r (i + 1) (p * m + (coF fo m i (fun y => wnC v m n (ldC v m n fo r (i + 1) (p * m + (y - 1)))) - 1))
theorem pm_div {m p y : Nat} (hy : 1 ≤ y ∧ y ≤ m) : (p * m + (y - 1)) / m = p ∧ (p * m + (y - 1)) % m = y - 1 := by
  rw [Nat.mul_comm]
  refine ⟨?_, ?_⟩
  · rw [Nat.mul_add_div (by omega), Nat.div_eq_of_lt (by omega), Nat.add_zero]
  · rw [Nat.mul_add_mod, Nat.mod_eq_of_lt (by omega)]
theorem pm_lt {m p y i : Nat} (hy : 1 ≤ y ∧ y ≤ m) (hp : p < m ^ i) : p * m + (y - 1) < m ^ (i + 1) := by
  rw [Nat.pow_succ]
  have : (p + 1) * m ≤ m ^ i * m := Nat.mul_le_mul_right _ hp
  rw [Nat.add_mul, Nat.one_mul] at this
  omega
theorem ld_div {v m n : Nat} {fo : Nat → Nat} (hm : 1 ≤ m) (hf : ∀ j, fo j ≤ m) : ∀ r i p, i + r = n → p < m ^ i → ldC v m n fo r i p < m ^ n ∧ ldC v m n fo r i p / m ^ r = p
  | 0, i, p, hi, hp => by
    have : i = n := by omega
    subst this
    rw [ldC, Nat.pow_zero, Nat.div_one]
    exact ⟨hp, rfl⟩
  | r + 1, i, p, hi, hp => by
    rw [ldC]
    have hy := coF_le (fo := fo) (m := m) (i := i) (g := fun y => wnC v m n (ldC v m n fo r (i + 1) (p * m + (y - 1)))) hm (hf i)
    obtain ⟨h1, h2⟩ := ld_div (v := v) (n := n) hm hf r (i + 1) _ (by omega) (pm_lt hy hp)
    refine ⟨h1, ?_⟩
    rw [Nat.pow_succ, ← Nat.div_div_eq_div_mul, h2]
    exact (pm_div hy).1
theorem rwC_up {m i p y k : Nat} (hy : 1 ≤ y ∧ y ≤ m) (hk : k < i) : rwC m (i + 1) (p * m + (y - 1)) k = rwC m i p k := by
  unfold rwC
  rw [show i + 1 - 1 - k = (i - 1 - k) + 1 by omega, Nat.pow_succ, Nat.mul_comm (m ^ (i - 1 - k)), ← Nat.div_div_eq_div_mul, (pm_div hy).1]
theorem rwC_at {m i p y : Nat} (hy : 1 ≤ y ∧ y ≤ m) : rwC m (i + 1) (p * m + (y - 1)) i = y := by
  unfold rwC
  rw [show i + 1 - 1 - i = 0 by omega, Nat.pow_zero, Nat.div_one, (pm_div hy).2]
  omega
theorem rwC_dv {m n i c k : Nat} (hi : i ≤ n) (hk : k < i) : rwC m n c k = rwC m i (c / m ^ (n - i)) k := by
  unfold rwC
  rw [Nat.div_div_eq_div_mul, ← Nat.pow_add, show n - i + (i - 1 - k) = n - 1 - k by omega]
theorem cnQ_cg {q q' : Nat → Nat} {j : Nat} : ∀ i, (∀ k, k < i → q k = q' k) → cnQ q i j = cnQ q' i j
  | 0, _ => rfl
  | i + 1, h => by rw [cnQ, cnQ, cnQ_cg i (fun k hk => h k (by omega)), h i (Nat.lt_succ_self _)]
def cnR (s : Nat → Nat) : Nat → Nat → Nat → Nat
  | 0, _, _ => 0
  | r + 1, i, j => (if s i = j then 1 else 0) + cnR s r (i + 1) j
theorem cnR_last {s : Nat → Nat} {j : Nat} : ∀ r i, cnR s (r + 1) i j = cnR s r i j + if s (i + r) = j then 1 else 0
  | 0, i => by rw [cnR, cnR, cnR, Nat.add_zero, Nat.add_zero, Nat.zero_add]
  | r + 1, i => by
    rw [cnR, cnR_last r (i + 1), cnR, show i + 1 + r = i + (r + 1) by omega]
    omega
theorem cnR_Q {s : Nat → Nat} {j : Nat} : ∀ r, cnR s r 0 j = cnQ s r j
  | 0 => rfl
  | r + 1 => by rw [cnR_last, cnR_Q r, cnQ, Nat.zero_add]
theorem sl_at {s : Nat → Nat} {j : Nat} : ∀ r i (b : Nat → Int32), slB s r i b j = b j + nI (cnR s r i j)
  | 0, i, b => by rw [slB, cnR, nI_0, Int32.add_zero]
  | r + 1, i, b => by
    rw [slB, sl_at r, cnR]
    unfold ad1 upd
    by_cases e : j = s i
    · rw [if_pos e, if_pos e.symm, ← nI_add, ← e, Int32.add_assoc]
    · rw [if_neg e, if_neg (fun h => e h.symm), Nat.zero_add]
theorem sl_cn {s : Nat → Nat} {n j : Nat} : slB s n 0 zrB j = nI (cnQ s n j) := by
  rw [sl_at, cnR_Q]
  unfold zrB
  rw [nI_add, Nat.zero_add]
theorem cn_up {m i p y j : Nat} (hy : 1 ≤ y ∧ y ≤ m) : cnQ (rwC m (i + 1) (p * m + (y - 1))) (i + 1) j = bmp (cnQ (rwC m i p) i) y j := by
  rw [cnQ, rwC_at hy, cnQ_cg i (fun k hk => rwC_up hy hk)]
  unfold bmp updN
  by_cases e : j = y
  · rw [if_pos e, if_pos e.symm, e]
  · rw [if_neg e, if_neg (fun h => e h.symm), Nat.add_zero]
theorem wn_cn {v m n c : Nat} : wnC v m n c = winF v m (fbF (cnQ (rwC m n c) n)) := by
  unfold wnC
  exact winF_cg (fun j _ _ => sl_cn)
theorem coF_cg {fo : Nat → Nat} {m i : Nat} {g g' : Nat → Nat} (h : ∀ y, 1 ≤ y → y ≤ m → g y = g' y) : coF fo m i g = coF fo m i g' := by
  unfold coF
  rw [pkF_cg m 1 (fun j h1 h2 => h j h1 (by omega))]
theorem ld_en {v m n : Nat} {fo : Nat → Nat} (hm : 1 ≤ m) (hf : ∀ j, fo j ≤ m) : ∀ r i p, i + r = n → p < m ^ i → wnC v m n (ldC v m n fo r i p) = enF v m fo r i (cnQ (rwC m i p) i)
  | 0, i, p, hi, hp => by
    have : i = n := by omega
    subst this
    rw [ldC, enF]
    exact wn_cn
  | r + 1, i, p, hi, hp => by
    rw [ldC, enF]
    have hc : coF fo m i (fun y => wnC v m n (ldC v m n fo r (i + 1) (p * m + (y - 1)))) = coF fo m i (fun y => enF v m fo r (i + 1) (bmp (cnQ (rwC m i p) i) y)) := coF_cg (fun y h1 h2 => by
      rw [ld_en hm hf r (i + 1) _ (by omega) (pm_lt ⟨h1, h2⟩ hp)]
      exact enF_cg _ _ _ _ (fun j _ _ => cn_up ⟨h1, h2⟩))
    rw [hc]
    have hy := coF_le (fo := fo) (m := m) (i := i) (g := fun y => enF v m fo r (i + 1) (bmp (cnQ (rwC m i p) i) y)) hm (hf i)
    rw [ld_en hm hf r (i + 1) _ (by omega) (pm_lt hy hp)]
    exact enF_cg _ _ _ _ (fun j _ _ => cn_up hy)
def laP (T : TS) : Nat → Nat
  | 0 => 0
  | i + 1 => laP T i * T.2.1 + (laS T i - 1)
theorem la_all {n m v si : Nat} {w fo : Nat → Nat} {st : Nat → Int32} (hV : VS (n, m, v, w, fo, si, st)) : ∀ i, i ≤ n → laP (n, m, v, w, fo, si, st) i < m ^ i ∧ (∀ k, k < i → rwC m i (laP (n, m, v, w, fo, si, st) i) k = laS (n, m, v, w, fo, si, st) k) ∧ (∀ j, laF (n, m, v, w, fo, si, st) i j = cnQ (rwC m i (laP (n, m, v, w, fo, si, st) i)) i j) ∧ ldC v m n fo n 0 0 = ldC v m n fo (n - i) i (laP (n, m, v, w, fo, si, st) i)
  | 0, _ => ⟨Nat.one_pos, fun k hk => absurd hk (by omega), fun j => rfl, rfl⟩
  | i + 1, hi => by
    obtain ⟨h1, h2, h3, h4⟩ := la_all hV i (by omega)
    have hm := hV.2.1
    have hf := hV.2.2.2.2.2.2.2.1
    have hy : 1 ≤ laS (n, m, v, w, fo, si, st) i ∧ laS (n, m, v, w, fo, si, st) i ≤ m := laS_le hV i
    have hP : laP (n, m, v, w, fo, si, st) (i + 1) = laP (n, m, v, w, fo, si, st) i * m + (laS (n, m, v, w, fo, si, st) i - 1) := rfl
    refine ⟨?_, fun k hk => ?_, fun j => ?_, ?_⟩
    · rw [hP]; exact pm_lt hy h1
    · rw [hP]
      by_cases e : k = i
      · rw [e, rwC_at hy]
      · rw [rwC_up hy (by omega)]; exact h2 k (by omega)
    · rw [hP, cn_up hy]
      show bmp (laF (n, m, v, w, fo, si, st) i) (laS (n, m, v, w, fo, si, st) i) j = _
      rw [funext h3]
    · rw [h4, show n - i = (n - (i + 1)) + 1 by omega, ldC, hP]
      have hc : coF fo m i (fun y => wnC v m n (ldC v m n fo (n - (i + 1)) (i + 1) (laP (n, m, v, w, fo, si, st) i * m + (y - 1)))) = laS (n, m, v, w, fo, si, st) i := by
        show _ = coF fo m i (fun y => enF v m fo (n - 1 - i) (i + 1) (bmp (laF (n, m, v, w, fo, si, st) i) y))
        refine coF_cg (fun y k1 k2 => ?_)
        rw [ld_en (by omega) hf _ _ _ (by omega) (pm_lt ⟨k1, k2⟩ h1), show n - 1 - i = n - (i + 1) by omega]
        refine enF_cg _ _ _ _ (fun j _ _ => ?_)
        rw [cn_up ⟨k1, k2⟩, funext h3]
      rw [hc]
theorem nthF_at {t : Int32} {f : Nat → Int32} : ∀ r x k, nthF t f r x k ≠ 0 → f (nthF t f r x k) = t
  | 0, x, k, h => absurd rfl h
  | r + 1, x, k, h => by
    rw [nthF] at h ⊢
    split
    · rename_i hx
      rw [if_pos hx] at h
      split
      · exact hx
      · rename_i hk
        rw [if_neg hk] at h
        exact nthF_at r (x + 1) (k - 1) h
    · rename_i hx
      rw [if_neg hx] at h
      exact nthF_at r (x + 1) k h
theorem winF_at {v m : Nat} {f : Nat → Int32} (h : winF v m f ≠ 0) : f (winF v m f) = nI (tmF v) := by
  unfold winF at h ⊢
  by_cases h0 : cntF (nI (tmF v)) f m 1 = 0
  · rw [if_pos h0] at h; exact absurd rfl h
  · rw [if_neg h0] at h ⊢
    exact nthF_at _ _ _ h
theorem cnQ_le {q : Nat → Nat} {j : Nat} : ∀ i, cnQ q i j ≤ i
  | 0 => Nat.le_refl _
  | i + 1 => by have := cnQ_le (q := q) (j := j) i; rw [cnQ]; split <;> omega
theorem cnQ_ex {q : Nat → Nat} {j : Nat} : ∀ i, 0 < cnQ q i j → ∃ k, k < i ∧ q k = j
  | 0, h => absurd h (Nat.lt_irrefl 0)
  | i + 1, h => by
    rw [cnQ] at h
    by_cases e : q i = j
    · exact ⟨i, Nat.lt_succ_self _, e⟩
    · rw [if_neg e, Nat.add_zero] at h
      obtain ⟨k, h1, h2⟩ := cnQ_ex i h
      exact ⟨k, by omega, h2⟩
theorem win_ex {v m n : Nat} {s : Nat → Nat} (hn : n ≤ 6) (h : winF v m (slB s n 0 zrB) ≠ 0) : ∃ k, k < n ∧ s k = winF v m (slB s n 0 zrB) := by
  have h1 := winF_at h
  rw [sl_cn] at h1
  have h2 := cnQ_le (q := s) (j := winF v m (slB s n 0 zrB)) n
  have h3 := tm_le v
  have h4 := (sI_eq (by omega) (by omega)).mp h1
  exact cnQ_ex n (by omega)
theorem orS_ne {p : Nat → Bool} {n k : Nat} (hn : n ≤ 6) (hk : k < n) (hp : p k = true) : ¬ orS p n 0 (nI 0) = 0 := by
  intro h
  have h1 := or_step (p := p) (q := p) (y0 := k) (fun y => by
    by_cases e : y = k
    · rw [e, hp]; rfl
    · have : (y == k) = false := by simpa using e
      rw [this, Bool.or_false]) n 0 (nI 0) (by omega) (by omega)
  rw [h, Int32.zero_or] at h1
  have key : ∀ k, k < 6 → ¬ (0 : Int32) = sh1 k := by decide
  exact key k (by omega) h1
