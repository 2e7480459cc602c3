/-! ===== the class: who wins ===== -/
theorem rTW_id : ∀ v, v < 4 → ∀ K, K < 8 → rTW.getD (v * 8 + K) 0 = (if K = 0 then 0 else idF v K + 1) ∧ rTW.getD (v * 8 + K) 0 < 10 := by decide +kernel
theorem sI_lt0 {a : Nat} (ha : a < 100000) : (nI a < 0) ↔ False := by
  constructor
  · intro h; exact absurd h (nI_pos (by omega))
  · exact False.elim
section CW
variable {ro : rQ} {LL : Nat} {xs : Nat → Int32} {d : Nat} {R : rR} {c : Nat → rE} {h : rH} {n m v r k x : Nat} {w fo fl : Nat → Nat} {b f : Nat → Int32}
theorem sp_X9_writersToWin (hv : v ≤ 3) (hk : R (some (.int (nI (tmF v)))) h) : rM ro (d + 1) 88 0 0 [.int (nI v)] h R := by
  rw [en_X9_writersToWin]
  simp only [s_X9_writersToWin_0, s_X9_writersToWin_1, s_X9_writersToWin_2, s_X9_writersToWin_5, s_X9_writersToWin_6, s_X9_writersToWin_9, s_X9_writersToWin_10, sI_eq (show v < 100000 by omega) (show 3 < 100000 by decide)]
  refine ⟨fun h3 => ?_, fun h3 => ?_⟩
  · rw [tmF, if_pos h3] at hk; exact hk
  · rw [tmF, if_neg h3] at hk; exact hk
theorem sp_X9_numbersWritten {t : Int32} (hf : rgetI ro h r = some (7, f)) (hm : m ≤ 6) (hk : R (some (.int (nI (cntF t f m 1)))) h) : rM ro (d + 1) 89 0 0 [.int t, .ref r, .int (nI m)] h R := by
  rw [en_X9_numbersWritten]
  simp only [s_X9_numbersWritten_0, s_X9_numbersWritten_1, s_X9_numbersWritten_2, s_X9_numbersWritten_3, s_X9_numbersWritten_7, s_X9_numbersWritten_8, s_X9_numbersWritten_11, s_X9_numbersWritten_13, s_X9_numbersWritten_14, s_X9_numbersWritten_15, s_X9_numbersWritten_18, s_X9_numbersWritten_19, s_X9_numbersWritten_21, s_X9_numbersWritten_22, s_X9_numbersWritten_23, s_X9_numbersWritten_26, s_X9_numbersWritten_29, s_X9_numbersWritten_32, s_X9_numbersWritten_35, s_X9_numbersWritten_36]
  refine ⟨rfl, rfl, ?_⟩
  have lp : ∀ rem x a, x + rem = m + 1 → 1 ≤ x → a + cntF t f rem x = cntF t f m 1 → rU ro d tb_X9_numbersWritten R 5 [.int t, .ref r, .int (nI m), .int (nI a), .int (nI x)] [] h := by
    intro rem
    induction rem with
    | zero =>
      intro x a hx h1 ha
      have : x = m + 1 := by omega
      subst this
      rw [cntF, Nat.add_zero] at ha
      rw [s_X9_numbersWritten_5]
      simp only [s_X9_numbersWritten_0, s_X9_numbersWritten_1, s_X9_numbersWritten_2, s_X9_numbersWritten_3, s_X9_numbersWritten_7, s_X9_numbersWritten_8, s_X9_numbersWritten_11, s_X9_numbersWritten_13, s_X9_numbersWritten_14, s_X9_numbersWritten_15, s_X9_numbersWritten_18, s_X9_numbersWritten_19, s_X9_numbersWritten_21, s_X9_numbersWritten_22, s_X9_numbersWritten_23, s_X9_numbersWritten_26, s_X9_numbersWritten_29, s_X9_numbersWritten_32, s_X9_numbersWritten_35, s_X9_numbersWritten_36]
      exact ⟨fun _ => by rw [ha]; exact hk, fun hc => absurd ((sI_lt (by omega) (by omega)).mpr (Nat.lt_succ_self m)) hc⟩
    | succ rem ih =>
      intro x a hx h1 ha
      rw [cntF, ← Nat.add_assoc] at ha
      rw [s_X9_numbersWritten_5]
      simp only [s_X9_numbersWritten_0, s_X9_numbersWritten_1, s_X9_numbersWritten_2, s_X9_numbersWritten_3, s_X9_numbersWritten_7, s_X9_numbersWritten_8, s_X9_numbersWritten_11, s_X9_numbersWritten_13, s_X9_numbersWritten_14, s_X9_numbersWritten_15, s_X9_numbersWritten_18, s_X9_numbersWritten_19, s_X9_numbersWritten_21, s_X9_numbersWritten_22, s_X9_numbersWritten_23, s_X9_numbersWritten_26, s_X9_numbersWritten_29, s_X9_numbersWritten_32, s_X9_numbersWritten_35, s_X9_numbersWritten_36, ln_g hf, ai_g hf, sI_lt (show m < 100000 by omega) (show x < 100000 by omega), sI_le (show 7 < 100000 by decide) (show x < 100000 by omega), nI_c (show x < 100000 by omega), nI_add]
      refine ⟨fun hc => absurd hc (by omega), fun _ => ⟨fun hc => absurd hc (by omega), fun _ => ⟨vp_n (by omega) (by decide), fun hc => ⟨rfl, rfl, ?_⟩, fun hc => ⟨rfl, ?_⟩⟩⟩⟩
      · rw [if_pos hc] at ha
        exact ih (x + 1) _ (by omega) (by omega) ha
      · rw [if_neg hc] at ha
        exact ih (x + 1) _ (by omega) (by omega) ha
  exact lp m 1 0 (by omega) (by omega) (Nat.zero_add _)
theorem sp_X9_winning (hv : v ≤ 3) (hk8 : k < 8) (hk : R (some (.int (nI (if k = 0 then 0 else idF v k + 1)))) h) : rM (rRo LL xs) (d + 1) 91 0 0 [.int (nI v), .int (nI k)] h R := by
  rw [en_X9_winning]
  have hw := rTW_id v (by omega) k hk8
  have hg : rgetI (rRo LL xs) h 1000000 = some (32, fun k => nI (rTW.getD k 0)) := rfl
  simp only [s_X9_winning_0, s_X9_winning_1, s_X9_winning_4, s_X9_winning_5, s_X9_winning_6, s_X9_winning_9, s_X9_winning_10, s_X9_winning_13, s_X9_winning_14, s_X9_winning_16, s_X9_winning_19, s_X9_winning_20, s_X9_winning_21, s_X9_winning_24, s_X9_winning_25, s_X9_winning_27, s_X9_winning_28, s_X9_winning_29, s_X9_winning_30, s_X9_winning_31, sI_lt0 (show v < 100000 by omega), sI_lt0 (show k < 100000 by omega), sI_lt (show 3 < 100000 by decide) (show v < 100000 by omega), sI_lt (show k < 100000 by omega) (show 8 < 100000 by decide), ai_g hg, nI_mul, nI_add, nI_c (show v * 8 + k < 100000 by omega), hw.1]
  exact ⟨False.elim, fun _ => ⟨fun hc => absurd hc (by omega), fun _ => ⟨False.elim, fun _ => ⟨fun _ => ⟨vp_n (by omega) (by decide), hk⟩, fun hc => absurd hk8 hc⟩⟩⟩⟩
theorem lp_X9_winner {t : Int32} (hf : rgetI ro h r = some (7, f)) (hm : m ≤ 6) : ∀ rem x q, x + rem = m + 1 → 1 ≤ x → q < 100 → (q = 0 → cntF t f rem x = 0) → R (some (.int (nI (if q = 0 then 0 else nthF t f rem x (q - 1))))) h →
    rU ro d tb_X9_winner R 20 [.int (nI v), .ref r, .int (nI m), .int t, .int (nI q), .int (nI x)] [] h := by
  intro rem
  induction rem with
  | zero =>
    intro x q hx h1 hq h0 hk
    have : x = m + 1 := by omega
    subst this
    rw [s_X9_winner_20]
    simp only [s_X9_winner_0, s_X9_winner_1, s_X9_winner_4, s_X9_winner_5, s_X9_winner_6, s_X9_winner_7, s_X9_winner_8, s_X9_winner_9, s_X9_winner_12, s_X9_winner_15, s_X9_winner_17, s_X9_winner_18, s_X9_winner_22, s_X9_winner_23, s_X9_winner_26, s_X9_winner_28, s_X9_winner_29, s_X9_winner_30, s_X9_winner_33, s_X9_winner_34, s_X9_winner_36, s_X9_winner_37, s_X9_winner_38, s_X9_winner_41, s_X9_winner_44, s_X9_winner_46, s_X9_winner_49, s_X9_winner_51, s_X9_winner_52, s_X9_winner_55, s_X9_winner_58, s_X9_winner_59]
    refine ⟨fun _ => ?_, fun hc => absurd ((sI_lt (by omega) (by omega)).mpr (Nat.lt_succ_self m)) hc⟩
    have e0 : (if q = 0 then 0 else nthF t f 0 (m + 1) (q - 1)) = 0 := by split <;> rfl
    rw [e0] at hk
    exact hk
  | succ rem ih =>
    intro x q hx h1 hq h0 hk
    rw [cntF] at h0
    rw [nthF] at hk
    rw [s_X9_winner_20]
    simp only [s_X9_winner_0, s_X9_winner_1, s_X9_winner_4, s_X9_winner_5, s_X9_winner_6, s_X9_winner_7, s_X9_winner_8, s_X9_winner_9, s_X9_winner_12, s_X9_winner_15, s_X9_winner_17, s_X9_winner_18, s_X9_winner_22, s_X9_winner_23, s_X9_winner_26, s_X9_winner_28, s_X9_winner_29, s_X9_winner_30, s_X9_winner_33, s_X9_winner_34, s_X9_winner_36, s_X9_winner_37, s_X9_winner_38, s_X9_winner_41, s_X9_winner_44, s_X9_winner_46, s_X9_winner_49, s_X9_winner_51, s_X9_winner_52, s_X9_winner_55, s_X9_winner_58, s_X9_winner_59, ln_g hf, ai_g hf, sI_lt (show m < 100000 by omega) (show x < 100000 by omega), sI_le (show 7 < 100000 by decide) (show x < 100000 by omega), nI_c (show x < 100000 by omega), nI_add]
    refine ⟨fun hc => absurd hc (by omega), fun _ => ⟨fun hc => absurd hc (by omega), fun _ => ⟨vp_n (by omega) (by decide), fun hc => ⟨rfl, fun hz => ?_, fun hz => ⟨rfl, ?_⟩⟩, fun hc => ⟨rfl, ?_⟩⟩⟩⟩
    · have hq0 : q ≠ 0 := fun e => by have := h0 e; rw [if_pos hc] at this; omega
      rw [sI_m1 q (by omega)] at hz
      have hz : q - 1 = 0 := (sI_eq (by omega) (by decide)).mp (hz.trans nI_0.symm)
      rw [if_neg hq0, if_pos hc, if_pos hz] at hk
      exact hk
    · have hq0 : q ≠ 0 := fun e => by have := h0 e; rw [if_pos hc] at this; omega
      rw [sI_m1 q (by omega)] at hz ⊢
      have hz : q - 1 ≠ 0 := fun e => hz (by rw [e]; exact nI_0)
      rw [if_neg hq0, if_pos hc, if_neg hz] at hk
      exact ih (x + 1) (q - 1) (by omega) (by omega) (by omega) (fun e => absurd e hz) (by rw [if_neg hz]; exact hk)
    · refine ih (x + 1) q (by omega) (by omega) hq (fun e => by have := h0 e; rw [if_neg hc] at this; omega) ?_
      rw [if_neg hc] at hk
      exact hk
theorem sp_X9_winner (hf : rgetI (rRo LL xs) h r = some (7, f)) (hm : m ≤ 6) (hv : v ≤ 3) (hk : R (some (.int (nI (winF v m f)))) h) : rM (rRo LL xs) (d + 2) 90 0 0 [.int (nI v), .ref r, .int (nI m)] h R := by
  rw [en_X9_winner]
  have hcl := cntF_le (t := nI (tmF v)) (f := f) m 1
  simp only [s_X9_winner_0, s_X9_winner_1, s_X9_winner_4, s_X9_winner_5, s_X9_winner_6, s_X9_winner_7, s_X9_winner_8, s_X9_winner_9, s_X9_winner_12, s_X9_winner_15, s_X9_winner_17, s_X9_winner_18, s_X9_winner_22, s_X9_winner_23, s_X9_winner_26, s_X9_winner_28, s_X9_winner_29, s_X9_winner_30, s_X9_winner_33, s_X9_winner_34, s_X9_winner_36, s_X9_winner_37, s_X9_winner_38, s_X9_winner_41, s_X9_winner_44, s_X9_winner_46, s_X9_winner_49, s_X9_winner_51, s_X9_winner_52, s_X9_winner_55, s_X9_winner_58, s_X9_winner_59]
  refine sp_X9_writersToWin hv ?_
  simp only [Option.toList_some, Option.toList_none, List.cons_append, List.nil_append, Option.toList, s_X9_winner_0, s_X9_winner_1, s_X9_winner_4, s_X9_winner_5, s_X9_winner_6, s_X9_winner_7, s_X9_winner_8, s_X9_winner_9, s_X9_winner_12, s_X9_winner_15, s_X9_winner_17, s_X9_winner_18, s_X9_winner_22, s_X9_winner_23, s_X9_winner_26, s_X9_winner_28, s_X9_winner_29, s_X9_winner_30, s_X9_winner_33, s_X9_winner_34, s_X9_winner_36, s_X9_winner_37, s_X9_winner_38, s_X9_winner_41, s_X9_winner_44, s_X9_winner_46, s_X9_winner_49, s_X9_winner_51, s_X9_winner_52, s_X9_winner_55, s_X9_winner_58, s_X9_winner_59]
  refine ⟨rfl, sp_X9_numbersWritten hf hm ?_⟩
  simp only [Option.toList_some, Option.toList_none, List.cons_append, List.nil_append, Option.toList, s_X9_winner_0, s_X9_winner_1, s_X9_winner_4, s_X9_winner_5, s_X9_winner_6, s_X9_winner_7, s_X9_winner_8, s_X9_winner_9, s_X9_winner_12, s_X9_winner_15, s_X9_winner_17, s_X9_winner_18, s_X9_winner_22, s_X9_winner_23, s_X9_winner_26, s_X9_winner_28, s_X9_winner_29, s_X9_winner_30, s_X9_winner_33, s_X9_winner_34, s_X9_winner_36, s_X9_winner_37, s_X9_winner_38, s_X9_winner_41, s_X9_winner_44, s_X9_winner_46, s_X9_winner_49, s_X9_winner_51, s_X9_winner_52, s_X9_winner_55, s_X9_winner_58, s_X9_winner_59]
  refine sp_X9_winning hv (by omega) ?_
  simp only [Option.toList_some, Option.toList_none, List.cons_append, List.nil_append, Option.toList, s_X9_winner_0, s_X9_winner_1, s_X9_winner_4, s_X9_winner_5, s_X9_winner_6, s_X9_winner_7, s_X9_winner_8, s_X9_winner_9, s_X9_winner_12, s_X9_winner_15, s_X9_winner_17, s_X9_winner_18, s_X9_winner_22, s_X9_winner_23, s_X9_winner_26, s_X9_winner_28, s_X9_winner_29, s_X9_winner_30, s_X9_winner_33, s_X9_winner_34, s_X9_winner_36, s_X9_winner_37, s_X9_winner_38, s_X9_winner_41, s_X9_winner_44, s_X9_winner_46, s_X9_winner_49, s_X9_winner_51, s_X9_winner_52, s_X9_winner_55, s_X9_winner_58, s_X9_winner_59]
  refine ⟨rfl, rfl, lp_X9_winner hf hm m 1 _ (by omega) (by omega) ?_ ?_ ?_⟩
  · split
    · decide
    · unfold idF; split; omega; split <;> omega
  · intro e
    split at e
    · rename_i h0; exact h0
    · cases e
  · rw [winF] at hk
    by_cases h0 : cntF (nI (tmF v)) f m 1 = 0
    · rw [if_pos h0] at hk
      rw [if_pos h0, if_pos rfl]
      exact hk
    · rw [if_neg h0] at hk
      rw [if_neg h0, if_neg (by omega), Nat.add_sub_cancel]
      exact hk
theorem sp_X9_winner' (hr : isI c r 7 f) (hr7 : r < 70) (hm : m ≤ 6) (hv : v ≤ 3) (hk : R (some (.int (nI (winF v m f)))) (tab c)) : rM (rRo LL xs) (d + 2) 90 0 0 [.int (nI v), .ref r, .int (nI m)] (tab c) R := by
  obtain ⟨g, h1, h2⟩ := hr
  refine sp_X9_winner (gI_o h1 hr7) hm hv ?_
  rw [winF_cg (g := f) (fun j _ hj => h2 j (by omega))]
  exact hk
theorem sp_X9_power {b : Int64} {k : Nat} {h : rH} (hkk : k < 100000) (hk : R (some (.long (pwL b k))) h) : rM ro (d + 1) 85 0 0 [.long b, .int (nI k)] h R := by
  rw [en_X9_power]
  simp only [s_X9_power_0, s_X9_power_1, s_X9_power_2, s_X9_power_3, s_X9_power_7, s_X9_power_8, s_X9_power_11, s_X9_power_12, s_X9_power_13, s_X9_power_14, s_X9_power_15, s_X9_power_18, s_X9_power_21, s_X9_power_22]
  refine ⟨rfl, rfl, ?_⟩
  have lp : ∀ rem i, i + rem = k → rU ro d tb_X9_power R 5 [.long b, .null, .int (nI k), .long (pwL b i), .null, .int (nI i)] [] h := by
    intro rem
    induction rem with
    | zero =>
      intro i hi
      have : i = k := by omega
      subst this
      rw [s_X9_power_5]
      simp only [s_X9_power_0, s_X9_power_1, s_X9_power_2, s_X9_power_3, s_X9_power_7, s_X9_power_8, s_X9_power_11, s_X9_power_12, s_X9_power_13, s_X9_power_14, s_X9_power_15, s_X9_power_18, s_X9_power_21, s_X9_power_22]
      exact ⟨fun _ => hk, fun hc => absurd ((sI_le hkk hkk).mpr (Nat.le_refl _)) hc⟩
    | succ rem ih =>
      intro i hi
      rw [s_X9_power_5]
      simp only [s_X9_power_0, s_X9_power_1, s_X9_power_2, s_X9_power_3, s_X9_power_7, s_X9_power_8, s_X9_power_11, s_X9_power_12, s_X9_power_13, s_X9_power_14, s_X9_power_15, s_X9_power_18, s_X9_power_21, s_X9_power_22, nI_add, sI_le hkk (show i < 100000 by omega)]
      exact ⟨fun hc => absurd hc (by omega), fun _ => ⟨rfl, rfl, ih (i + 1) (by omega)⟩⟩
  exact lp k 0 (by omega)
/-- Euclid's steps: two of them halve -/
def euS : Nat → Nat → Nat → Nat
  | 0, x, _ => x
  | s + 1, x, y => if y = 0 then x else euS s y (x % y)
theorem euS_gcd : ∀ s f x y, y < 2 ^ s → 2 * s + 1 ≤ f → euS f x y = Nat.gcd x y
  | 0, f, x, y, h, hf => by
    have : y = 0 := by omega
    subst this
    obtain ⟨e, rfl⟩ : ∃ e, f = e + 1 := ⟨f - 1, by omega⟩
    rw [euS, if_pos rfl, Nat.gcd_zero_right]
  | s + 1, f, x, y, h, hf => by
    obtain ⟨e, rfl⟩ : ∃ e, f = e + 1 + 1 := ⟨f - 2, by omega⟩
    rw [euS]
    by_cases hy : y = 0
    · rw [if_pos hy, hy, Nat.gcd_zero_right]
    · rw [if_neg hy, euS]
      have h1 := Nat.mod_lt x (show 0 < y by omega)
      have g1 : Nat.gcd x y = Nat.gcd y (x % y) := by rw [Nat.gcd_comm x y, Nat.gcd_rec y x, Nat.gcd_comm]
      by_cases hz : x % y = 0
      · rw [if_pos hz, g1, hz, Nat.gcd_zero_right]
      · rw [if_neg hz]
        have h2 := Nat.mod_lt y (show 0 < x % y by omega)
        have h3 : 2 * (y % (x % y)) < y + 1 := by
          have := Nat.div_add_mod y (x % y)
          have hd : 1 ≤ y / (x % y) := (Nat.one_le_div_iff (by omega)).mpr (by omega)
          have := Nat.mul_le_mul_left (x % y) hd
          omega
        have g2 : Nat.gcd y (x % y) = Nat.gcd (x % y) (y % (x % y)) := by rw [Nat.gcd_comm y (x % y), Nat.gcd_rec (x % y) y, Nat.gcd_comm]
        rw [g1, g2]
        refine euS_gcd s e _ _ ?_ (by omega)
        have : 2 ^ (s + 1) = 2 * 2 ^ s := by rw [Nat.pow_succ, Nat.mul_comm]
        omega
theorem sp_X9_commonDivisor {u lo : Nat} {h : rH} (hu : u < 2 ^ 62) (hl : lo < 2 ^ 62) (hk : R (some (.long (lN (Nat.gcd u lo)))) h) : rM ro (d + 1) 87 0 0 [.long (lN u), .long (lN lo)] h R := by
  rw [en_X9_commonDivisor]
  simp only [s_X9_commonDivisor_0, s_X9_commonDivisor_1, s_X9_commonDivisor_3, s_X9_commonDivisor_4, s_X9_commonDivisor_6, s_X9_commonDivisor_7, s_X9_commonDivisor_11, s_X9_commonDivisor_14, s_X9_commonDivisor_17, s_X9_commonDivisor_19, s_X9_commonDivisor_20, s_X9_commonDivisor_21, s_X9_commonDivisor_24, s_X9_commonDivisor_26, s_X9_commonDivisor_28, s_X9_commonDivisor_29, s_X9_commonDivisor_31, s_X9_commonDivisor_33, s_X9_commonDivisor_35, s_X9_commonDivisor_37, s_X9_commonDivisor_39, s_X9_commonDivisor_42, s_X9_commonDivisor_45, s_X9_commonDivisor_47]
  refine ⟨rfl, rfl, rfl, ?_⟩
  have lp : ∀ rem i x y (g9 g10 : Value), i + rem = 200 → x < 2 ^ 62 → y < 2 ^ 62 → euS rem x y = Nat.gcd u lo → rU ro d tb_X9_commonDivisor R 9 [.long (lN u), .null, .long (lN lo), .null, .long (lN x), .null, .long (lN y), .null, .int (nI i), g9, g10] [] h := by
    intro rem
    induction rem with
    | zero =>
      intro i x y g9 g10 hi hx hy he
      have : i = 200 := by omega
      subst this
      rw [euS] at he
      rw [s_X9_commonDivisor_9]
      simp only [s_X9_commonDivisor_0, s_X9_commonDivisor_1, s_X9_commonDivisor_3, s_X9_commonDivisor_4, s_X9_commonDivisor_6, s_X9_commonDivisor_7, s_X9_commonDivisor_11, s_X9_commonDivisor_14, s_X9_commonDivisor_17, s_X9_commonDivisor_19, s_X9_commonDivisor_20, s_X9_commonDivisor_21, s_X9_commonDivisor_24, s_X9_commonDivisor_26, s_X9_commonDivisor_28, s_X9_commonDivisor_29, s_X9_commonDivisor_31, s_X9_commonDivisor_33, s_X9_commonDivisor_35, s_X9_commonDivisor_37, s_X9_commonDivisor_39, s_X9_commonDivisor_42, s_X9_commonDivisor_45, s_X9_commonDivisor_47]
      exact ⟨fun _ => by rw [he]; exact hk, fun hc => absurd ((sI_le (by decide) (by decide)).mpr (Nat.le_refl _)) hc⟩
    | succ rem ih =>
      intro i x y g9 g10 hi hx hy he
      rw [euS] at he
      rw [s_X9_commonDivisor_9]
      simp only [s_X9_commonDivisor_0, s_X9_commonDivisor_1, s_X9_commonDivisor_3, s_X9_commonDivisor_4, s_X9_commonDivisor_6, s_X9_commonDivisor_7, s_X9_commonDivisor_11, s_X9_commonDivisor_14, s_X9_commonDivisor_17, s_X9_commonDivisor_19, s_X9_commonDivisor_20, s_X9_commonDivisor_21, s_X9_commonDivisor_24, s_X9_commonDivisor_26, s_X9_commonDivisor_28, s_X9_commonDivisor_29, s_X9_commonDivisor_31, s_X9_commonDivisor_33, s_X9_commonDivisor_35, s_X9_commonDivisor_37, s_X9_commonDivisor_39, s_X9_commonDivisor_42, s_X9_commonDivisor_45, s_X9_commonDivisor_47, sI_le (show 200 < 100000 by decide) (show i < 100000 by omega), lcmp0 hy, lN_ne hy, nI_add]
      refine ⟨fun hc => absurd hc (by omega), fun _ => ⟨fun hz => ?_, fun hz => ⟨hz, rfl, rfl, rfl, rfl, ?_⟩⟩⟩
      · rw [if_pos hz] at he
        rw [he]; exact hk
      · rw [if_neg hz] at he
        rw [lN_rem hx hy]
        have hlt := Nat.mod_lt x (show 0 < y by omega)
        exact ih (i + 1) y (x % y) _ _ (by omega) hy (by omega) he
  refine lp 200 0 u lo _ _ (by omega) hu hl ?_
  exact euS_gcd 62 200 u lo hl (by decide)
theorem sp_X9_lowest {u lo : Nat} {pt : Int32} {h : rH} (hu : u < 2 ^ 62) (hl : lo < 2 ^ 62) (h0 : 0 < lo) (hk : R (some (.long (lN ((if pt = 0 then u else lo) / Nat.gcd u lo)))) h) : rM ro (d + 2) 86 0 0 [.long (lN u), .long (lN lo), .int pt] h R := by
  rw [en_X9_lowest]
  simp only [s_X9_lowest_0, s_X9_lowest_1, s_X9_lowest_2, s_X9_lowest_5, s_X9_lowest_7, s_X9_lowest_9, s_X9_lowest_10, s_X9_lowest_11, s_X9_lowest_14, s_X9_lowest_15, s_X9_lowest_16, s_X9_lowest_18, s_X9_lowest_21, s_X9_lowest_22, s_X9_lowest_25, s_X9_lowest_26, s_X9_lowest_28, s_X9_lowest_29]
  refine sp_X9_commonDivisor hu hl ?_
  have hg : Nat.gcd u lo ≤ lo := Nat.gcd_le_right _ h0
  have hp : 0 < Nat.gcd u lo := Nat.gcd_pos_of_pos_right _ h0
  have hg2 : Nat.gcd u lo < 2 ^ 62 := by omega
  simp only [Option.toList_some, Option.toList_none, List.cons_append, List.nil_append, Option.toList, s_X9_lowest_0, s_X9_lowest_1, s_X9_lowest_2, s_X9_lowest_5, s_X9_lowest_7, s_X9_lowest_9, s_X9_lowest_10, s_X9_lowest_11, s_X9_lowest_14, s_X9_lowest_15, s_X9_lowest_16, s_X9_lowest_18, s_X9_lowest_21, s_X9_lowest_22, s_X9_lowest_25, s_X9_lowest_26, s_X9_lowest_28, s_X9_lowest_29, lcmp0 hg2, lN_ne hg2, lN_div hu hg2, lN_div hl hg2]
  refine ⟨rfl, fun hz => absurd hz (by omega), fun _ => ⟨fun hp0 => ⟨by omega, ?_⟩, fun hp0 => ⟨by omega, ?_⟩⟩⟩
  · rw [if_pos hp0] at hk; exact hk
  · rw [if_neg hp0] at hk; exact hk
end CW
