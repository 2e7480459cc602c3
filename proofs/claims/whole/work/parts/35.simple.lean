/-! ===== ranges; the calls that only set and tell ===== -/
abbrev inR (a b : Nat) (x : Int32) : Prop := nI a ≤ x ∧ x ≤ nI b
def b2 (p : Prop) [Decidable p] : Int32 := if p then nI 1 else nI 0
theorem b2_0 {p : Prop} [Decidable p] : b2 p = 0 ↔ ¬ p := by
  unfold b2
  by_cases h : p
  · rw [if_pos h]; exact ⟨fun q => absurd q (by decide), fun q => absurd h q⟩
  · rw [if_neg h]; exact ⟨fun _ => h, fun _ => nI_0⟩
theorem b2_01 {p : Prop} [Decidable p] : b2 p = 0 ∨ b2 p = 1 := by
  unfold b2
  split
  · exact Or.inr rfl
  · exact Or.inl nI_0
theorem b2_cg {p q : Prop} [Decidable p] [Decidable q] (h : p ↔ q) : b2 p = b2 q := by
  unfold b2
  by_cases hp : p
  · rw [if_pos hp, if_pos (h.mp hp)]
  · rw [if_neg hp, if_neg (fun k => hp (h.mpr k))]
theorem inR_nI {a b : Nat} {x : Int32} (h : inR a b x) (ha : a < 100000) (hb : b < 100000) : ∃ k, a ≤ k ∧ k ≤ b ∧ x = nI k := by
  have h1 := h.1
  have h2 := h.2
  rw [Int32.le_iff_toInt_le, nI_toInt (by omega)] at h1 h2
  refine ⟨x.toInt.toNat, by omega, by omega, Int32.toInt_inj.mp ?_⟩
  rw [nI_toInt (by omega)]
  omega
theorem inR_of {a b k : Nat} (h1 : a ≤ k) (h2 : k ≤ b) (hb : b < 100000) : inR a b (nI k) := ⟨(sI_le (by omega) (by omega)).mpr h1, (sI_le (by omega) (by omega)).mpr h2⟩
theorem inR_iff {a b k : Nat} (hk : k < 100000) (ha : a < 100000) (hb : b < 100000) : inR a b (nI k) ↔ (a ≤ k ∧ k ≤ b) := by
  unfold inR
  rw [sI_le ha hk, sI_le hk hb]
abbrev CM : List Nat := [0, 1, 2, 3, 4, 5, 6, 7, 8, 9, 10, 11, 12, 13, 14, 15, 16, 17, 18, 19, 20, 21, 22, 23, 24, 25, 26, 27, 28, 29, 30, 31, 32, 33, 34, 35, 36, 37, 38, 39, 40, 41, 42, 43, 44, 45, 46, 47, 48, 49, 50, 51, 52]
abbrev MM : List Nat := [53, 54, 55, 56, 57, 58, 59, 60, 61, 62, 63, 64, 65, 66, 67, 68, 69]
theorem not_inR {a b : Nat} {x : Int32} (h : ¬ inR a b x) : x < nI a ∨ nI b < x := by
  by_cases h1 : x < nI a
  · exact Or.inl h1
  · by_cases h2 : nI b < x
    · exact Or.inr h2
    · exact absurd ⟨Int32.not_lt.mp h1, Int32.not_lt.mp h2⟩ h
section SP
variable {ro : rQ} {LL : Nat} {xs : Nat → Int32} {d : Nat} {R : rR} {c : Nat → rE} {h : rH} {n m v si sg k t : Nat} {w fo : Nat → Nat} {st pd : Nat → Int32} {im : Nat → Option TS} {x y z : Int32}
theorem sp_in2 {a b : Nat} (hk : R (some (.int (b2 (inR a b x)))) h) : rM ro (d + 1) 100 0 0 [.int x, .int (nI a), .int (nI b)] h R := sp_X10_in hk
theorem sp_X9_isSize (hk : R (some (.int (b2 (inR 2 6 x)))) h) : rM ro (d + 1) 75 0 0 [.int x] h R := by
  rw [en_X9_isSize]
  simp only [s_X9_isSize_0, s_X9_isSize_1, s_X9_isSize_2, s_X9_isSize_5, s_X9_isSize_6, s_X9_isSize_8, s_X9_isSize_11, s_X9_isSize_12, s_X9_isSize_15, s_X9_isSize_16]
  refine ⟨fun h1 => ⟨Or.inl nI_0, ?_⟩, fun h1 => ⟨fun h2 => ⟨Or.inl nI_0, ?_⟩, fun h2 => ⟨Or.inr rfl, ?_⟩⟩⟩
  · rw [b2, if_neg (fun q => absurd q.1 (Int32.not_le.mpr h1))] at hk; exact hk
  · rw [b2, if_neg (fun q => absurd q.2 (Int32.not_le.mpr h2))] at hk; exact hk
  · rw [b2, if_pos ⟨Int32.not_lt.mp h1, Int32.not_lt.mp h2⟩] at hk; exact hk
theorem sp_X9_isSum (hk : R (some (.int (b2 (inR 1 8 x)))) h) : rM ro (d + 1) 77 0 0 [.int x] h R := by
  rw [en_X9_isSum]
  simp only [s_X9_isSum_0, s_X9_isSum_1, s_X9_isSum_2, s_X9_isSum_5, s_X9_isSum_6, s_X9_isSum_8, s_X9_isSum_11, s_X9_isSum_12, s_X9_isSum_15, s_X9_isSum_16]
  refine ⟨fun h1 => ⟨Or.inl nI_0, ?_⟩, fun h1 => ⟨fun h2 => ⟨Or.inl nI_0, ?_⟩, fun h2 => ⟨Or.inr rfl, ?_⟩⟩⟩
  · rw [b2, if_neg (fun q => absurd q.1 (Int32.not_le.mpr h1))] at hk; exact hk
  · rw [b2, if_neg (fun q => absurd q.2 (Int32.not_le.mpr h2))] at hk; exact hk
  · rw [b2, if_pos ⟨Int32.not_lt.mp h1, Int32.not_lt.mp h2⟩] at hk; exact hk
theorem bit_iff : inR 0 1 x ↔ (x = 0 ∨ x = nI 1) := by
  constructor
  · intro h
    obtain ⟨k, h1, h2, rfl⟩ := inR_nI h (by decide) (by decide)
    rcases (show k = 0 ∨ k = 1 by omega) with rfl | rfl
    · exact Or.inl nI_0
    · exact Or.inr rfl
  · rintro (rfl | rfl) <;> decide
theorem sp_X9_isBit (hk : R (some (.int (b2 (inR 0 1 x)))) h) : rM ro (d + 1) 76 0 0 [.int x] h R := by
  rw [en_X9_isBit]
  simp only [s_X9_isBit_0, s_X9_isBit_1, s_X9_isBit_4, s_X9_isBit_5, s_X9_isBit_6, s_X9_isBit_9, s_X9_isBit_10, s_X9_isBit_13, s_X9_isBit_14]
  refine ⟨fun h1 => ⟨Or.inr rfl, ?_⟩, fun h1 => ⟨fun h2 => ⟨Or.inr rfl, ?_⟩, fun h2 => ⟨Or.inl nI_0, ?_⟩⟩⟩
  · rw [b2, if_pos (bit_iff.mpr (Or.inl h1))] at hk; exact hk
  · rw [b2, if_pos (bit_iff.mpr (Or.inr h2))] at hk; exact hk
  · rw [b2, if_neg (fun q => (bit_iff.mp q).elim h1 h2)] at hk; exact hk
theorem man_iff (hn : 1 ≤ n ∧ n ≤ 6) : inR 0 (n - 1) x ↔ (¬ x < 0 ∧ ¬ nI n ≤ x) := by
  constructor
  · intro h
    obtain ⟨k, h1, h2, rfl⟩ := inR_nI h (by decide) (by omega)
    exact ⟨nI_pos (by omega), fun q => by have := (sI_le (by omega) (by omega)).mp q; omega⟩
  · rintro ⟨h1, h2⟩
    refine ⟨by rw [nI_0]; exact Int32.not_lt.mp h1, ?_⟩
    have h3 := Int32.not_le.mp h2
    rw [Int32.lt_iff_toInt_lt, nI_toInt (by omega)] at h3
    rw [Int32.le_iff_toInt_le, nI_toInt (by omega)]
    omega
theorem sp_X6_hasMan {a b e : Int32} (ht : c t = tobj t (nI n) a b e) (ht7 : t < 70) (hn : 1 ≤ n ∧ n ≤ 6) (hk : R (some (.int (b2 (inR 0 (n - 1) x)))) (tab c)) : rM ro (d + 1) 34 0 0 [.ref t, .int x] (tab c) R := by
  rw [en_X6_hasMan]
  simp only [s_X6_hasMan_0, s_X6_hasMan_1, s_X6_hasMan_4, s_X6_hasMan_5, s_X6_hasMan_6, s_X6_hasMan_9, s_X6_hasMan_12, s_X6_hasMan_13, s_X6_hasMan_16, s_X6_hasMan_17, gt0 ht ht7]
  refine ⟨fun h1 => ⟨Or.inl nI_0, ?_⟩, fun h1 => ⟨fun h2 => ⟨Or.inl nI_0, ?_⟩, fun h2 => ⟨Or.inr rfl, ?_⟩⟩⟩
  · rw [b2, if_neg (fun q => ((man_iff hn).mp q).1 h1)] at hk; exact hk
  · rw [b2, if_neg (fun q => ((man_iff hn).mp q).2 h2)] at hk; exact hk
  · rw [b2, if_pos ((man_iff hn).mpr ⟨h1, h2⟩)] at hk; exact hk
theorem sp_X6_hasNumber {a b e : Int32} (ht : c t = tobj t a (nI m) b e) (ht7 : t < 70) (hk : R (some (.int (b2 (inR 1 m x)))) (tab c)) : rM ro (d + 1) 35 0 0 [.ref t, .int x] (tab c) R := by
  rw [en_X6_hasNumber]
  simp only [s_X6_hasNumber_0, s_X6_hasNumber_1, s_X6_hasNumber_2, s_X6_hasNumber_5, s_X6_hasNumber_6, s_X6_hasNumber_7, s_X6_hasNumber_10, s_X6_hasNumber_13, s_X6_hasNumber_14, s_X6_hasNumber_17, s_X6_hasNumber_18, gt1 ht ht7]
  refine ⟨fun h1 => ⟨Or.inl nI_0, ?_⟩, fun h1 => ⟨fun h2 => ⟨Or.inl nI_0, ?_⟩, fun h2 => ⟨Or.inr rfl, ?_⟩⟩⟩
  · rw [b2, if_neg (fun q => absurd q.1 (Int32.not_le.mpr h1))] at hk; exact hk
  · rw [b2, if_neg (fun q => absurd q.2 (Int32.not_le.mpr h2))] at hk; exact hk
  · rw [b2, if_pos ⟨Int32.not_lt.mp h1, Int32.not_lt.mp h2⟩] at hk; exact hk
theorem sp_X6_allWeights (hT : TBL c t (n, m, v, w, fo, si, st)) (ht7 : t + 1 < 70) (hm : m ≤ 6) (hk : R (some (.int (nI (smF w m 1)))) (tab c)) : rM ro (d + 1) 36 0 0 [.ref t] (tab c) R := by
  obtain ⟨h0, h1, -⟩ := hT
  have ht : t < 70 := by omega
  rw [en_X6_allWeights]
  simp only [s_X6_allWeights_0, s_X6_allWeights_1, s_X6_allWeights_2, s_X6_allWeights_3, s_X6_allWeights_5, s_X6_allWeights_6, s_X6_allWeights_9, s_X6_allWeights_12, s_X6_allWeights_13, s_X6_allWeights_14, s_X6_allWeights_17, s_X6_allWeights_18, s_X6_allWeights_19, s_X6_allWeights_20, s_X6_allWeights_21, s_X6_allWeights_24, s_X6_allWeights_27, s_X6_allWeights_28]
  refine ⟨rfl, rfl, ?_⟩
  have lp : ∀ rem x a, x + rem = m + 1 → 1 ≤ x → a + smF w rem x = smF w m 1 → rU ro d tb_X6_allWeights R 4 [.ref t, .int (nI a), .int (nI x)] [] (tab c) := by
    intro rem
    induction rem with
    | zero =>
      intro x a hx h1 ha
      have : x = m + 1 := by omega
      subst this
      rw [smF, Nat.add_zero] at ha
      rw [s_X6_allWeights_4]
      simp only [s_X6_allWeights_0, s_X6_allWeights_1, s_X6_allWeights_2, s_X6_allWeights_3, s_X6_allWeights_5, s_X6_allWeights_6, s_X6_allWeights_9, s_X6_allWeights_12, s_X6_allWeights_13, s_X6_allWeights_14, s_X6_allWeights_17, s_X6_allWeights_18, s_X6_allWeights_19, s_X6_allWeights_20, s_X6_allWeights_21, s_X6_allWeights_24, s_X6_allWeights_27, s_X6_allWeights_28, gt1 h0 ht]
      exact ⟨fun _ => by rw [ha]; exact hk, fun hc => absurd ((sI_lt (by omega) (by omega)).mpr (Nat.lt_succ_self m)) hc⟩
    | succ rem ih =>
      intro x a hx hx1 ha
      rw [smF, ← Nat.add_assoc] at ha
      rw [s_X6_allWeights_4]
      simp only [s_X6_allWeights_0, s_X6_allWeights_1, s_X6_allWeights_2, s_X6_allWeights_3, s_X6_allWeights_5, s_X6_allWeights_6, s_X6_allWeights_9, s_X6_allWeights_12, s_X6_allWeights_13, s_X6_allWeights_14, s_X6_allWeights_17, s_X6_allWeights_18, s_X6_allWeights_19, s_X6_allWeights_20, s_X6_allWeights_21, s_X6_allWeights_24, s_X6_allWeights_27, s_X6_allWeights_28, gt1 h0 ht, gt3 h0 ht, nI_add, sI_lt (show m < 100000 by omega) (show x < 100000 by omega), ai_i h1 (show t + 1 < 70 by omega) (show x < 7 by omega) (by decide)]
      exact ⟨fun hc => absurd hc (by omega), fun _ => ⟨rfl, rfl, ih (x + 1) _ (by omega) (by omega) ha⟩⟩
  exact lp m 1 0 (by omega) (by omega) (Nat.zero_add _)
theorem sp_X6_shares {a b e : Int32} (ht : c t = tobj t a b (nI v) e) (ht7 : t < 70) (hv : v ≤ 3) (hk : R (some (.int (nI (tmF v)))) (tab c)) : rM ro (d + 2) 37 0 0 [.ref t] (tab c) R := by
  rw [en_X6_shares]
  simp only [s_X6_shares_0, s_X6_shares_1, s_X6_shares_4, s_X6_shares_7, gt2 ht ht7]
  refine sp_X9_writersToWin hv ?_
  simp only [Option.toList_some, Option.toList_none, List.cons_append, List.nil_append, Option.toList, s_X6_shares_0, s_X6_shares_1, s_X6_shares_4, s_X6_shares_7]
  exact hk
end SP
