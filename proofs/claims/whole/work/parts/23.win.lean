/-! ===== who wins: mathematics ===== -/
def cntF (t : Int32) (f : Nat → Int32) : Nat → Nat → Nat
  | 0, _ => 0
  | r + 1, x => (if f x = t then 1 else 0) + cntF t f r (x + 1)
def nthF (t : Int32) (f : Nat → Int32) : Nat → Nat → Nat → Nat
  | 0, _, _ => 0
  | r + 1, x, k => if f x = t then (if k = 0 then x else nthF t f r (x + 1) (k - 1)) else nthF t f r (x + 1) k
def tmF (v : Nat) : Nat := if v = 3 then 2 else 1
/-- which of K that may win does, from 0 on -/
def idF (v K : Nat) : Nat := if v = 1 then K - 1 else if v = 2 then (K - 1) / 2 else 0
/-- the number that wins, 0: nobody -/
def winF (v m : Nat) (f : Nat → Int32) : Nat := if cntF (nI (tmF v)) f m 1 = 0 then 0 else nthF (nI (tmF v)) f m 1 (idF v (cntF (nI (tmF v)) f m 1))
theorem cntF_le {t : Int32} {f : Nat → Int32} : ∀ (r x : Nat), cntF t f r x ≤ r
  | 0, _ => Nat.le_refl _
  | r + 1, x => by
    have := cntF_le (t := t) (f := f) r (x + 1)
    rw [cntF]
    split <;> omega
theorem nI_div {a b : Nat} (ha : a < 100000) (hb : 0 < b ∧ b < 100000) : nI a / nI b = nI (a / b) := by
  apply Int32.toInt_inj.mp
  rw [Int32.toInt_div_of_ne_left _ _ (by
    intro e
    have := nI_toInt (n := a) (by omega)
    rw [e] at this
    simp [Int32.toInt_minValue] at this), nI_toInt (by omega), nI_toInt (by omega), nI_toInt (by have := Nat.div_le_self a b; omega)]
  simp
section MW
variable {ro : rQ} {d : Nat} {R : rR} {c : Nat → rE} {men si sg fr : Int32} {ru lu : Int64} {n m v r : Nat} {f : Nat → Int32}
theorem lp1_X10_winner {l5 l6 : Value} {t : Int32} (h53 : c 53 = mobj men (nI m) (nI v) si sg fr ru lu) (hr : c r = ints 7 f) (hr7 : r < 70) (hm : m ≤ 6) :
    ∀ rem x a, x + rem = m + 1 → 1 ≤ x → rU ro d tb_X10_winner R 50 [.ref 53, .ref r, .int t, .int (nI (a + cntF t f rem x)), .int (nI (m + 1)), l5, l6] [] (tab c) → rU ro d tb_X10_winner R 19 [.ref 53, .ref r, .int t, .int (nI a), .int (nI x), l5, l6] [] (tab c) := by
  intro rem
  induction rem with
  | zero =>
    intro x a hx h1 hk
    have hx1 : x = m + 1 := by omega
    subst hx1
    rw [s_X10_winner_19]
    simp only [s_X10_winner_0, s_X10_winner_1, s_X10_winner_4, s_X10_winner_5, s_X10_winner_8, s_X10_winner_9, s_X10_winner_12, s_X10_winner_13, s_X10_winner_14, s_X10_winner_15, s_X10_winner_16, s_X10_winner_17, s_X10_winner_21, s_X10_winner_22, s_X10_winner_25, s_X10_winner_28, s_X10_winner_29, s_X10_winner_30, s_X10_winner_32, s_X10_winner_33, s_X10_winner_34, s_X10_winner_37, s_X10_winner_38, s_X10_winner_41, s_X10_winner_42, s_X10_winner_43, s_X10_winner_44, s_X10_winner_47, s_X10_winner_51, s_X10_winner_54, s_X10_winner_56, s_X10_winner_57, s_X10_winner_58, s_X10_winner_61, s_X10_winner_62, s_X10_winner_65, s_X10_winner_66, s_X10_winner_67, s_X10_winner_68, s_X10_winner_71, s_X10_winner_72, s_X10_winner_75, s_X10_winner_76, s_X10_winner_79, s_X10_winner_80, s_X10_winner_81, s_X10_winner_82, s_X10_winner_83, s_X10_winner_84, s_X10_winner_87, s_X10_winner_88, s_X10_winner_90, s_X10_winner_92, s_X10_winner_94, s_X10_winner_95, s_X10_winner_97, s_X10_winner_99, s_X10_winner_100, s_X10_winner_103, s_X10_winner_106, s_X10_winner_107, s_X10_winner_109, s_X10_winner_110, s_X10_winner_111, s_X10_winner_114, s_X10_winner_116, s_X10_winner_119, s_X10_winner_121, s_X10_winner_122, s_X10_winner_125, s_X10_winner_128, s_X10_winner_131, s_X10_winner_133, gm1 h53, sI_lt (show m < 100000 by omega) (show m + 1 < 100000 by omega)]
    exact ⟨fun _ => hk, fun hc => absurd (Nat.lt_succ_self m) hc⟩
  | succ rem ih =>
    intro x a hx h1 hk
    rw [cntF] at hk
    rw [s_X10_winner_19]
    simp only [s_X10_winner_0, s_X10_winner_1, s_X10_winner_4, s_X10_winner_5, s_X10_winner_8, s_X10_winner_9, s_X10_winner_12, s_X10_winner_13, s_X10_winner_14, s_X10_winner_15, s_X10_winner_16, s_X10_winner_17, s_X10_winner_21, s_X10_winner_22, s_X10_winner_25, s_X10_winner_28, s_X10_winner_29, s_X10_winner_30, s_X10_winner_32, s_X10_winner_33, s_X10_winner_34, s_X10_winner_37, s_X10_winner_38, s_X10_winner_41, s_X10_winner_42, s_X10_winner_43, s_X10_winner_44, s_X10_winner_47, s_X10_winner_51, s_X10_winner_54, s_X10_winner_56, s_X10_winner_57, s_X10_winner_58, s_X10_winner_61, s_X10_winner_62, s_X10_winner_65, s_X10_winner_66, s_X10_winner_67, s_X10_winner_68, s_X10_winner_71, s_X10_winner_72, s_X10_winner_75, s_X10_winner_76, s_X10_winner_79, s_X10_winner_80, s_X10_winner_81, s_X10_winner_82, s_X10_winner_83, s_X10_winner_84, s_X10_winner_87, s_X10_winner_88, s_X10_winner_90, s_X10_winner_92, s_X10_winner_94, s_X10_winner_95, s_X10_winner_97, s_X10_winner_99, s_X10_winner_100, s_X10_winner_103, s_X10_winner_106, s_X10_winner_107, s_X10_winner_109, s_X10_winner_110, s_X10_winner_111, s_X10_winner_114, s_X10_winner_116, s_X10_winner_119, s_X10_winner_121, s_X10_winner_122, s_X10_winner_125, s_X10_winner_128, s_X10_winner_131, s_X10_winner_133, gm1 h53, sI_lt (show m < 100000 by omega) (show x < 100000 by omega), ai_o hr hr7, vp_n (show x < 7 by omega) (by decide), nI_c (show x < 100000 by omega), true_and, nI_add]
    refine ⟨fun hc => absurd hc (by omega), fun hc => ⟨fun hc => ?_, fun hc => ?_⟩⟩
    · rw [if_pos hc, ← Nat.add_assoc] at hk
      exact ⟨rfl, rfl, ih (x + 1) (a + 1) (by omega) (by omega) hk⟩
    · rw [if_neg hc, Nat.zero_add] at hk
      exact ⟨rfl, rfl, ih (x + 1) (a + 0) (by omega) (by omega) hk⟩
theorem lp2_X10_winner {l3 : Value} {y4 t : Int32} (h53 : c 53 = mobj men (nI m) (nI v) si sg fr ru lu) (hr : c r = ints 7 f) (hr7 : r < 70) (hm : m ≤ 6) :
    ∀ rem x k, x + rem = m + 1 → 1 ≤ x → k < 100 → R (some (.int (if nthF t f rem x k = 0 then - nI 6 else nI (nthF t f rem x k)))) (tab c) → rU ro d tb_X10_winner R 97 [.ref 53, .ref r, .int t, l3, .int y4, .int (nI k), .int (nI x)] [] (tab c) := by
  intro rem
  induction rem with
  | zero =>
    intro x k hx h1 hk9 hk
    have hx1 : x = m + 1 := by omega
    subst hx1
    rw [s_X10_winner_97]
    simp only [s_X10_winner_0, s_X10_winner_1, s_X10_winner_4, s_X10_winner_5, s_X10_winner_8, s_X10_winner_9, s_X10_winner_12, s_X10_winner_13, s_X10_winner_14, s_X10_winner_15, s_X10_winner_16, s_X10_winner_17, s_X10_winner_19, s_X10_winner_21, s_X10_winner_22, s_X10_winner_25, s_X10_winner_28, s_X10_winner_29, s_X10_winner_30, s_X10_winner_32, s_X10_winner_33, s_X10_winner_34, s_X10_winner_37, s_X10_winner_38, s_X10_winner_41, s_X10_winner_42, s_X10_winner_43, s_X10_winner_44, s_X10_winner_47, s_X10_winner_50, s_X10_winner_51, s_X10_winner_54, s_X10_winner_56, s_X10_winner_57, s_X10_winner_58, s_X10_winner_61, s_X10_winner_62, s_X10_winner_65, s_X10_winner_66, s_X10_winner_67, s_X10_winner_68, s_X10_winner_71, s_X10_winner_72, s_X10_winner_75, s_X10_winner_76, s_X10_winner_79, s_X10_winner_80, s_X10_winner_81, s_X10_winner_82, s_X10_winner_83, s_X10_winner_84, s_X10_winner_87, s_X10_winner_88, s_X10_winner_90, s_X10_winner_92, s_X10_winner_94, s_X10_winner_95, s_X10_winner_99, s_X10_winner_100, s_X10_winner_103, s_X10_winner_106, s_X10_winner_107, s_X10_winner_109, s_X10_winner_110, s_X10_winner_111, s_X10_winner_114, s_X10_winner_116, s_X10_winner_119, s_X10_winner_121, s_X10_winner_122, s_X10_winner_125, s_X10_winner_128, s_X10_winner_131, s_X10_winner_133, gm1 h53, sI_lt (show m < 100000 by omega) (show m + 1 < 100000 by omega)]
    exact ⟨fun _ => hk, fun hc => absurd (Nat.lt_succ_self m) hc⟩
  | succ rem ih =>
    intro x k hx h1 hk9 hk
    rw [nthF] at hk
    rw [s_X10_winner_97]
    simp only [s_X10_winner_0, s_X10_winner_1, s_X10_winner_4, s_X10_winner_5, s_X10_winner_8, s_X10_winner_9, s_X10_winner_12, s_X10_winner_13, s_X10_winner_14, s_X10_winner_15, s_X10_winner_16, s_X10_winner_17, s_X10_winner_19, s_X10_winner_21, s_X10_winner_22, s_X10_winner_25, s_X10_winner_28, s_X10_winner_29, s_X10_winner_30, s_X10_winner_32, s_X10_winner_33, s_X10_winner_34, s_X10_winner_37, s_X10_winner_38, s_X10_winner_41, s_X10_winner_42, s_X10_winner_43, s_X10_winner_44, s_X10_winner_47, s_X10_winner_50, s_X10_winner_51, s_X10_winner_54, s_X10_winner_56, s_X10_winner_57, s_X10_winner_58, s_X10_winner_61, s_X10_winner_62, s_X10_winner_65, s_X10_winner_66, s_X10_winner_67, s_X10_winner_68, s_X10_winner_71, s_X10_winner_72, s_X10_winner_75, s_X10_winner_76, s_X10_winner_79, s_X10_winner_80, s_X10_winner_81, s_X10_winner_82, s_X10_winner_83, s_X10_winner_84, s_X10_winner_87, s_X10_winner_88, s_X10_winner_90, s_X10_winner_92, s_X10_winner_94, s_X10_winner_95, s_X10_winner_99, s_X10_winner_100, s_X10_winner_103, s_X10_winner_106, s_X10_winner_107, s_X10_winner_109, s_X10_winner_110, s_X10_winner_111, s_X10_winner_114, s_X10_winner_116, s_X10_winner_119, s_X10_winner_121, s_X10_winner_122, s_X10_winner_125, s_X10_winner_128, s_X10_winner_131, s_X10_winner_133, gm1 h53, sI_lt (show m < 100000 by omega) (show x < 100000 by omega), ai_o hr hr7, vp_n (show x < 7 by omega) (by decide), nI_c (show x < 100000 by omega), true_and, nI_add]
    refine ⟨fun hc => absurd hc (by omega), fun hc => ⟨fun hc => ⟨fun h0 => ?_, fun h0 => ⟨rfl, rfl, ?_⟩⟩, fun hc => ⟨rfl, ?_⟩⟩⟩
    · have h0 : k = 0 := (sI_eq (by omega) (by decide)).mp (h0.trans nI_0.symm)
      rw [if_pos hc, if_pos h0, if_neg (by omega)] at hk
      exact hk
    · have h0 : k ≠ 0 := fun e => h0 (by rw [e]; exact nI_0)
      rw [if_pos hc, if_neg h0] at hk
      rw [sI_m1 k (by omega)]
      exact ih (x + 1) (k - 1) (by omega) (by omega) (by omega) hk
    · rw [if_neg hc] at hk
      exact ih (x + 1) k (by omega) (by omega) hk9 hk
theorem sp_X10_winner (h53 : c 53 = mobj men (nI m) (nI v) si sg fr ru lu) (hr : c r = ints 7 f) (hr7 : r < 70) (hm : m ≤ 6) (hv : v ≤ 3) (hk : R (some (.int (if winF v m f = 0 then - nI 6 else nI (winF v m f)))) (tab c)) :
    rM ro (d + 1) 110 0 0 [.ref 53, .ref r] (tab c) R := by
  rw [en_X10_winner]
  have hcl := cntF_le (t := nI (tmF v)) (f := f) m 1
  have main : ∀ t : Nat, t = tmF v → rU ro d tb_X10_winner R 19 [.ref 53, .ref r, .int (nI t), .int (nI 0), .int (nI 1), .null, .null] [] (tab c) := by
    intro t ht
    subst ht
    refine lp1_X10_winner h53 hr hr7 hm m 1 0 (by omega) (by omega) ?_
    rw [Nat.zero_add]
    simp only [s_X10_winner_0, s_X10_winner_1, s_X10_winner_4, s_X10_winner_5, s_X10_winner_8, s_X10_winner_9, s_X10_winner_12, s_X10_winner_13, s_X10_winner_14, s_X10_winner_15, s_X10_winner_16, s_X10_winner_17, s_X10_winner_21, s_X10_winner_22, s_X10_winner_25, s_X10_winner_28, s_X10_winner_29, s_X10_winner_30, s_X10_winner_32, s_X10_winner_33, s_X10_winner_34, s_X10_winner_37, s_X10_winner_38, s_X10_winner_41, s_X10_winner_42, s_X10_winner_43, s_X10_winner_44, s_X10_winner_47, s_X10_winner_50, s_X10_winner_51, s_X10_winner_54, s_X10_winner_56, s_X10_winner_57, s_X10_winner_58, s_X10_winner_61, s_X10_winner_62, s_X10_winner_65, s_X10_winner_66, s_X10_winner_67, s_X10_winner_68, s_X10_winner_71, s_X10_winner_72, s_X10_winner_75, s_X10_winner_76, s_X10_winner_79, s_X10_winner_80, s_X10_winner_81, s_X10_winner_82, s_X10_winner_83, s_X10_winner_84, s_X10_winner_87, s_X10_winner_88, s_X10_winner_90, s_X10_winner_92, s_X10_winner_94, s_X10_winner_95, s_X10_winner_99, s_X10_winner_100, s_X10_winner_103, s_X10_winner_106, s_X10_winner_107, s_X10_winner_109, s_X10_winner_110, s_X10_winner_111, s_X10_winner_114, s_X10_winner_116, s_X10_winner_119, s_X10_winner_121, s_X10_winner_122, s_X10_winner_125, s_X10_winner_128, s_X10_winner_131, s_X10_winner_133, gm2 h53, sI_eq (show v < 100000 by omega) (show 1 < 100000 by omega), sI_eq (show v < 100000 by omega) (show 2 < 100000 by omega)]
    refine ⟨fun h0 => ?_, fun h0 => ?_⟩
    · have h0 : cntF (nI (tmF v)) f m 1 = 0 := (sI_eq (by omega) (by decide)).mp (h0.trans nI_0.symm)
      rw [winF, if_pos h0] at hk
      exact hk
    · have h0 : cntF (nI (tmF v)) f m 1 ≠ 0 := fun e => h0 (by rw [e]; exact nI_0)
      rw [winF, if_neg h0] at hk
      have fin : ∀ j : Nat, j = idF v (cntF (nI (tmF v)) f m 1) → rU ro d tb_X10_winner R 97 [.ref 53, .ref r, .int (nI (tmF v)), .int (nI (cntF (nI (tmF v)) f m 1)), .int (nI j), .int (nI j), .int (nI 1)] [] (tab c) := by
        intro j hj
        subst hj
        exact lp2_X10_winner h53 hr hr7 hm m 1 _ (by omega) (by omega) (by unfold idF; split; omega; split <;> omega) hk
      refine ⟨fun h1 => ⟨rfl, rfl, rfl, ?_⟩, fun h1 => ⟨fun h2 => ⟨?_, rfl, rfl, rfl, ?_⟩, fun h2 => ⟨rfl, rfl, rfl, ?_⟩⟩⟩
      · rw [sI_sub (by omega)]
        exact fin _ (by rw [idF, if_pos h1])
      · decide
      · rw [sI_sub (by omega), nI_div (by omega) (by decide)]
        exact fin _ (by rw [idF, if_neg h1, if_pos h2])
      · exact fin _ (by rw [idF, if_neg h1, if_neg h2])
  simp only [s_X10_winner_0, s_X10_winner_1, s_X10_winner_4, s_X10_winner_5, s_X10_winner_8, s_X10_winner_9, s_X10_winner_12, s_X10_winner_13, s_X10_winner_14, s_X10_winner_15, s_X10_winner_16, s_X10_winner_17, s_X10_winner_21, s_X10_winner_22, s_X10_winner_25, s_X10_winner_28, s_X10_winner_29, s_X10_winner_30, s_X10_winner_32, s_X10_winner_33, s_X10_winner_34, s_X10_winner_37, s_X10_winner_38, s_X10_winner_41, s_X10_winner_42, s_X10_winner_43, s_X10_winner_44, s_X10_winner_47, s_X10_winner_50, s_X10_winner_51, s_X10_winner_54, s_X10_winner_56, s_X10_winner_57, s_X10_winner_58, s_X10_winner_61, s_X10_winner_62, s_X10_winner_65, s_X10_winner_66, s_X10_winner_67, s_X10_winner_68, s_X10_winner_71, s_X10_winner_72, s_X10_winner_75, s_X10_winner_76, s_X10_winner_79, s_X10_winner_80, s_X10_winner_81, s_X10_winner_82, s_X10_winner_83, s_X10_winner_84, s_X10_winner_87, s_X10_winner_88, s_X10_winner_90, s_X10_winner_92, s_X10_winner_94, s_X10_winner_95, s_X10_winner_97, s_X10_winner_99, s_X10_winner_100, s_X10_winner_103, s_X10_winner_106, s_X10_winner_107, s_X10_winner_109, s_X10_winner_110, s_X10_winner_111, s_X10_winner_114, s_X10_winner_116, s_X10_winner_119, s_X10_winner_121, s_X10_winner_122, s_X10_winner_125, s_X10_winner_128, s_X10_winner_131, s_X10_winner_133, gm2 h53, sI_eq (show v < 100000 by omega) (show 3 < 100000 by omega)]
  refine ⟨fun h3 => ⟨rfl, rfl, rfl, ?_⟩, fun h3 => ⟨rfl, rfl, rfl, ?_⟩⟩
  · exact main 2 (by rw [tmF, if_pos h3])
  · exact main 1 (by rw [tmF, if_neg h3])
end MW
