/-! ===== the model's fills ===== -/
def smF (w : Nat → Nat) : Nat → Nat → Nat
  | 0, _ => 0
  | r + 1, x => w x + smF w r (x + 1)
def lastN (fl : Nat → Nat) : Nat → Nat
  | 0 => 0
  | x + 1 => if fl (x + 1) = 0 then lastN fl x else x + 1
theorem lastN_le (fl : Nat → Nat) : ∀ x, lastN fl x ≤ x
  | 0 => Nat.le_refl _
  | x + 1 => by
    have := lastN_le fl x
    rw [lastN]
    split <;> omega
theorem lastN_ne (fl : Nat → Nat) : ∀ x, lastN fl x ≠ 0 → fl (lastN fl x) ≠ 0
  | 0, h => absurd rfl h
  | x + 1, h => by
    rw [lastN] at h ⊢
    split
    · rename_i h0
      rw [if_pos h0] at h
      exact lastN_ne fl x h
    · rename_i h0; exact h0
def updN (f : Nat → Nat) (k x : Nat) : Nat → Nat := fun j => if j = k then x else f j
/-- the next fill of m numbers, behind one whose last number before m with something is x -/
def nxF (m : Nat) (fl : Nat → Nat) : Nat → Nat := updN (updN (updN fl m 0) (lastN fl (m - 1)) (updN fl m 0 (lastN fl (m - 1)) - 1)) (lastN fl (m - 1) + 1) (fl m + 1)
def wyF (w fl : Nat → Nat) : Nat → Nat → Nat → Nat
  | 0, _, _ => 1
  | r + 1, x, left => chF left (fl x) * w x ^ fl x * wyF w fl r (x + 1) (left - fl x)
section MF
variable {ro : rQ} {d : Nat} {R : rR} {c : Nat → rE} {men num law si sg fr : Int32} {ru lu : Int64} {n m v r k : Nat} {w fl : Nat → Nat} {b : Nat → Int32}
theorem sp_X10_allWeights (h53 : c 53 = mobj men num law si sg fr ru lu) (hw : isI c 54 7 (fun j => nI (w j))) (hk : R (some (.int (nI (smF w 6 1)))) (tab c)) : rM ro (d + 1) 114 0 0 [.ref 53] (tab c) R := by
  rw [en_X10_allWeights]
  simp only [s_X10_allWeights_0, s_X10_allWeights_1, s_X10_allWeights_2, s_X10_allWeights_3, s_X10_allWeights_5, s_X10_allWeights_7, s_X10_allWeights_10, s_X10_allWeights_11, s_X10_allWeights_12, s_X10_allWeights_15, s_X10_allWeights_16, s_X10_allWeights_17, s_X10_allWeights_18, s_X10_allWeights_19, s_X10_allWeights_22, s_X10_allWeights_25, s_X10_allWeights_26]
  refine ⟨rfl, rfl, ?_⟩
  have lp : ∀ rem x a, x + rem = 7 → 1 ≤ x → a + smF w rem x = smF w 6 1 → rU ro d tb_X10_allWeights R 4 [.ref 53, .int (nI a), .int (nI x)] [] (tab c) := by
    intro rem
    induction rem with
    | zero =>
      intro x a hx h1 ha
      have hx7 : x = 7 := by omega
      subst hx7
      rw [smF, Nat.add_zero] at ha
      rw [s_X10_allWeights_4]
      simp only [s_X10_allWeights_0, s_X10_allWeights_1, s_X10_allWeights_2, s_X10_allWeights_3, s_X10_allWeights_5, s_X10_allWeights_7, s_X10_allWeights_10, s_X10_allWeights_11, s_X10_allWeights_12, s_X10_allWeights_15, s_X10_allWeights_16, s_X10_allWeights_17, s_X10_allWeights_18, s_X10_allWeights_19, s_X10_allWeights_22, s_X10_allWeights_25, s_X10_allWeights_26]
      exact ⟨fun _ => by rw [ha]; exact hk, fun hc => absurd ((sI_le (by decide) (by decide)).mpr (Nat.le_refl _)) hc⟩
    | succ rem ih =>
      intro x a hx h1 ha
      rw [smF, ← Nat.add_assoc] at ha
      rw [s_X10_allWeights_4]
      simp only [s_X10_allWeights_0, s_X10_allWeights_1, s_X10_allWeights_2, s_X10_allWeights_3, s_X10_allWeights_5, s_X10_allWeights_7, s_X10_allWeights_10, s_X10_allWeights_11, s_X10_allWeights_12, s_X10_allWeights_15, s_X10_allWeights_16, s_X10_allWeights_17, s_X10_allWeights_18, s_X10_allWeights_19, s_X10_allWeights_22, s_X10_allWeights_25, s_X10_allWeights_26, gm3 h53, nI_add, sI_le (show 7 < 100000 by omega) (show x < 100000 by omega), ai_i hw (show 54 < 70 by decide) (show x < 7 by omega) (by decide)]
      exact ⟨fun hc => absurd hc (by omega), fun _ => ⟨rfl, rfl, ih (x + 1) _ (by omega) (by omega) ha⟩⟩
  exact lp 6 1 0 (by omega) (by omega) (Nat.zero_add _)
theorem sp_X10_sumOfWeights (h53 : c 53 = mobj men (nI m) law si sg fr ru lu) (hm : m ≤ 6) (hw : isI c 61 7 (fun j => nI (w j))) (hk : R (some (.int (nI (smF w m 1)))) (tab c)) : rM ro (d + 1) 124 0 0 [.ref 53] (tab c) R := by
  rw [en_X10_sumOfWeights]
  simp only [s_X10_sumOfWeights_0, s_X10_sumOfWeights_1, s_X10_sumOfWeights_2, s_X10_sumOfWeights_3, s_X10_sumOfWeights_5, s_X10_sumOfWeights_6, s_X10_sumOfWeights_9, s_X10_sumOfWeights_12, s_X10_sumOfWeights_13, s_X10_sumOfWeights_14, s_X10_sumOfWeights_17, s_X10_sumOfWeights_18, s_X10_sumOfWeights_19, s_X10_sumOfWeights_20, s_X10_sumOfWeights_21, s_X10_sumOfWeights_24, s_X10_sumOfWeights_27, s_X10_sumOfWeights_28]
  refine ⟨rfl, rfl, ?_⟩
  have lp : ∀ rem x a, x + rem = m + 1 → 1 ≤ x → a + smF w rem x = smF w m 1 → rU ro d tb_X10_sumOfWeights R 4 [.ref 53, .int (nI a), .int (nI x)] [] (tab c) := by
    intro rem
    induction rem with
    | zero =>
      intro x a hx h1 ha
      have hx7 : x = m + 1 := by omega
      subst hx7
      rw [smF, Nat.add_zero] at ha
      rw [s_X10_sumOfWeights_4]
      simp only [s_X10_sumOfWeights_0, s_X10_sumOfWeights_1, s_X10_sumOfWeights_2, s_X10_sumOfWeights_3, s_X10_sumOfWeights_5, s_X10_sumOfWeights_6, s_X10_sumOfWeights_9, s_X10_sumOfWeights_12, s_X10_sumOfWeights_13, s_X10_sumOfWeights_14, s_X10_sumOfWeights_17, s_X10_sumOfWeights_18, s_X10_sumOfWeights_19, s_X10_sumOfWeights_20, s_X10_sumOfWeights_21, s_X10_sumOfWeights_24, s_X10_sumOfWeights_27, s_X10_sumOfWeights_28, gm1 h53]
      exact ⟨fun _ => by rw [ha]; exact hk, fun hc => absurd ((sI_lt (by omega) (by omega)).mpr (Nat.lt_succ_self m)) hc⟩
    | succ rem ih =>
      intro x a hx h1 ha
      rw [smF, ← Nat.add_assoc] at ha
      rw [s_X10_sumOfWeights_4]
      simp only [s_X10_sumOfWeights_0, s_X10_sumOfWeights_1, s_X10_sumOfWeights_2, s_X10_sumOfWeights_3, s_X10_sumOfWeights_5, s_X10_sumOfWeights_6, s_X10_sumOfWeights_9, s_X10_sumOfWeights_12, s_X10_sumOfWeights_13, s_X10_sumOfWeights_14, s_X10_sumOfWeights_17, s_X10_sumOfWeights_18, s_X10_sumOfWeights_19, s_X10_sumOfWeights_20, s_X10_sumOfWeights_21, s_X10_sumOfWeights_24, s_X10_sumOfWeights_27, s_X10_sumOfWeights_28, gm1 h53, gm13 h53, nI_add, sI_lt (show m < 100000 by omega) (show x < 100000 by omega), ai_i hw (show 61 < 70 by decide) (show x < 7 by omega) (by decide)]
      exact ⟨fun hc => absurd hc (by omega), fun _ => ⟨rfl, rfl, ih (x + 1) _ (by omega) (by omega) ha⟩⟩
  exact lp m 1 0 (by omega) (by omega) (Nat.zero_add _)
theorem sp_X10_asWeights (h53 : c 53 = mobj men num law si sg fr ru lu) (hw : isI c 54 7 b) (h61 : tyI c 61 7) (hk : ∀ c', frm [61] c c' → isI c' 61 7 b → R none (tab c')) : rM ro (d + 1) 116 0 0 [.ref 53] (tab c) R := by
  rw [en_X10_asWeights]
  simp only [s_X10_asWeights_0, s_X10_asWeights_1, s_X10_asWeights_3, s_X10_asWeights_5, s_X10_asWeights_8, s_X10_asWeights_9, s_X10_asWeights_12, s_X10_asWeights_13, s_X10_asWeights_14, s_X10_asWeights_17, s_X10_asWeights_18, s_X10_asWeights_19, s_X10_asWeights_20, s_X10_asWeights_23, s_X10_asWeights_26]
  refine ⟨rfl, ?_⟩
  have lp : ∀ rem x c1 val, x + rem = 7 → frm [61] c c1 → isI c1 61 7 val → (∀ j, j < x → val j = b j) → rU ro d tb_X10_asWeights R 2 [.ref 53, .int (nI x)] [] (tab c1) := by
    intro rem
    induction rem with
    | zero =>
      intro x c1 val hx hf hi hv
      have hx7 : x = 7 := by omega
      subst hx7
      rw [s_X10_asWeights_2]
      simp only [s_X10_asWeights_0, s_X10_asWeights_1, s_X10_asWeights_3, s_X10_asWeights_5, s_X10_asWeights_8, s_X10_asWeights_9, s_X10_asWeights_12, s_X10_asWeights_13, s_X10_asWeights_14, s_X10_asWeights_17, s_X10_asWeights_18, s_X10_asWeights_19, s_X10_asWeights_20, s_X10_asWeights_23, s_X10_asWeights_26]
      exact ⟨fun _ => hk c1 hf (hi.cg hv), fun hc => absurd ((sI_le (by decide) (by decide)).mpr (Nat.le_refl _)) hc⟩
    | succ rem ih =>
      intro x c1 val hx hf hi hv
      rw [s_X10_asWeights_2]
      simp only [s_X10_asWeights_0, s_X10_asWeights_1, s_X10_asWeights_3, s_X10_asWeights_5, s_X10_asWeights_8, s_X10_asWeights_9, s_X10_asWeights_12, s_X10_asWeights_13, s_X10_asWeights_14, s_X10_asWeights_17, s_X10_asWeights_18, s_X10_asWeights_19, s_X10_asWeights_20, s_X10_asWeights_23, s_X10_asWeights_26, gm13 ((hf 53 rfl).trans h53), gm3 ((hf 53 rfl).trans h53), nI_add, sI_le (show 7 < 100000 by omega) (show x < 100000 by omega), ai_i (hw.fr hf rfl) (show 54 < 70 by decide) (show x < 7 by omega) (by decide)]
      refine ⟨fun hc => absurd hc (by omega), fun _ => si_i hi (by decide) (by omega) (by decide) fun c2 hf2 hi2 => ?_⟩
      exact ⟨rfl, ih (x + 1) c2 _ (by omega) (hf.trans hf2) hi2 (fillI hv rfl)⟩
  obtain ⟨g, hg⟩ := h61
  exact lp 7 0 c g (by omega) frm.rf ⟨g, hg, fun _ _ => rfl⟩ (fun j hj => absurd hj (by omega))
theorem sp_X10_beginFill (h53 : c 53 = mobj men num law si sg fr ru lu) (h60 : tyI c 60 7) (hk : ∀ c', frm [60] c c' → isI c' 60 7 (fun j => if j = 1 then fr else nI 0) → R none (tab c')) : rM ro (d + 1) 119 0 0 [.ref 53] (tab c) R := by
  rw [en_X10_beginFill]
  simp only [s_X10_beginFill_0, s_X10_beginFill_1, s_X10_beginFill_3, s_X10_beginFill_5, s_X10_beginFill_8, s_X10_beginFill_9, s_X10_beginFill_12, s_X10_beginFill_13, s_X10_beginFill_14, s_X10_beginFill_15, s_X10_beginFill_18, s_X10_beginFill_19, s_X10_beginFill_22, s_X10_beginFill_25, s_X10_beginFill_26, s_X10_beginFill_27, s_X10_beginFill_30, s_X10_beginFill_33]
  refine ⟨rfl, ?_⟩
  have lp : ∀ rem x c1 val, x + rem = 7 → frm [60] c c1 → isI c1 60 7 val → (∀ j, j < x → val j = if j = 1 then fr else nI 0) → rU ro d tb_X10_beginFill R 2 [.ref 53, .int (nI x)] [] (tab c1) := by
    intro rem
    induction rem with
    | zero =>
      intro x c1 val hx hf hi hv
      have hx7 : x = 7 := by omega
      subst hx7
      rw [s_X10_beginFill_2]
      simp only [s_X10_beginFill_0, s_X10_beginFill_1, s_X10_beginFill_3, s_X10_beginFill_5, s_X10_beginFill_8, s_X10_beginFill_9, s_X10_beginFill_12, s_X10_beginFill_13, s_X10_beginFill_14, s_X10_beginFill_15, s_X10_beginFill_18, s_X10_beginFill_19, s_X10_beginFill_22, s_X10_beginFill_25, s_X10_beginFill_26, s_X10_beginFill_27, s_X10_beginFill_30, s_X10_beginFill_33]
      exact ⟨fun _ => hk c1 hf (hi.cg hv), fun hc => absurd ((sI_le (by decide) (by decide)).mpr (Nat.le_refl _)) hc⟩
    | succ rem ih =>
      intro x c1 val hx hf hi hv
      rw [s_X10_beginFill_2]
      simp only [s_X10_beginFill_0, s_X10_beginFill_1, s_X10_beginFill_3, s_X10_beginFill_5, s_X10_beginFill_8, s_X10_beginFill_9, s_X10_beginFill_12, s_X10_beginFill_13, s_X10_beginFill_14, s_X10_beginFill_15, s_X10_beginFill_18, s_X10_beginFill_19, s_X10_beginFill_22, s_X10_beginFill_25, s_X10_beginFill_26, s_X10_beginFill_27, s_X10_beginFill_30, s_X10_beginFill_33, gm12 ((hf 53 rfl).trans h53), gm11 ((hf 53 rfl).trans h53), nI_add, sI_le (show 7 < 100000 by omega) (show x < 100000 by omega), sI_eq (show x < 100000 by omega) (show 1 < 100000 by omega)]
      refine ⟨fun hc => absurd hc (by omega), fun _ => ⟨fun h1 => si_i hi (by decide) (by omega) (by decide) fun c2 hf2 hi2 => ?_, fun h1 => si_i hi (by decide) (by omega) (by decide) fun c2 hf2 hi2 => ?_⟩⟩
      · exact ⟨rfl, ih (x + 1) c2 _ (by omega) (hf.trans hf2) hi2 (fillI hv (by rw [if_pos h1]))⟩
      · exact ⟨rfl, ih (x + 1) c2 _ (by omega) (hf.trans hf2) hi2 (fillI hv (by rw [if_neg h1]))⟩
  obtain ⟨g, hg⟩ := h60
  exact lp 7 0 c g (by omega) frm.rf ⟨g, hg, fun _ _ => rfl⟩ (fun j hj => absurd hj (by omega))
theorem sp_X10_both {a : Nat → Int32} (h53 : c 53 = mobj men num law si sg fr ru lu) (h58 : tyI c 58 7) (h59 : isI c 59 7 a) (h60 : isI c 60 7 b) (hk : ∀ c', frm [58] c c' → isI c' 58 7 (fun j => a j + b j) → R none (tab c')) : rM ro (d + 1) 122 0 0 [.ref 53] (tab c) R := by
  rw [en_X10_both]
  simp only [s_X10_both_0, s_X10_both_1, s_X10_both_3, s_X10_both_5, s_X10_both_8, s_X10_both_9, s_X10_both_12, s_X10_both_13, s_X10_both_14, s_X10_both_17, s_X10_both_18, s_X10_both_19, s_X10_both_20, s_X10_both_23, s_X10_both_24, s_X10_both_25, s_X10_both_26, s_X10_both_27, s_X10_both_30, s_X10_both_33]
  refine ⟨rfl, ?_⟩
  have lp : ∀ rem x c1 val, x + rem = 7 → frm [58] c c1 → isI c1 58 7 val → (∀ j, j < x → val j = a j + b j) → rU ro d tb_X10_both R 2 [.ref 53, .int (nI x)] [] (tab c1) := by
    intro rem
    induction rem with
    | zero =>
      intro x c1 val hx hf hi hv
      have hx7 : x = 7 := by omega
      subst hx7
      rw [s_X10_both_2]
      simp only [s_X10_both_0, s_X10_both_1, s_X10_both_3, s_X10_both_5, s_X10_both_8, s_X10_both_9, s_X10_both_12, s_X10_both_13, s_X10_both_14, s_X10_both_17, s_X10_both_18, s_X10_both_19, s_X10_both_20, s_X10_both_23, s_X10_both_24, s_X10_both_25, s_X10_both_26, s_X10_both_27, s_X10_both_30, s_X10_both_33]
      exact ⟨fun _ => hk c1 hf (hi.cg hv), fun hc => absurd ((sI_le (by decide) (by decide)).mpr (Nat.le_refl _)) hc⟩
    | succ rem ih =>
      intro x c1 val hx hf hi hv
      rw [s_X10_both_2]
      simp only [s_X10_both_0, s_X10_both_1, s_X10_both_3, s_X10_both_5, s_X10_both_8, s_X10_both_9, s_X10_both_12, s_X10_both_13, s_X10_both_14, s_X10_both_17, s_X10_both_18, s_X10_both_19, s_X10_both_20, s_X10_both_23, s_X10_both_24, s_X10_both_25, s_X10_both_26, s_X10_both_27, s_X10_both_30, s_X10_both_33, gm9 ((hf 53 rfl).trans h53), gm10 ((hf 53 rfl).trans h53), gm12 ((hf 53 rfl).trans h53), nI_add, sI_le (show 7 < 100000 by omega) (show x < 100000 by omega), ai_i (h59.fr hf rfl) (show 59 < 70 by decide) (show x < 7 by omega) (by decide), ai_i (h60.fr hf rfl) (show 60 < 70 by decide) (show x < 7 by omega) (by decide)]
      refine ⟨fun hc => absurd hc (by omega), fun _ => si_i hi (by decide) (by omega) (by decide) fun c2 hf2 hi2 => ?_⟩
      exact ⟨rfl, ih (x + 1) c2 _ (by omega) (hf.trans hf2) hi2 (fillI hv rfl)⟩
  obtain ⟨g, hg⟩ := h58
  exact lp 7 0 c g (by omega) frm.rf ⟨g, hg, fun _ _ => rfl⟩ (fun j hj => absurd hj (by omega))
theorem updN_nI {f : Nat → Nat} {k x : Nat} : (fun j => nI (updN f k x j)) = upd (fun j => nI (f j)) k (nI x) := by
  funext j
  unfold updN upd
  split <;> rfl
theorem sp_X10_nextFill (h53 : c 53 = mobj men (nI m) law si sg fr ru lu) (hm : 2 ≤ m ∧ m ≤ 6) (h60 : isI c 60 7 (fun j => nI (fl j))) (hfl : ∀ j, j < 7 → fl j < 1000)
    (hk0 : lastN fl (m - 1) = 0 → R (some (.int (nI 0))) (tab c)) (hk1 : lastN fl (m - 1) ≠ 0 → ∀ c', frm [60] c c' → isI c' 60 7 (fun j => nI (nxF m fl j)) → R (some (.int (nI 1))) (tab c')) : rM ro (d + 1) 120 0 0 [.ref 53] (tab c) R := by
  rw [en_X10_nextFill]
  simp only [s_X10_nextFill_0, s_X10_nextFill_1, s_X10_nextFill_4, s_X10_nextFill_5, s_X10_nextFill_6, s_X10_nextFill_8, s_X10_nextFill_11, s_X10_nextFill_12, s_X10_nextFill_15, s_X10_nextFill_16, s_X10_nextFill_17, s_X10_nextFill_20, s_X10_nextFill_23, s_X10_nextFill_26, s_X10_nextFill_27, s_X10_nextFill_30, s_X10_nextFill_31, s_X10_nextFill_32, s_X10_nextFill_33, s_X10_nextFill_36, s_X10_nextFill_37, s_X10_nextFill_40, s_X10_nextFill_41, s_X10_nextFill_42, s_X10_nextFill_43, s_X10_nextFill_46, s_X10_nextFill_47, s_X10_nextFill_50, s_X10_nextFill_51, s_X10_nextFill_52, s_X10_nextFill_53, s_X10_nextFill_56, s_X10_nextFill_57, s_X10_nextFill_58, s_X10_nextFill_59, s_X10_nextFill_60, s_X10_nextFill_61, s_X10_nextFill_62, s_X10_nextFill_63, s_X10_nextFill_66, s_X10_nextFill_67, s_X10_nextFill_68, s_X10_nextFill_69, s_X10_nextFill_70, s_X10_nextFill_71, s_X10_nextFill_72, s_X10_nextFill_73, s_X10_nextFill_74, gm1 h53, sI_sub (show 1 ≤ m by omega)]
  refine ⟨rfl, ?_⟩
  have behind : ∀ x, x < m → lastN fl (m - 1) = x → (x ≠ 0 → fl x ≠ 0) → rU ro d tb_X10_nextFill R 26 [.ref 53, .int (nI x), .null] [] (tab c) := by
    intro x hx hl hne
    simp only [s_X10_nextFill_0, s_X10_nextFill_1, s_X10_nextFill_4, s_X10_nextFill_5, s_X10_nextFill_6, s_X10_nextFill_8, s_X10_nextFill_11, s_X10_nextFill_12, s_X10_nextFill_15, s_X10_nextFill_16, s_X10_nextFill_17, s_X10_nextFill_20, s_X10_nextFill_23, s_X10_nextFill_26, s_X10_nextFill_27, s_X10_nextFill_30, s_X10_nextFill_31, s_X10_nextFill_32, s_X10_nextFill_33, s_X10_nextFill_36, s_X10_nextFill_37, s_X10_nextFill_40, s_X10_nextFill_41, s_X10_nextFill_42, s_X10_nextFill_43, s_X10_nextFill_46, s_X10_nextFill_47, s_X10_nextFill_50, s_X10_nextFill_51, s_X10_nextFill_52, s_X10_nextFill_53, s_X10_nextFill_56, s_X10_nextFill_57, s_X10_nextFill_58, s_X10_nextFill_59, s_X10_nextFill_60, s_X10_nextFill_61, s_X10_nextFill_62, s_X10_nextFill_63, s_X10_nextFill_66, s_X10_nextFill_67, s_X10_nextFill_68, s_X10_nextFill_69, s_X10_nextFill_70, s_X10_nextFill_71, s_X10_nextFill_72, s_X10_nextFill_73, s_X10_nextFill_74, gm1 h53, gm12 h53, nI_add]
    refine ⟨fun h0 => ⟨Or.inl nI_0, ?_⟩, fun h0 => ?_⟩
    · have h0 : x = 0 := (sI_eq (by omega) (by decide)).mp (h0.trans nI_0.symm)
      exact hk0 (by rw [hl, h0])
    · have h0 : x ≠ 0 := fun e => h0 (by rw [e]; exact nI_0)
      have hfx := hne h0
      simp only [ai_i h60 (show 60 < 70 by decide) (show m < 7 by omega) (by decide), s_X10_nextFill_0, s_X10_nextFill_1, s_X10_nextFill_4, s_X10_nextFill_5, s_X10_nextFill_6, s_X10_nextFill_8, s_X10_nextFill_11, s_X10_nextFill_12, s_X10_nextFill_15, s_X10_nextFill_16, s_X10_nextFill_17, s_X10_nextFill_20, s_X10_nextFill_23, s_X10_nextFill_26, s_X10_nextFill_27, s_X10_nextFill_30, s_X10_nextFill_31, s_X10_nextFill_32, s_X10_nextFill_33, s_X10_nextFill_36, s_X10_nextFill_37, s_X10_nextFill_40, s_X10_nextFill_41, s_X10_nextFill_42, s_X10_nextFill_43, s_X10_nextFill_46, s_X10_nextFill_47, s_X10_nextFill_50, s_X10_nextFill_51, s_X10_nextFill_52, s_X10_nextFill_53, s_X10_nextFill_56, s_X10_nextFill_57, s_X10_nextFill_58, s_X10_nextFill_59, s_X10_nextFill_60, s_X10_nextFill_61, s_X10_nextFill_62, s_X10_nextFill_63, s_X10_nextFill_66, s_X10_nextFill_67, s_X10_nextFill_68, s_X10_nextFill_69, s_X10_nextFill_70, s_X10_nextFill_71, s_X10_nextFill_72, s_X10_nextFill_73, s_X10_nextFill_74, gm1 h53, gm12 h53]
      refine ⟨rfl, si_i h60 (by decide) (by omega) (by decide) fun c1 hf1 hi1 => ?_⟩
      simp only [s_X10_nextFill_0, s_X10_nextFill_1, s_X10_nextFill_4, s_X10_nextFill_5, s_X10_nextFill_6, s_X10_nextFill_8, s_X10_nextFill_11, s_X10_nextFill_12, s_X10_nextFill_15, s_X10_nextFill_16, s_X10_nextFill_17, s_X10_nextFill_20, s_X10_nextFill_23, s_X10_nextFill_26, s_X10_nextFill_27, s_X10_nextFill_30, s_X10_nextFill_31, s_X10_nextFill_32, s_X10_nextFill_33, s_X10_nextFill_36, s_X10_nextFill_37, s_X10_nextFill_40, s_X10_nextFill_41, s_X10_nextFill_42, s_X10_nextFill_43, s_X10_nextFill_46, s_X10_nextFill_47, s_X10_nextFill_50, s_X10_nextFill_51, s_X10_nextFill_52, s_X10_nextFill_53, s_X10_nextFill_56, s_X10_nextFill_57, s_X10_nextFill_58, s_X10_nextFill_59, s_X10_nextFill_60, s_X10_nextFill_61, s_X10_nextFill_62, s_X10_nextFill_63, s_X10_nextFill_66, s_X10_nextFill_67, s_X10_nextFill_68, s_X10_nextFill_69, s_X10_nextFill_70, s_X10_nextFill_71, s_X10_nextFill_72, s_X10_nextFill_73, s_X10_nextFill_74, gm1 ((hf1 53 rfl).trans h53), gm12 ((hf1 53 rfl).trans h53), ai_i hi1 (show 60 < 70 by decide) (show x < 7 by omega) (by decide)]
      refine si_i hi1 (by decide) (by omega) (by decide) fun c2 hf2 hi2 => ?_
      have hf12 := hf1.trans hf2
      simp only [s_X10_nextFill_0, s_X10_nextFill_1, s_X10_nextFill_4, s_X10_nextFill_5, s_X10_nextFill_6, s_X10_nextFill_8, s_X10_nextFill_11, s_X10_nextFill_12, s_X10_nextFill_15, s_X10_nextFill_16, s_X10_nextFill_17, s_X10_nextFill_20, s_X10_nextFill_23, s_X10_nextFill_26, s_X10_nextFill_27, s_X10_nextFill_30, s_X10_nextFill_31, s_X10_nextFill_32, s_X10_nextFill_33, s_X10_nextFill_36, s_X10_nextFill_37, s_X10_nextFill_40, s_X10_nextFill_41, s_X10_nextFill_42, s_X10_nextFill_43, s_X10_nextFill_46, s_X10_nextFill_47, s_X10_nextFill_50, s_X10_nextFill_51, s_X10_nextFill_52, s_X10_nextFill_53, s_X10_nextFill_56, s_X10_nextFill_57, s_X10_nextFill_58, s_X10_nextFill_59, s_X10_nextFill_60, s_X10_nextFill_61, s_X10_nextFill_62, s_X10_nextFill_63, s_X10_nextFill_66, s_X10_nextFill_67, s_X10_nextFill_68, s_X10_nextFill_69, s_X10_nextFill_70, s_X10_nextFill_71, s_X10_nextFill_72, s_X10_nextFill_73, s_X10_nextFill_74, gm1 ((hf12 53 rfl).trans h53), gm12 ((hf12 53 rfl).trans h53), nI_add]
      refine si_i hi2 (by decide) (by omega) (by decide) fun c3 hf3 hi3 => ?_
      refine ⟨Or.inr rfl, hk1 (by rw [hl]; exact h0) c3 (hf12.trans hf3) (hi3.cg fun j hj => ?_)⟩
      have hxm : x ≠ m := by omega
      have e1 : upd (fun j => nI (fl j)) m (nI 0) x = nI (fl x) := upd_ne hxm
      have e2 : updN fl m 0 x = fl x := if_neg hxm
      rw [e1, sI_sub (show 1 ≤ fl x by omega)]
      have := congrFun (updN_nI (f := updN (updN fl m 0) x (fl x - 1)) (k := x + 1) (x := fl m + 1)) j
      rw [updN_nI, updN_nI] at this
      rw [nxF, hl, e2]
      exact this.symm
  have lp : ∀ x, x < m → lastN fl (m - 1) = lastN fl x → rU ro d tb_X10_nextFill R 7 [.ref 53, .int (nI x), .null] [] (tab c) := by
    intro x
    induction x with
    | zero =>
      intro hx hl
      rw [s_X10_nextFill_7]
      simp only [s_X10_nextFill_8]
      exact ⟨fun _ => behind 0 hx hl (fun h => absurd rfl h), fun hc => absurd (by rw [nI_0]; exact Int32.le_refl _) hc⟩
    | succ x ih =>
      intro hx hl
      rw [s_X10_nextFill_7]
      simp only [s_X10_nextFill_0, s_X10_nextFill_1, s_X10_nextFill_4, s_X10_nextFill_5, s_X10_nextFill_6, s_X10_nextFill_8, s_X10_nextFill_11, s_X10_nextFill_12, s_X10_nextFill_15, s_X10_nextFill_16, s_X10_nextFill_17, s_X10_nextFill_20, s_X10_nextFill_23, s_X10_nextFill_27, s_X10_nextFill_30, s_X10_nextFill_31, s_X10_nextFill_32, s_X10_nextFill_33, s_X10_nextFill_36, s_X10_nextFill_37, s_X10_nextFill_40, s_X10_nextFill_41, s_X10_nextFill_42, s_X10_nextFill_43, s_X10_nextFill_46, s_X10_nextFill_47, s_X10_nextFill_50, s_X10_nextFill_51, s_X10_nextFill_52, s_X10_nextFill_53, s_X10_nextFill_56, s_X10_nextFill_57, s_X10_nextFill_58, s_X10_nextFill_59, s_X10_nextFill_60, s_X10_nextFill_61, s_X10_nextFill_62, s_X10_nextFill_63, s_X10_nextFill_66, s_X10_nextFill_67, s_X10_nextFill_68, s_X10_nextFill_69, s_X10_nextFill_70, s_X10_nextFill_71, s_X10_nextFill_72, s_X10_nextFill_73, s_X10_nextFill_74, gm12 h53, ai_i h60 (show 60 < 70 by decide) (show x + 1 < 7 by omega) (by decide)]
      refine ⟨fun hc => absurd hc (nI_nle (by omega) (by omega)), fun _ => ⟨fun h0 => ⟨rfl, ?_⟩, fun h0 => ?_⟩⟩
      · have h0 : fl (x + 1) = 0 := (sI_eq (by have := hfl (x + 1) (by omega); omega) (by decide)).mp (h0.trans nI_0.symm)
        rw [lastN, if_pos h0] at hl
        rw [sI_m1 (x + 1) (by omega)]
        exact ih (by omega) hl
      · have h0 : fl (x + 1) ≠ 0 := fun e => h0 (by rw [e]; exact nI_0)
        rw [lastN, if_neg h0] at hl
        exact behind (x + 1) hx hl (fun _ => h0)
  exact lp (m - 1) (by omega) rfl
theorem sp_X10_waysOfFill (h53 : c 53 = mobj men (nI m) law si sg (nI k) ru lu) (hm : m ≤ 6) (hk6 : k ≤ 6) (h60 : isI c 60 7 (fun j => nI (fl j))) (h61 : isI c 61 7 (fun j => nI (w j))) (hw : ∀ j, j < 7 → w j < 1000) (hsum : smF fl m 1 = k)
    (hk : R (some (.long (lN (wyF w fl m 1 k)))) (tab c)) : rM ro (d + 2) 121 0 0 [.ref 53] (tab c) R := by
  rw [en_X10_waysOfFill]
  simp only [s_X10_waysOfFill_0, s_X10_waysOfFill_1, s_X10_waysOfFill_2, s_X10_waysOfFill_3, s_X10_waysOfFill_6, s_X10_waysOfFill_7, s_X10_waysOfFill_8, s_X10_waysOfFill_12, s_X10_waysOfFill_13, s_X10_waysOfFill_16, s_X10_waysOfFill_19, s_X10_waysOfFill_20, s_X10_waysOfFill_21, s_X10_waysOfFill_22, s_X10_waysOfFill_25, s_X10_waysOfFill_27, s_X10_waysOfFill_28, s_X10_waysOfFill_31, s_X10_waysOfFill_32, s_X10_waysOfFill_33, s_X10_waysOfFill_36, s_X10_waysOfFill_38, s_X10_waysOfFill_39, s_X10_waysOfFill_40, s_X10_waysOfFill_41, s_X10_waysOfFill_44, s_X10_waysOfFill_46, s_X10_waysOfFill_47, s_X10_waysOfFill_50, s_X10_waysOfFill_51, s_X10_waysOfFill_52, s_X10_waysOfFill_53, s_X10_waysOfFill_54, s_X10_waysOfFill_55, s_X10_waysOfFill_58, s_X10_waysOfFill_60, s_X10_waysOfFill_61, s_X10_waysOfFill_62, s_X10_waysOfFill_63, s_X10_waysOfFill_66, s_X10_waysOfFill_69, s_X10_waysOfFill_70, gm11 h53]
  refine ⟨rfl, rfl, rfl, ?_⟩
  have lp : ∀ rem x left a, x + rem = m + 1 → 1 ≤ x → smF fl rem x = left → left ≤ 6 → a * wyF w fl rem x left = wyF w fl m 1 k → rU ro (d + 1) tb_X10_waysOfFill R 10 [.ref 53, .long (lN a), .null, .int (nI left), .int (nI x)] [] (tab c) := by
    intro rem
    induction rem with
    | zero =>
      intro x left a hx h1 hl hl6 ha
      have hx7 : x = m + 1 := by omega
      subst hx7
      rw [wyF, Nat.mul_one] at ha
      rw [s_X10_waysOfFill_10]
      simp only [s_X10_waysOfFill_0, s_X10_waysOfFill_1, s_X10_waysOfFill_2, s_X10_waysOfFill_3, s_X10_waysOfFill_6, s_X10_waysOfFill_7, s_X10_waysOfFill_8, s_X10_waysOfFill_12, s_X10_waysOfFill_13, s_X10_waysOfFill_16, s_X10_waysOfFill_19, s_X10_waysOfFill_20, s_X10_waysOfFill_21, s_X10_waysOfFill_22, s_X10_waysOfFill_25, s_X10_waysOfFill_27, s_X10_waysOfFill_28, s_X10_waysOfFill_31, s_X10_waysOfFill_32, s_X10_waysOfFill_33, s_X10_waysOfFill_36, s_X10_waysOfFill_38, s_X10_waysOfFill_39, s_X10_waysOfFill_40, s_X10_waysOfFill_41, s_X10_waysOfFill_44, s_X10_waysOfFill_46, s_X10_waysOfFill_47, s_X10_waysOfFill_50, s_X10_waysOfFill_51, s_X10_waysOfFill_52, s_X10_waysOfFill_53, s_X10_waysOfFill_54, s_X10_waysOfFill_55, s_X10_waysOfFill_58, s_X10_waysOfFill_60, s_X10_waysOfFill_61, s_X10_waysOfFill_62, s_X10_waysOfFill_63, s_X10_waysOfFill_66, s_X10_waysOfFill_69, s_X10_waysOfFill_70, gm1 h53]
      exact ⟨fun _ => by rw [ha]; exact hk, fun hc => absurd ((sI_lt (by omega) (by omega)).mpr (Nat.lt_succ_self m)) hc⟩
    | succ rem ih =>
      intro x left a hx h1 hl hl6 ha
      rw [smF] at hl
      rw [wyF] at ha
      have hwx := hw x (by omega)
      rw [s_X10_waysOfFill_10]
      simp only [s_X10_waysOfFill_0, s_X10_waysOfFill_1, s_X10_waysOfFill_2, s_X10_waysOfFill_3, s_X10_waysOfFill_6, s_X10_waysOfFill_7, s_X10_waysOfFill_8, s_X10_waysOfFill_12, s_X10_waysOfFill_13, s_X10_waysOfFill_16, s_X10_waysOfFill_19, s_X10_waysOfFill_20, s_X10_waysOfFill_21, s_X10_waysOfFill_22, s_X10_waysOfFill_25, s_X10_waysOfFill_27, s_X10_waysOfFill_28, s_X10_waysOfFill_31, s_X10_waysOfFill_32, s_X10_waysOfFill_33, s_X10_waysOfFill_36, s_X10_waysOfFill_38, s_X10_waysOfFill_39, s_X10_waysOfFill_40, s_X10_waysOfFill_41, s_X10_waysOfFill_44, s_X10_waysOfFill_46, s_X10_waysOfFill_47, s_X10_waysOfFill_50, s_X10_waysOfFill_51, s_X10_waysOfFill_52, s_X10_waysOfFill_53, s_X10_waysOfFill_54, s_X10_waysOfFill_55, s_X10_waysOfFill_58, s_X10_waysOfFill_60, s_X10_waysOfFill_61, s_X10_waysOfFill_62, s_X10_waysOfFill_63, s_X10_waysOfFill_66, s_X10_waysOfFill_69, s_X10_waysOfFill_70, gm1 h53, gm12 h53, sI_lt (show m < 100000 by omega) (show x < 100000 by omega), ai_i h60 (show 60 < 70 by decide) (show x < 7 by omega) (by decide)]
      refine ⟨fun hc => absurd hc (by omega), fun _ => ?_⟩
      refine sp_X10_choose hl6 (by omega) ?_
      simp only [Option.toList_some, Option.toList_none, List.cons_append, List.nil_append, Option.toList, s_X10_waysOfFill_0, s_X10_waysOfFill_1, s_X10_waysOfFill_2, s_X10_waysOfFill_3, s_X10_waysOfFill_6, s_X10_waysOfFill_7, s_X10_waysOfFill_8, s_X10_waysOfFill_12, s_X10_waysOfFill_13, s_X10_waysOfFill_16, s_X10_waysOfFill_19, s_X10_waysOfFill_20, s_X10_waysOfFill_21, s_X10_waysOfFill_22, s_X10_waysOfFill_25, s_X10_waysOfFill_27, s_X10_waysOfFill_28, s_X10_waysOfFill_31, s_X10_waysOfFill_32, s_X10_waysOfFill_33, s_X10_waysOfFill_36, s_X10_waysOfFill_38, s_X10_waysOfFill_39, s_X10_waysOfFill_40, s_X10_waysOfFill_41, s_X10_waysOfFill_44, s_X10_waysOfFill_46, s_X10_waysOfFill_47, s_X10_waysOfFill_50, s_X10_waysOfFill_51, s_X10_waysOfFill_52, s_X10_waysOfFill_53, s_X10_waysOfFill_54, s_X10_waysOfFill_55, s_X10_waysOfFill_58, s_X10_waysOfFill_60, s_X10_waysOfFill_61, s_X10_waysOfFill_62, s_X10_waysOfFill_63, s_X10_waysOfFill_66, s_X10_waysOfFill_69, s_X10_waysOfFill_70, gm12 h53, gm13 h53, ai_i h60 (show 60 < 70 by decide) (show x < 7 by omega) (by decide), ai_i h61 (show 61 < 70 by decide) (show x < 7 by omega) (by decide)]
      refine sp_X10_power (by omega) ?_
      simp only [Option.toList_some, Option.toList_none, List.cons_append, List.nil_append, Option.toList, s_X10_waysOfFill_0, s_X10_waysOfFill_1, s_X10_waysOfFill_2, s_X10_waysOfFill_3, s_X10_waysOfFill_6, s_X10_waysOfFill_7, s_X10_waysOfFill_8, s_X10_waysOfFill_12, s_X10_waysOfFill_13, s_X10_waysOfFill_16, s_X10_waysOfFill_19, s_X10_waysOfFill_20, s_X10_waysOfFill_21, s_X10_waysOfFill_22, s_X10_waysOfFill_25, s_X10_waysOfFill_27, s_X10_waysOfFill_28, s_X10_waysOfFill_31, s_X10_waysOfFill_32, s_X10_waysOfFill_33, s_X10_waysOfFill_36, s_X10_waysOfFill_38, s_X10_waysOfFill_39, s_X10_waysOfFill_40, s_X10_waysOfFill_41, s_X10_waysOfFill_44, s_X10_waysOfFill_46, s_X10_waysOfFill_47, s_X10_waysOfFill_50, s_X10_waysOfFill_51, s_X10_waysOfFill_52, s_X10_waysOfFill_53, s_X10_waysOfFill_54, s_X10_waysOfFill_55, s_X10_waysOfFill_58, s_X10_waysOfFill_60, s_X10_waysOfFill_61, s_X10_waysOfFill_62, s_X10_waysOfFill_63, s_X10_waysOfFill_66, s_X10_waysOfFill_69, s_X10_waysOfFill_70, gm12 h53, ai_i h60 (show 60 < 70 by decide) (show x < 7 by omega) (by decide), sI_sub (show fl x ≤ left by omega), nI_add]
      refine ⟨rfl, rfl, rfl, ?_⟩
      have hch : chF left (fl x) < 100 := (show ∀ a, a ≤ 6 → ∀ b, b ≤ 6 → chF a b < 100 by decide) left hl6 _ (by omega)
      rw [nI_l (by omega), nI_l (by omega), pwL_lN, lN_mul, lN_mul]
      exact ih (x + 1) _ _ (by omega) (by omega) (by omega) (by omega) (by rw [← ha, Nat.mul_assoc])
  exact lp m 1 k 1 (by omega) (by omega) hsum hk6 (by rw [Nat.one_mul])
end MF
