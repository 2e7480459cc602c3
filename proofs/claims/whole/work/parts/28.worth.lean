/-! ===== the model: worth, best, mean, gap ===== -/
def gnF (w : Nat → Nat) (v m k : Nat) (b : Nat → Int32) (x : Nat) : Nat := tlF w v m k (ad1 b x 1) x
def tpF (h : Nat → Nat) : Nat → Nat → Nat → Nat
  | 0, _, t => t
  | r + 1, x, t => if h t < h x then tpF h r (x + 1) x else tpF h r (x + 1) t
def topF (h : Nat → Nat) (m : Nat) : Nat := tpF h (m - 1) 2 1
theorem tpF_mem (h : Nat → Nat) : ∀ r x t, tpF h r x t = t ∨ (x ≤ tpF h r x t ∧ tpF h r x t < x + r)
  | 0, _, _ => Or.inl rfl
  | r + 1, x, t => by
    rw [tpF]
    have h1 := tpF_mem h r (x + 1) x
    have h2 := tpF_mem h r (x + 1) t
    split <;> omega
theorem tpF_max (h : Nat → Nat) : ∀ r x t, h t ≤ h (tpF h r x t) ∧ ∀ j, x ≤ j → j < x + r → h j ≤ h (tpF h r x t)
  | 0, _, _ => ⟨Nat.le_refl _, fun j h1 h2 => by omega⟩
  | r + 1, x, t => by
    rw [tpF]
    split
    · rename_i hlt
      have ih := tpF_max h r (x + 1) x
      refine ⟨Nat.le_trans (Nat.le_of_lt hlt) ih.1, fun j h1 h2 => ?_⟩
      by_cases hj : j = x
      · rw [hj]; exact ih.1
      · exact ih.2 j (by omega) (by omega)
    · rename_i hlt
      have ih := tpF_max h r (x + 1) t
      refine ⟨ih.1, fun j h1 h2 => ?_⟩
      by_cases hj : j = x
      · rw [hj]; exact Nat.le_trans (Nat.not_lt.mp hlt) ih.1
      · exact ih.2 j (by omega) (by omega)
theorem topF_mem (h : Nat → Nat) {m : Nat} (hm : 2 ≤ m) : 1 ≤ topF h m ∧ topF h m ≤ m := by
  have := tpF_mem h (m - 1) 2 1
  unfold topF
  omega
theorem topF_max (h : Nat → Nat) {m j : Nat} (h1 : 1 ≤ j) (h2 : j ≤ m) : h j ≤ h (topF h m) := by
  have := tpF_max h (m - 1) 2 1
  unfold topF
  by_cases hj : j = 1
  · rw [hj]; exact this.1
  · exact this.2 j (by omega) (by omega)
theorem tpF_scale (h : Nat → Nat) {a : Nat} (ha : 0 < a) : ∀ r x t, tpF (fun x => a * h x) r x t = tpF h r x t
  | 0, _, _ => rfl
  | r + 1, x, t => by
    rw [tpF, tpF, tpF_scale h ha r, tpF_scale h ha r]
    have : (a * h t < a * h x) ↔ (h t < h x) := Nat.mul_lt_mul_left ha
    by_cases hc : h t < h x
    · rw [if_pos hc, if_pos (this.mpr hc)]
    · rw [if_neg hc, if_neg (fun q => hc (this.mp q))]
theorem smF_wle {w h : Nat → Nat} {M : Nat} : ∀ r x, (∀ j, x ≤ j → j < x + r → h j ≤ M) → smF (fun y => w y * h y) r x ≤ smF w r x * M
  | 0, _, _ => by simp [smF]
  | r + 1, x, hh => by
    rw [smF, smF, Nat.add_mul]
    exact Nat.add_le_add (Nat.mul_le_mul_left _ (hh x (Nat.le_refl _) (by omega))) (smF_wle r (x + 1) (fun j h1 h2 => hh j (by omega) (by omega)))
def MT (c : Nat → rE) (m v k : Nat) (w : Nat → Nat) (b : Nat → Int32) : Prop := (∃ men si sg ru lu, c 53 = mobj men (nI m) (nI v) si sg (nI k) ru lu) ∧ tyI c 58 7 ∧ tyI c 60 7 ∧ isI c 59 7 b ∧ isI c 61 7 (fun j => nI (w j))
def VT (m v k : Nat) (w : Nat → Nat) : Prop := (2 ≤ m ∧ m ≤ 6) ∧ v ≤ 3 ∧ k ≤ 6 ∧ (∀ j, j < 7 → w j < 1000) ∧ smF w m 1 ≤ 12
theorem pow12 {W k : Nat} (hW : W ≤ 12) (hk : k ≤ 6) : W ^ k ≤ 2985984 := by
  have h1 : W ^ k ≤ 12 ^ k := Nat.pow_le_pow_left hW k
  have h2 : 12 ^ k ≤ 12 ^ 6 := Nat.pow_le_pow_right (by omega) hk
  exact Nat.le_trans h1 (Nat.le_trans h2 (by decide))
theorem gn_le {w : Nat → Nat} {v m k x : Nat} {b : Nat → Int32} (h : VT m v k w) : gnF w v m k b x ≤ 2985984 := Nat.le_trans tl_le (pow12 h.2.2.2.2 h.2.2.1)
theorem sc_le (v : Nat) : 1 ≤ scF v ∧ scF v ≤ 2 := by unfold scF; split <;> omega
theorem ad1_back (b : Nat → Int32) (x j : Nat) : upd (ad1 b x 1) x (ad1 b x 1 x - nI 1) j = b j := by
  unfold ad1
  by_cases h : j = x
  · rw [h, upd_self, upd_self, Int32.add_sub_cancel]
  · rw [upd_ne h, upd_ne h]
section MB
variable {ro : rQ} {d : Nat} {R : rR} {c : Nat → rE} {men num law si sg fr : Int32} {ru lu : Int64} {n m v r k x : Nat} {w fl : Nat → Nat} {b f : Nat → Int32}
theorem sp_X10_worthOf (hM : MT c m v k w b) (hV : VT m v k w) (hx : 1 ≤ x ∧ x ≤ 6) (hk : ∀ c', frm [58, 59, 60] c c' → MT c' m v k w b → R (some (.long (lN (scF v * gnF w v m k b x)))) (tab c')) : rM ro (d + 4) 127 0 0 [.ref 53, .int (nI x)] (tab c) R := by
  obtain ⟨⟨men, si, sg, ru, lu, h53⟩, h58, h60, h59, h61⟩ := hM
  rw [en_X10_worthOf]
  simp only [s_X10_worthOf_0, s_X10_worthOf_1, s_X10_worthOf_4, s_X10_worthOf_5, s_X10_worthOf_6, s_X10_worthOf_7, s_X10_worthOf_8, s_X10_worthOf_9, s_X10_worthOf_10, s_X10_worthOf_11, s_X10_worthOf_12, s_X10_worthOf_15, s_X10_worthOf_16, s_X10_worthOf_17, s_X10_worthOf_20, s_X10_worthOf_21, s_X10_worthOf_22, s_X10_worthOf_23, s_X10_worthOf_24, s_X10_worthOf_25, s_X10_worthOf_26, s_X10_worthOf_27, gm10 h53, ai_i h59 (show 59 < 70 by decide) (show x < 7 by omega) (by decide)]
  refine si_i h59 (by decide) (by omega) (by decide) fun c1 hf1 hi1 => ?_
  have e53 := (hf1 53 rfl).trans h53
  simp only [s_X10_worthOf_0, s_X10_worthOf_1, s_X10_worthOf_4, s_X10_worthOf_5, s_X10_worthOf_6, s_X10_worthOf_7, s_X10_worthOf_8, s_X10_worthOf_9, s_X10_worthOf_10, s_X10_worthOf_11, s_X10_worthOf_12, s_X10_worthOf_15, s_X10_worthOf_16, s_X10_worthOf_17, s_X10_worthOf_20, s_X10_worthOf_21, s_X10_worthOf_22, s_X10_worthOf_23, s_X10_worthOf_24, s_X10_worthOf_25, s_X10_worthOf_26, s_X10_worthOf_27, vm_o e53]
  refine sp_X10_waysToWin e53 hV.1 hV.2.1 hV.2.2.1 hx (h58.fr hf1 rfl) (h60.fr hf1 rfl) hi1 (h61.fr hf1 rfl) hV.2.2.2.1 fun c2 hf2 t58 t60 => ?_
  have e53 := (hf2 53 rfl).trans e53
  have hi2 := hi1.fr hf2 rfl
  rw [tl_sum hV.1 hV.2.2.1]
  simp only [Option.toList_some, Option.toList_none, List.cons_append, List.nil_append, Option.toList, s_X10_worthOf_0, s_X10_worthOf_1, s_X10_worthOf_4, s_X10_worthOf_5, s_X10_worthOf_6, s_X10_worthOf_7, s_X10_worthOf_8, s_X10_worthOf_9, s_X10_worthOf_10, s_X10_worthOf_11, s_X10_worthOf_12, s_X10_worthOf_15, s_X10_worthOf_16, s_X10_worthOf_17, s_X10_worthOf_20, s_X10_worthOf_21, s_X10_worthOf_22, s_X10_worthOf_23, s_X10_worthOf_24, s_X10_worthOf_25, s_X10_worthOf_26, s_X10_worthOf_27, gm10 e53, ai_i hi2 (show 59 < 70 by decide) (show x < 7 by omega) (by decide)]
  refine ⟨rfl, si_i hi2 (by decide) (by omega) (by decide) fun c3 hf3 hi3 => ?_⟩
  have hf : frm [58, 59, 60] c c3 := (hf1.mono rfl).trans ((hf2.mono rfl).trans (hf3.mono rfl))
  exact hk c3 hf ⟨⟨men, si, sg, ru, lu, (hf 53 rfl).trans h53⟩, t58.fr hf3 rfl, t60.fr hf3 rfl, hi3.cg (fun j _ => ad1_back b x j), h61.fr hf rfl⟩
theorem lgt {a b : Nat} (ha : a < 2 ^ 31) (hb : b < 2 ^ 31) : (lg_cmp (lN a) (lN b) ≤ 0) ↔ ¬ b < a := by
  have h1 := lN_lt hb ha
  unfold lg_cmp
  by_cases h : b < a
  · rw [if_pos (h1.mpr h)]
    exact ⟨fun q => absurd q (by decide), fun q => absurd h q⟩
  · rw [if_neg (fun q => h (h1.mp q))]
    refine ⟨fun _ => h, fun _ => ?_⟩
    split <;> decide
theorem sp_X10_bestOf (hM : MT c m v k w b) (hV : VT m v k w) (hk : ∀ c', frm [58, 59, 60] c c' → MT c' m v k w b → R (some (.int (nI (topF (gnF w v m k b) m)))) (tab c')) : rM ro (d + 5) 130 0 0 [.ref 53] (tab c) R := by
  have h53 : ∀ c1, MT c1 m v k w b → ∃ men si sg fr ru lu, c1 53 = mobj men (nI m) (nI v) si sg fr ru lu := fun c1 h => h.1.elim fun men h => h.elim fun si h => h.elim fun sg h => h.elim fun ru h => h.elim fun lu h => ⟨men, si, sg, nI k, ru, lu, h⟩
  obtain ⟨_, _, _, _, _, _, e53⟩ := h53 c hM
  rw [en_X10_bestOf]
  simp only [s_X10_bestOf_0, s_X10_bestOf_1, s_X10_bestOf_2, s_X10_bestOf_3, s_X10_bestOf_4, s_X10_bestOf_7, s_X10_bestOf_8, s_X10_bestOf_9, s_X10_bestOf_13, s_X10_bestOf_14, s_X10_bestOf_17, s_X10_bestOf_20, s_X10_bestOf_21, s_X10_bestOf_23, s_X10_bestOf_26, s_X10_bestOf_28, s_X10_bestOf_30, s_X10_bestOf_31, s_X10_bestOf_32, s_X10_bestOf_35, s_X10_bestOf_37, s_X10_bestOf_38, s_X10_bestOf_40, s_X10_bestOf_41, s_X10_bestOf_44, s_X10_bestOf_47, s_X10_bestOf_48, vm_o e53]
  refine ⟨rfl, sp_X10_worthOf hM hV (by omega) fun c1 hf1 hM1 => ?_⟩
  simp only [Option.toList_some, Option.toList_none, List.cons_append, List.nil_append, Option.toList, s_X10_bestOf_0, s_X10_bestOf_1, s_X10_bestOf_2, s_X10_bestOf_3, s_X10_bestOf_4, s_X10_bestOf_7, s_X10_bestOf_8, s_X10_bestOf_9, s_X10_bestOf_13, s_X10_bestOf_14, s_X10_bestOf_17, s_X10_bestOf_20, s_X10_bestOf_21, s_X10_bestOf_23, s_X10_bestOf_26, s_X10_bestOf_28, s_X10_bestOf_30, s_X10_bestOf_31, s_X10_bestOf_32, s_X10_bestOf_35, s_X10_bestOf_37, s_X10_bestOf_38, s_X10_bestOf_40, s_X10_bestOf_41, s_X10_bestOf_44, s_X10_bestOf_47, s_X10_bestOf_48]
  refine ⟨rfl, rfl, ?_⟩
  have lp : ∀ rem x t c2 (g5 g6 : Value), x + rem = m + 1 → 2 ≤ x → 1 ≤ t → t ≤ m → tpF (gnF w v m k b) rem x t = topF (gnF w v m k b) m → frm [58, 59, 60] c c2 → MT c2 m v k w b →
      rU ro (d + 4) tb_X10_bestOf R 11 [.ref 53, .int (nI t), .long (lN (scF v * gnF w v m k b t)), .null, .int (nI x), g5, g6] [] (tab c2) := by
    intro rem
    induction rem with
    | zero =>
      intro x t c2 g5 g6 hx h2 ht1 ht2 htp hf hM2
      obtain ⟨_, _, _, _, _, _, e53⟩ := h53 c2 hM2
      have : x = m + 1 := by omega
      subst this
      rw [tpF] at htp
      have hm6 := hV.1.2
      rw [s_X10_bestOf_11]
      simp only [s_X10_bestOf_0, s_X10_bestOf_1, s_X10_bestOf_2, s_X10_bestOf_3, s_X10_bestOf_4, s_X10_bestOf_7, s_X10_bestOf_8, s_X10_bestOf_9, s_X10_bestOf_13, s_X10_bestOf_14, s_X10_bestOf_17, s_X10_bestOf_20, s_X10_bestOf_21, s_X10_bestOf_23, s_X10_bestOf_26, s_X10_bestOf_28, s_X10_bestOf_30, s_X10_bestOf_31, s_X10_bestOf_32, s_X10_bestOf_35, s_X10_bestOf_37, s_X10_bestOf_38, s_X10_bestOf_40, s_X10_bestOf_41, s_X10_bestOf_44, s_X10_bestOf_47, s_X10_bestOf_48, gm1 e53]
      exact ⟨fun _ => by rw [htp]; exact hk c2 hf hM2, fun hc => absurd ((sI_lt (by omega) (by omega)).mpr (Nat.lt_succ_self m)) hc⟩
    | succ rem ih =>
      intro x t c2 g5 g6 hx h2 ht1 ht2 htp hf hM2
      obtain ⟨_, _, _, _, _, _, e53⟩ := h53 c2 hM2
      rw [tpF] at htp
      have hm6 := hV.1.2
      rw [s_X10_bestOf_11]
      simp only [s_X10_bestOf_0, s_X10_bestOf_1, s_X10_bestOf_2, s_X10_bestOf_3, s_X10_bestOf_4, s_X10_bestOf_7, s_X10_bestOf_8, s_X10_bestOf_9, s_X10_bestOf_13, s_X10_bestOf_14, s_X10_bestOf_17, s_X10_bestOf_20, s_X10_bestOf_21, s_X10_bestOf_23, s_X10_bestOf_26, s_X10_bestOf_28, s_X10_bestOf_30, s_X10_bestOf_31, s_X10_bestOf_32, s_X10_bestOf_35, s_X10_bestOf_37, s_X10_bestOf_38, s_X10_bestOf_40, s_X10_bestOf_41, s_X10_bestOf_44, s_X10_bestOf_47, s_X10_bestOf_48, gm1 e53, vm_o e53, sI_lt (show m < 100000 by omega) (show x < 100000 by omega)]
      refine ⟨fun hc => absurd hc (by omega), fun _ => sp_X10_worthOf hM2 hV (by omega) fun c3 hf3 hM3 => ?_⟩
      have b1 := gn_le (b := b) (x := x) hV
      have b2 := gn_le (b := b) (x := t) hV
      have hsc := sc_le v
      have c1 : scF v * gnF w v m k b x < 2 ^ 31 := by have := Nat.mul_le_mul hsc.2 b1; omega
      have c2' : scF v * gnF w v m k b t < 2 ^ 31 := by have := Nat.mul_le_mul hsc.2 b2; omega
      have hmul : (scF v * gnF w v m k b t < scF v * gnF w v m k b x) ↔ gnF w v m k b t < gnF w v m k b x := Nat.mul_lt_mul_left (by omega)
      simp only [Option.toList_some, Option.toList_none, List.cons_append, List.nil_append, Option.toList, s_X10_bestOf_0, s_X10_bestOf_1, s_X10_bestOf_2, s_X10_bestOf_3, s_X10_bestOf_4, s_X10_bestOf_7, s_X10_bestOf_8, s_X10_bestOf_9, s_X10_bestOf_13, s_X10_bestOf_14, s_X10_bestOf_17, s_X10_bestOf_20, s_X10_bestOf_21, s_X10_bestOf_23, s_X10_bestOf_26, s_X10_bestOf_28, s_X10_bestOf_30, s_X10_bestOf_31, s_X10_bestOf_32, s_X10_bestOf_35, s_X10_bestOf_37, s_X10_bestOf_38, s_X10_bestOf_40, s_X10_bestOf_41, s_X10_bestOf_44, s_X10_bestOf_47, s_X10_bestOf_48, lgt c1 c2', hmul, nI_add]
      refine ⟨rfl, fun hc => ⟨rfl, ?_⟩, fun hc => ⟨rfl, rfl, rfl, ?_⟩⟩
      · rw [if_neg hc] at htp
        exact ih (x + 1) t c3 _ _ (by omega) (by omega) ht1 ht2 htp (hf.trans hf3) hM3
      · have hc : gnF w v m k b t < gnF w v m k b x := Decidable.not_not.mp hc
        rw [if_pos hc] at htp
        exact ih (x + 1) x c3 _ _ (by omega) (by omega) (by omega) (by omega) htp (hf.trans hf3) hM3
  exact lp (m - 1) 2 1 c1 _ _ (by have := hV.1.1; omega) (by omega) (by omega) (by have := hV.1.1; omega) rfl hf1 hM1
theorem sp_X10_meanOf (hM : MT c m v k w b) (hV : VT m v k w) (hk : ∀ c', frm [58, 59, 60] c c' → MT c' m v k w b → R (some (.long (lN (smF (fun x => w x * (scF v * gnF w v m k b x)) m 1)))) (tab c')) : rM ro (d + 5) 132 0 0 [.ref 53] (tab c) R := by
  have h53 : ∀ c1, MT c1 m v k w b → ∃ men si sg fr ru lu, c1 53 = mobj men (nI m) (nI v) si sg fr ru lu := fun c1 h => h.1.elim fun men h => h.elim fun si h => h.elim fun sg h => h.elim fun ru h => h.elim fun lu h => ⟨men, si, sg, nI k, ru, lu, h⟩
  rw [en_X10_meanOf]
  simp only [s_X10_meanOf_0, s_X10_meanOf_1, s_X10_meanOf_2, s_X10_meanOf_3, s_X10_meanOf_5, s_X10_meanOf_6, s_X10_meanOf_9, s_X10_meanOf_12, s_X10_meanOf_13, s_X10_meanOf_14, s_X10_meanOf_17, s_X10_meanOf_18, s_X10_meanOf_19, s_X10_meanOf_20, s_X10_meanOf_21, s_X10_meanOf_22, s_X10_meanOf_25, s_X10_meanOf_26, s_X10_meanOf_27, s_X10_meanOf_28, s_X10_meanOf_31, s_X10_meanOf_34, s_X10_meanOf_35]
  refine ⟨rfl, rfl, ?_⟩
  have lp : ∀ rem x s c2, x + rem = m + 1 → 1 ≤ x → s + smF (fun x => w x * (scF v * gnF w v m k b x)) rem x = smF (fun x => w x * (scF v * gnF w v m k b x)) m 1 → frm [58, 59, 60] c c2 → MT c2 m v k w b →
      rU ro (d + 4) tb_X10_meanOf R 4 [.ref 53, .long (lN s), .null, .int (nI x)] [] (tab c2) := by
    intro rem
    induction rem with
    | zero =>
      intro x s c2 hx h1 hs hf hM2
      obtain ⟨_, _, _, _, _, _, e53⟩ := h53 c2 hM2
      have : x = m + 1 := by omega
      subst this
      rw [smF, Nat.add_zero] at hs
      have hm6 := hV.1.2
      rw [s_X10_meanOf_4]
      simp only [s_X10_meanOf_0, s_X10_meanOf_1, s_X10_meanOf_2, s_X10_meanOf_3, s_X10_meanOf_5, s_X10_meanOf_6, s_X10_meanOf_9, s_X10_meanOf_12, s_X10_meanOf_13, s_X10_meanOf_14, s_X10_meanOf_17, s_X10_meanOf_18, s_X10_meanOf_19, s_X10_meanOf_20, s_X10_meanOf_21, s_X10_meanOf_22, s_X10_meanOf_25, s_X10_meanOf_26, s_X10_meanOf_27, s_X10_meanOf_28, s_X10_meanOf_31, s_X10_meanOf_34, s_X10_meanOf_35, gm1 e53]
      exact ⟨fun _ => by rw [hs]; exact hk c2 hf hM2, fun hc => absurd ((sI_lt (by omega) (by omega)).mpr (Nat.lt_succ_self m)) hc⟩
    | succ rem ih =>
      intro x s c2 hx h1 hs hf hM2
      obtain ⟨_, _, _, _, _, _, e53⟩ := h53 c2 hM2
      rw [smF, ← Nat.add_assoc] at hs
      have hm6 := hV.1.2
      have hwx := hV.2.2.2.1 x (by omega)
      rw [s_X10_meanOf_4]
      simp only [s_X10_meanOf_0, s_X10_meanOf_1, s_X10_meanOf_2, s_X10_meanOf_3, s_X10_meanOf_5, s_X10_meanOf_6, s_X10_meanOf_9, s_X10_meanOf_12, s_X10_meanOf_13, s_X10_meanOf_14, s_X10_meanOf_17, s_X10_meanOf_18, s_X10_meanOf_19, s_X10_meanOf_20, s_X10_meanOf_21, s_X10_meanOf_22, s_X10_meanOf_25, s_X10_meanOf_26, s_X10_meanOf_27, s_X10_meanOf_28, s_X10_meanOf_31, s_X10_meanOf_34, s_X10_meanOf_35, gm1 e53, gm13 e53, vm_o e53, sI_lt (show m < 100000 by omega) (show x < 100000 by omega), ai_i hM2.2.2.2.2 (show 61 < 70 by decide) (show x < 7 by omega) (by decide)]
      refine ⟨fun hc => absurd hc (by omega), fun _ => sp_X10_worthOf hM2 hV (by omega) fun c3 hf3 hM3 => ?_⟩
      simp only [Option.toList_some, Option.toList_none, List.cons_append, List.nil_append, Option.toList, s_X10_meanOf_0, s_X10_meanOf_1, s_X10_meanOf_2, s_X10_meanOf_3, s_X10_meanOf_5, s_X10_meanOf_6, s_X10_meanOf_9, s_X10_meanOf_12, s_X10_meanOf_13, s_X10_meanOf_14, s_X10_meanOf_17, s_X10_meanOf_18, s_X10_meanOf_19, s_X10_meanOf_20, s_X10_meanOf_21, s_X10_meanOf_22, s_X10_meanOf_25, s_X10_meanOf_26, s_X10_meanOf_27, s_X10_meanOf_28, s_X10_meanOf_31, s_X10_meanOf_34, s_X10_meanOf_35, nI_l (show w x < 2 ^ 31 by omega), lN_mul, lN_add, nI_add]
      exact ⟨rfl, rfl, ih (x + 1) _ c3 (by omega) (by omega) hs (hf.trans hf3) hM3⟩
  exact lp m 1 0 c (by omega) (by omega) (Nat.zero_add _) frm.rf hM
/-- how much better the best is, by the model's scale -/
def gpF (w : Nat → Nat) (v m k : Nat) (b : Nat → Int32) : Nat := smF w m 1 * gnF w v m k b (topF (gnF w v m k b) m) - smF (fun x => w x * gnF w v m k b x) m 1
theorem mn_le {w : Nat → Nat} {v m k : Nat} {b : Nat → Int32} : smF (fun x => w x * gnF w v m k b x) m 1 ≤ smF w m 1 * gnF w v m k b (topF (gnF w v m k b) m) :=
  smF_wle m 1 (fun j h1 h2 => topF_max _ h1 (by omega))
theorem mn_sc {w h : Nat → Nat} {a : Nat} (r x : Nat) : smF (fun x => w x * (a * h x)) r x = a * smF (fun x => w x * h x) r x := by
  rw [← smF_mul]
  apply smF_cg
  intro j _ _
  rw [← Nat.mul_assoc, Nat.mul_comm (w j) a, Nat.mul_assoc]
theorem sp_X10_gapOf (hM : MT c m v k w b) (hV : VT m v k w) (hk : ∀ c', frm [58, 59, 60] c c' → MT c' m v k w b → R (some (.long (lN (scF v * gpF w v m k b)))) (tab c')) : rM ro (d + 6) 133 0 0 [.ref 53] (tab c) R := by
  have h53 : ∀ c1, MT c1 m v k w b → ∃ men si sg fr ru lu, c1 53 = mobj men (nI m) (nI v) si sg fr ru lu := fun c1 h => h.1.elim fun men h => h.elim fun si h => h.elim fun sg h => h.elim fun ru h => h.elim fun lu h => ⟨men, si, sg, nI k, ru, lu, h⟩
  obtain ⟨_, _, _, _, _, _, e53⟩ := h53 c hM
  have hW := hV.2.2.2.2
  rw [en_X10_gapOf]
  simp only [s_X10_gapOf_0, s_X10_gapOf_1, s_X10_gapOf_4, s_X10_gapOf_5, s_X10_gapOf_6, s_X10_gapOf_7, s_X10_gapOf_10, s_X10_gapOf_13, s_X10_gapOf_14, s_X10_gapOf_15, s_X10_gapOf_18, s_X10_gapOf_19, vm_o e53]
  refine sp_X10_sumOfWeights e53 hV.1.2 hM.2.2.2.2 ?_
  simp only [Option.toList_some, Option.toList_none, List.cons_append, List.nil_append, Option.toList, s_X10_gapOf_0, s_X10_gapOf_1, s_X10_gapOf_4, s_X10_gapOf_5, s_X10_gapOf_6, s_X10_gapOf_7, s_X10_gapOf_10, s_X10_gapOf_13, s_X10_gapOf_14, s_X10_gapOf_15, s_X10_gapOf_18, s_X10_gapOf_19, vm_o e53, nI_l (show smF w m 1 < 2 ^ 31 by omega)]
  refine sp_X10_bestOf hM hV fun c1 hf1 hM1 => ?_
  obtain ⟨_, _, _, _, _, _, e53⟩ := h53 c1 hM1
  simp only [Option.toList_some, Option.toList_none, List.cons_append, List.nil_append, Option.toList, s_X10_gapOf_0, s_X10_gapOf_1, s_X10_gapOf_4, s_X10_gapOf_5, s_X10_gapOf_6, s_X10_gapOf_7, s_X10_gapOf_10, s_X10_gapOf_13, s_X10_gapOf_14, s_X10_gapOf_15, s_X10_gapOf_18, s_X10_gapOf_19, vm_o e53]
  have htm := topF_mem (gnF w v m k b) hV.1.1
  refine sp_X10_worthOf hM1 hV (by have := hV.1.2; omega) fun c2 hf2 hM2 => ?_
  obtain ⟨_, _, _, _, _, _, e53⟩ := h53 c2 hM2
  simp only [Option.toList_some, Option.toList_none, List.cons_append, List.nil_append, Option.toList, s_X10_gapOf_0, s_X10_gapOf_1, s_X10_gapOf_4, s_X10_gapOf_5, s_X10_gapOf_6, s_X10_gapOf_7, s_X10_gapOf_10, s_X10_gapOf_13, s_X10_gapOf_14, s_X10_gapOf_15, s_X10_gapOf_18, s_X10_gapOf_19, vm_o e53]
  refine sp_X10_meanOf hM2 hV fun c3 hf3 hM3 => ?_
  simp only [Option.toList_some, Option.toList_none, List.cons_append, List.nil_append, Option.toList, s_X10_gapOf_0, s_X10_gapOf_1, s_X10_gapOf_4, s_X10_gapOf_5, s_X10_gapOf_6, s_X10_gapOf_7, s_X10_gapOf_10, s_X10_gapOf_13, s_X10_gapOf_14, s_X10_gapOf_15, s_X10_gapOf_18, s_X10_gapOf_19, lN_mul]
  have e1 : smF w m 1 * (scF v * gnF w v m k b (topF (gnF w v m k b) m)) = scF v * (smF w m 1 * gnF w v m k b (topF (gnF w v m k b) m)) := by
    rw [← Nat.mul_assoc, Nat.mul_comm (smF w m 1), Nat.mul_assoc]
  rw [e1, mn_sc, lN_sub (Nat.mul_le_mul_left _ mn_le), ← Nat.mul_sub]
  exact hk c3 ((hf1.trans hf2).trans hf3) hM3
end MB
