/-! ===== the model: rest, gap ===== -/
theorem nwF_list {m : Nat} {a b : List Nat} (hm : 2 ≤ m) (ha : a.length = m) (hb : b.length = m) (h0 : ¬ lastN (fll a) m < 2) (h : (List.range m).map (fun j => nwF m (fll a) (j + 1)) = b) : ∀ j, nwF m (fll a) j = fll b j := by
  have hx := lastN_le (fll a) m
  intro j
  by_cases hj : 1 ≤ j ∧ j ≤ m
  · obtain ⟨i, rfl⟩ : ∃ i, j = i + 1 := ⟨j - 1, by omega⟩
    show _ = b.getD i 0
    rw [← h, List.getD_eq_getElem?_getD, List.getElem?_map, List.getElem?_range (by omega)]
    rfl
  · unfold nwF updN
    rw [if_neg (by omega), if_neg (by omega), if_neg (by omega)]
    by_cases e : j = 0
    · rw [e]; rfl
    · rw [fll_ge (by omega), fll_ge (by omega)]
theorem fll_b {m k : Nat} {a : List Nat} (hok : okL m k a = true) : ∀ j, fll a j ≤ k := by
  simp only [okL, Bool.and_eq_true, beq_iff_eq] at hok
  have key : ∀ r x j, x ≤ j → j < x + r → fll a j ≤ smF (fll a) r x := by
    intro r
    induction r with
    | zero => intro x j h1 h2; omega
    | succ r ih =>
      intro x j h1 h2
      rw [smF]
      by_cases e : j = x
      · subst e; omega
      · have := ih (x + 1) j (by omega) (by omega); omega
  intro j
  by_cases hj : 1 ≤ j ∧ j ≤ m
  · have := key m 1 j hj.1 (by omega)
    omega
  · by_cases e : j = 0
    · rw [e]; exact Nat.zero_le _
    · rw [fll_ge (by omega)]; exact Nat.zero_le _
def BSM (m v : Nat) (H : List Nat → Nat) (best : Option (List Nat)) (g : Nat → Int32) (ru : Int64) : Prop := match best with
  | none => ru = - lN 1
  | some b => ru = lN (scF v * H b) ∧ H b ≤ 12 * 2985984 ∧ ∀ j, 1 ≤ j → j ≤ m → g j = nI (fll b j)
section MR
variable {ro : rQ} {d : Nat} {R : rR} {c c' c0 c1 c2 : Nat → rE} {n m v si sg k t : Nat} {w fo w' fl : Nat → Nat} {st pd b : Nat → Int32} {im : Nat → Option TS} {x y z men law sii sgg fr : Int32} {ru lu : Int64}
theorem sp_X10_nextWeights (h53 : c 53 = mobj men (nI m) law sii sgg fr ru lu) (hm : 2 ≤ m ∧ m ≤ 6) (h61 : isI c 61 7 (fun j => nI (fl j))) (hfl : ∀ j, fl j < 1000)
    (hk0 : lastN fl m < 2 → R (some (.int (nI 0))) (tab c)) (hk1 : ¬ lastN fl m < 2 → ∀ c', frm [61] c c' → isI c' 61 7 (fun j => nI (nwF m fl j)) → R (some (.int (nI 1))) (tab c')) : rM ro (d + 1) 138 0 0 [.ref 53] (tab c) R := by
  rw [en_X10_nextWeights]
  simp only [s_X10_nextWeights_0, s_X10_nextWeights_1, s_X10_nextWeights_4, s_X10_nextWeights_6, s_X10_nextWeights_9, s_X10_nextWeights_10, s_X10_nextWeights_13, s_X10_nextWeights_14, s_X10_nextWeights_15, s_X10_nextWeights_18, s_X10_nextWeights_21, s_X10_nextWeights_24, s_X10_nextWeights_25, s_X10_nextWeights_26, s_X10_nextWeights_29, s_X10_nextWeights_30, s_X10_nextWeights_31, s_X10_nextWeights_32, s_X10_nextWeights_35, s_X10_nextWeights_36, s_X10_nextWeights_37, s_X10_nextWeights_38, s_X10_nextWeights_39, s_X10_nextWeights_42, s_X10_nextWeights_43, s_X10_nextWeights_44, s_X10_nextWeights_45, s_X10_nextWeights_46, s_X10_nextWeights_49, s_X10_nextWeights_50, s_X10_nextWeights_51, s_X10_nextWeights_52, s_X10_nextWeights_53, s_X10_nextWeights_54, s_X10_nextWeights_55, s_X10_nextWeights_56, s_X10_nextWeights_57, s_X10_nextWeights_58, s_X10_nextWeights_61, s_X10_nextWeights_62, s_X10_nextWeights_65, s_X10_nextWeights_66, s_X10_nextWeights_67, s_X10_nextWeights_68, s_X10_nextWeights_69, s_X10_nextWeights_70, gm1 h53]
  refine ⟨rfl, ?_⟩
  have behind : ∀ x, x ≤ m → lastN fl m = x → (x ≠ 0 → fl x ≠ 0) → rU ro d tb_X10_nextWeights R 24 [.ref 53, .int (nI x), .null] [] (tab c) := by
    intro x hx hl hne
    simp only [s_X10_nextWeights_0, s_X10_nextWeights_1, s_X10_nextWeights_4, s_X10_nextWeights_6, s_X10_nextWeights_9, s_X10_nextWeights_10, s_X10_nextWeights_13, s_X10_nextWeights_14, s_X10_nextWeights_15, s_X10_nextWeights_18, s_X10_nextWeights_21, s_X10_nextWeights_24, s_X10_nextWeights_25, s_X10_nextWeights_26, s_X10_nextWeights_29, s_X10_nextWeights_30, s_X10_nextWeights_31, s_X10_nextWeights_32, s_X10_nextWeights_35, s_X10_nextWeights_36, s_X10_nextWeights_37, s_X10_nextWeights_38, s_X10_nextWeights_39, s_X10_nextWeights_42, s_X10_nextWeights_43, s_X10_nextWeights_44, s_X10_nextWeights_45, s_X10_nextWeights_46, s_X10_nextWeights_49, s_X10_nextWeights_50, s_X10_nextWeights_51, s_X10_nextWeights_52, s_X10_nextWeights_53, s_X10_nextWeights_54, s_X10_nextWeights_55, s_X10_nextWeights_56, s_X10_nextWeights_57, s_X10_nextWeights_58, s_X10_nextWeights_61, s_X10_nextWeights_62, s_X10_nextWeights_65, s_X10_nextWeights_66, s_X10_nextWeights_67, s_X10_nextWeights_68, s_X10_nextWeights_69, s_X10_nextWeights_70, gm1 h53, gm13 h53, sI_le (show 2 < 100000 by decide) (show x < 100000 by omega)]
    refine ⟨fun h0 => ?_, fun h0 => ⟨Or.inl nI_0, hk0 (by omega)⟩⟩
    have hfx := hne (by omega)
    have hb1 := hfl x
    simp only [ai_i h61 (show 61 < 70 by decide) (show x < 7 by omega) (by decide), sI_sub (show 1 ≤ x by omega)]
    refine ⟨rfl, si_i h61 (by decide) (by omega) (by decide) fun c1 hf1 hi1 => ?_⟩
    have e53 := (hf1 53 rfl).trans h53
    simp only [s_X10_nextWeights_0, s_X10_nextWeights_1, s_X10_nextWeights_4, s_X10_nextWeights_6, s_X10_nextWeights_9, s_X10_nextWeights_10, s_X10_nextWeights_13, s_X10_nextWeights_14, s_X10_nextWeights_15, s_X10_nextWeights_18, s_X10_nextWeights_21, s_X10_nextWeights_24, s_X10_nextWeights_25, s_X10_nextWeights_26, s_X10_nextWeights_29, s_X10_nextWeights_30, s_X10_nextWeights_31, s_X10_nextWeights_32, s_X10_nextWeights_35, s_X10_nextWeights_36, s_X10_nextWeights_37, s_X10_nextWeights_38, s_X10_nextWeights_39, s_X10_nextWeights_42, s_X10_nextWeights_43, s_X10_nextWeights_44, s_X10_nextWeights_45, s_X10_nextWeights_46, s_X10_nextWeights_49, s_X10_nextWeights_50, s_X10_nextWeights_51, s_X10_nextWeights_52, s_X10_nextWeights_53, s_X10_nextWeights_54, s_X10_nextWeights_55, s_X10_nextWeights_56, s_X10_nextWeights_57, s_X10_nextWeights_58, s_X10_nextWeights_61, s_X10_nextWeights_62, s_X10_nextWeights_65, s_X10_nextWeights_66, s_X10_nextWeights_67, s_X10_nextWeights_68, s_X10_nextWeights_69, s_X10_nextWeights_70, gm1 e53, gm13 e53, sI_sub (show 1 ≤ x by omega), ai_i hi1 (show 61 < 70 by decide) (show x - 1 < 7 by omega) (by decide)]
    refine si_i hi1 (by decide) (by omega) (by decide) fun c2 hf2 hi2 => ?_
    have e53 := (hf2 53 rfl).trans e53
    simp only [s_X10_nextWeights_0, s_X10_nextWeights_1, s_X10_nextWeights_4, s_X10_nextWeights_6, s_X10_nextWeights_9, s_X10_nextWeights_10, s_X10_nextWeights_13, s_X10_nextWeights_14, s_X10_nextWeights_15, s_X10_nextWeights_18, s_X10_nextWeights_21, s_X10_nextWeights_24, s_X10_nextWeights_25, s_X10_nextWeights_26, s_X10_nextWeights_29, s_X10_nextWeights_30, s_X10_nextWeights_31, s_X10_nextWeights_32, s_X10_nextWeights_35, s_X10_nextWeights_36, s_X10_nextWeights_37, s_X10_nextWeights_38, s_X10_nextWeights_39, s_X10_nextWeights_42, s_X10_nextWeights_43, s_X10_nextWeights_44, s_X10_nextWeights_45, s_X10_nextWeights_46, s_X10_nextWeights_49, s_X10_nextWeights_50, s_X10_nextWeights_51, s_X10_nextWeights_52, s_X10_nextWeights_53, s_X10_nextWeights_54, s_X10_nextWeights_55, s_X10_nextWeights_56, s_X10_nextWeights_57, s_X10_nextWeights_58, s_X10_nextWeights_61, s_X10_nextWeights_62, s_X10_nextWeights_65, s_X10_nextWeights_66, s_X10_nextWeights_67, s_X10_nextWeights_68, s_X10_nextWeights_69, s_X10_nextWeights_70, gm1 e53, gm13 e53, sI_sub (show 1 ≤ fl x by omega)]
    refine si_i hi2 (by decide) (by omega) (by decide) fun c3 hf3 hi3 => ?_
    refine ⟨Or.inr rfl, hk1 (by omega) c3 (hf1.trans (hf2.trans hf3)) (hi3.cg fun j hj => ?_)⟩
    have e1 : upd (fun j => nI (fl j)) x (nI 0) (x - 1) = nI (fl (x - 1)) := upd_ne (by omega)
    rw [e1, nI_add]
    have := congrFun (updN_nI (f := updN (updN fl x 0) (x - 1) (fl (x - 1) + 1)) (k := m) (x := fl x - 1)) j
    rw [updN_nI, updN_nI] at this
    rw [nwF, hl]
    exact this.symm
  have lp : ∀ x, x ≤ m → lastN fl m = lastN fl x → rU ro d tb_X10_nextWeights R 5 [.ref 53, .int (nI x), .null] [] (tab c) := by
    intro x
    induction x with
    | zero =>
      intro hx hl
      rw [s_X10_nextWeights_5]
      simp only [s_X10_nextWeights_6]
      exact ⟨fun _ => behind 0 hx hl (fun h => absurd rfl h), fun hc => absurd (by rw [nI_0]; exact Int32.le_refl _) hc⟩
    | succ x ih =>
      intro hx hl
      have hb1 := hfl (x + 1)
      rw [s_X10_nextWeights_5]
      simp only [s_X10_nextWeights_0, s_X10_nextWeights_1, s_X10_nextWeights_4, s_X10_nextWeights_6, s_X10_nextWeights_9, s_X10_nextWeights_10, s_X10_nextWeights_13, s_X10_nextWeights_14, s_X10_nextWeights_15, s_X10_nextWeights_18, s_X10_nextWeights_21, s_X10_nextWeights_25, s_X10_nextWeights_26, s_X10_nextWeights_29, s_X10_nextWeights_30, s_X10_nextWeights_31, s_X10_nextWeights_32, s_X10_nextWeights_35, s_X10_nextWeights_36, s_X10_nextWeights_37, s_X10_nextWeights_38, s_X10_nextWeights_39, s_X10_nextWeights_42, s_X10_nextWeights_43, s_X10_nextWeights_44, s_X10_nextWeights_45, s_X10_nextWeights_46, s_X10_nextWeights_49, s_X10_nextWeights_50, s_X10_nextWeights_51, s_X10_nextWeights_52, s_X10_nextWeights_53, s_X10_nextWeights_54, s_X10_nextWeights_55, s_X10_nextWeights_56, s_X10_nextWeights_57, s_X10_nextWeights_58, s_X10_nextWeights_61, s_X10_nextWeights_62, s_X10_nextWeights_65, s_X10_nextWeights_66, s_X10_nextWeights_67, s_X10_nextWeights_68, s_X10_nextWeights_69, s_X10_nextWeights_70, gm13 h53, ai_i h61 (show 61 < 70 by decide) (show x + 1 < 7 by omega) (by decide)]
      refine ⟨fun hc => absurd hc (nI_nle (by omega) (by omega)), fun _ => ⟨fun h0 => ⟨rfl, ?_⟩, fun h0 => ?_⟩⟩
      · have h0 : fl (x + 1) = 0 := (sI_eq (by omega) (by decide)).mp (h0.trans nI_0.symm)
        rw [lastN, if_pos h0] at hl
        rw [sI_m1 (x + 1) (by omega)]
        exact ih (by omega) hl
      · have h0 : fl (x + 1) ≠ 0 := fun e => h0 (by rw [e]; exact nI_0)
        rw [lastN, if_neg h0] at hl
        exact behind (x + 1) hx hl (fun _ => h0)
  exact lp m (Nat.le_refl _) rfl
def RST (c c1 : Nat → rE) (n m v si sg : Nat) (lu : Int64) (a : List Nat) (best : Option (List Nat)) : Prop := frm [53, 58, 59, 60, 61, 62] c c1 ∧ tyI c1 58 7 ∧ tyI c1 60 7 ∧ isI c1 59 7 zrB ∧ isI c1 61 7 (fun j => nI (fll a j)) ∧ ∃ g ru, c1 53 = mobj (nI n) (nI m) (nI v) (nI si) (nI sg) (nI (n - 1)) ru lu ∧ isI c1 62 7 g ∧ BSM m v (rsH v n m) best g ru
theorem sp_X10_layRest (hV : VS (n, m, v, w, fo, si, st)) (ht : 1 ≤ t ∧ t ≤ 8) (hM : MS c (n, m, v, w, fo, si, st) sg pd im) (hk : ∀ c' fr lu g, frm MM c c' → MS c' (n, m, v, w, fo, si, st) sg pd im → c' 53 = mobj (nI n) (nI m) (nI v) (nI si) (nI sg) fr (lN (scF v * rsH v n m (rsL v n m t))) lu → isI c' 62 7 g → (∀ j, 1 ≤ j → j ≤ m → g j = nI (fll (rsL v n m t) j)) → R none (tab c')) : rM ro (d + 8) 137 0 0 [.ref 53, .int (nI t)] (tab c) R := by
  obtain ⟨⟨⟨fr, ru, lu, h53⟩, h54, h55, h56, h57⟩, hsc, him⟩ := id hM
  have hn := hV.1
  have hm := hV.2.1
  have hs := sc_le v
  obtain ⟨hch, hhd, hall⟩ := cmp_chw m (by omega) hm.1 t (by omega) ht.1
  have hnn := rsL_amL (v := v) (n := n) (cmp_nn hm ht)
  have body : ∀ (a : List Nat) (best : Option (List Nat)) (c1 : Nat → rE) (l3 l4 l5 : Value), okL m t a = true → RST c c1 n m v si sg lu a best → (∀ c2 (l3 l4 l5 : Value), RST c c2 n m v si sg lu a (amO (rsH v n m) best a) → rU ro (d + 7) tb_X10_layRest R 121 [.ref 53, .int (nI t), .int (nI 1), l3, l4, l5] [] (tab c2)) → rU ro (d + 7) tb_X10_layRest R 59 [.ref 53, .int (nI t), .int (nI 1), l3, l4, l5] [] (tab c1) := by
    intro a best c1 l3 l4 l5 hok hR go
    obtain ⟨f1, t58, t60, i59, i61, g, ru, e53, i62, hB⟩ := id hR
    have hfb := fll_b hok
    simp only [okL, Bool.and_eq_true, beq_iff_eq] at hok
    have hvt : VT m v (n - 1) (fll a) := ⟨hm, hV.2.2.1, by omega, fun j _ => by have := hfb j; omega, by omega⟩
    have hHa : rsH v n m a ≤ 12 * 2985984 := gp_le (by omega) (by omega)
    have hSa : scF v * rsH v n m a ≤ 2 * (12 * 2985984) := Nat.mul_le_mul hs.2 hHa
    rw [s_X10_layRest_59]
    simp only [s_X10_layRest_0, s_X10_layRest_1, s_X10_layRest_3, s_X10_layRest_5, s_X10_layRest_8, s_X10_layRest_9, s_X10_layRest_12, s_X10_layRest_13, s_X10_layRest_14, s_X10_layRest_15, s_X10_layRest_16, s_X10_layRest_19, s_X10_layRest_20, s_X10_layRest_21, s_X10_layRest_22, s_X10_layRest_25, s_X10_layRest_28, s_X10_layRest_29, s_X10_layRest_32, s_X10_layRest_33, s_X10_layRest_34, s_X10_layRest_37, s_X10_layRest_40, s_X10_layRest_41, s_X10_layRest_42, s_X10_layRest_45, s_X10_layRest_46, s_X10_layRest_47, s_X10_layRest_50, s_X10_layRest_51, s_X10_layRest_54, s_X10_layRest_57, s_X10_layRest_58, s_X10_layRest_60, s_X10_layRest_63, s_X10_layRest_64, s_X10_layRest_67, s_X10_layRest_68, s_X10_layRest_69, s_X10_layRest_72, s_X10_layRest_73, s_X10_layRest_74, s_X10_layRest_77, s_X10_layRest_78, s_X10_layRest_79, s_X10_layRest_82, s_X10_layRest_83, s_X10_layRest_87, s_X10_layRest_88, s_X10_layRest_91, s_X10_layRest_92, s_X10_layRest_96, s_X10_layRest_98, s_X10_layRest_101, s_X10_layRest_102, s_X10_layRest_105, s_X10_layRest_107, s_X10_layRest_108, s_X10_layRest_111, s_X10_layRest_113, s_X10_layRest_114, s_X10_layRest_115, s_X10_layRest_118, s_X10_layRest_122, s_X10_layRest_125, s_X10_layRest_126, s_X10_layRest_129, vm_o e53]
    refine ⟨fun q => absurd q (by decide), fun _ => sp_X10_gapOf ⟨⟨_, _, _, _, _, e53⟩, t58, t60, i59, i61⟩ hvt fun c2 f2 hM2 => ?_⟩
    have k53 := (f2 53 rfl).trans e53
    have g2 : frm [53, 58, 59, 60, 61, 62] c c2 := f1.trans (f2.mono rfl)
    have hR2 : RST c c2 n m v si sg lu a best := ⟨g2, hM2.2.1, hM2.2.2.1, hM2.2.2.2.1, hM2.2.2.2.2, g, ru, k53, i62.fr f2 rfl, hB⟩
    have hgp : gpF (fll a) v m (n - 1) zrB = rsH v n m a := rfl
    rw [hgp]
    have take : amO (rsH v n m) best a = some a → ∀ (l5 : Value), rU ro (d + 7) tb_X10_layRest R 86 [.ref 53, .int (nI t), .int (nI 1), .long (lN (scF v * rsH v n m a)), .null, l5] [] (tab c2) := by
      intro hO l5
      simp only [s_X10_layRest_0, s_X10_layRest_1, s_X10_layRest_3, s_X10_layRest_5, s_X10_layRest_8, s_X10_layRest_9, s_X10_layRest_12, s_X10_layRest_13, s_X10_layRest_14, s_X10_layRest_15, s_X10_layRest_16, s_X10_layRest_19, s_X10_layRest_20, s_X10_layRest_21, s_X10_layRest_22, s_X10_layRest_25, s_X10_layRest_28, s_X10_layRest_29, s_X10_layRest_32, s_X10_layRest_33, s_X10_layRest_34, s_X10_layRest_37, s_X10_layRest_40, s_X10_layRest_41, s_X10_layRest_42, s_X10_layRest_45, s_X10_layRest_46, s_X10_layRest_47, s_X10_layRest_50, s_X10_layRest_51, s_X10_layRest_54, s_X10_layRest_57, s_X10_layRest_58, s_X10_layRest_60, s_X10_layRest_63, s_X10_layRest_64, s_X10_layRest_67, s_X10_layRest_68, s_X10_layRest_69, s_X10_layRest_72, s_X10_layRest_73, s_X10_layRest_74, s_X10_layRest_77, s_X10_layRest_78, s_X10_layRest_79, s_X10_layRest_82, s_X10_layRest_83, s_X10_layRest_86, s_X10_layRest_87, s_X10_layRest_88, s_X10_layRest_91, s_X10_layRest_92, s_X10_layRest_96, s_X10_layRest_98, s_X10_layRest_101, s_X10_layRest_102, s_X10_layRest_105, s_X10_layRest_107, s_X10_layRest_108, s_X10_layRest_111, s_X10_layRest_113, s_X10_layRest_114, s_X10_layRest_115, s_X10_layRest_118, s_X10_layRest_122, s_X10_layRest_125, s_X10_layRest_126, s_X10_layRest_129, pm15 k53]
      refine ⟨rfl, ?_⟩
      obtain ⟨c3, hc3⟩ : ∃ c3, c3 = fup c2 53 (mobj (nI n) (nI m) (nI v) (nI si) (nI sg) (nI (n - 1)) (lN (scF v * rsH v n m a)) lu) := ⟨_, rfl⟩
      rw [← hc3]
      have f3 : frm [53] c2 c3 := by rw [hc3]; exact frm.rf.fup rfl
      have k53 : c3 53 = mobj (nI n) (nI m) (nI v) (nI si) (nI sg) (nI (n - 1)) (lN (scF v * rsH v n m a)) lu := by rw [hc3]; exact fup_self
      have i61c := (hM2.2.2.2.2).fr f3 rfl
      have lp2 : ∀ rem j c4 val, j + rem = 7 → frm [62] c3 c4 → isI c4 62 7 val → (∀ i, i < j → val i = nI (fll a i)) → rU ro (d + 7) tb_X10_layRest R 94 [.ref 53, .int (nI t), .int (nI 1), .long (lN (scF v * rsH v n m a)), .null, .int (nI j)] [] (tab c4) := by
        intro rem
        induction rem with
        | zero =>
          intro j c4 val hj f4 hi4 hv
          have : j = 7 := by omega
          subst this
          rw [s_X10_layRest_94]
          simp only [s_X10_layRest_0, s_X10_layRest_1, s_X10_layRest_3, s_X10_layRest_5, s_X10_layRest_8, s_X10_layRest_9, s_X10_layRest_12, s_X10_layRest_13, s_X10_layRest_14, s_X10_layRest_15, s_X10_layRest_16, s_X10_layRest_19, s_X10_layRest_20, s_X10_layRest_21, s_X10_layRest_22, s_X10_layRest_25, s_X10_layRest_28, s_X10_layRest_29, s_X10_layRest_32, s_X10_layRest_33, s_X10_layRest_34, s_X10_layRest_37, s_X10_layRest_40, s_X10_layRest_41, s_X10_layRest_42, s_X10_layRest_45, s_X10_layRest_46, s_X10_layRest_47, s_X10_layRest_50, s_X10_layRest_51, s_X10_layRest_54, s_X10_layRest_57, s_X10_layRest_58, s_X10_layRest_60, s_X10_layRest_63, s_X10_layRest_64, s_X10_layRest_67, s_X10_layRest_68, s_X10_layRest_69, s_X10_layRest_72, s_X10_layRest_73, s_X10_layRest_74, s_X10_layRest_77, s_X10_layRest_78, s_X10_layRest_79, s_X10_layRest_82, s_X10_layRest_83, s_X10_layRest_86, s_X10_layRest_87, s_X10_layRest_88, s_X10_layRest_91, s_X10_layRest_92, s_X10_layRest_96, s_X10_layRest_98, s_X10_layRest_101, s_X10_layRest_102, s_X10_layRest_105, s_X10_layRest_107, s_X10_layRest_108, s_X10_layRest_111, s_X10_layRest_113, s_X10_layRest_114, s_X10_layRest_115, s_X10_layRest_118, s_X10_layRest_122, s_X10_layRest_125, s_X10_layRest_126, s_X10_layRest_129]
          refine ⟨fun _ => go c4 _ _ _ ?_, fun hc => absurd ((sI_le (by decide) (by decide)).mpr (Nat.le_refl _)) hc⟩
          rw [hO]
          exact ⟨g2.trans ((f3.mono rfl).trans (f4.mono rfl)), (hM2.2.1.fr f3 rfl).fr f4 rfl, (hM2.2.2.1.fr f3 rfl).fr f4 rfl, (hM2.2.2.2.1.fr f3 rfl).fr f4 rfl, i61c.fr f4 rfl, val, _, (f4 53 rfl).trans k53, hi4, rfl, hHa, fun j h1 h2 => hv j (by omega)⟩
        | succ rem ih =>
          intro j c4 val hj f4 hi4 hv
          have k53 := (f4 53 rfl).trans k53
          rw [s_X10_layRest_94]
          simp only [s_X10_layRest_0, s_X10_layRest_1, s_X10_layRest_3, s_X10_layRest_5, s_X10_layRest_8, s_X10_layRest_9, s_X10_layRest_12, s_X10_layRest_13, s_X10_layRest_14, s_X10_layRest_15, s_X10_layRest_16, s_X10_layRest_19, s_X10_layRest_20, s_X10_layRest_21, s_X10_layRest_22, s_X10_layRest_25, s_X10_layRest_28, s_X10_layRest_29, s_X10_layRest_32, s_X10_layRest_33, s_X10_layRest_34, s_X10_layRest_37, s_X10_layRest_40, s_X10_layRest_41, s_X10_layRest_42, s_X10_layRest_45, s_X10_layRest_46, s_X10_layRest_47, s_X10_layRest_50, s_X10_layRest_51, s_X10_layRest_54, s_X10_layRest_57, s_X10_layRest_58, s_X10_layRest_60, s_X10_layRest_63, s_X10_layRest_64, s_X10_layRest_67, s_X10_layRest_68, s_X10_layRest_69, s_X10_layRest_72, s_X10_layRest_73, s_X10_layRest_74, s_X10_layRest_77, s_X10_layRest_78, s_X10_layRest_79, s_X10_layRest_82, s_X10_layRest_83, s_X10_layRest_86, s_X10_layRest_87, s_X10_layRest_88, s_X10_layRest_91, s_X10_layRest_92, s_X10_layRest_96, s_X10_layRest_98, s_X10_layRest_101, s_X10_layRest_102, s_X10_layRest_105, s_X10_layRest_107, s_X10_layRest_108, s_X10_layRest_111, s_X10_layRest_113, s_X10_layRest_114, s_X10_layRest_115, s_X10_layRest_118, s_X10_layRest_122, s_X10_layRest_125, s_X10_layRest_126, s_X10_layRest_129, gm14 k53, gm13 k53, nI_add, sI_le (show 7 < 100000 by decide) (show j < 100000 by omega), ai_i (i61c.fr f4 rfl) (show 61 < 70 by decide) (show j < 7 by omega) (by decide)]
          refine ⟨fun hc => absurd hc (by omega), fun _ => si_i hi4 (by decide) (by omega) (by decide) fun c5 f5 hi5 => ⟨rfl, ih (j + 1) c5 _ (by omega) (f4.trans f5) hi5 (fillI hv rfl)⟩⟩
      exact lp2 7 0 c3 g (by omega) frm.rf ((i62.fr f2 rfl).fr f3 rfl) (fun j hj => absurd hj (by omega))
    simp only [Option.toList_some, Option.toList_none, List.cons_append, List.nil_append, Option.toList, s_X10_layRest_0, s_X10_layRest_1, s_X10_layRest_3, s_X10_layRest_5, s_X10_layRest_8, s_X10_layRest_9, s_X10_layRest_12, s_X10_layRest_13, s_X10_layRest_14, s_X10_layRest_15, s_X10_layRest_16, s_X10_layRest_19, s_X10_layRest_20, s_X10_layRest_21, s_X10_layRest_22, s_X10_layRest_25, s_X10_layRest_28, s_X10_layRest_29, s_X10_layRest_32, s_X10_layRest_33, s_X10_layRest_34, s_X10_layRest_37, s_X10_layRest_40, s_X10_layRest_41, s_X10_layRest_42, s_X10_layRest_45, s_X10_layRest_46, s_X10_layRest_47, s_X10_layRest_50, s_X10_layRest_51, s_X10_layRest_54, s_X10_layRest_57, s_X10_layRest_58, s_X10_layRest_60, s_X10_layRest_63, s_X10_layRest_64, s_X10_layRest_67, s_X10_layRest_68, s_X10_layRest_69, s_X10_layRest_72, s_X10_layRest_73, s_X10_layRest_74, s_X10_layRest_77, s_X10_layRest_78, s_X10_layRest_79, s_X10_layRest_82, s_X10_layRest_83, s_X10_layRest_87, s_X10_layRest_88, s_X10_layRest_91, s_X10_layRest_92, s_X10_layRest_96, s_X10_layRest_98, s_X10_layRest_101, s_X10_layRest_102, s_X10_layRest_105, s_X10_layRest_107, s_X10_layRest_108, s_X10_layRest_111, s_X10_layRest_113, s_X10_layRest_114, s_X10_layRest_115, s_X10_layRest_118, s_X10_layRest_122, s_X10_layRest_125, s_X10_layRest_126, s_X10_layRest_129, gm15 k53]
    cases hb : best with
    | none =>
      rw [hb] at hB hR2 go take
      have hB : ru = - lN 1 := hB
      rw [hB]
      exact ⟨rfl, fun _ => take rfl _, fun q => absurd (by decide) q⟩
    | some bl =>
      rw [hb] at hB hR2 go take
      obtain ⟨hB1, hB2, hB3⟩ := hB
      have hSb : scF v * rsH v n m bl ≤ 2 * (12 * 2985984) := Nat.mul_le_mul hs.2 hB2
      rw [hB1]
      simp only [lclt0 (show scF v * rsH v n m bl < 2 ^ 62 by omega), lcge (show scF v * rsH v n m a < 2 ^ 62 by omega) (show scF v * rsH v n m bl < 2 ^ 62 by omega)]
      refine ⟨rfl, False.elim, fun _ => ⟨fun hle => go c2 _ _ _ ?_, fun hle => take ?_ _⟩⟩
      · have : rsH v n m bl ≤ rsH v n m a := Nat.le_of_mul_le_mul_left hle (by omega)
        rw [show amO (rsH v n m) (some bl) a = some bl by unfold amO; simp only; rw [if_neg (by omega)]]
        exact hR2
      · have : rsH v n m a < rsH v n m bl := by
          rcases Nat.lt_or_ge (rsH v n m a) (rsH v n m bl) with q | q
          · exact q
          · exact absurd (Nat.mul_le_mul_left _ q) hle
        unfold amO
        simp only
        rw [if_pos this]
  have lp : ∀ (tl : List (List Nat)) (a : List Nat) (best : Option (List Nat)) (c1 : Nat → rE) (l3 l4 l5 : Value), chw m (a :: tl) = true → (a :: tl).all (okL m t) = true → RST c c1 n m v si sg lu a best → amL (rsH v n m) best (a :: tl) = some (rsL v n m t) → rU ro (d + 7) tb_X10_layRest R 59 [.ref 53, .int (nI t), .int (nI 1), l3, l4, l5] [] (tab c1) := by
    intro tl
    induction tl with
    | nil =>
      intro a best c1 l3 l4 l5 hc hal hR ham
      have hok := List.all_eq_true.mp hal a List.mem_cons_self
      have hfb := fll_b hok
      have hl2 : lastN (fll a) m < 2 := by
        have : Nat.blt (lastN (fll a) m) 2 = true := hc
        simpa using this
      refine body a best c1 l3 l4 l5 hok hR fun c2 l3 l4 l5 hR2 => ?_
      have ham : amO (rsH v n m) best a = some (rsL v n m t) := ham
      rw [ham] at hR2
      obtain ⟨f2, t58, t60, i59, i61, g, ru, e53, i62, hB1, hB2, hB3⟩ := hR2
      simp only [s_X10_layRest_0, s_X10_layRest_1, s_X10_layRest_3, s_X10_layRest_5, s_X10_layRest_8, s_X10_layRest_9, s_X10_layRest_12, s_X10_layRest_13, s_X10_layRest_14, s_X10_layRest_15, s_X10_layRest_16, s_X10_layRest_19, s_X10_layRest_20, s_X10_layRest_21, s_X10_layRest_22, s_X10_layRest_25, s_X10_layRest_28, s_X10_layRest_29, s_X10_layRest_32, s_X10_layRest_33, s_X10_layRest_34, s_X10_layRest_37, s_X10_layRest_40, s_X10_layRest_41, s_X10_layRest_42, s_X10_layRest_45, s_X10_layRest_46, s_X10_layRest_47, s_X10_layRest_50, s_X10_layRest_51, s_X10_layRest_54, s_X10_layRest_57, s_X10_layRest_58, s_X10_layRest_60, s_X10_layRest_63, s_X10_layRest_64, s_X10_layRest_67, s_X10_layRest_68, s_X10_layRest_69, s_X10_layRest_72, s_X10_layRest_73, s_X10_layRest_74, s_X10_layRest_77, s_X10_layRest_78, s_X10_layRest_79, s_X10_layRest_82, s_X10_layRest_83, s_X10_layRest_86, s_X10_layRest_87, s_X10_layRest_88, s_X10_layRest_91, s_X10_layRest_92, s_X10_layRest_96, s_X10_layRest_98, s_X10_layRest_101, s_X10_layRest_102, s_X10_layRest_105, s_X10_layRest_107, s_X10_layRest_108, s_X10_layRest_111, s_X10_layRest_113, s_X10_layRest_114, s_X10_layRest_115, s_X10_layRest_118, s_X10_layRest_121, s_X10_layRest_122, s_X10_layRest_125, s_X10_layRest_126, s_X10_layRest_129, vm_o e53]
      refine sp_X10_nextWeights e53 hm i61 (fun j => by have := hfb j; omega) (fun _ => ?_) (fun q => absurd hl2 q)
      simp only [Option.toList_some, Option.toList_none, List.cons_append, List.nil_append, Option.toList, s_X10_layRest_0, s_X10_layRest_1, s_X10_layRest_3, s_X10_layRest_5, s_X10_layRest_8, s_X10_layRest_9, s_X10_layRest_12, s_X10_layRest_13, s_X10_layRest_14, s_X10_layRest_15, s_X10_layRest_16, s_X10_layRest_19, s_X10_layRest_20, s_X10_layRest_21, s_X10_layRest_22, s_X10_layRest_25, s_X10_layRest_28, s_X10_layRest_29, s_X10_layRest_32, s_X10_layRest_33, s_X10_layRest_34, s_X10_layRest_37, s_X10_layRest_40, s_X10_layRest_41, s_X10_layRest_42, s_X10_layRest_45, s_X10_layRest_46, s_X10_layRest_47, s_X10_layRest_50, s_X10_layRest_51, s_X10_layRest_54, s_X10_layRest_57, s_X10_layRest_58, s_X10_layRest_60, s_X10_layRest_63, s_X10_layRest_64, s_X10_layRest_67, s_X10_layRest_68, s_X10_layRest_69, s_X10_layRest_72, s_X10_layRest_73, s_X10_layRest_74, s_X10_layRest_77, s_X10_layRest_78, s_X10_layRest_79, s_X10_layRest_82, s_X10_layRest_83, s_X10_layRest_86, s_X10_layRest_87, s_X10_layRest_88, s_X10_layRest_91, s_X10_layRest_92, s_X10_layRest_96, s_X10_layRest_98, s_X10_layRest_101, s_X10_layRest_102, s_X10_layRest_105, s_X10_layRest_107, s_X10_layRest_108, s_X10_layRest_111, s_X10_layRest_113, s_X10_layRest_114, s_X10_layRest_115, s_X10_layRest_118, s_X10_layRest_121, s_X10_layRest_122, s_X10_layRest_125, s_X10_layRest_126, s_X10_layRest_129]
      refine ⟨rfl, ?_⟩
      rw [s_X10_layRest_59]
      simp only [s_X10_layRest_0, s_X10_layRest_1, s_X10_layRest_3, s_X10_layRest_5, s_X10_layRest_8, s_X10_layRest_9, s_X10_layRest_12, s_X10_layRest_13, s_X10_layRest_14, s_X10_layRest_15, s_X10_layRest_16, s_X10_layRest_19, s_X10_layRest_20, s_X10_layRest_21, s_X10_layRest_22, s_X10_layRest_25, s_X10_layRest_28, s_X10_layRest_29, s_X10_layRest_32, s_X10_layRest_33, s_X10_layRest_34, s_X10_layRest_37, s_X10_layRest_40, s_X10_layRest_41, s_X10_layRest_42, s_X10_layRest_45, s_X10_layRest_46, s_X10_layRest_47, s_X10_layRest_50, s_X10_layRest_51, s_X10_layRest_54, s_X10_layRest_57, s_X10_layRest_58, s_X10_layRest_60, s_X10_layRest_63, s_X10_layRest_64, s_X10_layRest_67, s_X10_layRest_68, s_X10_layRest_69, s_X10_layRest_72, s_X10_layRest_73, s_X10_layRest_74, s_X10_layRest_77, s_X10_layRest_78, s_X10_layRest_79, s_X10_layRest_82, s_X10_layRest_83, s_X10_layRest_86, s_X10_layRest_87, s_X10_layRest_88, s_X10_layRest_91, s_X10_layRest_92, s_X10_layRest_96, s_X10_layRest_98, s_X10_layRest_101, s_X10_layRest_102, s_X10_layRest_105, s_X10_layRest_107, s_X10_layRest_108, s_X10_layRest_111, s_X10_layRest_113, s_X10_layRest_114, s_X10_layRest_115, s_X10_layRest_118, s_X10_layRest_121, s_X10_layRest_122, s_X10_layRest_125, s_X10_layRest_126, s_X10_layRest_129]
      refine ⟨fun _ => ?_, fun q => absurd nI_0 q⟩
      rw [hB1] at e53
      exact hk c2 _ _ g (f2.mono rfl) (hM.sc (f2.mono rfl) ⟨_, _, _, e53⟩ ⟨t58, i59.ty, t60, i61.ty, i62.ty, hsc.2.2.2.2.2.1.fr f2 rfl, hsc.2.2.2.2.2.2.1.fr f2 rfl, hsc.2.2.2.2.2.2.2.1.fr f2 rfl, hsc.2.2.2.2.2.2.2.2.1.fr f2 rfl, hsc.2.2.2.2.2.2.2.2.2.fr f2 rfl⟩) e53 i62 hB3
    | cons a2 tl ih =>
      intro a best c1 l3 l4 l5 hc hal hR ham
      have hok := List.all_eq_true.mp hal a List.mem_cons_self
      have hok2 := List.all_eq_true.mp hal a2 (List.mem_cons_of_mem _ List.mem_cons_self)
      have hfb := fll_b hok
      have hok1 := hok
      simp only [okL, Bool.and_eq_true, beq_iff_eq] at hok1 hok2
      simp only [chw, Bool.and_eq_true, Bool.not_eq_true', beq_iff_eq] at hc
      obtain ⟨⟨hc0, hc1⟩, hc2⟩ := hc
      have hc0 : ¬ lastN (fll a) m < 2 := by
        intro q
        have : Nat.blt (lastN (fll a) m) 2 = true := by simpa using q
        rw [this] at hc0
        exact absurd hc0 (by decide)
      have hnx := nwF_list hm.1 hok1.1 hok2.1 hc0 hc1
      rw [List.all_cons, Bool.and_eq_true] at hal
      refine body a best c1 l3 l4 l5 hok hR fun c2 l3 l4 l5 hR2 => ?_
      obtain ⟨f2, t58, t60, i59, i61, g, ru, e53, i62, hB⟩ := hR2
      simp only [s_X10_layRest_0, s_X10_layRest_1, s_X10_layRest_3, s_X10_layRest_5, s_X10_layRest_8, s_X10_layRest_9, s_X10_layRest_12, s_X10_layRest_13, s_X10_layRest_14, s_X10_layRest_15, s_X10_layRest_16, s_X10_layRest_19, s_X10_layRest_20, s_X10_layRest_21, s_X10_layRest_22, s_X10_layRest_25, s_X10_layRest_28, s_X10_layRest_29, s_X10_layRest_32, s_X10_layRest_33, s_X10_layRest_34, s_X10_layRest_37, s_X10_layRest_40, s_X10_layRest_41, s_X10_layRest_42, s_X10_layRest_45, s_X10_layRest_46, s_X10_layRest_47, s_X10_layRest_50, s_X10_layRest_51, s_X10_layRest_54, s_X10_layRest_57, s_X10_layRest_58, s_X10_layRest_60, s_X10_layRest_63, s_X10_layRest_64, s_X10_layRest_67, s_X10_layRest_68, s_X10_layRest_69, s_X10_layRest_72, s_X10_layRest_73, s_X10_layRest_74, s_X10_layRest_77, s_X10_layRest_78, s_X10_layRest_79, s_X10_layRest_82, s_X10_layRest_83, s_X10_layRest_86, s_X10_layRest_87, s_X10_layRest_88, s_X10_layRest_91, s_X10_layRest_92, s_X10_layRest_96, s_X10_layRest_98, s_X10_layRest_101, s_X10_layRest_102, s_X10_layRest_105, s_X10_layRest_107, s_X10_layRest_108, s_X10_layRest_111, s_X10_layRest_113, s_X10_layRest_114, s_X10_layRest_115, s_X10_layRest_118, s_X10_layRest_121, s_X10_layRest_122, s_X10_layRest_125, s_X10_layRest_126, s_X10_layRest_129, vm_o e53]
      refine sp_X10_nextWeights e53 hm i61 (fun j => by have := hfb j; omega) (fun q => absurd q hc0) (fun _ c3 f3 i61c => ?_)
      simp only [Option.toList_some, Option.toList_none, List.cons_append, List.nil_append, Option.toList, s_X10_layRest_0, s_X10_layRest_1, s_X10_layRest_3, s_X10_layRest_5, s_X10_layRest_8, s_X10_layRest_9, s_X10_layRest_12, s_X10_layRest_13, s_X10_layRest_14, s_X10_layRest_15, s_X10_layRest_16, s_X10_layRest_19, s_X10_layRest_20, s_X10_layRest_21, s_X10_layRest_22, s_X10_layRest_25, s_X10_layRest_28, s_X10_layRest_29, s_X10_layRest_32, s_X10_layRest_33, s_X10_layRest_34, s_X10_layRest_37, s_X10_layRest_40, s_X10_layRest_41, s_X10_layRest_42, s_X10_layRest_45, s_X10_layRest_46, s_X10_layRest_47, s_X10_layRest_50, s_X10_layRest_51, s_X10_layRest_54, s_X10_layRest_57, s_X10_layRest_58, s_X10_layRest_60, s_X10_layRest_63, s_X10_layRest_64, s_X10_layRest_67, s_X10_layRest_68, s_X10_layRest_69, s_X10_layRest_72, s_X10_layRest_73, s_X10_layRest_74, s_X10_layRest_77, s_X10_layRest_78, s_X10_layRest_79, s_X10_layRest_82, s_X10_layRest_83, s_X10_layRest_86, s_X10_layRest_87, s_X10_layRest_88, s_X10_layRest_91, s_X10_layRest_92, s_X10_layRest_96, s_X10_layRest_98, s_X10_layRest_101, s_X10_layRest_102, s_X10_layRest_105, s_X10_layRest_107, s_X10_layRest_108, s_X10_layRest_111, s_X10_layRest_113, s_X10_layRest_114, s_X10_layRest_115, s_X10_layRest_118, s_X10_layRest_121, s_X10_layRest_122, s_X10_layRest_125, s_X10_layRest_126, s_X10_layRest_129]
      refine ⟨rfl, ih a2 (amO (rsH v n m) best a) c3 _ _ _ hc2 hal.2 ⟨f2.trans (f3.mono rfl), t58.fr f3 rfl, t60.fr f3 rfl, i59.fr f3 rfl, i61c.cg (fun j _ => by rw [hnx j]), g, ru, (f3 53 rfl).trans e53, i62.fr f3 rfl, hB⟩ ham⟩
  rw [en_X10_layRest]
  simp only [s_X10_layRest_0, s_X10_layRest_1, s_X10_layRest_3, s_X10_layRest_5, s_X10_layRest_8, s_X10_layRest_9, s_X10_layRest_12, s_X10_layRest_13, s_X10_layRest_14, s_X10_layRest_15, s_X10_layRest_16, s_X10_layRest_19, s_X10_layRest_20, s_X10_layRest_21, s_X10_layRest_22, s_X10_layRest_25, s_X10_layRest_28, s_X10_layRest_29, s_X10_layRest_32, s_X10_layRest_33, s_X10_layRest_34, s_X10_layRest_37, s_X10_layRest_40, s_X10_layRest_41, s_X10_layRest_42, s_X10_layRest_45, s_X10_layRest_46, s_X10_layRest_47, s_X10_layRest_50, s_X10_layRest_51, s_X10_layRest_54, s_X10_layRest_57, s_X10_layRest_58, s_X10_layRest_60, s_X10_layRest_63, s_X10_layRest_64, s_X10_layRest_67, s_X10_layRest_68, s_X10_layRest_69, s_X10_layRest_72, s_X10_layRest_73, s_X10_layRest_74, s_X10_layRest_77, s_X10_layRest_78, s_X10_layRest_79, s_X10_layRest_82, s_X10_layRest_83, s_X10_layRest_86, s_X10_layRest_87, s_X10_layRest_88, s_X10_layRest_91, s_X10_layRest_92, s_X10_layRest_96, s_X10_layRest_98, s_X10_layRest_101, s_X10_layRest_102, s_X10_layRest_105, s_X10_layRest_107, s_X10_layRest_108, s_X10_layRest_111, s_X10_layRest_113, s_X10_layRest_114, s_X10_layRest_115, s_X10_layRest_118, s_X10_layRest_121, s_X10_layRest_122, s_X10_layRest_125, s_X10_layRest_126, s_X10_layRest_129]
  refine ⟨rfl, ?_⟩
  have lp0 : ∀ rem j c1 val val2, j + rem = 7 → frm [59, 61] c c1 → isI c1 59 7 val → isI c1 61 7 val2 → (∀ i, i < j → val i = nI 0) → (∀ i, i < j → val2 i = if i = m then nI t else nI 0) → rU ro (d + 7) tb_X10_layRest R 2 [.ref 53, .int (nI t), .int (nI j), .null, .null, .null] [] (tab c1) := by
    intro rem
    induction rem with
    | zero =>
      intro j c1 val val2 hj f1 i59 i61 hv hv2
      have : j = 7 := by omega
      subst this
      have e53 := (f1 53 rfl).trans h53
      rw [s_X10_layRest_2]
      simp only [s_X10_layRest_0, s_X10_layRest_1, s_X10_layRest_3, s_X10_layRest_5, s_X10_layRest_8, s_X10_layRest_9, s_X10_layRest_12, s_X10_layRest_13, s_X10_layRest_14, s_X10_layRest_15, s_X10_layRest_16, s_X10_layRest_19, s_X10_layRest_20, s_X10_layRest_21, s_X10_layRest_22, s_X10_layRest_25, s_X10_layRest_28, s_X10_layRest_29, s_X10_layRest_32, s_X10_layRest_33, s_X10_layRest_34, s_X10_layRest_37, s_X10_layRest_40, s_X10_layRest_41, s_X10_layRest_42, s_X10_layRest_45, s_X10_layRest_46, s_X10_layRest_47, s_X10_layRest_51, s_X10_layRest_54, s_X10_layRest_57, s_X10_layRest_58, s_X10_layRest_60, s_X10_layRest_63, s_X10_layRest_64, s_X10_layRest_67, s_X10_layRest_68, s_X10_layRest_69, s_X10_layRest_72, s_X10_layRest_73, s_X10_layRest_74, s_X10_layRest_77, s_X10_layRest_78, s_X10_layRest_79, s_X10_layRest_82, s_X10_layRest_83, s_X10_layRest_86, s_X10_layRest_87, s_X10_layRest_88, s_X10_layRest_91, s_X10_layRest_92, s_X10_layRest_96, s_X10_layRest_98, s_X10_layRest_101, s_X10_layRest_102, s_X10_layRest_105, s_X10_layRest_107, s_X10_layRest_108, s_X10_layRest_111, s_X10_layRest_113, s_X10_layRest_114, s_X10_layRest_115, s_X10_layRest_118, s_X10_layRest_121, s_X10_layRest_122, s_X10_layRest_125, s_X10_layRest_126, s_X10_layRest_129, gm0 e53, sI_sub (show 1 ≤ n by omega), pm11 e53]
      refine ⟨fun _ => ?_, fun hc => absurd ((sI_le (by decide) (by decide)).mpr (Nat.le_refl _)) hc⟩
      obtain ⟨c2, hc2⟩ : ∃ c2, c2 = fup c1 53 (mobj (nI n) (nI m) (nI v) (nI si) (nI sg) (nI (n - 1)) ru lu) := ⟨_, rfl⟩
      rw [← hc2]
      have f2 : frm [53] c1 c2 := by rw [hc2]; exact frm.rf.fup rfl
      have e53 : c2 53 = mobj (nI n) (nI m) (nI v) (nI si) (nI sg) (nI (n - 1)) ru lu := by rw [hc2]; exact fup_self
      simp only [s_X10_layRest_0, s_X10_layRest_1, s_X10_layRest_3, s_X10_layRest_5, s_X10_layRest_8, s_X10_layRest_9, s_X10_layRest_12, s_X10_layRest_13, s_X10_layRest_14, s_X10_layRest_15, s_X10_layRest_16, s_X10_layRest_19, s_X10_layRest_20, s_X10_layRest_21, s_X10_layRest_22, s_X10_layRest_25, s_X10_layRest_28, s_X10_layRest_29, s_X10_layRest_32, s_X10_layRest_33, s_X10_layRest_34, s_X10_layRest_37, s_X10_layRest_40, s_X10_layRest_41, s_X10_layRest_42, s_X10_layRest_45, s_X10_layRest_46, s_X10_layRest_47, s_X10_layRest_50, s_X10_layRest_51, s_X10_layRest_54, s_X10_layRest_57, s_X10_layRest_58, s_X10_layRest_60, s_X10_layRest_63, s_X10_layRest_64, s_X10_layRest_67, s_X10_layRest_68, s_X10_layRest_69, s_X10_layRest_72, s_X10_layRest_73, s_X10_layRest_74, s_X10_layRest_77, s_X10_layRest_78, s_X10_layRest_79, s_X10_layRest_82, s_X10_layRest_83, s_X10_layRest_86, s_X10_layRest_87, s_X10_layRest_88, s_X10_layRest_91, s_X10_layRest_92, s_X10_layRest_96, s_X10_layRest_98, s_X10_layRest_101, s_X10_layRest_102, s_X10_layRest_105, s_X10_layRest_107, s_X10_layRest_108, s_X10_layRest_111, s_X10_layRest_113, s_X10_layRest_114, s_X10_layRest_115, s_X10_layRest_118, s_X10_layRest_121, s_X10_layRest_122, s_X10_layRest_125, s_X10_layRest_126, s_X10_layRest_129, pm15 e53]
      refine ⟨rfl, ?_⟩
      obtain ⟨c3, hc3⟩ : ∃ c3, c3 = fup c2 53 (mobj (nI n) (nI m) (nI v) (nI si) (nI sg) (nI (n - 1)) (- lN 1) lu) := ⟨_, rfl⟩
      rw [← hc3]
      have f3 : frm [53] c1 c3 := by rw [hc3]; exact f2.fup rfl
      have e53 : c3 53 = mobj (nI n) (nI m) (nI v) (nI si) (nI sg) (nI (n - 1)) (- lN 1) lu := by rw [hc3]; exact fup_self
      have ff : frm [53, 58, 59, 60, 61, 62] c c3 := (f1.mono rfl).trans (f3.mono rfl)
      obtain ⟨g, hg⟩ := (hsc.2.2.2.2.1.fr f1 rfl).fr f3 rfl
      cases hcm : cmp m t with
      | nil => exact absurd hcm (cmp_nn hm ht)
      | cons a tl =>
        rw [hcm] at hch hhd hall hnn
        have ha : a = List.replicate (m - 1) 0 ++ [t] := by simpa using hhd
        refine lp tl a none c3 _ _ _ hch hall ⟨ff, (hsc.1.fr f1 rfl).fr f3 rfl, (hsc.2.2.1.fr f1 rfl).fr f3 rfl, (i59.cg hv).fr f3 rfl, ((i61.cg hv2).fr f3 rfl).cg (fun j hj => ?_), g, _, e53, ⟨g, hg, fun _ _ => rfl⟩, rfl⟩ hnn
        rw [ha]
        have key : ∀ m, m < 7 → 2 ≤ m → ∀ j, j < 7 → ∀ t, fll (List.replicate (m - 1) 0 ++ [t]) j = if j = m then t else 0 := by
          intro m hm7 hm2 j hj7 t
          rcases (show m = 2 ∨ m = 3 ∨ m = 4 ∨ m = 5 ∨ m = 6 by omega) with rfl | rfl | rfl | rfl | rfl <;>
          rcases (show j = 0 ∨ j = 1 ∨ j = 2 ∨ j = 3 ∨ j = 4 ∨ j = 5 ∨ j = 6 by omega) with rfl | rfl | rfl | rfl | rfl | rfl | rfl <;> rfl
        rw [key m (by omega) hm.1 j hj t]
        split <;> rfl
    | succ rem ih =>
      intro j c1 val val2 hj f1 i59 i61 hv hv2
      have e53 := (f1 53 rfl).trans h53
      rw [s_X10_layRest_2]
      simp only [s_X10_layRest_0, s_X10_layRest_1, s_X10_layRest_3, s_X10_layRest_5, s_X10_layRest_8, s_X10_layRest_9, s_X10_layRest_12, s_X10_layRest_13, s_X10_layRest_14, s_X10_layRest_15, s_X10_layRest_16, s_X10_layRest_19, s_X10_layRest_20, s_X10_layRest_21, s_X10_layRest_22, s_X10_layRest_25, s_X10_layRest_28, s_X10_layRest_29, s_X10_layRest_32, s_X10_layRest_33, s_X10_layRest_34, s_X10_layRest_37, s_X10_layRest_40, s_X10_layRest_41, s_X10_layRest_42, s_X10_layRest_45, s_X10_layRest_46, s_X10_layRest_47, s_X10_layRest_50, s_X10_layRest_51, s_X10_layRest_54, s_X10_layRest_57, s_X10_layRest_58, s_X10_layRest_60, s_X10_layRest_63, s_X10_layRest_64, s_X10_layRest_67, s_X10_layRest_68, s_X10_layRest_69, s_X10_layRest_72, s_X10_layRest_73, s_X10_layRest_74, s_X10_layRest_77, s_X10_layRest_78, s_X10_layRest_79, s_X10_layRest_82, s_X10_layRest_83, s_X10_layRest_86, s_X10_layRest_87, s_X10_layRest_88, s_X10_layRest_91, s_X10_layRest_92, s_X10_layRest_96, s_X10_layRest_98, s_X10_layRest_101, s_X10_layRest_102, s_X10_layRest_105, s_X10_layRest_107, s_X10_layRest_108, s_X10_layRest_111, s_X10_layRest_113, s_X10_layRest_114, s_X10_layRest_115, s_X10_layRest_118, s_X10_layRest_121, s_X10_layRest_122, s_X10_layRest_125, s_X10_layRest_126, s_X10_layRest_129, gm10 e53, sI_le (show 7 < 100000 by decide) (show j < 100000 by omega)]
      refine ⟨fun hc => absurd hc (by omega), fun _ => si_i i59 (by decide) (by omega) (by decide) fun c2 f2 hi2 => ?_⟩
      have e53 := (f2 53 rfl).trans e53
      simp only [s_X10_layRest_0, s_X10_layRest_1, s_X10_layRest_3, s_X10_layRest_5, s_X10_layRest_8, s_X10_layRest_9, s_X10_layRest_12, s_X10_layRest_13, s_X10_layRest_14, s_X10_layRest_15, s_X10_layRest_16, s_X10_layRest_19, s_X10_layRest_20, s_X10_layRest_21, s_X10_layRest_22, s_X10_layRest_25, s_X10_layRest_28, s_X10_layRest_29, s_X10_layRest_32, s_X10_layRest_33, s_X10_layRest_34, s_X10_layRest_37, s_X10_layRest_40, s_X10_layRest_41, s_X10_layRest_42, s_X10_layRest_45, s_X10_layRest_46, s_X10_layRest_47, s_X10_layRest_50, s_X10_layRest_51, s_X10_layRest_54, s_X10_layRest_57, s_X10_layRest_58, s_X10_layRest_60, s_X10_layRest_63, s_X10_layRest_64, s_X10_layRest_67, s_X10_layRest_68, s_X10_layRest_69, s_X10_layRest_72, s_X10_layRest_73, s_X10_layRest_74, s_X10_layRest_77, s_X10_layRest_78, s_X10_layRest_79, s_X10_layRest_82, s_X10_layRest_83, s_X10_layRest_86, s_X10_layRest_87, s_X10_layRest_88, s_X10_layRest_91, s_X10_layRest_92, s_X10_layRest_96, s_X10_layRest_98, s_X10_layRest_101, s_X10_layRest_102, s_X10_layRest_105, s_X10_layRest_107, s_X10_layRest_108, s_X10_layRest_111, s_X10_layRest_113, s_X10_layRest_114, s_X10_layRest_115, s_X10_layRest_118, s_X10_layRest_121, s_X10_layRest_122, s_X10_layRest_125, s_X10_layRest_126, s_X10_layRest_129, gm13 e53, gm1 e53, sI_eq (show j < 100000 by omega) (show m < 100000 by omega), nI_add]
      have i61 := i61.fr f2 rfl
      refine ⟨fun he => si_i i61 (by decide) (by omega) (by decide) fun c3 f3 hi3 => ?_, fun he => si_i i61 (by decide) (by omega) (by decide) fun c3 f3 hi3 => ?_⟩
      · exact ⟨rfl, ih (j + 1) c3 _ _ (by omega) (f1.trans ((f2.mono rfl).trans (f3.mono rfl))) (hi2.fr f3 rfl) hi3 (fillI hv rfl) (fillI hv2 (by rw [if_pos he]))⟩
      · exact ⟨rfl, ih (j + 1) c3 _ _ (by omega) (f1.trans ((f2.mono rfl).trans (f3.mono rfl))) (hi2.fr f3 rfl) hi3 (fillI hv rfl) (fillI hv2 (by rw [if_neg he]))⟩
  obtain ⟨g1, hg1⟩ := hsc.2.1
  obtain ⟨g2, hg2⟩ := hsc.2.2.2.1
  exact lp0 7 0 c g1 g2 (by omega) frm.rf ⟨g1, hg1, fun _ _ => rfl⟩ ⟨g2, hg2, fun _ _ => rfl⟩ (fun j hj => absurd hj (by omega)) (fun j hj => absurd hj (by omega))
theorem ml_rest (hV : VS (n, m, v, w, fo, si, st)) (hM : MS c (n, m, v, w, fo, si, st) sg pd im) (hk : ∀ c', frm MM c c' → MS c' (n, m, v, w, fo, si, st) sg pd im → R (some (.int (rstA (n, m, v, w, fo, si, st) x y))) (tab c')) : rM ro (d + 9) 139 0 0 [.ref 53, .int x, .int y] (tab c) R := by
  obtain ⟨⟨⟨fr, ru, lu, h53⟩, h54, h55, h56, h57⟩, hsc, him⟩ := id hM
  have hm := hV.2.1
  rw [en_X10_rest]
  simp only [s_X10_rest_0, s_X10_rest_1, s_X10_rest_2, s_X10_rest_5, s_X10_rest_8, s_X10_rest_9, s_X10_rest_10, s_X10_rest_11, s_X10_rest_12, s_X10_rest_14, s_X10_rest_17, s_X10_rest_20, s_X10_rest_22, s_X10_rest_23, s_X10_rest_24, s_X10_rest_25, s_X10_rest_28, s_X10_rest_29, s_X10_rest_32, s_X10_rest_33, s_X10_rest_34, vm_o h53]
  refine sp_isNum2 h53 ?_
  simp only [Option.toList_some, Option.toList_none, List.cons_append, List.nil_append, Option.toList, s_X10_rest_0, s_X10_rest_1, s_X10_rest_2, s_X10_rest_5, s_X10_rest_8, s_X10_rest_9, s_X10_rest_10, s_X10_rest_11, s_X10_rest_12, s_X10_rest_14, s_X10_rest_17, s_X10_rest_20, s_X10_rest_22, s_X10_rest_23, s_X10_rest_24, s_X10_rest_25, s_X10_rest_28, s_X10_rest_29, s_X10_rest_32, s_X10_rest_33, s_X10_rest_34, b2_0]
  refine ⟨fun hy => ?_, fun hy => sp_in2 ?_⟩
  · have := hk c frm.rf hM
    rw [rstA, if_neg hy] at this
    exact this
  have hy := Decidable.not_not.mp hy
  simp only [Option.toList_some, Option.toList_none, List.cons_append, List.nil_append, Option.toList, s_X10_rest_0, s_X10_rest_1, s_X10_rest_2, s_X10_rest_5, s_X10_rest_8, s_X10_rest_9, s_X10_rest_10, s_X10_rest_11, s_X10_rest_12, s_X10_rest_14, s_X10_rest_17, s_X10_rest_20, s_X10_rest_22, s_X10_rest_23, s_X10_rest_24, s_X10_rest_25, s_X10_rest_28, s_X10_rest_29, s_X10_rest_32, s_X10_rest_33, s_X10_rest_34, b2_0, vm_o h53]
  refine ⟨fun hx => ?_, fun hx => ?_⟩
  · have := hk c frm.rf hM
    rw [rstA, if_pos hy, if_neg hx] at this
    exact this
  have hx := Decidable.not_not.mp hx
  obtain ⟨a, ha1, ha2, rfl⟩ := inR_nI hx (by decide) (by decide)
  obtain ⟨b, hb1, hb2, rfl⟩ := inR_nI hy (by decide) (by omega)
  refine sp_X10_layRest hV ⟨ha1, ha2⟩ hM fun c1 fr1 lu1 g f1 hM1 e53 i62 hg => ?_
  have := hk c1 f1 hM1
  rw [rstA, if_pos hy, if_pos hx, nI_c (show a < 100000 by omega), nI_c (show b < 100000 by omega)] at this
  simp only [Option.toList_some, Option.toList_none, List.cons_append, List.nil_append, Option.toList, s_X10_rest_0, s_X10_rest_1, s_X10_rest_2, s_X10_rest_5, s_X10_rest_8, s_X10_rest_9, s_X10_rest_10, s_X10_rest_11, s_X10_rest_12, s_X10_rest_14, s_X10_rest_17, s_X10_rest_20, s_X10_rest_22, s_X10_rest_23, s_X10_rest_24, s_X10_rest_25, s_X10_rest_28, s_X10_rest_29, s_X10_rest_32, s_X10_rest_33, s_X10_rest_34, gm14 e53, ai_i i62 (show 62 < 70 by decide) (show b < 7 by omega) (by decide), hg b hb1 hb2]
  exact this
theorem ml_gap (hV : VS (n, m, v, w, fo, si, st)) (hM : MS c (n, m, v, w, fo, si, st) sg pd im) (hk : ∀ c', frm MM c c' → MS c' (n, m, v, w, fo, si, st) sg pd im → R (some (.long (gapA (n, m, v, w, fo, si, st) x z))) (tab c')) : rM ro (d + 9) 140 0 0 [.ref 53, .int x, .int z] (tab c) R := by
  obtain ⟨⟨⟨fr, ru, lu, h53⟩, h54, h55, h56, h57⟩, hsc, him⟩ := id hM
  have hn := hV.1
  have hm := hV.2.1
  have no : ¬ (inR 1 8 x ∧ inR 0 1 z) → R (some (.long L2)) (tab c) := fun q => by
    have := hk c frm.rf hM
    rw [gapA, if_neg q] at this
    exact this
  rw [en_X10_gap]
  simp only [s_X10_gap_0, s_X10_gap_1, s_X10_gap_2, s_X10_gap_4, s_X10_gap_7, s_X10_gap_10, s_X10_gap_11, s_X10_gap_12, s_X10_gap_13, s_X10_gap_16, s_X10_gap_19, s_X10_gap_22, s_X10_gap_23, s_X10_gap_24, s_X10_gap_25, s_X10_gap_28, s_X10_gap_29, s_X10_gap_32, s_X10_gap_35, s_X10_gap_36, s_X10_gap_37, s_X10_gap_38, s_X10_gap_41, s_X10_gap_44, s_X10_gap_45, s_X10_gap_46, s_X10_gap_49]
  refine sp_in2 ?_
  simp only [Option.toList_some, Option.toList_none, List.cons_append, List.nil_append, Option.toList, s_X10_gap_0, s_X10_gap_1, s_X10_gap_2, s_X10_gap_4, s_X10_gap_7, s_X10_gap_10, s_X10_gap_11, s_X10_gap_12, s_X10_gap_13, s_X10_gap_16, s_X10_gap_19, s_X10_gap_22, s_X10_gap_23, s_X10_gap_24, s_X10_gap_25, s_X10_gap_28, s_X10_gap_29, s_X10_gap_32, s_X10_gap_35, s_X10_gap_36, s_X10_gap_37, s_X10_gap_38, s_X10_gap_41, s_X10_gap_44, s_X10_gap_45, s_X10_gap_46, s_X10_gap_49, b2_0]
  refine ⟨fun hx => no (fun q => hx q.1), fun hx => sp_in2 ?_⟩
  simp only [Option.toList_some, Option.toList_none, List.cons_append, List.nil_append, Option.toList, s_X10_gap_0, s_X10_gap_1, s_X10_gap_2, s_X10_gap_4, s_X10_gap_7, s_X10_gap_10, s_X10_gap_11, s_X10_gap_12, s_X10_gap_13, s_X10_gap_16, s_X10_gap_19, s_X10_gap_22, s_X10_gap_23, s_X10_gap_24, s_X10_gap_25, s_X10_gap_28, s_X10_gap_29, s_X10_gap_32, s_X10_gap_35, s_X10_gap_36, s_X10_gap_37, s_X10_gap_38, s_X10_gap_41, s_X10_gap_44, s_X10_gap_45, s_X10_gap_46, s_X10_gap_49, b2_0, vm_o h53]
  refine ⟨fun hz => no (fun q => hz q.2), fun hz => ?_⟩
  have hx := Decidable.not_not.mp hx
  have hz := Decidable.not_not.mp hz
  obtain ⟨a, ha1, ha2, rfl⟩ := inR_nI hx (by decide) (by decide)
  refine sp_X10_layRest hV ⟨ha1, ha2⟩ hM fun c1 fr1 lu1 g f1 hM1 e53 i62 hg => ?_
  simp only [Option.toList_some, Option.toList_none, List.cons_append, List.nil_append, Option.toList, s_X10_gap_0, s_X10_gap_1, s_X10_gap_2, s_X10_gap_4, s_X10_gap_7, s_X10_gap_10, s_X10_gap_11, s_X10_gap_12, s_X10_gap_13, s_X10_gap_16, s_X10_gap_19, s_X10_gap_22, s_X10_gap_23, s_X10_gap_24, s_X10_gap_25, s_X10_gap_28, s_X10_gap_29, s_X10_gap_32, s_X10_gap_35, s_X10_gap_36, s_X10_gap_37, s_X10_gap_38, s_X10_gap_41, s_X10_gap_44, s_X10_gap_45, s_X10_gap_46, s_X10_gap_49, gm15 e53, gm0 e53, nI_l (show a < 2 ^ 31 by omega)]
  refine sp_X10_power (by omega) ?_
  simp only [Option.toList_some, Option.toList_none, List.cons_append, List.nil_append, Option.toList, s_X10_gap_0, s_X10_gap_1, s_X10_gap_2, s_X10_gap_4, s_X10_gap_7, s_X10_gap_10, s_X10_gap_11, s_X10_gap_12, s_X10_gap_13, s_X10_gap_16, s_X10_gap_19, s_X10_gap_22, s_X10_gap_23, s_X10_gap_24, s_X10_gap_25, s_X10_gap_28, s_X10_gap_29, s_X10_gap_32, s_X10_gap_35, s_X10_gap_36, s_X10_gap_37, s_X10_gap_38, s_X10_gap_41, s_X10_gap_44, s_X10_gap_45, s_X10_gap_46, s_X10_gap_49, pwL_lN, lN_mul]
  have hl := lw2 (W := a) (k := n) ⟨ha1, by omega⟩ (by omega)
  have hH := rsH_lt (v := v) (n := n) hm ⟨ha1, ha2⟩ hn.2
  have hS := Nat.mul_le_mul (sc_le v).2 hH
  refine sp_X10_term (by omega) hl.1 hl.2.1 ?_
  simp only [Option.toList_some, Option.toList_none, List.cons_append, List.nil_append, Option.toList, s_X10_gap_0, s_X10_gap_1, s_X10_gap_2, s_X10_gap_4, s_X10_gap_7, s_X10_gap_10, s_X10_gap_11, s_X10_gap_12, s_X10_gap_13, s_X10_gap_16, s_X10_gap_19, s_X10_gap_22, s_X10_gap_23, s_X10_gap_24, s_X10_gap_25, s_X10_gap_28, s_X10_gap_29, s_X10_gap_32, s_X10_gap_35, s_X10_gap_36, s_X10_gap_37, s_X10_gap_38, s_X10_gap_41, s_X10_gap_44, s_X10_gap_45, s_X10_gap_46, s_X10_gap_49]
  have := hk c1 f1 hM1
  rw [gapA, if_pos ⟨hx, hz⟩, nI_c (show a < 100000 by omega), ← fr_sc] at this
  exact this
end MR
