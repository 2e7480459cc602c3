/-! ===== the class: all ways, by rows of counts ===== -/
theorem rTC_ch : ∀ a, a < 7 → ∀ i, i ≤ a → rTC.getD (a * 7 + i) 0 = chF a i ∧ chF a i ≤ 20 := by decide +kernel
theorem cmp_one : ∀ k, k < 7 → cmp 1 k = [[k]] ∧ chF k k = 1 := by decide +kernel
theorem PP_one {w : Nat → Nat} {g : (Nat → Int32) → Nat} {x k : Nat} {b : Nat → Int32} (hk : k ≤ 6) : PP w g 1 x k b = w x ^ k * g (ad1 b x k) := by
  have h := cmp_one k (by omega)
  unfold PP
  rw [h.1]
  simp [wyL, adL, h.2]
theorem lcle0 {a : Nat} (ha : a < 2 ^ 62) : (lg_cmp (lN a) (lN 0) ≤ 0) ↔ a = 0 := by
  unfold lg_cmp
  by_cases h : a = 0
  · subst h
    rw [if_neg (by decide), if_pos rfl]
    exact ⟨fun _ => rfl, fun _ => Int32.le_refl _⟩
  · have hgt : lN a > lN 0 := by
      show lN 0 < lN a
      rw [Int64.lt_iff_toInt_lt, lN_toI (by decide), lN_toI (by omega)]
      omega
    rw [if_pos hgt]
    exact ⟨fun q => absurd q (by decide), fun q => absurd q h⟩
def WR (c : Nat → rE) (wr g : Nat) (w : Nat → Nat) : Prop := (wr < 70 ∧ wr ≠ g ∧ wr ≠ g + 1 ∧ wr ≠ g + 2 ∧ isI c wr 7 (fun j => nI (w j))) ∨ (wr = 1000003 ∧ ∀ j, j < 7 → w j = rTO.getD j 0)
theorem WR.get {c : Nat → rE} {wr g LL : Nat} {w : Nat → Nat} {xs : Nat → Int32} (h : WR c wr g w) : ∃ f, rgetI (rRo LL xs) (tab c) wr = some (7, f) ∧ ∀ j, j < 7 → f j = nI (w j) := by
  rcases h with ⟨h1, -, -, -, f, h5, h6⟩ | ⟨rfl, h2⟩
  · exact ⟨f, gI_o h5 h1, h6⟩
  · exact ⟨fun k => nI (rTO.getD k 0), rfl, fun j hj => by rw [h2 j hj]⟩
theorem WR.fr {c c' : Nat → rE} {wr g : Nat} {w : Nat → Nat} (h : WR c wr g w) (hf : frm [g, g + 1, g + 2] c c') : WR c' wr g w := by
  rcases h with ⟨h1, h2, h3, h4, h5⟩ | h
  · exact Or.inl ⟨h1, h2, h3, h4, h5.fr hf (frg ⟨h2, h3, h4⟩)⟩
  · exact Or.inr h
theorem B20 {a b : Nat} (ha : a ≤ 6) (hb : b ≤ 6) : 20 ^ a * 12 ^ b ≤ 20 ^ 6 * 12 ^ 6 := Nat.mul_le_mul (Nat.pow_le_pow_right (by decide) ha) (Nat.pow_le_pow_right (by decide) hb)
theorem suR_zero {W w : Nat} {F : Nat → Nat} {a : Nat} (h0 : W * w ^ a = 0) : ∀ n, a ≤ n → W * suR n (fun i => w ^ i * F i) = W * suR a (fun i => w ^ i * F i) := by
  intro n hn
  induction hn with
  | refl => rfl
  | step hle ih =>
    rename_i n'
    rw [suR, Nat.mul_add, ih]
    have : W * (w ^ n' * F n') = 0 := by
      rw [← Nat.mul_assoc, show n' = a + (n' - a) by have : a ≤ n' := hle; omega, Nat.pow_add, ← Nat.mul_assoc W, h0]
      simp
    rw [this, Nat.add_zero]
section CP
variable {LL : Nat} {xs : Nat → Int32} {R : rR} {n m v k g ci wr : Nat} {w fo fl : Nat → Nat} {f : Nat → Int32}
theorem sp_X9_place (hci : ci = 4 ∨ ci = 7) (hg7 : g + 2 < 70) (hm : m ≤ 6) (hv : v ≤ 3) (hw : ∀ j, j < 7 → w j ≤ 12) : ∀ (p d x left W : Nat) (c : Nat → rE) (b : Nat → Int32) (o : Nat → Nat) (R : rR), x + p = m → 1 ≤ x → left ≤ 6 → W ≤ 20 ^ (x - 1) * 12 ^ (6 - left) → TG c ci g v m k b o → WR c wr g w →
    (∀ c' o', frm [g, g + 1, g + 2] c c' → TG c' ci g v m k b o' → (∀ j, j < 7 → o' j = o j + W * PP w (fun f => inF ci v m f j) (p + 1) x left b) → R none (tab c')) →
    rM (rRo LL xs) (d + 4 + p) 92 0 0 [.ref g, .ref wr, .int (nI x), .int (nI left), .long (lN W)] (tab c) R := by
  intro p
  induction p with
  | zero =>
    intro d x left W c b o R hx h1 hl hW hT hWR hk
    have hgg : g < 70 := by omega
    have hxm : x = m := by omega
    subst hxm
    obtain ⟨hg, hb, ho⟩ := id hT
    obtain ⟨wf, hwf, hwv⟩ := hWR.get (LL := LL) (xs := xs)
    have hwx := hw x (by omega)
    have hlast : W * w x ^ left < 2 ^ 62 := by
      have e1 : w x ^ left ≤ 12 ^ left := Nat.pow_le_pow_left hwx left
      have e2 : W * w x ^ left ≤ 20 ^ (x - 1) * 12 ^ (6 - left) * 12 ^ left := Nat.mul_le_mul hW e1
      rw [Nat.mul_assoc, ← Nat.pow_add, show 6 - left + left = 6 by omega] at e2
      have e3 := B20 (a := x - 1) (b := 6) (by omega) (by decide)
      have e4 : 20 ^ 6 * 12 ^ 6 < 2 ^ 62 := by decide
      omega
    rw [Nat.add_zero, en_X9_place]
    simp only [s_X9_place_0, s_X9_place_1, s_X9_place_2, s_X9_place_5, s_X9_place_6, s_X9_place_8, s_X9_place_11, s_X9_place_12, s_X9_place_13, s_X9_place_14, s_X9_place_17, s_X9_place_18, s_X9_place_21, s_X9_place_22, s_X9_place_24, s_X9_place_27, s_X9_place_28, s_X9_place_29, s_X9_place_32, s_X9_place_33, s_X9_place_34, s_X9_place_36, s_X9_place_37, s_X9_place_38, s_X9_place_41, s_X9_place_44, s_X9_place_46, s_X9_place_47, s_X9_place_48, s_X9_place_49, s_X9_place_50, s_X9_place_51, s_X9_place_54, s_X9_place_55, s_X9_place_57, s_X9_place_59, s_X9_place_60, s_X9_place_61, s_X9_place_64, s_X9_place_65, s_X9_place_68, s_X9_place_69, s_X9_place_71, s_X9_place_72, s_X9_place_73, s_X9_place_74, s_X9_place_75, s_X9_place_77, s_X9_place_80, s_X9_place_81, s_X9_place_84, s_X9_place_85, s_X9_place_87, s_X9_place_89, s_X9_place_91, s_X9_place_93, s_X9_place_94, s_X9_place_98, s_X9_place_99, s_X9_place_102, s_X9_place_104, s_X9_place_105, s_X9_place_106, s_X9_place_109, s_X9_place_110, s_X9_place_113, s_X9_place_114, s_X9_place_116, s_X9_place_118, s_X9_place_119, s_X9_place_120, s_X9_place_121, s_X9_place_122, s_X9_place_123, s_X9_place_124, s_X9_place_125, s_X9_place_126, s_X9_place_128, s_X9_place_129, s_X9_place_131, s_X9_place_134, s_X9_place_135, s_X9_place_137, s_X9_place_138, s_X9_place_140, s_X9_place_141, s_X9_place_142, s_X9_place_143, s_X9_place_144, s_X9_place_147, s_X9_place_149, s_X9_place_150, s_X9_place_151, s_X9_place_152, s_X9_place_153, s_X9_place_154, s_X9_place_156, s_X9_place_159, s_X9_place_162, s_X9_place_163, s_X9_place_166, s_X9_place_167, s_X9_place_169, s_X9_place_170, gg0 (cs := [4, 7]) hg hgg (cs47 hci), gg3 (cs := [4, 7]) hg hgg (cs47 hci), ln_g hwf, ai_g hwf, sI_lt (show x < 100000 by omega) (show 1 < 100000 by decide), sI_lt (show 6 < 100000 by decide) (show x < 100000 by omega), sI_le (show 7 < 100000 by decide) (show x < 100000 by omega), sI_lt0 (show left < 100000 by omega), sI_le (show left < 100000 by omega) (show 6 < 100000 by decide), ai_i hb (show g + 1 < 70 by omega) (show x < 7 by omega) (by decide), sI_lt (show x < 100000 by omega) (show x < 100000 by omega), nI_c (show x < 100000 by omega), hwv x (by omega)]
    refine ⟨fun hc => absurd hc (by omega), fun _ => ⟨fun hc => absurd hc (by omega), fun _ => ⟨fun hc => absurd hc (by omega), fun _ => ⟨False.elim, fun _ => ⟨fun _ => ⟨rfl, fun hc => absurd hc (Nat.lt_irrefl _), fun _ => ⟨vp_n (by omega) (by decide), ?_⟩⟩, fun hc => absurd hl hc⟩⟩⟩⟩⟩
    refine sp_X9_power (by omega) ?_
    simp only [Option.toList_some, Option.toList_none, List.cons_append, List.nil_append, Option.toList, s_X9_place_0, s_X9_place_1, s_X9_place_2, s_X9_place_5, s_X9_place_6, s_X9_place_8, s_X9_place_11, s_X9_place_12, s_X9_place_13, s_X9_place_14, s_X9_place_17, s_X9_place_18, s_X9_place_21, s_X9_place_22, s_X9_place_24, s_X9_place_27, s_X9_place_28, s_X9_place_29, s_X9_place_32, s_X9_place_33, s_X9_place_34, s_X9_place_36, s_X9_place_37, s_X9_place_38, s_X9_place_41, s_X9_place_44, s_X9_place_46, s_X9_place_47, s_X9_place_48, s_X9_place_49, s_X9_place_50, s_X9_place_51, s_X9_place_54, s_X9_place_55, s_X9_place_57, s_X9_place_59, s_X9_place_60, s_X9_place_61, s_X9_place_64, s_X9_place_65, s_X9_place_68, s_X9_place_69, s_X9_place_71, s_X9_place_72, s_X9_place_73, s_X9_place_74, s_X9_place_75, s_X9_place_77, s_X9_place_80, s_X9_place_81, s_X9_place_84, s_X9_place_85, s_X9_place_87, s_X9_place_89, s_X9_place_91, s_X9_place_93, s_X9_place_94, s_X9_place_98, s_X9_place_99, s_X9_place_102, s_X9_place_104, s_X9_place_105, s_X9_place_106, s_X9_place_109, s_X9_place_110, s_X9_place_113, s_X9_place_114, s_X9_place_116, s_X9_place_118, s_X9_place_119, s_X9_place_120, s_X9_place_121, s_X9_place_122, s_X9_place_123, s_X9_place_124, s_X9_place_125, s_X9_place_126, s_X9_place_128, s_X9_place_129, s_X9_place_131, s_X9_place_134, s_X9_place_135, s_X9_place_137, s_X9_place_138, s_X9_place_140, s_X9_place_141, s_X9_place_142, s_X9_place_143, s_X9_place_144, s_X9_place_147, s_X9_place_149, s_X9_place_150, s_X9_place_151, s_X9_place_152, s_X9_place_153, s_X9_place_154, s_X9_place_156, s_X9_place_159, s_X9_place_162, s_X9_place_163, s_X9_place_166, s_X9_place_167, s_X9_place_169, s_X9_place_170, nI_l (show w x < 2 ^ 31 by omega), pwL_lN, lN_mul, lcle0 hlast, gg0 (cs := [4, 7]) hg hgg (cs47 hci)]
    refine ⟨rfl, fun h0 => ?_, fun h0 => ?_⟩
    · rw [s_X9_place_88]
      refine hk c o frm.rf hT (fun j _ => ?_)
      rw [PP_one hl, ← Nat.mul_assoc, h0, Nat.zero_mul, Nat.add_zero]
    · refine si_i hb (by omega) (by omega) (by decide) fun c1 hf1 hi1 => ?_
      have hT1 : TG c1 ci g v x k (ad1 b x left) o := ⟨(hf1 g (by simp)).trans hg, hi1, ho.fr hf1 (by simp)⟩
      refine sp_meet hci hT1 hg7 hm hv fun c2 o2 hf2 hT2 ho2 => ?_
      simp only [Option.toList_some, Option.toList_none, List.cons_append, List.nil_append, Option.toList, s_X9_place_0, s_X9_place_1, s_X9_place_2, s_X9_place_5, s_X9_place_6, s_X9_place_8, s_X9_place_11, s_X9_place_12, s_X9_place_13, s_X9_place_14, s_X9_place_17, s_X9_place_18, s_X9_place_21, s_X9_place_22, s_X9_place_24, s_X9_place_27, s_X9_place_28, s_X9_place_29, s_X9_place_32, s_X9_place_33, s_X9_place_34, s_X9_place_36, s_X9_place_37, s_X9_place_38, s_X9_place_41, s_X9_place_44, s_X9_place_46, s_X9_place_47, s_X9_place_48, s_X9_place_49, s_X9_place_50, s_X9_place_51, s_X9_place_54, s_X9_place_55, s_X9_place_57, s_X9_place_59, s_X9_place_60, s_X9_place_61, s_X9_place_64, s_X9_place_65, s_X9_place_68, s_X9_place_69, s_X9_place_71, s_X9_place_72, s_X9_place_73, s_X9_place_74, s_X9_place_75, s_X9_place_77, s_X9_place_80, s_X9_place_81, s_X9_place_84, s_X9_place_85, s_X9_place_87, s_X9_place_89, s_X9_place_91, s_X9_place_93, s_X9_place_94, s_X9_place_98, s_X9_place_99, s_X9_place_102, s_X9_place_104, s_X9_place_105, s_X9_place_106, s_X9_place_109, s_X9_place_110, s_X9_place_113, s_X9_place_114, s_X9_place_116, s_X9_place_118, s_X9_place_119, s_X9_place_120, s_X9_place_121, s_X9_place_122, s_X9_place_123, s_X9_place_124, s_X9_place_125, s_X9_place_126, s_X9_place_128, s_X9_place_129, s_X9_place_131, s_X9_place_134, s_X9_place_135, s_X9_place_137, s_X9_place_138, s_X9_place_140, s_X9_place_141, s_X9_place_142, s_X9_place_143, s_X9_place_144, s_X9_place_147, s_X9_place_149, s_X9_place_150, s_X9_place_151, s_X9_place_152, s_X9_place_153, s_X9_place_154, s_X9_place_156, s_X9_place_159, s_X9_place_162, s_X9_place_163, s_X9_place_166, s_X9_place_167, s_X9_place_169, s_X9_place_170, gg0 (cs := [4, 7]) hT2.1 hgg (cs47 hci)]
      refine si_i hT2.2.1 (by omega) (by omega) (by decide) fun c3 hf3 hi3 => ?_
      rw [s_X9_place_88]
      refine hk c3 o2 ((hf1.mono (by simp)).trans (hf2.trans (hf3.mono (by simp)))) ⟨(hf3 g (by simp)).trans hT2.1, hi3.cg (fun j _ => ?_), hT2.2.2.fr hf3 (by simp)⟩ (fun j hj => ?_)
      · unfold ad1
        by_cases hj : j = x
        · rw [hj, upd_self]
        · rw [upd_ne hj, upd_ne hj]
      · rw [ho2 j hj, PP_one hl, Nat.mul_assoc]
  | succ p ih =>
    intro d x left W c b o R hx h1 hl hW hT hWR hk
    have hgg : g < 70 := by omega
    obtain ⟨hg, hb, ho⟩ := id hT
    obtain ⟨wf, hwf, hwv⟩ := hWR.get (LL := LL) (xs := xs)
    have hwx := hw x (by omega)
    rw [show d + 4 + (p + 1) = (d + 4 + p) + 1 by omega, en_X9_place]
    simp only [s_X9_place_0, s_X9_place_1, s_X9_place_2, s_X9_place_5, s_X9_place_6, s_X9_place_8, s_X9_place_11, s_X9_place_12, s_X9_place_13, s_X9_place_14, s_X9_place_17, s_X9_place_18, s_X9_place_21, s_X9_place_22, s_X9_place_24, s_X9_place_27, s_X9_place_28, s_X9_place_29, s_X9_place_32, s_X9_place_33, s_X9_place_34, s_X9_place_36, s_X9_place_37, s_X9_place_38, s_X9_place_41, s_X9_place_44, s_X9_place_46, s_X9_place_47, s_X9_place_48, s_X9_place_49, s_X9_place_50, s_X9_place_51, s_X9_place_54, s_X9_place_55, s_X9_place_57, s_X9_place_59, s_X9_place_60, s_X9_place_61, s_X9_place_64, s_X9_place_65, s_X9_place_68, s_X9_place_69, s_X9_place_71, s_X9_place_72, s_X9_place_73, s_X9_place_74, s_X9_place_75, s_X9_place_77, s_X9_place_80, s_X9_place_81, s_X9_place_84, s_X9_place_85, s_X9_place_87, s_X9_place_88, s_X9_place_89, s_X9_place_91, s_X9_place_93, s_X9_place_94, s_X9_place_98, s_X9_place_99, s_X9_place_102, s_X9_place_104, s_X9_place_105, s_X9_place_106, s_X9_place_109, s_X9_place_110, s_X9_place_113, s_X9_place_114, s_X9_place_116, s_X9_place_118, s_X9_place_119, s_X9_place_120, s_X9_place_121, s_X9_place_122, s_X9_place_123, s_X9_place_124, s_X9_place_125, s_X9_place_126, s_X9_place_128, s_X9_place_129, s_X9_place_131, s_X9_place_134, s_X9_place_135, s_X9_place_137, s_X9_place_138, s_X9_place_140, s_X9_place_141, s_X9_place_142, s_X9_place_143, s_X9_place_144, s_X9_place_147, s_X9_place_149, s_X9_place_150, s_X9_place_151, s_X9_place_152, s_X9_place_153, s_X9_place_154, s_X9_place_156, s_X9_place_159, s_X9_place_162, s_X9_place_163, s_X9_place_166, s_X9_place_167, s_X9_place_169, s_X9_place_170, gg0 (cs := [4, 7]) hg hgg (cs47 hci), gg3 (cs := [4, 7]) hg hgg (cs47 hci), ln_g hwf, sI_lt (show x < 100000 by omega) (show 1 < 100000 by decide), sI_lt (show 6 < 100000 by decide) (show x < 100000 by omega), sI_le (show 7 < 100000 by decide) (show x < 100000 by omega), sI_lt0 (show left < 100000 by omega), sI_le (show left < 100000 by omega) (show 6 < 100000 by decide), ai_i hb (show g + 1 < 70 by omega) (show x < 7 by omega) (by decide), sI_lt (show x < 100000 by omega) (show m < 100000 by omega)]
    refine ⟨fun hc => absurd hc (by omega), fun _ => ⟨fun hc => absurd hc (by omega), fun _ => ⟨fun hc => absurd hc (by omega), fun _ => ⟨False.elim, fun _ => ⟨fun _ => ⟨rfl, fun _ => ⟨rfl, rfl, ?_⟩, fun hc => absurd (by omega) hc⟩, fun hc => absurd hl hc⟩⟩⟩⟩⟩
    have hpow : ∀ a, a ≤ left → W * w x ^ a ≤ 20 ^ (x - 1) * 12 ^ (6 - (left - a)) := by
      intro a ha
      have e1 : w x ^ a ≤ 12 ^ a := Nat.pow_le_pow_left hwx a
      have e2 : W * w x ^ a ≤ 20 ^ (x - 1) * 12 ^ (6 - left) * 12 ^ a := Nat.mul_le_mul hW e1
      rw [Nat.mul_assoc, ← Nat.pow_add, show 6 - left + a = 6 - (left - a) by omega] at e2
      exact e2
    have hbig : ∀ a, a ≤ left → W * w x ^ a < 2 ^ 62 := by
      intro a ha
      have e2 := hpow a ha
      have e3 := B20 (a := x - 1) (b := 6 - (left - a)) (by omega) (by omega)
      have e4 : 20 ^ 6 * 12 ^ 6 < 2 ^ 62 := by decide
      omega
    have fin : ∀ c1 b1 o1 (s9 : Value) (W7 : Int64), frm [g, g + 1, g + 2] c c1 → TG c1 ci g v m k b1 o1 → (∀ j, j ≠ x → b1 j = b j) → (∀ j, j < 7 → o1 j = o j + W * PP w (fun f => inF ci v m f j) (p + 1 + 1) x left b) →
        rU (rRo LL xs) (d + 4 + p) tb_X9_place R 162 [.ref g, .ref wr, .int (nI x), .int (nI left), .long (lN W), .null, .int (b x), .long W7, .null, s9] [] (tab c1) := by
      intro c1 b1 o1 s9 W7 hf1 hT1 hb1 ho1
      simp only [s_X9_place_0, s_X9_place_1, s_X9_place_2, s_X9_place_5, s_X9_place_6, s_X9_place_8, s_X9_place_11, s_X9_place_12, s_X9_place_13, s_X9_place_14, s_X9_place_17, s_X9_place_18, s_X9_place_21, s_X9_place_22, s_X9_place_24, s_X9_place_27, s_X9_place_28, s_X9_place_29, s_X9_place_32, s_X9_place_33, s_X9_place_34, s_X9_place_36, s_X9_place_37, s_X9_place_38, s_X9_place_41, s_X9_place_44, s_X9_place_46, s_X9_place_47, s_X9_place_48, s_X9_place_49, s_X9_place_50, s_X9_place_51, s_X9_place_54, s_X9_place_55, s_X9_place_57, s_X9_place_59, s_X9_place_60, s_X9_place_61, s_X9_place_64, s_X9_place_65, s_X9_place_68, s_X9_place_69, s_X9_place_71, s_X9_place_72, s_X9_place_73, s_X9_place_74, s_X9_place_75, s_X9_place_77, s_X9_place_80, s_X9_place_81, s_X9_place_84, s_X9_place_85, s_X9_place_87, s_X9_place_88, s_X9_place_89, s_X9_place_91, s_X9_place_93, s_X9_place_94, s_X9_place_98, s_X9_place_99, s_X9_place_102, s_X9_place_104, s_X9_place_105, s_X9_place_106, s_X9_place_109, s_X9_place_110, s_X9_place_113, s_X9_place_114, s_X9_place_116, s_X9_place_118, s_X9_place_119, s_X9_place_120, s_X9_place_121, s_X9_place_122, s_X9_place_123, s_X9_place_124, s_X9_place_125, s_X9_place_126, s_X9_place_128, s_X9_place_129, s_X9_place_131, s_X9_place_134, s_X9_place_135, s_X9_place_137, s_X9_place_138, s_X9_place_140, s_X9_place_141, s_X9_place_142, s_X9_place_143, s_X9_place_144, s_X9_place_147, s_X9_place_149, s_X9_place_150, s_X9_place_151, s_X9_place_152, s_X9_place_153, s_X9_place_154, s_X9_place_156, s_X9_place_159, s_X9_place_162, s_X9_place_163, s_X9_place_166, s_X9_place_167, s_X9_place_169, s_X9_place_170, gg0 (cs := [4, 7]) hT1.1 hgg (cs47 hci)]
      refine si_i hT1.2.1 (by omega) (by omega) (by decide) fun c2 hf2 hi2 => ?_
      refine hk c2 o1 (hf1.trans (hf2.mono (by simp))) ⟨(hf2 g (by simp)).trans hT1.1, hi2.cg (fun j _ => ?_), hT1.2.2.fr hf2 (by simp)⟩ ho1
      by_cases hj : j = x
      · rw [hj, upd_self]
      · rw [upd_ne hj, hb1 j hj]
    have lp : ∀ rem a c1 b1 o1, a + rem = left + 1 → frm [g, g + 1, g + 2] c c1 → TG c1 ci g v m k b1 o1 → (∀ j, j ≠ x → b1 j = b j) →
        (∀ j, j < 7 → o1 j = o j + W * suR a (fun i => w x ^ i * (chF left i * PP w (fun f => inF ci v m f j) (p + 1) (x + 1) (left - i) (ad1 b x i)))) →
        rU (rRo LL xs) (d + 4 + p) tb_X9_place R 96 [.ref g, .ref wr, .int (nI x), .int (nI left), .long (lN W), .null, .int (b x), .long (lN (W * w x ^ a)), .null, .int (nI a)] [] (tab c1) := by
      intro rem
      induction rem with
      | zero =>
        intro a c1 b1 o1 ha hf1 hT1 hb1 ho1
        have : a = left + 1 := by omega
        subst this
        rw [s_X9_place_96]
        simp only [s_X9_place_98, s_X9_place_99]
        refine ⟨fun _ => fin c1 b1 o1 _ _ hf1 hT1 hb1 (fun j hj => ?_), fun hc => absurd ((sI_lt (by omega) (by omega)).mpr (Nat.lt_succ_self left)) hc⟩
        rw [ho1 j hj, PP_succ]
        congr 2
        apply suR_cg
        intro i _
        rw [← Nat.mul_assoc, Nat.mul_comm (w x ^ i)]
      | succ rem ihr =>
        intro a c1 b1 o1 ha hf1 hT1 hb1 ho1
        have hal : a ≤ left := by omega
        obtain ⟨wf1, hwf1, hwv1⟩ := (hWR.fr hf1).get (LL := LL) (xs := xs)
        rw [s_X9_place_96]
        simp only [s_X9_place_0, s_X9_place_1, s_X9_place_2, s_X9_place_5, s_X9_place_6, s_X9_place_8, s_X9_place_11, s_X9_place_12, s_X9_place_13, s_X9_place_14, s_X9_place_17, s_X9_place_18, s_X9_place_21, s_X9_place_22, s_X9_place_24, s_X9_place_27, s_X9_place_28, s_X9_place_29, s_X9_place_32, s_X9_place_33, s_X9_place_34, s_X9_place_36, s_X9_place_37, s_X9_place_38, s_X9_place_41, s_X9_place_44, s_X9_place_46, s_X9_place_47, s_X9_place_48, s_X9_place_49, s_X9_place_50, s_X9_place_51, s_X9_place_54, s_X9_place_55, s_X9_place_57, s_X9_place_59, s_X9_place_60, s_X9_place_61, s_X9_place_64, s_X9_place_65, s_X9_place_68, s_X9_place_69, s_X9_place_71, s_X9_place_72, s_X9_place_73, s_X9_place_74, s_X9_place_75, s_X9_place_77, s_X9_place_80, s_X9_place_81, s_X9_place_84, s_X9_place_85, s_X9_place_87, s_X9_place_88, s_X9_place_89, s_X9_place_91, s_X9_place_93, s_X9_place_94, s_X9_place_98, s_X9_place_99, s_X9_place_102, s_X9_place_104, s_X9_place_105, s_X9_place_106, s_X9_place_109, s_X9_place_110, s_X9_place_113, s_X9_place_114, s_X9_place_116, s_X9_place_118, s_X9_place_119, s_X9_place_120, s_X9_place_121, s_X9_place_122, s_X9_place_123, s_X9_place_124, s_X9_place_125, s_X9_place_126, s_X9_place_128, s_X9_place_129, s_X9_place_131, s_X9_place_134, s_X9_place_135, s_X9_place_137, s_X9_place_138, s_X9_place_140, s_X9_place_141, s_X9_place_142, s_X9_place_143, s_X9_place_144, s_X9_place_147, s_X9_place_149, s_X9_place_150, s_X9_place_151, s_X9_place_152, s_X9_place_153, s_X9_place_154, s_X9_place_156, s_X9_place_159, s_X9_place_163, s_X9_place_166, s_X9_place_167, s_X9_place_169, s_X9_place_170, sI_lt (show left < 100000 by omega) (show a < 100000 by omega), lcle0 (hbig a hal), gg0 (cs := [4, 7]) hT1.1 hgg (cs47 hci)]
        refine ⟨fun hc => absurd hc (by omega), fun _ => ⟨fun h0 => fin c1 b1 o1 _ _ hf1 hT1 hb1 (fun j hj => ?_), fun h0 => ?_⟩⟩
        · rw [ho1 j hj, PP_succ, ← suR_zero h0 (left + 1) (by omega)]
          congr 2
          apply suR_cg
          intro i _
          rw [← Nat.mul_assoc, Nat.mul_comm (w x ^ i)]
        · refine si_i hT1.2.1 (by omega) (by omega) (by decide) fun c2 hf2 hi2 => ?_
          have hch := rTC_ch left (by omega) a hal
          have hgc : rgetI (rRo LL xs) (tab c2) 1000001 = some (49, fun k => nI (rTC.getD k 0)) := rfl
          have hf12 := hf1.trans (hf2.mono (M' := [g, g + 1, g + 2]) (by simp))
          simp only [s_X9_place_0, s_X9_place_1, s_X9_place_2, s_X9_place_5, s_X9_place_6, s_X9_place_8, s_X9_place_11, s_X9_place_12, s_X9_place_13, s_X9_place_14, s_X9_place_17, s_X9_place_18, s_X9_place_21, s_X9_place_22, s_X9_place_24, s_X9_place_27, s_X9_place_28, s_X9_place_29, s_X9_place_32, s_X9_place_33, s_X9_place_34, s_X9_place_36, s_X9_place_37, s_X9_place_38, s_X9_place_41, s_X9_place_44, s_X9_place_46, s_X9_place_47, s_X9_place_48, s_X9_place_49, s_X9_place_50, s_X9_place_51, s_X9_place_54, s_X9_place_55, s_X9_place_57, s_X9_place_59, s_X9_place_60, s_X9_place_61, s_X9_place_64, s_X9_place_65, s_X9_place_68, s_X9_place_69, s_X9_place_71, s_X9_place_72, s_X9_place_73, s_X9_place_74, s_X9_place_75, s_X9_place_77, s_X9_place_80, s_X9_place_81, s_X9_place_84, s_X9_place_85, s_X9_place_87, s_X9_place_88, s_X9_place_89, s_X9_place_91, s_X9_place_93, s_X9_place_94, s_X9_place_98, s_X9_place_99, s_X9_place_102, s_X9_place_104, s_X9_place_105, s_X9_place_106, s_X9_place_109, s_X9_place_110, s_X9_place_113, s_X9_place_114, s_X9_place_116, s_X9_place_118, s_X9_place_119, s_X9_place_120, s_X9_place_121, s_X9_place_122, s_X9_place_123, s_X9_place_124, s_X9_place_125, s_X9_place_126, s_X9_place_128, s_X9_place_129, s_X9_place_131, s_X9_place_134, s_X9_place_135, s_X9_place_137, s_X9_place_138, s_X9_place_140, s_X9_place_141, s_X9_place_142, s_X9_place_143, s_X9_place_144, s_X9_place_147, s_X9_place_149, s_X9_place_150, s_X9_place_151, s_X9_place_152, s_X9_place_153, s_X9_place_154, s_X9_place_156, s_X9_place_159, s_X9_place_163, s_X9_place_166, s_X9_place_167, s_X9_place_169, s_X9_place_170, ai_g hgc, nI_mul, nI_add, nI_c (show left * 7 + a < 100000 by omega), hch.1, nI_l (show chF left a < 2 ^ 31 by omega), lN_mul, sI_sub hal]
          refine ⟨vp_n (by omega) (by decide), ?_⟩
          have hT2 : TG c2 ci g v m k (ad1 b x a) o1 := ⟨(hf2 g (by simp)).trans hT1.1, hi2.cg (fun j _ => by
            unfold ad1
            by_cases hj : j = x
            · rw [hj, upd_self, upd_self]
            · rw [upd_ne hj, upd_ne hj, hb1 j hj]), hT1.2.2.fr hf2 (by simp)⟩
          refine ih d (x + 1) (left - a) (W * w x ^ a * chF left a) c2 (ad1 b x a) o1 _ (by omega) (by omega) (by omega) ?_ hT2 (hWR.fr hf12) fun c3 o3 hf3 hT3 ho3 => ?_
          · have e1 := Nat.mul_le_mul (hpow a hal) hch.2
            have e2 : 20 ^ (x - 1) * 12 ^ (6 - (left - a)) * 20 = 20 ^ (x + 1 - 1) * 12 ^ (6 - (left - a)) := by
              rw [show x + 1 - 1 = (x - 1) + 1 by omega, Nat.pow_succ, Nat.mul_assoc, Nat.mul_comm (12 ^ _) 20, ← Nat.mul_assoc]
            omega
          · have hf13 := hf12.trans hf3
            obtain ⟨wf3, hwf3, hwv3⟩ := (hWR.fr hf13).get (LL := LL) (xs := xs)
            simp only [Option.toList_some, Option.toList_none, List.cons_append, List.nil_append, Option.toList, s_X9_place_0, s_X9_place_1, s_X9_place_2, s_X9_place_5, s_X9_place_6, s_X9_place_8, s_X9_place_11, s_X9_place_12, s_X9_place_13, s_X9_place_14, s_X9_place_17, s_X9_place_18, s_X9_place_21, s_X9_place_22, s_X9_place_24, s_X9_place_27, s_X9_place_28, s_X9_place_29, s_X9_place_32, s_X9_place_33, s_X9_place_34, s_X9_place_36, s_X9_place_37, s_X9_place_38, s_X9_place_41, s_X9_place_44, s_X9_place_46, s_X9_place_47, s_X9_place_48, s_X9_place_49, s_X9_place_50, s_X9_place_51, s_X9_place_54, s_X9_place_55, s_X9_place_57, s_X9_place_59, s_X9_place_60, s_X9_place_61, s_X9_place_64, s_X9_place_65, s_X9_place_68, s_X9_place_69, s_X9_place_71, s_X9_place_72, s_X9_place_73, s_X9_place_74, s_X9_place_75, s_X9_place_77, s_X9_place_80, s_X9_place_81, s_X9_place_84, s_X9_place_85, s_X9_place_87, s_X9_place_88, s_X9_place_89, s_X9_place_91, s_X9_place_93, s_X9_place_94, s_X9_place_98, s_X9_place_99, s_X9_place_102, s_X9_place_104, s_X9_place_105, s_X9_place_106, s_X9_place_109, s_X9_place_110, s_X9_place_113, s_X9_place_114, s_X9_place_116, s_X9_place_118, s_X9_place_119, s_X9_place_120, s_X9_place_121, s_X9_place_122, s_X9_place_123, s_X9_place_124, s_X9_place_125, s_X9_place_126, s_X9_place_128, s_X9_place_129, s_X9_place_131, s_X9_place_134, s_X9_place_135, s_X9_place_137, s_X9_place_138, s_X9_place_140, s_X9_place_141, s_X9_place_142, s_X9_place_143, s_X9_place_144, s_X9_place_147, s_X9_place_149, s_X9_place_150, s_X9_place_151, s_X9_place_152, s_X9_place_153, s_X9_place_154, s_X9_place_156, s_X9_place_159, s_X9_place_163, s_X9_place_166, s_X9_place_167, s_X9_place_169, s_X9_place_170, ai_g hwf3, nI_c (show x < 100000 by omega), hwv3 x (by omega), nI_l (show w x < 2 ^ 31 by omega), lN_mul, nI_add]
            refine ⟨vp_n (by omega) (by decide), rfl, rfl, ?_⟩
            rw [Nat.mul_assoc W, ← Nat.pow_succ]
            refine ihr (a + 1) c3 (ad1 b x a) o3 (by omega) hf13 hT3 (fun j hj => by unfold ad1; rw [upd_ne hj]) (fun j hj => ?_)
            rw [ho3 j hj, ho1 j hj, suR, Nat.mul_add, ← Nat.add_assoc]
            congr 1
            rw [Nat.mul_assoc W, Nat.mul_assoc W, Nat.mul_assoc (w x ^ a)]
    have h0 := lp (left + 1) 0 c b o (by omega) frm.rf hT (fun _ _ => rfl) (fun j _ => by simp [suR])
    rw [Nat.pow_zero, Nat.mul_one] at h0
    exact h0
theorem sp_X7_run {d : Nat} {c : Nat → rE} {b : Nat → Int32} (hci : ci = 4 ∨ ci = 7) (hg7 : g + 2 < 70) (hm : 2 ≤ m ∧ m ≤ 6) (hv : v ≤ 3) (hk6 : k ≤ 6) (hw : ∀ j, j < 7 → w j ≤ 12) (hg : c g = gobj ci g (nI v) (nI m) (nI k)) (hb : isI c (g + 1) 7 b) (ho : tyL c (g + 2) 7) (hWR : WR c wr g w)
    (hk : ∀ c' o', frm [g, g + 1, g + 2] c c' → TG c' ci g v m k b o' → (∀ j, j < 7 → o' j = FF w (fun f => inF ci v m f j) m 1 k b) → R none (tab c')) : rM (rRo LL xs) (d + 10) 41 0 0 [.ref g, .ref wr] (tab c) R := by
  have hgg : g < 70 := by omega
  rw [en_X7_run]
  simp only [s_X7_run_0, s_X7_run_1, s_X7_run_3, s_X7_run_5, s_X7_run_8, s_X7_run_9, s_X7_run_12, s_X7_run_13, s_X7_run_14, s_X7_run_15, s_X7_run_18, s_X7_run_21, s_X7_run_22, s_X7_run_23, s_X7_run_24, s_X7_run_25, s_X7_run_28, s_X7_run_29, s_X7_run_32]
  refine ⟨rfl, ?_⟩
  have lp : ∀ rem x c1 (val : Nat → Int64), x + rem = 7 → frm [g, g + 1, g + 2] c c1 → c1 g = gobj ci g (nI v) (nI m) (nI k) → isI c1 (g + 1) 7 b → isL c1 (g + 2) 7 val → (∀ j, j < x → val j = lN 0) → rU (rRo LL xs) (d + 9) tb_X7_run R 2 [.ref g, .ref wr, .int (nI x)] [] (tab c1) := by
    intro rem
    induction rem with
    | zero =>
      intro x c1 val hx hf e0 e1 e2 hv2
      have : x = 7 := by omega
      subst this
      rw [s_X7_run_2]
      simp only [s_X7_run_0, s_X7_run_1, s_X7_run_3, s_X7_run_5, s_X7_run_8, s_X7_run_9, s_X7_run_12, s_X7_run_13, s_X7_run_14, s_X7_run_15, s_X7_run_18, s_X7_run_21, s_X7_run_22, s_X7_run_23, s_X7_run_24, s_X7_run_25, s_X7_run_28, s_X7_run_29, s_X7_run_32, gg4 (cs := [4, 7]) e0 hgg (cs47 hci)]
      refine ⟨fun _ => ?_, fun hc => absurd ((sI_le (by decide) (by decide)).mpr (Nat.le_refl _)) hc⟩
      have hd : d + 9 = (d + 9 - 4 - (m - 1)) + 4 + (m - 1) := by omega
      rw [hd]
      refine sp_X9_place hci hg7 hm.2 hv hw (m - 1) (d + 9 - 4 - (m - 1)) 1 k 1 c1 b (fun _ => 0) _ (by omega) (by omega) hk6 ?_ ⟨e0, e1, e2.cg hv2⟩ (hWR.fr hf) fun c2 o2 hf2 hT2 ho2 => ?_
      · rw [Nat.sub_self, Nat.pow_zero, Nat.one_mul]
        exact Nat.one_le_pow _ _ (by decide)
      · rw [← hd]
        simp only [Option.toList_some, Option.toList_none, List.cons_append, List.nil_append, Option.toList, s_X7_run_0, s_X7_run_1, s_X7_run_3, s_X7_run_5, s_X7_run_8, s_X7_run_9, s_X7_run_12, s_X7_run_13, s_X7_run_14, s_X7_run_15, s_X7_run_18, s_X7_run_21, s_X7_run_22, s_X7_run_23, s_X7_run_24, s_X7_run_25, s_X7_run_28, s_X7_run_29, s_X7_run_32]
        refine hk c2 o2 (hf.trans hf2) hT2 (fun j hj => ?_)
        rw [ho2 j hj, ← PP_FF, Nat.zero_add, Nat.one_mul, show m - 1 + 1 = m by omega]
    | succ rem ih =>
      intro x c1 val hx hf e0 e1 e2 hv2
      rw [s_X7_run_2]
      simp only [s_X7_run_0, s_X7_run_1, s_X7_run_3, s_X7_run_5, s_X7_run_8, s_X7_run_9, s_X7_run_12, s_X7_run_13, s_X7_run_14, s_X7_run_15, s_X7_run_18, s_X7_run_21, s_X7_run_22, s_X7_run_23, s_X7_run_24, s_X7_run_25, s_X7_run_28, s_X7_run_29, s_X7_run_32, gg1 (cs := [4, 7]) e0 hgg (cs47 hci), nI_add, sI_le (show 7 < 100000 by omega) (show x < 100000 by omega)]
      refine ⟨fun hc => absurd hc (by omega), fun _ => sl_i e2 (by omega) (by omega) (by decide) fun c2 hf2 hi2 => ?_⟩
      refine ⟨rfl, ih (x + 1) c2 _ (by omega) (hf.trans (hf2.mono (by simp))) ((hf2 g (by simp)).trans e0) (e1.fr hf2 (by simp)) hi2 (fun j hj => ?_)⟩
      by_cases hjx : j = x
      · rw [hjx, updL_self]
      · rw [updL_ne hjx]; exact hv2 j (by omega)
  obtain ⟨f1, hf1⟩ := ho
  exact lp 7 0 c f1 (by omega) frm.rf hg hb ⟨f1, hf1, fun _ _ => rfl⟩ (fun j hj => absurd hj (by omega))
end CP
