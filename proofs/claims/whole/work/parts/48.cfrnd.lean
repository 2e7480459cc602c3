/-! ===== the class: friends ===== -/
def ush (a : Int32) (k : Nat) : Int32 := (a.toUInt32 >>> ((nI k).toUInt32 &&& Int32.toUInt32 31)).toInt32
def bc1 (a : Int32) : Int32 := a - (ush a 1 &&& nI 1431655765)
def bc2 (a : Int32) : Int32 := (a &&& nI 858993459) + (ush a 2 &&& nI 858993459)
def bc3 (a : Int32) : Int32 := (a + ush a 4) &&& nI 252645135
def bc4 (a : Int32) : Int32 := a + ush a 8
def bc5 (a : Int32) : Int32 := a + ush a 16
theorem bcE : ∀ s, s < 64 → (bc5 (bc4 (bc3 (bc2 (bc1 (nI s))))) &&& nI 63) = nI (rkN s 6) := by decide +kernel
theorem low_bits : ∀ s, s < 64 → ∀ i, i < 6 → (nI s &&& ((nI 1 <<< (nI i &&& 31)) - nI 1)) = nI (s % 2 ^ i) ∧ rkN (s % 2 ^ i) 6 = rkN s i := by decide +kernel
theorem rk_6 : ∀ n, n < 7 → ∀ s, s < 2 ^ n → rkN s 6 = rkN s n := by decide +kernel
def BSP (c : Nat → rE) (z v m fk : Nat) (V : List Nat → Nat) (best : Option (List Nat)) (bu : Int64) (br : Nat → Int32) : Prop := match best with
  | none => bu = - lN 1
  | some b => bu = lN (V b) ∧ V b < 2 ^ 62 ∧ b.length = z ∧ (∀ j, j < z → br j = nI (b.getD j 0)) ∧ c 40 = gobj 7 40 (nI v) (nI m) (nI fk)
def PST (c : Nat → rE) (s z v m fk : Nat) (V : List Nat → Nat) (p : List Nat) (best : Option (List Nat)) : Prop := ∃ (rw br : Nat → Int32) (bu : Int64), c 39 = pob bu (nI s) (nI z) ∧ gsc c 7 40 ∧ isI c 43 6 rw ∧ (∀ j, j < p.length → rw j = nI (p.getD j 0)) ∧ isI c 44 6 br ∧ BSP c z v m fk V best bu br
theorem lcle {a b : Nat} (ha : a < 2 ^ 62) (hb : b < 2 ^ 62) : (lg_cmp (lN a) (lN b) ≤ 0) ↔ a ≤ b := by
  unfold lg_cmp
  have hgt : (lN a > lN b) ↔ b < a := by
    show lN b < lN a ↔ _
    rw [Int64.lt_iff_toInt_lt, lN_toI (by omega), lN_toI (by omega)]
    omega
  have heq : (lN a = lN b) ↔ a = b := by
    rw [← Int64.toInt_inj, lN_toI (by omega), lN_toI (by omega)]
    omega
  by_cases h1 : b < a
  · rw [if_pos (hgt.mpr h1)]; exact ⟨fun q => absurd q (by decide), fun _ => by omega⟩
  · rw [if_neg (fun q => h1 (hgt.mp q))]
    by_cases h2 : a = b
    · rw [if_pos (heq.mpr h2)]; exact ⟨fun _ => by omega, fun _ => by decide⟩
    · rw [if_neg (fun q => h2 (heq.mp q))]; exact ⟨fun _ => by omega, fun _ => by decide⟩
theorem lcneg {a : Nat} (ha : a < 2 ^ 62) : (lg_cmp (lN a) (- lN 1) ≤ 0) ↔ False := by
  unfold lg_cmp
  have hgt : lN a > - lN 1 := by
    show - lN 1 < lN a
    rw [Int64.lt_iff_toInt_lt, lN_toI (by omega), show (- lN 1 : Int64).toInt = -1 by decide]
    omega
  rw [if_pos hgt]
  exact ⟨fun q => absurd q (by decide), False.elim⟩
section CP
variable {ro : rQ} {LL : Nat} {xs : Nat → Int32} {d : Nat} {R : rR} {c : Nat → rE} {h : rH} {n m v si sg k t q l s z : Nat} {w fo o rf : Nat → Nat} {st pd rw br : Nat → Int32} {gp : Nat → Int64} {im : Nat → Option TS} {x y : Int32} {bu : Int64} {best : Option (List Nat)} {b : Nat → Int32}
theorem sp_bitCount (hs : s < 64) (hk : R (some (.int (nI (rkN s 6)))) h) : rM ro (d + 1) 166 0 0 [.int (nI s)] h R := by
  rw [← bcE s hs] at hk
  rw [en_J6_bitCount_0f7a4]
  simp only [s_J6_bitCount_0f7a4_0, s_J6_bitCount_0f7a4_1, s_J6_bitCount_0f7a4_2, s_J6_bitCount_0f7a4_3, s_J6_bitCount_0f7a4_4, s_J6_bitCount_0f7a4_7, s_J6_bitCount_0f7a4_8, s_J6_bitCount_0f7a4_9, s_J6_bitCount_0f7a4_10, s_J6_bitCount_0f7a4_11, s_J6_bitCount_0f7a4_14, s_J6_bitCount_0f7a4_15, s_J6_bitCount_0f7a4_16, s_J6_bitCount_0f7a4_17, s_J6_bitCount_0f7a4_18, s_J6_bitCount_0f7a4_21, s_J6_bitCount_0f7a4_22, s_J6_bitCount_0f7a4_23, s_J6_bitCount_0f7a4_24, s_J6_bitCount_0f7a4_25, s_J6_bitCount_0f7a4_26, s_J6_bitCount_0f7a4_27, s_J6_bitCount_0f7a4_28, s_J6_bitCount_0f7a4_29, s_J6_bitCount_0f7a4_32, s_J6_bitCount_0f7a4_33, s_J6_bitCount_0f7a4_34, s_J6_bitCount_0f7a4_35, s_J6_bitCount_0f7a4_36, s_J6_bitCount_0f7a4_38, s_J6_bitCount_0f7a4_39, s_J6_bitCount_0f7a4_40, s_J6_bitCount_0f7a4_41, s_J6_bitCount_0f7a4_42, s_J6_bitCount_0f7a4_43, s_J6_bitCount_0f7a4_45, s_J6_bitCount_0f7a4_46, s_J6_bitCount_0f7a4_47, s_J6_bitCount_0f7a4_48, s_J6_bitCount_0f7a4_49, s_J6_bitCount_0f7a4_51, s_J6_bitCount_0f7a4_52]
  exact ⟨rfl, rfl, rfl, rfl, rfl, hk⟩
theorem sp_X5_judge {x : List Nat} {V : List Nat → Nat} (h39 : c 39 = pob bu (nI s) (nI z)) (hz : z ≤ 6) (hT : TG c 7 40 v m k b o) (h43 : isI c 43 6 rw) (hx : x.length = z) (hxr : ∀ j, j < x.length → rw j = nI (x.getD j 0)) (hxm : ∀ j, j < x.length → 1 ≤ x.getD j 0 ∧ x.getD j 0 ≤ 6) (h44 : isI c 44 6 br) (hVx : (x.map o).sum = V x) (hV62 : V x < 2 ^ 62) (hB : BSP c z v m k V best bu br)
    (hk : ∀ c' bu' br', frm [39, 44] c c' → c' 39 = pob bu' (nI s) (nI z) → isI c' 44 6 br' → BSP c' z v m k V (mxO V best x) bu' br' → R none (tab c')) : rM ro (d + 1) 29 0 0 [.ref 39] (tab c) R := by
  rw [en_X5_judge]
  simp only [s_X5_judge_0, s_X5_judge_1, s_X5_judge_2, s_X5_judge_3, s_X5_judge_5, s_X5_judge_6, s_X5_judge_9, s_X5_judge_12, s_X5_judge_13, s_X5_judge_15, s_X5_judge_18, s_X5_judge_19, s_X5_judge_22, s_X5_judge_23, s_X5_judge_24, s_X5_judge_26, s_X5_judge_28, s_X5_judge_29, s_X5_judge_32, s_X5_judge_34, s_X5_judge_36, s_X5_judge_39, s_X5_judge_40, s_X5_judge_41, s_X5_judge_44, s_X5_judge_47, s_X5_judge_49, s_X5_judge_50, s_X5_judge_51, s_X5_judge_52, s_X5_judge_55, s_X5_judge_58, s_X5_judge_59, s_X5_judge_60, s_X5_judge_63, s_X5_judge_64, s_X5_judge_67, s_X5_judge_68, s_X5_judge_69, s_X5_judge_72, s_X5_judge_73, s_X5_judge_76, s_X5_judge_77, s_X5_judge_78, s_X5_judge_81, s_X5_judge_82, s_X5_judge_84, s_X5_judge_87]
  refine ⟨rfl, rfl, ?_⟩
  have fin : ∀ l3 l4 : Value, rU ro d tb_X5_judge R 58 [.ref 39, .long (lN (V x)), .null, l3, l4] [] (tab c) := by
    intro l3 l4
    have st67 : mxO V best x = some x → rU ro d tb_X5_judge R 67 [.ref 39, .long (lN (V x)), .null, l3, l4] [] (tab c) := by
      intro hA
      simp only [s_X5_judge_0, s_X5_judge_1, s_X5_judge_2, s_X5_judge_3, s_X5_judge_5, s_X5_judge_6, s_X5_judge_9, s_X5_judge_12, s_X5_judge_13, s_X5_judge_15, s_X5_judge_18, s_X5_judge_19, s_X5_judge_22, s_X5_judge_23, s_X5_judge_24, s_X5_judge_26, s_X5_judge_28, s_X5_judge_29, s_X5_judge_32, s_X5_judge_34, s_X5_judge_36, s_X5_judge_39, s_X5_judge_40, s_X5_judge_41, s_X5_judge_44, s_X5_judge_47, s_X5_judge_49, s_X5_judge_50, s_X5_judge_51, s_X5_judge_52, s_X5_judge_55, s_X5_judge_58, s_X5_judge_59, s_X5_judge_60, s_X5_judge_63, s_X5_judge_64, s_X5_judge_67, s_X5_judge_68, s_X5_judge_69, s_X5_judge_72, s_X5_judge_73, s_X5_judge_76, s_X5_judge_77, s_X5_judge_78, s_X5_judge_81, s_X5_judge_82, s_X5_judge_84, s_X5_judge_87, pp3 h39]
      obtain ⟨c1, hc1⟩ : ∃ c1, c1 = fup c 39 (pob (lN (V x)) (nI s) (nI z)) := ⟨_, rfl⟩
      rw [← hc1]
      have f1 : frm [39] c c1 := by rw [hc1]; exact frm.rf.fup rfl
      have e39 : c1 39 = pob (lN (V x)) (nI s) (nI z) := by rw [hc1]; exact fup_self
      simp only [s_X5_judge_0, s_X5_judge_1, s_X5_judge_2, s_X5_judge_3, s_X5_judge_5, s_X5_judge_6, s_X5_judge_9, s_X5_judge_12, s_X5_judge_13, s_X5_judge_15, s_X5_judge_18, s_X5_judge_19, s_X5_judge_22, s_X5_judge_23, s_X5_judge_24, s_X5_judge_26, s_X5_judge_28, s_X5_judge_29, s_X5_judge_32, s_X5_judge_34, s_X5_judge_36, s_X5_judge_39, s_X5_judge_40, s_X5_judge_41, s_X5_judge_44, s_X5_judge_47, s_X5_judge_49, s_X5_judge_50, s_X5_judge_51, s_X5_judge_52, s_X5_judge_55, s_X5_judge_58, s_X5_judge_59, s_X5_judge_60, s_X5_judge_63, s_X5_judge_64, s_X5_judge_67, s_X5_judge_68, s_X5_judge_69, s_X5_judge_72, s_X5_judge_73, s_X5_judge_76, s_X5_judge_77, s_X5_judge_78, s_X5_judge_81, s_X5_judge_82, s_X5_judge_84, s_X5_judge_87, gp1 e39, gp2 e39]
      refine cp_i (h43.fr f1 rfl) (h44.ty.fr f1 rfl) (by decide) (by decide) (by decide) fun c2 f2 i44 => ?_
      refine hk c2 _ _ ((f1.mono rfl).trans (f2.mono rfl)) ((f2 39 rfl).trans e39) i44 ?_
      rw [hA]
      exact ⟨rfl, hV62, hx, fun j hj => hxr j (by omega), (f2 40 rfl).trans ((f1 40 rfl).trans hT.1)⟩
    simp only [s_X5_judge_0, s_X5_judge_1, s_X5_judge_2, s_X5_judge_3, s_X5_judge_5, s_X5_judge_6, s_X5_judge_9, s_X5_judge_12, s_X5_judge_13, s_X5_judge_15, s_X5_judge_18, s_X5_judge_19, s_X5_judge_22, s_X5_judge_23, s_X5_judge_24, s_X5_judge_26, s_X5_judge_28, s_X5_judge_29, s_X5_judge_32, s_X5_judge_34, s_X5_judge_36, s_X5_judge_39, s_X5_judge_40, s_X5_judge_41, s_X5_judge_44, s_X5_judge_47, s_X5_judge_49, s_X5_judge_50, s_X5_judge_51, s_X5_judge_52, s_X5_judge_55, s_X5_judge_58, s_X5_judge_59, s_X5_judge_60, s_X5_judge_63, s_X5_judge_64, s_X5_judge_68, s_X5_judge_69, s_X5_judge_72, s_X5_judge_73, s_X5_judge_76, s_X5_judge_77, s_X5_judge_78, s_X5_judge_81, s_X5_judge_82, s_X5_judge_84, s_X5_judge_87, gp3 h39]
    cases best with
    | none =>
      have hB : bu = - lN 1 := hB
      rw [hB, lcneg hV62]
      exact ⟨False.elim, fun _ => st67 rfl⟩
    | some b =>
      obtain ⟨hB1, hB2, hB3⟩ := hB
      rw [hB1, lcle hV62 hB2]
      refine ⟨fun hle => ?_, fun hle => st67 (by rw [mxO, if_pos (by omega)])⟩
      refine hk c bu br frm.rf h39 h44 ?_
      rw [mxO, if_neg (by omega)]
      exact ⟨hB1, hB2, hB3⟩
  have lp : ∀ rem i (l4 : Value), i + rem = z → rU ro d tb_X5_judge R 4 [.ref 39, .long (lN (((x.take i).map o).sum)), .null, .int (nI i), l4] [] (tab c) := by
    intro rem
    induction rem with
    | zero =>
      intro i l4 hi
      have : i = z := by omega
      subst this
      rw [s_X5_judge_4]
      simp only [s_X5_judge_0, s_X5_judge_1, s_X5_judge_2, s_X5_judge_3, s_X5_judge_5, s_X5_judge_6, s_X5_judge_9, s_X5_judge_12, s_X5_judge_13, s_X5_judge_15, s_X5_judge_18, s_X5_judge_19, s_X5_judge_22, s_X5_judge_23, s_X5_judge_24, s_X5_judge_26, s_X5_judge_28, s_X5_judge_29, s_X5_judge_32, s_X5_judge_34, s_X5_judge_36, s_X5_judge_39, s_X5_judge_40, s_X5_judge_41, s_X5_judge_44, s_X5_judge_47, s_X5_judge_49, s_X5_judge_50, s_X5_judge_51, s_X5_judge_52, s_X5_judge_55, s_X5_judge_59, s_X5_judge_60, s_X5_judge_63, s_X5_judge_64, s_X5_judge_67, s_X5_judge_68, s_X5_judge_69, s_X5_judge_72, s_X5_judge_73, s_X5_judge_76, s_X5_judge_77, s_X5_judge_78, s_X5_judge_81, s_X5_judge_82, s_X5_judge_84, s_X5_judge_87, gp5 h39]
      refine ⟨fun _ => ?_, fun hc => absurd ((sI_le (by omega) (by omega)).mpr (Nat.le_refl _)) hc⟩
      rw [List.take_of_length_le (by omega), hVx]
      exact fin _ _
    | succ rem ih =>
      intro i l4 hi
      obtain ⟨hy1, hy2⟩ := hxm i (by omega)
      rw [s_X5_judge_4]
      simp only [s_X5_judge_0, s_X5_judge_1, s_X5_judge_2, s_X5_judge_3, s_X5_judge_5, s_X5_judge_6, s_X5_judge_9, s_X5_judge_12, s_X5_judge_13, s_X5_judge_15, s_X5_judge_18, s_X5_judge_19, s_X5_judge_22, s_X5_judge_23, s_X5_judge_24, s_X5_judge_26, s_X5_judge_28, s_X5_judge_29, s_X5_judge_32, s_X5_judge_34, s_X5_judge_36, s_X5_judge_39, s_X5_judge_40, s_X5_judge_41, s_X5_judge_44, s_X5_judge_47, s_X5_judge_49, s_X5_judge_50, s_X5_judge_51, s_X5_judge_52, s_X5_judge_55, s_X5_judge_59, s_X5_judge_60, s_X5_judge_63, s_X5_judge_64, s_X5_judge_67, s_X5_judge_68, s_X5_judge_69, s_X5_judge_72, s_X5_judge_73, s_X5_judge_76, s_X5_judge_77, s_X5_judge_78, s_X5_judge_81, s_X5_judge_82, s_X5_judge_84, s_X5_judge_87, gp5 h39, gp1 h39, gp0 h39, gg1 (cs := [7]) hT.1 (show 40 < 70 by decide) rfl, gg1 (cs := [4, 7]) hT.1 (show 40 < 70 by decide) rfl, nI_add, sI_le (show z < 100000 by omega) (show i < 100000 by omega), sI_le (show 6 < 100000 by decide) (show i < 100000 by omega), ai_i h43 (show 43 < 70 by decide) (show i < 6 by omega) (by decide), hxr i (by omega), sI_lt (show x.getD i 0 < 100000 by omega) (show 1 < 100000 by decide), sI_le (show 7 < 100000 by decide) (show x.getD i 0 < 100000 by omega), al_i hT.2.2 (show 40 + 2 < 70 by decide) (show x.getD i 0 < 7 by omega) (by decide), lN_add]
      refine ⟨fun hc => absurd hc (by omega), fun _ => ⟨fun hc => absurd hc (by omega), fun _ => ⟨rfl, fun hc => absurd hc (by omega), fun _ => ⟨fun hc => absurd hc (by omega), fun _ => ⟨rfl, rfl, ?_⟩⟩⟩⟩⟩
      rw [← take_sum (by omega)]
      exact ih (i + 1) _ (by omega)
  exact lp z 0 _ (by omega)
theorem sp_X9_agree (hV : VS (n, m, v, w, fo, si, st)) (hs : s < 64) : ∀ (r d place lo : Nat) (p : List Nat) (best : Option (List Nat)) (c : Nat → rE) (R : rR), place + r = rkN s n → p.length = place → 1 ≤ lo ∧ lo ≤ m → (∀ j, j < p.length → 1 ≤ p.getD j 0 ∧ p.getD j 0 ≤ m) → TBL c 1 (n, m, v, w, fo, si, st) → PST c s (rkN s n) v m (fcN fo s n 0) (VF w v m fo s n) p best →
    (∀ c', frm [39, 40, 41, 42, 43, 44] c c' → PST c' s (rkN s n) v m (fcN fo s n 0) (VF w v m fo s n) p (mxL (VF w v m fo s n) best ((ris m r lo).map (p ++ ·))) → R none (tab c')) →
    rM (rRo LL xs) (d + 12 + r) 94 0 0 [.ref 39, .ref 1, .int (nI place), .int (nI lo)] (tab c) R := by
  have hn := hV.1
  have hm := hV.2.1
  have hrk := rkN_le s n
  intro r
  induction r with
  | zero =>
    intro d place lo p best c R hx hp hlo hpm hT hS hk
    obtain ⟨rw, br, bu, e39, e40, e43, hrp, e44, hB⟩ := hS
    have h0 := hT.1
    rw [show d + 12 + 0 = d + 11 + 1 by omega, en_X9_agree]
    simp only [s_X9_agree_0, s_X9_agree_1, s_X9_agree_2, s_X9_agree_5, s_X9_agree_8, s_X9_agree_9, s_X9_agree_11, s_X9_agree_14, s_X9_agree_15, s_X9_agree_16, s_X9_agree_19, s_X9_agree_20, s_X9_agree_23, s_X9_agree_24, s_X9_agree_27, s_X9_agree_30, s_X9_agree_31, s_X9_agree_34, s_X9_agree_35, s_X9_agree_36, s_X9_agree_40, s_X9_agree_41, s_X9_agree_44, s_X9_agree_47, s_X9_agree_48, s_X9_agree_51, s_X9_agree_52, s_X9_agree_54, s_X9_agree_55, s_X9_agree_56, s_X9_agree_57, s_X9_agree_58, s_X9_agree_59, s_X9_agree_60, s_X9_agree_62, s_X9_agree_65, s_X9_agree_68, s_X9_agree_71, gp5 e39, vpa e39, sI_le (show rkN s n < 100000 by omega) (show place < 100000 by omega)]
    refine ⟨fun _ => ?_, fun q => absurd (by omega) q⟩
    refine sp_X5_gather hV hT e39 hs e40 e43 (by omega) hrp hpm fun c1 f1 g40 g41 => ?_
    have g39 := (f1 39 rfl).trans e39
    simp only [Option.toList_some, Option.toList_none, List.cons_append, List.nil_append, Option.toList, s_X9_agree_0, s_X9_agree_1, s_X9_agree_2, s_X9_agree_5, s_X9_agree_8, s_X9_agree_9, s_X9_agree_11, s_X9_agree_14, s_X9_agree_15, s_X9_agree_16, s_X9_agree_19, s_X9_agree_20, s_X9_agree_23, s_X9_agree_24, s_X9_agree_27, s_X9_agree_30, s_X9_agree_31, s_X9_agree_34, s_X9_agree_35, s_X9_agree_36, s_X9_agree_40, s_X9_agree_41, s_X9_agree_44, s_X9_agree_47, s_X9_agree_48, s_X9_agree_51, s_X9_agree_52, s_X9_agree_54, s_X9_agree_55, s_X9_agree_56, s_X9_agree_57, s_X9_agree_58, s_X9_agree_59, s_X9_agree_60, s_X9_agree_62, s_X9_agree_65, s_X9_agree_68, s_X9_agree_71, gp0 g39, gt3 ((f1 1 rfl).trans h0) (show 1 < 70 by decide), vg7 g40 (show 40 < 70 by decide)]
    have hfk := fcN_le fo s n 0
    refine sp_X7_run (Or.inr rfl) (by decide) hm hV.2.2.1 (by omega) (fun j _ => by have := hV.2.2.2.2.2.1 j; omega) g40 g41 (e40.2.2.fr f1 rfl) (Or.inl ⟨by decide, by decide, by decide, by decide, hT.2.1.fr f1 rfl⟩) fun c2 o2 f2 hT2 ho2 => ?_
    have k39 := (f2 39 rfl).trans g39
    simp only [Option.toList_some, Option.toList_none, List.cons_append, List.nil_append, Option.toList, s_X9_agree_0, s_X9_agree_1, s_X9_agree_2, s_X9_agree_5, s_X9_agree_8, s_X9_agree_9, s_X9_agree_11, s_X9_agree_14, s_X9_agree_15, s_X9_agree_16, s_X9_agree_19, s_X9_agree_20, s_X9_agree_23, s_X9_agree_24, s_X9_agree_27, s_X9_agree_30, s_X9_agree_31, s_X9_agree_34, s_X9_agree_35, s_X9_agree_36, s_X9_agree_40, s_X9_agree_41, s_X9_agree_44, s_X9_agree_47, s_X9_agree_48, s_X9_agree_51, s_X9_agree_52, s_X9_agree_54, s_X9_agree_55, s_X9_agree_56, s_X9_agree_57, s_X9_agree_58, s_X9_agree_59, s_X9_agree_60, s_X9_agree_62, s_X9_agree_65, s_X9_agree_68, s_X9_agree_71, vpa k39]
    have hsum : (p.map o2).sum = VF w v m fo s n p := by
      have : p.map o2 = p.map (fun y => tlF w v m (fcN fo s n 0) (bxF fo s n p) y) := by
        apply List.map_congr_left
        intro y hy
        obtain ⟨j, hj, rfl⟩ := List.getElem_of_mem hy
        have := hpm j hj
        rw [List.getD_eq_getElem?_getD, List.getElem?_eq_getElem hj] at this
        have h2 : p[j] ≤ m := this.2
        rw [ho2 _ (by omega), inF_tl]
      rw [this, tl_list]
      rfl
    refine sp_X5_judge (V := VF w v m fo s n) (x := p) (best := best) k39 (by omega) hT2 ((e43.fr f1 rfl).fr f2 rfl) (by omega) hrp (fun j hj => by have := hpm j hj; omega) ((e44.fr f1 rfl).fr f2 rfl) hsum (by have := VF_le (v := v) (fo := fo) (s := s) (x := p) hV.2.2.2.2.2.2.1.2 hn.2 (by omega); omega) ?_ fun c3 bu3 br3 f3 l39 l44 hB3 => ?_
    · cases best with
      | none => exact hB
      | some b => exact ⟨hB.1, hB.2.1, hB.2.2.1, hB.2.2.2.1, hT2.1⟩
    · simp only [Option.toList_some, Option.toList_none, List.cons_append, List.nil_append, Option.toList, s_X9_agree_0, s_X9_agree_1, s_X9_agree_2, s_X9_agree_5, s_X9_agree_8, s_X9_agree_9, s_X9_agree_11, s_X9_agree_14, s_X9_agree_15, s_X9_agree_16, s_X9_agree_19, s_X9_agree_20, s_X9_agree_23, s_X9_agree_24, s_X9_agree_27, s_X9_agree_30, s_X9_agree_31, s_X9_agree_34, s_X9_agree_35, s_X9_agree_36, s_X9_agree_40, s_X9_agree_41, s_X9_agree_44, s_X9_agree_47, s_X9_agree_48, s_X9_agree_51, s_X9_agree_52, s_X9_agree_54, s_X9_agree_55, s_X9_agree_56, s_X9_agree_57, s_X9_agree_58, s_X9_agree_59, s_X9_agree_60, s_X9_agree_62, s_X9_agree_65, s_X9_agree_68, s_X9_agree_71]
      refine hk c3 ((f1.mono rfl).trans ((f2.mono rfl).trans (f3.mono rfl))) ?_
      have hA : mxL (VF w v m fo s n) best ((ris m 0 lo).map (p ++ ·)) = mxO (VF w v m fo s n) best p := by
        show mxO (VF w v m fo s n) best (p ++ []) = _
        rw [List.append_nil]
      rw [hA]
      exact ⟨rw, br3, bu3, l39, ⟨⟨_, _, _, (f3 40 rfl).trans hT2.1⟩, hT2.2.1.ty.fr f3 rfl, hT2.2.2.ty.fr f3 rfl⟩, ((e43.fr f1 rfl).fr f2 rfl).fr f3 rfl, hrp, l44, hB3⟩
  | succ r ih =>
    intro d place lo p best c R hx hp hlo hpm hT hS hk
    have hS0 := hS
    obtain ⟨rw, br, bu, e39, e40, e43, hrp, e44, hB⟩ := hS
    have h0 := hT.1
    rw [show d + 12 + (r + 1) = (d + 12 + r) + 1 by omega, en_X9_agree]
    simp only [s_X9_agree_0, s_X9_agree_1, s_X9_agree_2, s_X9_agree_5, s_X9_agree_8, s_X9_agree_9, s_X9_agree_11, s_X9_agree_14, s_X9_agree_15, s_X9_agree_16, s_X9_agree_19, s_X9_agree_20, s_X9_agree_23, s_X9_agree_24, s_X9_agree_27, s_X9_agree_30, s_X9_agree_31, s_X9_agree_34, s_X9_agree_35, s_X9_agree_36, s_X9_agree_40, s_X9_agree_41, s_X9_agree_44, s_X9_agree_47, s_X9_agree_48, s_X9_agree_51, s_X9_agree_52, s_X9_agree_54, s_X9_agree_55, s_X9_agree_56, s_X9_agree_57, s_X9_agree_58, s_X9_agree_59, s_X9_agree_60, s_X9_agree_62, s_X9_agree_65, s_X9_agree_68, s_X9_agree_71, gp5 e39, sI_le (show rkN s n < 100000 by omega) (show place < 100000 by omega), sI_lt (show place < 100000 by omega) (show 6 < 100000 by decide)]
    refine ⟨fun q => absurd q (by omega), fun _ => ⟨fun _ => ⟨rfl, ?_⟩, fun q => absurd (by omega) q⟩⟩
    have lp : ∀ rem a c1, a + rem = m + 1 - lo → frm [39, 40, 41, 42, 43, 44] c c1 → PST c1 s (rkN s n) v m (fcN fo s n 0) (VF w v m fo s n) p (mxL (VF w v m fo s n) best (((List.range a).flatMap (fun a => (ris m r (lo + a)).map ((lo + a) :: ·))).map (p ++ ·))) → rU (rRo LL xs) (d + 12 + r) tb_X9_agree R 38 [.ref 39, .ref 1, .int (nI place), .int (nI lo), .int (nI (lo + a))] [] (tab c1) := by
      intro rem
      induction rem with
      | zero =>
        intro a c1 ha f1 hS1
        have : a = m + 1 - lo := by omega
        subst this
        rw [s_X9_agree_38]
        simp only [s_X9_agree_0, s_X9_agree_1, s_X9_agree_2, s_X9_agree_5, s_X9_agree_8, s_X9_agree_9, s_X9_agree_11, s_X9_agree_14, s_X9_agree_15, s_X9_agree_16, s_X9_agree_19, s_X9_agree_20, s_X9_agree_23, s_X9_agree_24, s_X9_agree_27, s_X9_agree_30, s_X9_agree_31, s_X9_agree_34, s_X9_agree_35, s_X9_agree_36, s_X9_agree_40, s_X9_agree_41, s_X9_agree_44, s_X9_agree_47, s_X9_agree_48, s_X9_agree_51, s_X9_agree_52, s_X9_agree_54, s_X9_agree_55, s_X9_agree_56, s_X9_agree_57, s_X9_agree_58, s_X9_agree_59, s_X9_agree_60, s_X9_agree_62, s_X9_agree_65, s_X9_agree_68, s_X9_agree_71, gt1 ((f1 1 rfl).trans h0) (show 1 < 70 by decide)]
        exact ⟨fun _ => hk c1 f1 hS1, fun hc => absurd ((sI_lt (by omega) (by omega)).mpr (by omega)) hc⟩
      | succ rem ihr =>
        intro a c1 ha f1 hS1
        obtain ⟨rw, br, bu, e39, e40, e43, hrp, e44, hB⟩ := hS1
        rw [s_X9_agree_38]
        simp only [s_X9_agree_0, s_X9_agree_1, s_X9_agree_2, s_X9_agree_5, s_X9_agree_8, s_X9_agree_9, s_X9_agree_11, s_X9_agree_14, s_X9_agree_15, s_X9_agree_16, s_X9_agree_19, s_X9_agree_20, s_X9_agree_23, s_X9_agree_24, s_X9_agree_27, s_X9_agree_30, s_X9_agree_31, s_X9_agree_34, s_X9_agree_35, s_X9_agree_36, s_X9_agree_40, s_X9_agree_41, s_X9_agree_44, s_X9_agree_47, s_X9_agree_48, s_X9_agree_51, s_X9_agree_52, s_X9_agree_54, s_X9_agree_55, s_X9_agree_56, s_X9_agree_57, s_X9_agree_58, s_X9_agree_59, s_X9_agree_60, s_X9_agree_62, s_X9_agree_65, s_X9_agree_68, s_X9_agree_71, gt1 ((f1 1 rfl).trans h0) (show 1 < 70 by decide), gp1 e39, sI_lt (show m < 100000 by omega) (show lo + a < 100000 by omega)]
        refine ⟨fun q => absurd q (by omega), fun _ => si_i e43 (by decide) (by omega) (by decide) fun c2 f2 hi2 => ?_⟩
        simp only [s_X9_agree_0, s_X9_agree_1, s_X9_agree_2, s_X9_agree_5, s_X9_agree_8, s_X9_agree_9, s_X9_agree_11, s_X9_agree_14, s_X9_agree_15, s_X9_agree_16, s_X9_agree_19, s_X9_agree_20, s_X9_agree_23, s_X9_agree_24, s_X9_agree_27, s_X9_agree_30, s_X9_agree_31, s_X9_agree_34, s_X9_agree_35, s_X9_agree_36, s_X9_agree_40, s_X9_agree_41, s_X9_agree_44, s_X9_agree_47, s_X9_agree_48, s_X9_agree_51, s_X9_agree_52, s_X9_agree_54, s_X9_agree_55, s_X9_agree_56, s_X9_agree_57, s_X9_agree_58, s_X9_agree_59, s_X9_agree_60, s_X9_agree_62, s_X9_agree_65, s_X9_agree_68, s_X9_agree_71, nI_add]
        have hgd : ∀ j, j < (p ++ [lo + a]).length → (p ++ [lo + a]).getD j 0 = if j = p.length then lo + a else p.getD j 0 := by
          intro j hj
          rw [List.getD_eq_getElem?_getD]
          by_cases e : j = p.length
          · rw [if_pos e, e, List.getElem?_append_right (Nat.le_refl _), Nat.sub_self]; rfl
          · rw [List.length_append] at hj
            have : j < p.length := by simp at hj; omega
            rw [if_neg e, List.getElem?_append_left this, List.getD_eq_getElem?_getD]
        obtain ⟨BA, hBA⟩ : ∃ BA : Option (List Nat), BA = mxL (VF w v m fo s n) best (((List.range a).flatMap (fun a => (ris m r (lo + a)).map ((lo + a) :: ·))).map (p ++ ·)) := ⟨_, rfl⟩
        rw [← hBA] at hB
        refine ih d (place + 1) (lo + a) (p ++ [lo + a]) BA c2 _ (by omega) (by rw [List.length_append, hp]; rfl) (by omega) (fun j hj => ?_) (hT.fr (f1.trans (f2.mono rfl)) rfl) ⟨_, br, bu, (f2 39 rfl).trans e39, e40.fr f2 rfl, hi2, fun j hj => ?_, e44.fr f2 rfl, ?_⟩ fun c3 f3 hS3 => ?_
        · rw [hgd j hj]
          by_cases e : j = p.length
          · rw [if_pos e]; omega
          · rw [if_neg e]; rw [List.length_append] at hj; exact hpm j (by simp at hj; omega)
        · rw [hgd j hj]
          unfold upd
          by_cases e : j = p.length
          · rw [if_pos (by omega), if_pos e]
          · rw [if_neg (by omega), if_neg e]; rw [List.length_append] at hj; exact hrp j (by simp at hj; omega)
        · clear hBA
          cases BA with
          | none => exact hB
          | some b => exact ⟨hB.1, hB.2.1, hB.2.2.1, hB.2.2.2.1, (f2 40 rfl).trans hB.2.2.2.2⟩
        · simp only [Option.toList_some, Option.toList_none, List.cons_append, List.nil_append, Option.toList, s_X9_agree_0, s_X9_agree_1, s_X9_agree_2, s_X9_agree_5, s_X9_agree_8, s_X9_agree_9, s_X9_agree_11, s_X9_agree_14, s_X9_agree_15, s_X9_agree_16, s_X9_agree_19, s_X9_agree_20, s_X9_agree_23, s_X9_agree_24, s_X9_agree_27, s_X9_agree_30, s_X9_agree_31, s_X9_agree_34, s_X9_agree_35, s_X9_agree_36, s_X9_agree_40, s_X9_agree_41, s_X9_agree_44, s_X9_agree_47, s_X9_agree_48, s_X9_agree_51, s_X9_agree_52, s_X9_agree_54, s_X9_agree_55, s_X9_agree_56, s_X9_agree_57, s_X9_agree_58, s_X9_agree_59, s_X9_agree_60, s_X9_agree_62, s_X9_agree_65, s_X9_agree_68, s_X9_agree_71, nI_add]
          refine ⟨rfl, ihr (a + 1) c3 (by omega) (f1.trans ((f2.mono rfl).trans f3)) ?_⟩
          have hL : ((List.range (a + 1)).flatMap (fun a => (ris m r (lo + a)).map ((lo + a) :: ·))).map (p ++ ·) = ((List.range a).flatMap (fun a => (ris m r (lo + a)).map ((lo + a) :: ·))).map (p ++ ·) ++ (ris m r (lo + a)).map ((p ++ [lo + a]) ++ ·) := by
            rw [List.range_succ, List.flatMap_append, List.map_append]
            congr 1
            simp [List.flatMap_cons, List.map_map, Function.comp_def]
          unfold mxL at hS3 hBA ⊢
          rw [hL, List.foldl_append, ← hBA]
          obtain ⟨rw3, br3, bu3, a1, a2, a3, a4, a5, a6⟩ := hS3
          refine ⟨rw3, br3, bu3, a1, a2, a3, fun j hj => ?_, a5, a6⟩
          have hj2 : j < (p ++ [lo + a]).length := by rw [List.length_append]; omega
          rw [a4 j hj2, hgd j hj2, if_neg (by omega)]
    exact lp (m + 1 - lo) 0 c (by omega) frm.rf hS0
theorem sp_X5_find (hV : VS (n, m, v, w, fo, si, st)) (hs : s < 2 ^ n) (hC : CS c (n, m, v, w, fo, si, st) sg pd im)
    (hk : ∀ c' bu br z, frm [39, 40, 41, 42, 43, 44] c c' → CS c' (n, m, v, w, fo, si, st) sg pd im → c' 39 = pob bu (nI s) z → isI c' 44 6 br → BSP c' (rkN s n) v m (fcN fo s n 0) (VF w v m fo s n) (mxL (VF w v m fo s n) none (ris m (rkN s n) 1)) bu br → R none (tab c')) : rM (rRo LL xs) (d + 19) 26 0 0 [.ref 39, .ref 1, .int (nI s)] (tab c) R := by
  have hn := hV.1
  have hs64 : s < 64 := by have := pow_le n (by omega); omega
  obtain ⟨⟨bu, s0, z0, h39⟩, hg, h43, h44⟩ := hC.2.2.2.2.2.2.2.2.1
  have h39 : c 39 = pob bu s0 z0 := h39
  have hrk := rkN_le s n
  rw [en_X5_find]
  simp only [s_X5_find_0, s_X5_find_1, s_X5_find_2, s_X5_find_5, s_X5_find_6, s_X5_find_7, s_X5_find_10, s_X5_find_13, s_X5_find_14, s_X5_find_17, s_X5_find_20, s_X5_find_21, s_X5_find_22, s_X5_find_23, s_X5_find_24, s_X5_find_27, pp4 h39]
  obtain ⟨c1, hc1⟩ : ∃ c1, c1 = fup c 39 (pob bu (nI s) z0) := ⟨_, rfl⟩
  rw [← hc1]
  have f1 : frm [39] c c1 := by rw [hc1]; exact frm.rf.fup rfl
  have e39 : c1 39 = pob bu (nI s) z0 := by rw [hc1]; exact fup_self
  refine sp_bitCount hs64 ?_
  rw [rk_6 n (by omega) s hs]
  simp only [Option.toList_some, Option.toList_none, List.cons_append, List.nil_append, Option.toList, s_X5_find_0, s_X5_find_1, s_X5_find_2, s_X5_find_5, s_X5_find_6, s_X5_find_7, s_X5_find_10, s_X5_find_13, s_X5_find_14, s_X5_find_17, s_X5_find_20, s_X5_find_21, s_X5_find_22, s_X5_find_23, s_X5_find_24, s_X5_find_27, pp5 e39]
  obtain ⟨c2, hc2⟩ : ∃ c2, c2 = fup c1 39 (pob bu (nI s) (nI (rkN s n))) := ⟨_, rfl⟩
  rw [← hc2]
  have f2 : frm [39] c c2 := by rw [hc2]; exact f1.fup rfl
  have e39 : c2 39 = pob bu (nI s) (nI (rkN s n)) := by rw [hc2]; exact fup_self
  simp only [s_X5_find_0, s_X5_find_1, s_X5_find_2, s_X5_find_5, s_X5_find_6, s_X5_find_7, s_X5_find_10, s_X5_find_13, s_X5_find_14, s_X5_find_17, s_X5_find_20, s_X5_find_21, s_X5_find_22, s_X5_find_23, s_X5_find_24, s_X5_find_27, pp3 e39]
  obtain ⟨c3, hc3⟩ : ∃ c3, c3 = fup c2 39 (pob (- lN 1) (nI s) (nI (rkN s n))) := ⟨_, rfl⟩
  rw [← hc3]
  have f3 : frm [39] c c3 := by rw [hc3]; exact f2.fup rfl
  have e39 : c3 39 = pob (- lN 1) (nI s) (nI (rkN s n)) := by rw [hc3]; exact fup_self
  rw [show d + 18 = (d + 6 - rkN s n) + 12 + rkN s n by omega]
  obtain ⟨g43, h43⟩ := h43
  obtain ⟨g44, h44⟩ := h44
  refine sp_X9_agree hV hs64 (rkN s n) _ 0 1 [] none c3 _ (by omega) rfl ⟨by omega, by have := hV.2.1; omega⟩ (fun j hj => absurd hj (by simp)) (hC.2.1.fr f3 rfl) ⟨g43, g44, _, e39, hg.fr f3 rfl, ⟨g43, (f3 43 rfl).trans h43, fun _ _ => rfl⟩, fun j hj => absurd hj (by simp), ⟨g44, (f3 44 rfl).trans h44, fun _ _ => rfl⟩, rfl⟩ fun c4 f4 hS => ?_
  rw [show (d + 6 - rkN s n) + 12 + rkN s n = d + 18 by omega]
  simp only [Option.toList_some, Option.toList_none, List.cons_append, List.nil_append, Option.toList, s_X5_find_0, s_X5_find_1, s_X5_find_2, s_X5_find_5, s_X5_find_6, s_X5_find_7, s_X5_find_10, s_X5_find_13, s_X5_find_14, s_X5_find_17, s_X5_find_20, s_X5_find_21, s_X5_find_22, s_X5_find_23, s_X5_find_24, s_X5_find_27]
  obtain ⟨rw4, br4, bu4, a1, a2, a3, a4, a5, a6⟩ := hS
  have hid : (ris m (rkN s n) 1).map (([] : List Nat) ++ ·) = ris m (rkN s n) 1 := by simp
  rw [hid] at a6
  have F4 : frm [39, 40, 41, 42, 43, 44] c c4 := (f3.mono rfl).trans f4
  exact hk c4 bu4 br4 _ F4 (hC.pa F4 ⟨⟨_, _, _, a1⟩, a2, a3.ty, a5.ty⟩) a1 a5 a6
theorem sp_X9_isSet {T : TS} (hn : 2 ≤ T.1 ∧ T.1 ≤ 6) (hC : CS c T sg pd im) (hk : R (some (.int (b2 (inR 1 (2 ^ T.1 - 1) x)))) (tab c)) : rM ro (d + 1) 78 0 0 [.ref 0, .int x] (tab c) R := by
  obtain ⟨n, m, v, w, fo, si, st⟩ := T
  have hn : 2 ≤ n ∧ n ≤ 6 := hn
  have hp := pow_le n (by omega)
  have h0 := hC.1.1
  have htt := hC.2.1.1
  have hk : R (some (.int (b2 (inR 1 (2 ^ n - 1) x)))) (tab c) := hk
  rw [en_X9_isSet]
  simp only [s_X9_isSet_0, s_X9_isSet_1, s_X9_isSet_2, s_X9_isSet_5, s_X9_isSet_6, s_X9_isSet_7, s_X9_isSet_8, s_X9_isSet_11, s_X9_isSet_14, s_X9_isSet_15, s_X9_isSet_18, s_X9_isSet_19, s_X9_isSet_22, s_X9_isSet_23, gl0 h0, gt0 htt (show 1 < 70 by decide), shl_pow n (by omega)]
  refine ⟨fun h1 => ⟨Or.inl nI_0, ?_⟩, fun h1 => ⟨fun h2 => ⟨Or.inl nI_0, ?_⟩, fun h2 => ⟨Or.inr rfl, ?_⟩⟩⟩
  · rw [b2, if_neg (fun q => absurd q.1 (Int32.not_le.mpr h1))] at hk; exact hk
  · rw [b2, if_neg (fun q => ?_)] at hk
    · exact hk
    · obtain ⟨a, h3, h4, rfl⟩ := inR_nI q (by decide) (by omega)
      have := (sI_le (by omega) (by omega)).mp h2
      omega
  · have h4 : x ≤ nI (2 ^ n - 1) := by
      have h3 := Int32.not_le.mp h2
      rw [Int32.lt_iff_toInt_lt, nI_toInt (by omega)] at h3
      rw [Int32.le_iff_toInt_le, nI_toInt (by omega)]
      omega
    rw [b2, if_pos ⟨Int32.not_lt.mp h1, h4⟩] at hk
    exact hk
theorem ris_ne {m : Nat} : ∀ r lo, lo ≤ m → ris m r lo ≠ []
  | 0, _, _ => by simp [ris]
  | r + 1, lo, h => by
    rw [ris, show m + 1 - lo = (m - lo) + 1 by omega, List.range_succ_eq_map, List.flatMap_cons]
    intro e
    rw [List.append_eq_nil_iff, List.map_eq_nil_iff] at e
    exact ris_ne r (lo + 0) (by omega) e.1
theorem mxL_some {V : List Nat → Nat} : ∀ (ls : List (List Nat)) (b : List Nat), ∃ l, mxL V (some b) ls = some l
  | [], b => ⟨b, rfl⟩
  | l :: t, b => by
    show ∃ l', mxL V (mxO V (some b) l) t = some l'
    rw [mxO]
    split
    · exact mxL_some t l
    · exact mxL_some t b
theorem mxL_ne {V : List Nat → Nat} {ls : List (List Nat)} (h : ls ≠ []) : ∃ l, mxL V none ls = some l := by
  cases ls with
  | nil => exact absurd rfl h
  | cons a t => exact mxL_some t a
theorem rkN_lt {s i n : Nat} (h : hasB s i = true) (hi : i < n) : rkN s i < rkN s n := by
  have h1 := rkN_mono s (i := i + 1) (n - (i + 1))
  rw [show i + 1 + (n - (i + 1)) = n by omega, rkN, h, if_pos rfl] at h1
  omega
theorem cl_friends (hV : VS (n, m, v, w, fo, si, st)) (hC : CS c (n, m, v, w, fo, si, st) sg pd im) (hk : ∀ c', frm CM c c' → CS c' (n, m, v, w, fo, si, st) sg pd im → R (some (.int (frnA (n, m, v, w, fo, si, st) x y))) (tab c')) : rM (rRo LL xs) (d + 20) 59 0 0 [.ref 0, .int x, .int y] (tab c) R := by
  have h0 := hC.1.1
  have htt := hC.2.1.1
  have hn := hV.1
  have hm := hV.2.1
  have hp := pow_le n (by omega)
  obtain ⟨⟨bu, s0, z0, h39⟩, -⟩ := id hC.2.2.2.2.2.2.2.2.1
  have h39 : c 39 = pob bu s0 z0 := h39
  rw [en_X9_friends]
  simp only [s_X9_friends_0, s_X9_friends_1, s_X9_friends_4, s_X9_friends_5, s_X9_friends_8, s_X9_friends_11, s_X9_friends_12, s_X9_friends_13, s_X9_friends_14, s_X9_friends_15, s_X9_friends_18, s_X9_friends_21, s_X9_friends_23, s_X9_friends_24, s_X9_friends_25, s_X9_friends_26, s_X9_friends_27, s_X9_friends_28, s_X9_friends_29, s_X9_friends_32, s_X9_friends_33, s_X9_friends_34, s_X9_friends_35, s_X9_friends_38, s_X9_friends_39, s_X9_friends_42, s_X9_friends_43, s_X9_friends_46, s_X9_friends_47, s_X9_friends_50, s_X9_friends_51, s_X9_friends_54, gl0 h0, vt_o htt (show 1 < 70 by decide)]
  refine sp_X6_hasMan htt (by decide) (by omega) ?_
  simp only [Option.toList_some, Option.toList_none, List.cons_append, List.nil_append, Option.toList, s_X9_friends_0, s_X9_friends_1, s_X9_friends_4, s_X9_friends_5, s_X9_friends_8, s_X9_friends_11, s_X9_friends_12, s_X9_friends_13, s_X9_friends_14, s_X9_friends_15, s_X9_friends_18, s_X9_friends_21, s_X9_friends_23, s_X9_friends_24, s_X9_friends_25, s_X9_friends_26, s_X9_friends_27, s_X9_friends_28, s_X9_friends_29, s_X9_friends_32, s_X9_friends_33, s_X9_friends_34, s_X9_friends_35, s_X9_friends_38, s_X9_friends_39, s_X9_friends_42, s_X9_friends_43, s_X9_friends_46, s_X9_friends_47, s_X9_friends_50, s_X9_friends_51, s_X9_friends_54, b2_0, vl_o h0]
  refine ⟨fun hy => ?_, fun hy => sp_X9_isSet hn hC ?_⟩
  · have := hk c frm.rf hC
    rw [frnA, if_neg hy] at this
    exact this
  have hy := Decidable.not_not.mp hy
  simp only [Option.toList_some, Option.toList_none, List.cons_append, List.nil_append, Option.toList, s_X9_friends_0, s_X9_friends_1, s_X9_friends_4, s_X9_friends_5, s_X9_friends_8, s_X9_friends_11, s_X9_friends_12, s_X9_friends_13, s_X9_friends_14, s_X9_friends_15, s_X9_friends_18, s_X9_friends_21, s_X9_friends_23, s_X9_friends_24, s_X9_friends_25, s_X9_friends_26, s_X9_friends_27, s_X9_friends_28, s_X9_friends_29, s_X9_friends_32, s_X9_friends_33, s_X9_friends_34, s_X9_friends_35, s_X9_friends_38, s_X9_friends_39, s_X9_friends_42, s_X9_friends_43, s_X9_friends_46, s_X9_friends_47, s_X9_friends_50, s_X9_friends_51, s_X9_friends_54, b2_0, gl9 h0, gl0 h0, vpa h39]
  refine ⟨fun hx => ?_, fun hx => ?_⟩
  · have := hk c frm.rf hC
    rw [frnA, if_pos hy, if_neg hx] at this
    exact this
  have hx := Decidable.not_not.mp hx
  obtain ⟨a, ha1, ha2, rfl⟩ := inR_nI hx (by decide) (by show 2 ^ n - 1 < 100000; omega)
  obtain ⟨b, hb1, hb2, rfl⟩ := inR_nI hy (by decide) (by omega)
  have ha2 : a ≤ 2 ^ n - 1 := ha2
  rw [has_and a (by omega) b (by omega)]
  refine ⟨fun hh => ?_, fun hh => ?_⟩
  · have hh : ¬ hasB a b = true := fun q => by rw [q, if_pos rfl] at hh; exact absurd hh (by decide)
    have := hk c frm.rf hC
    rw [frnA, if_pos hy, if_pos hx, nI_c (by omega), nI_c (by omega), if_neg hh] at this
    exact this
  have hh : hasB a b = true := Decidable.not_not.mp fun q => hh (by rw [if_neg q]; exact nI_0)
  refine sp_X5_find hV (by omega) hC fun c1 bu1 br1 z1 f1 hC1 e39 e44 hB => ?_
  have hw := hk c1 (f1.mono rfl) hC1
  rw [frnA, if_pos hy, if_pos hx, nI_c (by omega), nI_c (by omega), if_pos hh] at hw
  simp only [Option.toList_some, Option.toList_none, List.cons_append, List.nil_append, Option.toList, s_X9_friends_0, s_X9_friends_1, s_X9_friends_4, s_X9_friends_5, s_X9_friends_8, s_X9_friends_11, s_X9_friends_12, s_X9_friends_13, s_X9_friends_14, s_X9_friends_15, s_X9_friends_18, s_X9_friends_21, s_X9_friends_23, s_X9_friends_24, s_X9_friends_25, s_X9_friends_26, s_X9_friends_27, s_X9_friends_28, s_X9_friends_29, s_X9_friends_32, s_X9_friends_33, s_X9_friends_34, s_X9_friends_35, s_X9_friends_38, s_X9_friends_39, s_X9_friends_42, s_X9_friends_43, s_X9_friends_46, s_X9_friends_47, s_X9_friends_50, s_X9_friends_51, s_X9_friends_54, gl9 hC1.1.1, vpa e39]
  rw [en_X5_numberOf]
  have hlb := low_bits a (by omega) b (by omega)
  have hlt := rkN_lt hh (show b < n by omega)
  have hrk := rkN_le a n
  have hmod : a % 2 ^ b < 64 := Nat.lt_of_le_of_lt (Nat.mod_le _ _) (by omega)
  simp only [s_X5_numberOf_0, s_X5_numberOf_1, s_X5_numberOf_4, s_X5_numberOf_5, s_X5_numberOf_6, s_X5_numberOf_7, s_X5_numberOf_8, s_X5_numberOf_9, s_X5_numberOf_10, s_X5_numberOf_13, s_X5_numberOf_14, s_X5_numberOf_15, s_X5_numberOf_17, s_X5_numberOf_20, s_X5_numberOf_21, s_X5_numberOf_24, s_X5_numberOf_25, s_X5_numberOf_26, s_X5_numberOf_29, s_X5_numberOf_30, gp4 e39, hlb.1]
  refine sp_bitCount hmod ?_
  rw [hlb.2]
  simp only [Option.toList_some, Option.toList_none, List.cons_append, List.nil_append, Option.toList, s_X5_numberOf_0, s_X5_numberOf_1, s_X5_numberOf_4, s_X5_numberOf_5, s_X5_numberOf_6, s_X5_numberOf_7, s_X5_numberOf_8, s_X5_numberOf_9, s_X5_numberOf_10, s_X5_numberOf_13, s_X5_numberOf_14, s_X5_numberOf_15, s_X5_numberOf_17, s_X5_numberOf_20, s_X5_numberOf_21, s_X5_numberOf_24, s_X5_numberOf_25, s_X5_numberOf_26, s_X5_numberOf_29, s_X5_numberOf_30, gp2 e39, sI_le (show 6 < 100000 by decide) (show rkN a b < 100000 by omega), ai_i e44 (show 44 < 70 by decide) (show rkN a b < 6 by omega) (by decide)]
  refine ⟨rfl, fun q => absurd q (by omega), fun _ => ?_⟩
  simp only [Option.toList_some, Option.toList_none, List.cons_append, List.nil_append, Option.toList, s_X9_friends_0, s_X9_friends_1, s_X9_friends_4, s_X9_friends_5, s_X9_friends_8, s_X9_friends_11, s_X9_friends_12, s_X9_friends_13, s_X9_friends_14, s_X9_friends_15, s_X9_friends_18, s_X9_friends_21, s_X9_friends_23, s_X9_friends_24, s_X9_friends_25, s_X9_friends_26, s_X9_friends_27, s_X9_friends_28, s_X9_friends_29, s_X9_friends_32, s_X9_friends_33, s_X9_friends_34, s_X9_friends_35, s_X9_friends_38, s_X9_friends_39, s_X9_friends_42, s_X9_friends_43, s_X9_friends_46, s_X9_friends_47, s_X9_friends_50, s_X9_friends_51, s_X9_friends_54]
  obtain ⟨l, hl⟩ := mxL_ne (V := VF w v m fo a n) (ris_ne (m := m) (rkN a n) 1 (by omega))
  rw [hl] at hB
  rw [hB.2.2.2.1 _ hlt]
  have hlg : lgL (n, m, v, w, fo, si, st) a = l := by
    show (mxL (VF w v m fo a n) none (ris m (rkN a n) 1)).getD [] = l
    rw [hl]; rfl
  rw [hlg] at hw
  exact hw
theorem cl_league (hV : VS (n, m, v, w, fo, si, st)) (hC : CS c (n, m, v, w, fo, si, st) sg pd im) (hk : ∀ c', frm CM c c' → CS c' (n, m, v, w, fo, si, st) sg pd im → R (some (.long (leaA (n, m, v, w, fo, si, st) x y))) (tab c')) : rM (rRo LL xs) (d + 20) 60 0 0 [.ref 0, .int x, .int y] (tab c) R := by
  have h0 := hC.1.1
  have htt := hC.2.1.1
  have hn := hV.1
  have hm := hV.2.1
  have hp := pow_le n (by omega)
  obtain ⟨⟨bu, s0, z0, h39⟩, -⟩ := id hC.2.2.2.2.2.2.2.2.1
  have h39 : c 39 = pob bu s0 z0 := h39
  have no : ¬ (inR 1 (2 ^ n - 1) x ∧ inR 0 1 y) → R (some (.long L2)) (tab c) := fun q => by
    have := hk c frm.rf hC
    rw [leaA, if_neg q] at this
    exact this
  rw [en_X9_league]
  simp only [s_X9_league_0, s_X9_league_1, s_X9_league_2, s_X9_league_5, s_X9_league_8, s_X9_league_9, s_X9_league_12, s_X9_league_15, s_X9_league_18, s_X9_league_19, s_X9_league_20, s_X9_league_23, s_X9_league_24, s_X9_league_27, s_X9_league_28, s_X9_league_31, s_X9_league_32, s_X9_league_35, s_X9_league_38, s_X9_league_39, s_X9_league_40, s_X9_league_43, s_X9_league_46, s_X9_league_49, s_X9_league_52, s_X9_league_53, s_X9_league_56, vl_o h0]
  refine sp_X9_isSet hn hC ?_
  simp only [Option.toList_some, Option.toList_none, List.cons_append, List.nil_append, Option.toList, s_X9_league_0, s_X9_league_1, s_X9_league_2, s_X9_league_5, s_X9_league_8, s_X9_league_9, s_X9_league_12, s_X9_league_15, s_X9_league_18, s_X9_league_19, s_X9_league_20, s_X9_league_23, s_X9_league_24, s_X9_league_27, s_X9_league_28, s_X9_league_31, s_X9_league_32, s_X9_league_35, s_X9_league_38, s_X9_league_39, s_X9_league_40, s_X9_league_43, s_X9_league_46, s_X9_league_49, s_X9_league_52, s_X9_league_53, s_X9_league_56, b2_0]
  refine ⟨fun hx => no (fun q => hx q.1), fun hx => sp_X9_isBit ?_⟩
  have hx := Decidable.not_not.mp hx
  simp only [Option.toList_some, Option.toList_none, List.cons_append, List.nil_append, Option.toList, s_X9_league_0, s_X9_league_1, s_X9_league_2, s_X9_league_5, s_X9_league_8, s_X9_league_9, s_X9_league_12, s_X9_league_15, s_X9_league_18, s_X9_league_19, s_X9_league_20, s_X9_league_23, s_X9_league_24, s_X9_league_27, s_X9_league_28, s_X9_league_31, s_X9_league_32, s_X9_league_35, s_X9_league_38, s_X9_league_39, s_X9_league_40, s_X9_league_43, s_X9_league_46, s_X9_league_49, s_X9_league_52, s_X9_league_53, s_X9_league_56, b2_0, gl9 h0, gl0 h0, vpa h39]
  refine ⟨fun hy => no (fun q => hy q.2), fun hy => ?_⟩
  have hy := Decidable.not_not.mp hy
  obtain ⟨a, ha1, ha2, rfl⟩ := inR_nI hx (by decide) (by show 2 ^ n - 1 < 100000; omega)
  have ha2 : a ≤ 2 ^ n - 1 := ha2
  refine sp_X5_find hV (by omega) hC fun c1 bu1 br1 z1 f1 hC1 e39 e44 hB => ?_
  have hw := hk c1 (f1.mono rfl) hC1
  rw [leaA, if_pos ⟨hx, hy⟩, nI_c (by omega)] at hw
  obtain ⟨l, hl⟩ := mxL_ne (V := VF w v m fo a n) (ris_ne (m := m) (rkN a n) 1 (by omega))
  rw [hl] at hB
  obtain ⟨hB1, hB2, -, -, hB5⟩ := hB
  have hlg : lgL (n, m, v, w, fo, si, st) a = l := by
    show (mxL (VF w v m fo a n) none (ris m (rkN a n) 1)).getD [] = l
    rw [hl]; rfl
  rw [hlg] at hw
  have hfk := fcN_le fo a n 0
  simp only [Option.toList_some, Option.toList_none, List.cons_append, List.nil_append, Option.toList, s_X9_league_0, s_X9_league_1, s_X9_league_2, s_X9_league_5, s_X9_league_8, s_X9_league_9, s_X9_league_12, s_X9_league_15, s_X9_league_18, s_X9_league_19, s_X9_league_20, s_X9_league_23, s_X9_league_24, s_X9_league_27, s_X9_league_28, s_X9_league_31, s_X9_league_32, s_X9_league_35, s_X9_league_38, s_X9_league_39, s_X9_league_40, s_X9_league_43, s_X9_league_46, s_X9_league_49, s_X9_league_52, s_X9_league_53, s_X9_league_56, gl9 hC1.1.1, gp3 e39, gp0 e39, gg4 (cs := [7]) hB5 (show 40 < 70 by decide) rfl, gg4 (cs := [4, 7]) hB5 (show 40 < 70 by decide) rfl, vl_o hC1.1.1, hB1]
  refine sp_X9_lower hV hC1 (by omega) ?_
  simp only [Option.toList_some, Option.toList_none, List.cons_append, List.nil_append, Option.toList, s_X9_league_0, s_X9_league_1, s_X9_league_2, s_X9_league_5, s_X9_league_8, s_X9_league_9, s_X9_league_12, s_X9_league_15, s_X9_league_18, s_X9_league_19, s_X9_league_20, s_X9_league_23, s_X9_league_24, s_X9_league_27, s_X9_league_28, s_X9_league_31, s_X9_league_32, s_X9_league_35, s_X9_league_38, s_X9_league_39, s_X9_league_40, s_X9_league_43, s_X9_league_46, s_X9_league_49, s_X9_league_52, s_X9_league_53, s_X9_league_56]
  refine sp_X9_lowest hB2 (low_lt hV.2.2.2.2.2.2.1.2 (by omega) (tm_le v).2) (low_pos hV.2.2.2.2.2.2.1.1 (tm_le v).1) ?_
  simp only [Option.toList_some, Option.toList_none, List.cons_append, List.nil_append, Option.toList, s_X9_league_0, s_X9_league_1, s_X9_league_2, s_X9_league_5, s_X9_league_8, s_X9_league_9, s_X9_league_12, s_X9_league_15, s_X9_league_18, s_X9_league_19, s_X9_league_20, s_X9_league_23, s_X9_league_24, s_X9_league_27, s_X9_league_28, s_X9_league_31, s_X9_league_32, s_X9_league_35, s_X9_league_38, s_X9_league_39, s_X9_league_40, s_X9_league_43, s_X9_league_46, s_X9_league_49, s_X9_league_52, s_X9_league_53, s_X9_league_56]
  exact hw
end CP
