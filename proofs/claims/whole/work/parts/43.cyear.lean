/-! ===== the class: years, images ===== -/
def ltF (w : Nat → Nat) : Nat → Nat → Nat → Nat
  | 0, x, _ => x
  | r + 1, x, l => if l < w x then x else ltF w r (x + 1) (l - w x)
theorem ltF_le (w : Nat → Nat) : ∀ r x l, x ≤ ltF w r x l ∧ ltF w r x l ≤ x + r
  | 0, x, l => ⟨Nat.le_refl _, Nat.le_refl _⟩
  | r + 1, x, l => by
    rw [ltF]
    have := ltF_le w r (x + 1) (l - w x)
    split <;> omega
def drX (x : Nat) : Nat := (75 * x + 74) % 65537
def drN (x : Nat) : Nat → Nat
  | 0 => x
  | i + 1 => drX (drN x i)
theorem drX_lt (x : Nat) : drX x < 65537 := Nat.mod_lt _ (by decide)
theorem drN_lt {x : Nat} (h : x < 65537) : ∀ i, drN x i < 65537
  | 0 => h
  | i + 1 => drX_lt _
def slY (T : TS) (x i : Nat) : Nat := if T.2.2.2.2.1 i = 0 then ltF T.2.2.2.1 (T.2.1 - 1) 1 (drN x (i + 1) % wT T) else T.2.2.2.2.1 i
def yqF (T : TS) (x : Nat) : Nat := winF T.2.2.1 T.2.1 (slB (slY T x) T.1 0 zrB)
abbrev yhF (T : TS) (z : Int32) (x : Nat) : Prop := (z = - nI 1 ∧ yqF T x = 0) ∨ (¬ z = - nI 1 ∧ ¬ yqF T x = 0 ∧ slY T x z.toNatClampNeg = yqF T x)
def yrF (T : TS) (z : Int32) : Nat → Nat → Nat → Nat
  | 0, _, a => a
  | e + 1, x, a => yrF T z e (drN x T.1) (a + if yhF T z x then 1 else 0)
def yeaA (T : TS) (x y z : Int32) : Int32 := if z = - nI 1 ∨ inR 0 (T.1 - 1) z then (if inR 0 9999 x ∧ inR 1 99 y then nI (yrF T z y.toNatClampNeg x.toNatClampNeg 0) else - nI 2) else - nI 1
section CE
variable {ro : rQ} {LL : Nat} {xs : Nat → Int32} {d : Nat} {R : rR} {c : Nat → rE} {h : rH} {n m v si sg k t q l : Nat} {w fo s : Nat → Nat} {st pd b : Nat → Int32} {im : Nat → Option TS} {x y z : Int32}
theorem sp_X2_numberOfLot (hT : TBL c 1 (n, m, v, w, fo, si, st)) (hm : 2 ≤ m ∧ m ≤ 6) (hw : ∀ j, w j ≤ 9) (hl : l < 100000) (hk : R (some (.int (nI (ltF w (m - 1) 1 l)))) (tab c)) : rM ro (d + 1) 11 0 0 [.ref 1, .int (nI l)] (tab c) R := by
  have h0 := hT.1
  rw [en_X2_numberOfLot]
  simp only [s_X2_numberOfLot_0, s_X2_numberOfLot_1, s_X2_numberOfLot_2, s_X2_numberOfLot_3, s_X2_numberOfLot_5, s_X2_numberOfLot_6, s_X2_numberOfLot_9, s_X2_numberOfLot_12, s_X2_numberOfLot_13, s_X2_numberOfLot_14, s_X2_numberOfLot_17, s_X2_numberOfLot_18, s_X2_numberOfLot_19, s_X2_numberOfLot_22, s_X2_numberOfLot_23, s_X2_numberOfLot_24, s_X2_numberOfLot_25, s_X2_numberOfLot_26, s_X2_numberOfLot_29, s_X2_numberOfLot_30, s_X2_numberOfLot_31, s_X2_numberOfLot_32, s_X2_numberOfLot_33, s_X2_numberOfLot_36, s_X2_numberOfLot_39, s_X2_numberOfLot_40, s_X2_numberOfLot_43]
  refine ⟨rfl, rfl, ?_⟩
  have lp : ∀ rem x a, x + rem = m → 1 ≤ x → a < 100000 → ltF w rem x a = ltF w (m - 1) 1 l → rU ro d tb_X2_numberOfLot R 4 [.ref 1, .int (nI l), .int (nI a), .int (nI x)] [] (tab c) := by
    intro rem
    induction rem with
    | zero =>
      intro x a hx h1 ha hq
      have : x = m := by omega
      subst this
      rw [ltF] at hq
      rw [s_X2_numberOfLot_4]
      simp only [s_X2_numberOfLot_0, s_X2_numberOfLot_1, s_X2_numberOfLot_2, s_X2_numberOfLot_3, s_X2_numberOfLot_5, s_X2_numberOfLot_6, s_X2_numberOfLot_9, s_X2_numberOfLot_12, s_X2_numberOfLot_13, s_X2_numberOfLot_14, s_X2_numberOfLot_17, s_X2_numberOfLot_18, s_X2_numberOfLot_19, s_X2_numberOfLot_22, s_X2_numberOfLot_23, s_X2_numberOfLot_24, s_X2_numberOfLot_25, s_X2_numberOfLot_26, s_X2_numberOfLot_29, s_X2_numberOfLot_30, s_X2_numberOfLot_31, s_X2_numberOfLot_32, s_X2_numberOfLot_33, s_X2_numberOfLot_36, s_X2_numberOfLot_39, s_X2_numberOfLot_40, s_X2_numberOfLot_43, gt1 h0 (show 1 < 70 by decide)]
      exact ⟨fun _ => by rw [hq]; exact hk, fun hc => absurd ((sI_le (by omega) (by omega)).mpr (Nat.le_refl _)) hc⟩
    | succ rem ih =>
      intro x a hx h1 ha hq
      rw [ltF] at hq
      have hwx := hw x
      rw [s_X2_numberOfLot_4]
      simp only [s_X2_numberOfLot_0, s_X2_numberOfLot_1, s_X2_numberOfLot_2, s_X2_numberOfLot_3, s_X2_numberOfLot_5, s_X2_numberOfLot_6, s_X2_numberOfLot_9, s_X2_numberOfLot_12, s_X2_numberOfLot_13, s_X2_numberOfLot_14, s_X2_numberOfLot_17, s_X2_numberOfLot_18, s_X2_numberOfLot_19, s_X2_numberOfLot_22, s_X2_numberOfLot_23, s_X2_numberOfLot_24, s_X2_numberOfLot_25, s_X2_numberOfLot_26, s_X2_numberOfLot_29, s_X2_numberOfLot_30, s_X2_numberOfLot_31, s_X2_numberOfLot_32, s_X2_numberOfLot_33, s_X2_numberOfLot_36, s_X2_numberOfLot_39, s_X2_numberOfLot_40, s_X2_numberOfLot_43, gt1 h0 (show 1 < 70 by decide), gt3 h0 (show 1 < 70 by decide), nI_add, sI_le (show m < 100000 by omega) (show x < 100000 by omega), ai_i hT.2.1 (show 1 + 1 < 70 by decide) (show x < 7 by omega) (by decide), sI_le (show w x < 100000 by omega) ha]
      refine ⟨fun hc => absurd hc (by omega), fun _ => ⟨fun hc => ⟨rfl, rfl, ?_⟩, fun hc => ?_⟩⟩
      · rw [if_neg (by omega)] at hq
        rw [sI_sub hc]
        exact ih (x + 1) _ (by omega) (by omega) (by omega) hq
      · rw [if_pos (by omega)] at hq
        rw [hq]
        exact hk
  exact lp (m - 1) 1 l (by omega) (by omega) hl rfl
theorem slY_le (hV : VS (n, m, v, w, fo, si, st)) {x i : Nat} : 1 ≤ slY (n, m, v, w, fo, si, st) x i ∧ slY (n, m, v, w, fo, si, st) x i ≤ m := by
  have hm := hV.2.1
  have hf := hV.2.2.2.2.2.2.2.1 i
  have := ltF_le w (m - 1) 1 (drN x (i + 1) % wT (n, m, v, w, fo, si, st))
  unfold slY
  show 1 ≤ (if fo i = 0 then ltF w (m - 1) 1 (drN x (i + 1) % wT (n, m, v, w, fo, si, st)) else fo i) ∧ (if fo i = 0 then ltF w (m - 1) 1 (drN x (i + 1) % wT (n, m, v, w, fo, si, st)) else fo i) ≤ m
  split <;> omega
theorem sp_X2_draw {x : Nat} (hV : VS (n, m, v, w, fo, si, st)) (hT : TBL c 1 (n, m, v, w, fo, si, st)) (h22 : c 22 = obj 2 [.ref 23, .ref 24]) (he : gEV c) (hx : x < 65537) (hk : ∀ c', frm [23, 24] c c' → EVS c' (slY (n, m, v, w, fo, si, st) x) n (slB (slY (n, m, v, w, fo, si, st) x) n 0 zrB) → R (some (.int (nI (drN x n)))) (tab c')) : rM ro (d + 2) 10 0 0 [.ref 22, .ref 1, .int (nI x)] (tab c) R := by
  have h0 := hT.1
  have hn := hV.1
  have hm := hV.2.1
  have hW := hV.2.2.2.2.2.2.1
  rw [en_X2_draw]
  simp only [s_X2_draw_0, s_X2_draw_1, s_X2_draw_4, s_X2_draw_5, s_X2_draw_6, s_X2_draw_8, s_X2_draw_9, s_X2_draw_12, s_X2_draw_13, s_X2_draw_17, s_X2_draw_18, s_X2_draw_21, s_X2_draw_24, s_X2_draw_26, s_X2_draw_28, s_X2_draw_29, s_X2_draw_31, s_X2_draw_32, s_X2_draw_34, s_X2_draw_35, s_X2_draw_37, s_X2_draw_38, s_X2_draw_41, s_X2_draw_43, s_X2_draw_44, s_X2_draw_45, s_X2_draw_48, s_X2_draw_49, s_X2_draw_51, s_X2_draw_52, s_X2_draw_54, s_X2_draw_55, s_X2_draw_58, s_X2_draw_60, s_X2_draw_61, s_X2_draw_64, s_X2_draw_65, s_X2_draw_68, s_X2_draw_70, s_X2_draw_71, s_X2_draw_74, s_X2_draw_75, s_X2_draw_77, s_X2_draw_80, s_X2_draw_83, s_X2_draw_86, s_X2_draw_89, s_X2_draw_91, vt_o h0 (show 1 < 70 by decide)]
  refine sp_X6_allWeights hT (by decide) hm.2 ?_
  simp only [Option.toList_some, Option.toList_none, List.cons_append, List.nil_append, Option.toList, s_X2_draw_0, s_X2_draw_1, s_X2_draw_4, s_X2_draw_5, s_X2_draw_6, s_X2_draw_8, s_X2_draw_9, s_X2_draw_12, s_X2_draw_13, s_X2_draw_17, s_X2_draw_18, s_X2_draw_21, s_X2_draw_24, s_X2_draw_26, s_X2_draw_28, s_X2_draw_29, s_X2_draw_31, s_X2_draw_32, s_X2_draw_34, s_X2_draw_35, s_X2_draw_37, s_X2_draw_38, s_X2_draw_41, s_X2_draw_43, s_X2_draw_44, s_X2_draw_45, s_X2_draw_48, s_X2_draw_49, s_X2_draw_51, s_X2_draw_52, s_X2_draw_54, s_X2_draw_55, s_X2_draw_58, s_X2_draw_60, s_X2_draw_61, s_X2_draw_64, s_X2_draw_65, s_X2_draw_68, s_X2_draw_70, s_X2_draw_71, s_X2_draw_74, s_X2_draw_75, s_X2_draw_77, s_X2_draw_80, s_X2_draw_83, s_X2_draw_86, s_X2_draw_89, s_X2_draw_91, ve_o h22]
  refine ⟨rfl, rfl, sp_X2_clear h22 he (s := slY (n, m, v, w, fo, si, st) x) fun c1 hf1 he1 => ?_⟩
  simp only [Option.toList_some, Option.toList_none, List.cons_append, List.nil_append, Option.toList, s_X2_draw_0, s_X2_draw_1, s_X2_draw_4, s_X2_draw_5, s_X2_draw_6, s_X2_draw_8, s_X2_draw_9, s_X2_draw_12, s_X2_draw_13, s_X2_draw_17, s_X2_draw_18, s_X2_draw_21, s_X2_draw_24, s_X2_draw_26, s_X2_draw_28, s_X2_draw_29, s_X2_draw_31, s_X2_draw_32, s_X2_draw_34, s_X2_draw_35, s_X2_draw_37, s_X2_draw_38, s_X2_draw_41, s_X2_draw_43, s_X2_draw_44, s_X2_draw_45, s_X2_draw_48, s_X2_draw_49, s_X2_draw_51, s_X2_draw_52, s_X2_draw_54, s_X2_draw_55, s_X2_draw_58, s_X2_draw_60, s_X2_draw_61, s_X2_draw_64, s_X2_draw_65, s_X2_draw_68, s_X2_draw_70, s_X2_draw_71, s_X2_draw_74, s_X2_draw_75, s_X2_draw_77, s_X2_draw_80, s_X2_draw_83, s_X2_draw_86, s_X2_draw_89, s_X2_draw_91]
  refine ⟨rfl, ?_⟩
  have lp : ∀ rem i c2 b (l6 : Value), i + rem = n → frm [23, 24] c c2 → EVS c2 (slY (n, m, v, w, fo, si, st) x) i b → slB (slY (n, m, v, w, fo, si, st) x) rem i b = slB (slY (n, m, v, w, fo, si, st) x) n 0 zrB → rU ro (d + 1) tb_X2_draw R 15 [.ref 22, .ref 1, .int (nI x), .int (nI (smF w m 1)), .int (nI (drN x i)), .int (nI i), l6] [] (tab c2) := by
    intro rem
    induction rem with
    | zero =>
      intro i c2 b l6 hi hf2 he2 hb
      have : i = n := by omega
      subst this
      rw [slB] at hb
      subst hb
      have htt := (hf2 1 rfl).trans h0
      rw [s_X2_draw_15]
      simp only [s_X2_draw_0, s_X2_draw_1, s_X2_draw_4, s_X2_draw_5, s_X2_draw_6, s_X2_draw_8, s_X2_draw_9, s_X2_draw_12, s_X2_draw_13, s_X2_draw_17, s_X2_draw_18, s_X2_draw_21, s_X2_draw_24, s_X2_draw_26, s_X2_draw_28, s_X2_draw_29, s_X2_draw_31, s_X2_draw_32, s_X2_draw_34, s_X2_draw_35, s_X2_draw_37, s_X2_draw_38, s_X2_draw_41, s_X2_draw_43, s_X2_draw_44, s_X2_draw_45, s_X2_draw_48, s_X2_draw_49, s_X2_draw_51, s_X2_draw_52, s_X2_draw_54, s_X2_draw_55, s_X2_draw_58, s_X2_draw_60, s_X2_draw_61, s_X2_draw_64, s_X2_draw_65, s_X2_draw_68, s_X2_draw_70, s_X2_draw_71, s_X2_draw_74, s_X2_draw_75, s_X2_draw_77, s_X2_draw_80, s_X2_draw_83, s_X2_draw_86, s_X2_draw_89, s_X2_draw_91, gt0 htt (show 1 < 70 by decide)]
      exact ⟨fun _ => hk c2 hf2 he2, fun hc => absurd ((sI_le (by omega) (by omega)).mpr (Nat.le_refl _)) hc⟩
    | succ rem ih =>
      intro i c2 b l6 hi hf2 he2 hb
      rw [slB] at hb
      have htt := (hf2 1 rfl).trans h0
      have hT2 := hT.fr hf2 rfl
      have e22 := (hf2 22 rfl).trans h22
      have hd := drN_lt hx i
      have hd2 := drN_lt hx (i + 1)
      have hlot := Nat.mod_lt (drN x (i + 1)) (show 0 < smF w m 1 by omega)
      have hsl := slY_le hV (x := x) (i := i)
      have hfi := hV.2.2.2.2.2.2.2.1 i
      have hdr : nI (75 * drN x i + 74) - nI (75 * drN x i + 74) / nI 65537 * nI 65537 = nI (drN x (i + 1)) := nI_rem (by omega) (by decide)
      have hlt : nI (drN x (i + 1)) - nI (drN x (i + 1)) / nI (smF w m 1) * nI (smF w m 1) = nI (drN x (i + 1) % smF w m 1) := nI_rem (by omega) (by omega)
      have wr : ∀ (l6 : Value), rU ro (d + 1) tb_X2_draw R 80 [.ref 22, .ref 1, .int (nI x), .int (nI (smF w m 1)), .int (nI (drN x (i + 1))), .int (nI i), l6] [.int (nI (slY (n, m, v, w, fo, si, st) x i)), .int (nI i), .ref 22] (tab c2) := by
        intro l6
        simp only [s_X2_draw_0, s_X2_draw_1, s_X2_draw_4, s_X2_draw_5, s_X2_draw_6, s_X2_draw_8, s_X2_draw_9, s_X2_draw_12, s_X2_draw_13, s_X2_draw_17, s_X2_draw_18, s_X2_draw_21, s_X2_draw_24, s_X2_draw_26, s_X2_draw_28, s_X2_draw_29, s_X2_draw_31, s_X2_draw_32, s_X2_draw_34, s_X2_draw_35, s_X2_draw_37, s_X2_draw_38, s_X2_draw_41, s_X2_draw_43, s_X2_draw_44, s_X2_draw_45, s_X2_draw_48, s_X2_draw_49, s_X2_draw_51, s_X2_draw_52, s_X2_draw_54, s_X2_draw_55, s_X2_draw_58, s_X2_draw_60, s_X2_draw_61, s_X2_draw_64, s_X2_draw_65, s_X2_draw_68, s_X2_draw_70, s_X2_draw_71, s_X2_draw_74, s_X2_draw_75, s_X2_draw_77, s_X2_draw_80, s_X2_draw_83, s_X2_draw_86, s_X2_draw_89, s_X2_draw_91, ve_o e22]
        refine sp_X2_write e22 he2 (by omega) (by omega) fun c3 hf3 he3 => ?_
        simp only [Option.toList_some, Option.toList_none, List.cons_append, List.nil_append, Option.toList, s_X2_draw_0, s_X2_draw_1, s_X2_draw_4, s_X2_draw_5, s_X2_draw_6, s_X2_draw_8, s_X2_draw_9, s_X2_draw_12, s_X2_draw_13, s_X2_draw_17, s_X2_draw_18, s_X2_draw_21, s_X2_draw_24, s_X2_draw_26, s_X2_draw_28, s_X2_draw_29, s_X2_draw_31, s_X2_draw_32, s_X2_draw_34, s_X2_draw_35, s_X2_draw_37, s_X2_draw_38, s_X2_draw_41, s_X2_draw_43, s_X2_draw_44, s_X2_draw_45, s_X2_draw_48, s_X2_draw_49, s_X2_draw_51, s_X2_draw_52, s_X2_draw_54, s_X2_draw_55, s_X2_draw_58, s_X2_draw_60, s_X2_draw_61, s_X2_draw_64, s_X2_draw_65, s_X2_draw_68, s_X2_draw_70, s_X2_draw_71, s_X2_draw_74, s_X2_draw_75, s_X2_draw_77, s_X2_draw_80, s_X2_draw_83, s_X2_draw_86, s_X2_draw_89, s_X2_draw_91, nI_add]
        exact ⟨rfl, ih (i + 1) c3 _ _ (by omega) (hf2.trans hf3) he3 hb⟩
      rw [s_X2_draw_15]
      simp only [s_X2_draw_0, s_X2_draw_1, s_X2_draw_4, s_X2_draw_5, s_X2_draw_6, s_X2_draw_8, s_X2_draw_9, s_X2_draw_12, s_X2_draw_13, s_X2_draw_17, s_X2_draw_18, s_X2_draw_21, s_X2_draw_24, s_X2_draw_26, s_X2_draw_28, s_X2_draw_29, s_X2_draw_31, s_X2_draw_32, s_X2_draw_34, s_X2_draw_35, s_X2_draw_37, s_X2_draw_38, s_X2_draw_41, s_X2_draw_43, s_X2_draw_44, s_X2_draw_45, s_X2_draw_48, s_X2_draw_49, s_X2_draw_51, s_X2_draw_52, s_X2_draw_54, s_X2_draw_55, s_X2_draw_58, s_X2_draw_60, s_X2_draw_61, s_X2_draw_64, s_X2_draw_65, s_X2_draw_68, s_X2_draw_70, s_X2_draw_71, s_X2_draw_74, s_X2_draw_75, s_X2_draw_77, s_X2_draw_83, s_X2_draw_86, s_X2_draw_89, s_X2_draw_91, gt0 htt (show 1 < 70 by decide), gt4 htt (show 1 < 70 by decide), sI_le (show n < 100000 by omega) (show i < 100000 by omega), nI_mul, nI_add, hdr, hlt, ai_i hT2.2.2.1 (show 1 + 2 < 70 by decide) (show i < 6 by omega) (by decide)]
      refine ⟨fun hc => absurd hc (by omega), fun _ => ⟨by decide, rfl, fun hc => absurd hc (nI_nle (by omega) (by omega)), fun _ => ⟨fun q => ?_, rfl, fun hf0 => ?_, fun hf0 => ?_⟩⟩⟩
      · have := (sI_eq (by omega) (by decide)).mp (q.trans nI_0.symm)
        omega
      · have hf0 := (sI_eq (by omega) (by decide)).mp (hf0.trans nI_0.symm)
        refine sp_X2_numberOfLot hT2 hm hV.2.2.2.2.2.1 (by omega) ?_
        simp only [Option.toList_some, Option.toList_none, List.cons_append, List.nil_append, Option.toList, s_X2_draw_0, s_X2_draw_1, s_X2_draw_4, s_X2_draw_5, s_X2_draw_6, s_X2_draw_8, s_X2_draw_9, s_X2_draw_12, s_X2_draw_13, s_X2_draw_17, s_X2_draw_18, s_X2_draw_21, s_X2_draw_24, s_X2_draw_26, s_X2_draw_28, s_X2_draw_29, s_X2_draw_31, s_X2_draw_32, s_X2_draw_34, s_X2_draw_35, s_X2_draw_37, s_X2_draw_38, s_X2_draw_41, s_X2_draw_43, s_X2_draw_44, s_X2_draw_45, s_X2_draw_48, s_X2_draw_49, s_X2_draw_51, s_X2_draw_52, s_X2_draw_54, s_X2_draw_55, s_X2_draw_58, s_X2_draw_60, s_X2_draw_61, s_X2_draw_64, s_X2_draw_65, s_X2_draw_68, s_X2_draw_70, s_X2_draw_71, s_X2_draw_74, s_X2_draw_75, s_X2_draw_77, s_X2_draw_83, s_X2_draw_86, s_X2_draw_89, s_X2_draw_91]
        have := wr (.int (nI (drN x (i + 1) % smF w m 1)))
        rw [slY, if_pos hf0] at this
        exact this
      · have := wr (.int (nI (drN x (i + 1) % smF w m 1)))
        rw [slY, if_neg (show ¬ fo i = 0 from fun e => hf0 (by rw [e]; exact nI_0))] at this
        exact this
  exact lp n 0 c1 zrB _ (by omega) hf1 he1 rfl
theorem cl_year (hV : VS (n, m, v, w, fo, si, st)) (hC : CS c (n, m, v, w, fo, si, st) sg pd im) (hk : ∀ c', frm CM c c' → CS c' (n, m, v, w, fo, si, st) sg pd im → R (some (.int (yeaA (n, m, v, w, fo, si, st) x y z))) (tab c')) : rM (rRo LL xs) (d + 3) 70 0 0 [.ref 0, .int x, .int y, .int z] (tab c) R := by
  have h0 := hC.1.1
  have htt := hC.2.1.1
  have hn := hV.1
  have hm := hV.2.1
  have yes : (z = - nI 1 ∨ inR 0 (n - 1) z) → rU (rRo LL xs) (d + 2) tb_X9_year R 18 [.ref 0, .int x, .int y, .int z, .null, .null, .null, .null] [] (tab c) := by
    intro hz
    have hw := fun c1 hf1 hC1 => hk c1 hf1 hC1
    rw [yeaA, if_pos hz] at hw
    have no : ¬ (inR 0 9999 x ∧ inR 1 99 y) → R (some (.int (- nI 2))) (tab c) := fun q => by
      have := hw c frm.rf hC
      rw [if_neg q] at this
      exact this
    simp only [s_X9_year_0, s_X9_year_1, s_X9_year_2, s_X9_year_5, s_X9_year_6, s_X9_year_9, s_X9_year_10, s_X9_year_13, s_X9_year_16, s_X9_year_17, s_X9_year_18, s_X9_year_19, s_X9_year_22, s_X9_year_23, s_X9_year_26, s_X9_year_29, s_X9_year_30, s_X9_year_31, s_X9_year_34, s_X9_year_35, s_X9_year_37, s_X9_year_40, s_X9_year_42, s_X9_year_43, s_X9_year_44, s_X9_year_46, s_X9_year_47, s_X9_year_49, s_X9_year_50, s_X9_year_54, s_X9_year_55, s_X9_year_58, s_X9_year_59, s_X9_year_62, s_X9_year_63, s_X9_year_66, s_X9_year_68, s_X9_year_71, s_X9_year_73, s_X9_year_74, s_X9_year_77, s_X9_year_80, s_X9_year_81, s_X9_year_84, s_X9_year_87, s_X9_year_88, s_X9_year_91, s_X9_year_94, s_X9_year_97, s_X9_year_99, s_X9_year_100, s_X9_year_101, s_X9_year_104, s_X9_year_106, s_X9_year_109, s_X9_year_112, s_X9_year_114, s_X9_year_117, s_X9_year_118, s_X9_year_121, s_X9_year_124, s_X9_year_125, s_X9_year_126, s_X9_year_128, s_X9_year_131, s_X9_year_134, s_X9_year_137, s_X9_year_140, s_X9_year_142]
    refine ⟨fun hx1 => no (fun q => absurd q.1.1 (by rw [nI_0]; exact Int32.not_le.mpr hx1)), fun hx1 => ⟨fun hx2 => no (fun q => absurd q.1.2 (Int32.not_le.mpr hx2)), fun hx2 => ⟨fun hy1 => no (fun q => absurd q.2.1 (Int32.not_le.mpr hy1)), fun hy1 => ⟨fun hy2 => ?_, fun hy2 => no (fun q => hy2 q.2.2)⟩⟩⟩⟩
    have hx : inR 0 9999 x := ⟨by rw [nI_0]; exact Int32.not_lt.mp hx1, Int32.not_lt.mp hx2⟩
    have hy : inR 1 99 y := ⟨Int32.not_lt.mp hy1, hy2⟩
    obtain ⟨a, ha1, ha2, rfl⟩ := inR_nI hx (by decide) (by decide)
    obtain ⟨b, hb1, hb2, rfl⟩ := inR_nI hy (by decide) (by decide)
    rw [if_pos ⟨hx, hy⟩, nI_c (show a < 100000 by omega), nI_c (show b < 100000 by omega)] at hw
    refine ⟨rfl, rfl, rfl, ?_⟩
    have lp : ∀ rem i xx acc c1 (l7 : Value), i + rem = b → xx < 65537 → acc ≤ i → frm [23, 24] c c1 → CS c1 (n, m, v, w, fo, si, st) sg pd im → yrF (n, m, v, w, fo, si, st) z rem xx acc = yrF (n, m, v, w, fo, si, st) z b a 0 → rU (rRo LL xs) (d + 2) tb_X9_year R 52 [.ref 0, .int (nI a), .int (nI b), .int z, .int (nI xx), .int (nI acc), .int (nI i), l7] [] (tab c1) := by
      intro rem
      induction rem with
      | zero =>
        intro i xx acc c1 l7 hi hxx hac hf1 hC1 hq
        have : i = b := by omega
        subst this
        rw [yrF] at hq
        have := hw c1 (hf1.mono rfl) hC1
        rw [s_X9_year_52]
        simp only [s_X9_year_0, s_X9_year_1, s_X9_year_2, s_X9_year_5, s_X9_year_6, s_X9_year_9, s_X9_year_10, s_X9_year_13, s_X9_year_16, s_X9_year_17, s_X9_year_18, s_X9_year_19, s_X9_year_22, s_X9_year_23, s_X9_year_26, s_X9_year_29, s_X9_year_30, s_X9_year_31, s_X9_year_34, s_X9_year_35, s_X9_year_37, s_X9_year_40, s_X9_year_42, s_X9_year_43, s_X9_year_44, s_X9_year_46, s_X9_year_47, s_X9_year_49, s_X9_year_50, s_X9_year_54, s_X9_year_55, s_X9_year_58, s_X9_year_59, s_X9_year_62, s_X9_year_63, s_X9_year_66, s_X9_year_68, s_X9_year_71, s_X9_year_73, s_X9_year_74, s_X9_year_77, s_X9_year_80, s_X9_year_81, s_X9_year_84, s_X9_year_87, s_X9_year_88, s_X9_year_91, s_X9_year_94, s_X9_year_97, s_X9_year_99, s_X9_year_100, s_X9_year_101, s_X9_year_104, s_X9_year_106, s_X9_year_109, s_X9_year_112, s_X9_year_114, s_X9_year_117, s_X9_year_118, s_X9_year_121, s_X9_year_124, s_X9_year_125, s_X9_year_126, s_X9_year_128, s_X9_year_131, s_X9_year_134, s_X9_year_137, s_X9_year_140, s_X9_year_142]
        refine ⟨fun _ => ?_, fun hc => absurd ((sI_le (by omega) (by omega)).mpr (Nat.le_refl _)) hc⟩
        rw [hq]
        exact this
      | succ rem ih =>
        intro i xx acc c1 l7 hi hxx hac hf1 hC1 hq
        rw [yrF] at hq
        have h01 := hC1.1.1
        have h221 := hC1.1.2.2
        rw [s_X9_year_52]
        simp only [s_X9_year_0, s_X9_year_1, s_X9_year_2, s_X9_year_5, s_X9_year_6, s_X9_year_9, s_X9_year_10, s_X9_year_13, s_X9_year_16, s_X9_year_17, s_X9_year_18, s_X9_year_19, s_X9_year_22, s_X9_year_23, s_X9_year_26, s_X9_year_29, s_X9_year_30, s_X9_year_31, s_X9_year_34, s_X9_year_35, s_X9_year_37, s_X9_year_40, s_X9_year_42, s_X9_year_43, s_X9_year_44, s_X9_year_46, s_X9_year_47, s_X9_year_49, s_X9_year_50, s_X9_year_54, s_X9_year_55, s_X9_year_58, s_X9_year_59, s_X9_year_62, s_X9_year_63, s_X9_year_66, s_X9_year_68, s_X9_year_71, s_X9_year_73, s_X9_year_74, s_X9_year_77, s_X9_year_80, s_X9_year_81, s_X9_year_84, s_X9_year_87, s_X9_year_88, s_X9_year_91, s_X9_year_94, s_X9_year_97, s_X9_year_99, s_X9_year_100, s_X9_year_101, s_X9_year_104, s_X9_year_106, s_X9_year_109, s_X9_year_112, s_X9_year_114, s_X9_year_117, s_X9_year_118, s_X9_year_121, s_X9_year_124, s_X9_year_125, s_X9_year_126, s_X9_year_128, s_X9_year_131, s_X9_year_134, s_X9_year_137, s_X9_year_140, s_X9_year_142, gl0 h01, gl5 h01, ve_o h221, sI_le (show b < 100000 by omega) (show i < 100000 by omega)]
        refine ⟨fun hc => absurd hc (by omega), fun _ => sp_X2_draw hV hC1.2.1 h221 hC1.2.2.2.2.1 hxx fun c2 hf2 he2 => ?_⟩
        have hC2 := hC1.ev hf2 he2.ev
        have h02 := hC2.1.1
        have h222 := hC2.1.2.2
        have htt2 := hC2.2.1.1
        simp only [Option.toList_some, Option.toList_none, List.cons_append, List.nil_append, Option.toList, s_X9_year_0, s_X9_year_1, s_X9_year_2, s_X9_year_5, s_X9_year_6, s_X9_year_9, s_X9_year_10, s_X9_year_13, s_X9_year_16, s_X9_year_17, s_X9_year_18, s_X9_year_19, s_X9_year_22, s_X9_year_23, s_X9_year_26, s_X9_year_29, s_X9_year_30, s_X9_year_31, s_X9_year_34, s_X9_year_35, s_X9_year_37, s_X9_year_40, s_X9_year_42, s_X9_year_43, s_X9_year_44, s_X9_year_46, s_X9_year_47, s_X9_year_49, s_X9_year_50, s_X9_year_54, s_X9_year_55, s_X9_year_58, s_X9_year_59, s_X9_year_62, s_X9_year_63, s_X9_year_66, s_X9_year_68, s_X9_year_71, s_X9_year_73, s_X9_year_74, s_X9_year_77, s_X9_year_80, s_X9_year_81, s_X9_year_84, s_X9_year_87, s_X9_year_88, s_X9_year_91, s_X9_year_94, s_X9_year_97, s_X9_year_99, s_X9_year_100, s_X9_year_101, s_X9_year_104, s_X9_year_106, s_X9_year_109, s_X9_year_112, s_X9_year_114, s_X9_year_117, s_X9_year_118, s_X9_year_121, s_X9_year_124, s_X9_year_125, s_X9_year_126, s_X9_year_128, s_X9_year_131, s_X9_year_134, s_X9_year_137, s_X9_year_140, s_X9_year_142, gl0 h02, gl5 h02, gt1 htt2 (show 1 < 70 by decide), gt2 htt2 (show 1 < 70 by decide), ge1 h222]
        refine ⟨rfl, sp_X9_winner' he2.2 (by decide) hm.2 hV.2.2.1 ?_⟩
        have hwl := winF_le (v := v) (m := m) (f := slB (slY (n, m, v, w, fo, si, st) xx) n 0 zrB)
        have hyq : yqF (n, m, v, w, fo, si, st) xx = winF v m (slB (slY (n, m, v, w, fo, si, st) xx) n 0 zrB) := rfl
        have hq0 : nI (yqF (n, m, v, w, fo, si, st) xx) = 0 ↔ yqF (n, m, v, w, fo, si, st) xx = 0 := by rw [← nI_0]; exact sI_eq (by omega) (by decide)
        have go : ∀ (e : Nat) (l7 : Value), e ≤ 1 → e = (if yhF (n, m, v, w, fo, si, st) z xx then 1 else 0) → rU (rRo LL xs) (d + 2) tb_X9_year R 134 [.ref 0, .int (nI a), .int (nI b), .int z, .int (nI (drN xx n)), .int (nI (acc + e)), .int (nI i), l7] [] (tab c2) := by
          intro e l7 he1 hee
          rw [← hee] at hq
          simp only [s_X9_year_0, s_X9_year_1, s_X9_year_2, s_X9_year_5, s_X9_year_6, s_X9_year_9, s_X9_year_10, s_X9_year_13, s_X9_year_16, s_X9_year_17, s_X9_year_18, s_X9_year_19, s_X9_year_22, s_X9_year_23, s_X9_year_26, s_X9_year_29, s_X9_year_30, s_X9_year_31, s_X9_year_34, s_X9_year_35, s_X9_year_37, s_X9_year_40, s_X9_year_42, s_X9_year_43, s_X9_year_44, s_X9_year_46, s_X9_year_47, s_X9_year_49, s_X9_year_50, s_X9_year_54, s_X9_year_55, s_X9_year_58, s_X9_year_59, s_X9_year_62, s_X9_year_63, s_X9_year_66, s_X9_year_68, s_X9_year_71, s_X9_year_73, s_X9_year_74, s_X9_year_77, s_X9_year_80, s_X9_year_81, s_X9_year_84, s_X9_year_87, s_X9_year_88, s_X9_year_91, s_X9_year_94, s_X9_year_97, s_X9_year_99, s_X9_year_100, s_X9_year_101, s_X9_year_104, s_X9_year_106, s_X9_year_109, s_X9_year_112, s_X9_year_114, s_X9_year_117, s_X9_year_118, s_X9_year_121, s_X9_year_124, s_X9_year_125, s_X9_year_126, s_X9_year_128, s_X9_year_131, s_X9_year_134, s_X9_year_137, s_X9_year_140, s_X9_year_142, nI_add]
          exact ⟨rfl, ih (i + 1) _ _ c2 l7 (by omega) (drN_lt hxx n) (by omega) (hf1.trans hf2) hC2 hq⟩
        simp only [Option.toList_some, Option.toList_none, List.cons_append, List.nil_append, Option.toList, s_X9_year_0, s_X9_year_1, s_X9_year_2, s_X9_year_5, s_X9_year_6, s_X9_year_9, s_X9_year_10, s_X9_year_13, s_X9_year_16, s_X9_year_17, s_X9_year_18, s_X9_year_19, s_X9_year_22, s_X9_year_23, s_X9_year_26, s_X9_year_29, s_X9_year_30, s_X9_year_31, s_X9_year_34, s_X9_year_35, s_X9_year_37, s_X9_year_40, s_X9_year_42, s_X9_year_43, s_X9_year_44, s_X9_year_46, s_X9_year_47, s_X9_year_49, s_X9_year_50, s_X9_year_54, s_X9_year_55, s_X9_year_58, s_X9_year_59, s_X9_year_62, s_X9_year_63, s_X9_year_66, s_X9_year_68, s_X9_year_71, s_X9_year_73, s_X9_year_74, s_X9_year_77, s_X9_year_80, s_X9_year_81, s_X9_year_84, s_X9_year_87, s_X9_year_88, s_X9_year_91, s_X9_year_94, s_X9_year_97, s_X9_year_99, s_X9_year_100, s_X9_year_101, s_X9_year_104, s_X9_year_106, s_X9_year_109, s_X9_year_112, s_X9_year_114, s_X9_year_117, s_X9_year_118, s_X9_year_121, s_X9_year_124, s_X9_year_125, s_X9_year_126, s_X9_year_128, s_X9_year_131, s_X9_year_137, s_X9_year_140, s_X9_year_142, ← hyq, gl5 h02, ge0 h222, nI_add, hq0]
        refine ⟨rfl, fun hz1 => ⟨fun hq1 => ⟨rfl, ?_⟩, fun hq1 => ?_⟩, fun hz1 => ⟨fun hq1 => ?_, fun hq1 => ?_⟩⟩
        · exact go 1 _ (by omega) (by rw [if_pos (Or.inl ⟨hz1, hq1⟩)])
        · exact go 0 _ (by omega) (by rw [if_neg (fun q => q.elim (fun r => hq1 r.2) (fun r => r.1 hz1))])
        · exact go 0 _ (by omega) (by rw [if_neg (fun q => q.elim (fun r => hz1 r.1) (fun r => r.2.1 hq1))])
        · obtain ⟨a2, hz2, hz3, rfl⟩ := inR_nI (hz.resolve_left hz1) (by decide) (by omega)
          have hsl := slY_le hV (x := xx) (i := a2)
          simp only [ai_i he2.1 (show 23 < 70 by decide) (show a2 < 6 by omega) (by decide), if_pos (show a2 < n by omega), s_X9_year_0, s_X9_year_1, s_X9_year_2, s_X9_year_5, s_X9_year_6, s_X9_year_9, s_X9_year_10, s_X9_year_13, s_X9_year_16, s_X9_year_17, s_X9_year_18, s_X9_year_19, s_X9_year_22, s_X9_year_23, s_X9_year_26, s_X9_year_29, s_X9_year_30, s_X9_year_31, s_X9_year_34, s_X9_year_35, s_X9_year_37, s_X9_year_40, s_X9_year_42, s_X9_year_43, s_X9_year_44, s_X9_year_46, s_X9_year_47, s_X9_year_49, s_X9_year_50, s_X9_year_54, s_X9_year_55, s_X9_year_58, s_X9_year_59, s_X9_year_62, s_X9_year_63, s_X9_year_66, s_X9_year_68, s_X9_year_71, s_X9_year_73, s_X9_year_74, s_X9_year_77, s_X9_year_80, s_X9_year_81, s_X9_year_84, s_X9_year_87, s_X9_year_88, s_X9_year_91, s_X9_year_94, s_X9_year_97, s_X9_year_99, s_X9_year_100, s_X9_year_101, s_X9_year_104, s_X9_year_106, s_X9_year_109, s_X9_year_112, s_X9_year_114, s_X9_year_117, s_X9_year_118, s_X9_year_121, s_X9_year_124, s_X9_year_125, s_X9_year_126, s_X9_year_128, s_X9_year_131, s_X9_year_137, s_X9_year_140, s_X9_year_142, nI_add]
          rw [sI_eq (by omega) (by omega)]
          refine ⟨fun h9 => ⟨rfl, ?_⟩, fun h9 => ?_⟩
          · exact go 1 _ (by omega) (by rw [if_pos (Or.inr ⟨hz1, hq1, by rw [nI_c (by omega)]; exact h9⟩)])
          · exact go 0 _ (by omega) (by rw [if_neg (fun q => q.elim (fun r => hz1 r.1) (fun r => h9 (by have := r.2.2; rw [nI_c (by omega)] at this; exact this)))])
    exact lp b 0 a 0 c _ (by omega) (by omega) (Nat.le_refl _) frm.rf hC rfl
  rw [en_X9_year]
  simp only [s_X9_year_0, s_X9_year_1, s_X9_year_2, s_X9_year_5, s_X9_year_6, s_X9_year_9, s_X9_year_10, s_X9_year_13, s_X9_year_16, s_X9_year_17, s_X9_year_19, s_X9_year_22, s_X9_year_23, s_X9_year_26, s_X9_year_29, s_X9_year_30, s_X9_year_31, s_X9_year_34, s_X9_year_35, s_X9_year_37, s_X9_year_40, s_X9_year_42, s_X9_year_43, s_X9_year_44, s_X9_year_46, s_X9_year_47, s_X9_year_49, s_X9_year_50, s_X9_year_52, s_X9_year_54, s_X9_year_55, s_X9_year_58, s_X9_year_59, s_X9_year_62, s_X9_year_63, s_X9_year_66, s_X9_year_68, s_X9_year_71, s_X9_year_73, s_X9_year_74, s_X9_year_77, s_X9_year_80, s_X9_year_81, s_X9_year_84, s_X9_year_87, s_X9_year_88, s_X9_year_91, s_X9_year_94, s_X9_year_97, s_X9_year_99, s_X9_year_100, s_X9_year_101, s_X9_year_104, s_X9_year_106, s_X9_year_109, s_X9_year_112, s_X9_year_114, s_X9_year_117, s_X9_year_118, s_X9_year_121, s_X9_year_124, s_X9_year_125, s_X9_year_126, s_X9_year_128, s_X9_year_131, s_X9_year_134, s_X9_year_137, s_X9_year_140, s_X9_year_142, gl0 h0, vt_o htt (show 1 < 70 by decide)]
  refine ⟨fun hz => yes (Or.inl hz), fun hz => sp_X6_hasMan htt (by decide) (by omega) ?_⟩
  simp only [Option.toList_some, Option.toList_none, List.cons_append, List.nil_append, Option.toList, s_X9_year_0, s_X9_year_1, s_X9_year_2, s_X9_year_5, s_X9_year_6, s_X9_year_9, s_X9_year_10, s_X9_year_13, s_X9_year_16, s_X9_year_17, s_X9_year_19, s_X9_year_22, s_X9_year_23, s_X9_year_26, s_X9_year_29, s_X9_year_30, s_X9_year_31, s_X9_year_34, s_X9_year_35, s_X9_year_37, s_X9_year_40, s_X9_year_42, s_X9_year_43, s_X9_year_44, s_X9_year_46, s_X9_year_47, s_X9_year_49, s_X9_year_50, s_X9_year_52, s_X9_year_54, s_X9_year_55, s_X9_year_58, s_X9_year_59, s_X9_year_62, s_X9_year_63, s_X9_year_66, s_X9_year_68, s_X9_year_71, s_X9_year_73, s_X9_year_74, s_X9_year_77, s_X9_year_80, s_X9_year_81, s_X9_year_84, s_X9_year_87, s_X9_year_88, s_X9_year_91, s_X9_year_94, s_X9_year_97, s_X9_year_99, s_X9_year_100, s_X9_year_101, s_X9_year_104, s_X9_year_106, s_X9_year_109, s_X9_year_112, s_X9_year_114, s_X9_year_117, s_X9_year_118, s_X9_year_121, s_X9_year_124, s_X9_year_125, s_X9_year_126, s_X9_year_128, s_X9_year_131, s_X9_year_134, s_X9_year_137, s_X9_year_140, s_X9_year_142, b2_0]
  refine ⟨fun hz2 => ?_, fun hz2 => yes (Or.inr (Decidable.not_not.mp hz2))⟩
  have := hk c frm.rf hC
  rw [yeaA, if_neg (fun q => q.elim hz hz2)] at this
  exact this
end CE
