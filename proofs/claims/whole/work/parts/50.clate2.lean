/-! ===== the class: men who come late, played ===== -/
def ARS (c : Nat → rE) (n m v : Nat) (fo f : Nat → Nat) : Prop := c 45 = obj 0 [.ref 46, .ref 47] ∧ isI c 46 7 (fbF f) ∧ ∃ e, isB c 47 924 e ∧ MEMO n m v fo e
def ENS (LL : Nat) (xs : Nat → Int32) (n m v : Nat) (w fo : Nat → Nat) (si : Nat) (st : Nat → Int32) (r d : Nat) : Prop := ∀ (i : Nat) (f : Nat → Nat) (c : Nat → rE) (R : rR), i + r = n → smF f m 1 = i → (∀ j, f j ≤ 6) → TBL c 1 (n, m, v, w, fo, si, st) → ARS c n m v fo f →
  (∀ c', frm [46, 47] c c' → ARS c' n m v fo f → R (some (.int (nI (enF v m fo r i f)))) (tab c')) → rM (rRo LL xs) d 97 0 0 [.ref 45, .ref 1, .int (nI i)] (tab c) R
theorem toInt8_nI : ∀ k, k < 8 → (nI k).toInt8.toInt32 = nI k := by decide +kernel
theorem fbF_bmp {f : Nat → Nat} {y : Nat} : upd (fbF f) y (fbF f y + nI 1) = fbF (bmp f y) := by
  unfold fbF bmp
  rw [nI_add, updN_nI]
section CL
variable {ro : rQ} {LL : Nat} {xs : Nat → Int32} {d : Nat} {R : rR} {c : Nat → rE} {h : rH} {n m v si sg k t q l s z : Nat} {w fo o f : Nat → Nat} {st pd e : Nat → Int32} {im : Nat → Option TS} {x y : Int32}
theorem sp_endWith {r i y : Nat} (hE : ENS LL xs n m v w fo si st r d) (hV : VS (n, m, v, w, fo, si, st)) (hi : i + 1 + r = n) (hs : smF f m 1 = i) (hf6 : ∀ j, f j ≤ 6) (hT : TBL c 1 (n, m, v, w, fo, si, st)) (hA : ARS c n m v fo f) (hy : 1 ≤ y ∧ y ≤ m)
    (hk : ∀ c', frm [46, 47] c c' → ARS c' n m v fo f → R (some (.int (nI (enF v m fo r (i + 1) (bmp f y))))) (tab c')) : rM (rRo LL xs) (d + 1) 96 0 0 [.ref 45, .ref 1, .int (nI i), .int (nI y)] (tab c) R := by
  obtain ⟨h45, h46, e, h47, hM⟩ := hA
  have hm := hV.2.1
  have hfy := smF_le (f := f) m 1 y (by omega) (by omega)
  rw [en_X9_endWith]
  simp only [s_X9_endWith_0, s_X9_endWith_1, s_X9_endWith_2, s_X9_endWith_5, s_X9_endWith_6, s_X9_endWith_8, s_X9_endWith_11, s_X9_endWith_12, s_X9_endWith_13, s_X9_endWith_14, s_X9_endWith_17, s_X9_endWith_18, s_X9_endWith_19, s_X9_endWith_20, s_X9_endWith_21, s_X9_endWith_22, s_X9_endWith_23, s_X9_endWith_24, s_X9_endWith_25, s_X9_endWith_26, s_X9_endWith_27, s_X9_endWith_28, s_X9_endWith_31, s_X9_endWith_33, s_X9_endWith_34, s_X9_endWith_37, s_X9_endWith_38, s_X9_endWith_39, s_X9_endWith_40, s_X9_endWith_41, s_X9_endWith_42, s_X9_endWith_43, s_X9_endWith_45, ga0 h45, sI_lt (show y < 100000 by omega) (show 1 < 100000 by decide), sI_lt (show y < 100000 by omega) (show 7 < 100000 by decide), ai_i h46 (show 46 < 70 by decide) (show y < 7 by omega) (by decide)]
  refine ⟨fun q => absurd q (by omega), fun _ => ⟨fun _ => si_i h46 (by decide) (by omega) (by decide) fun c1 f1 hi1 => ?_, fun q => absurd (by omega) q⟩⟩
  rw [fbF_bmp] at hi1
  have e45 := (f1 45 rfl).trans h45
  simp only [s_X9_endWith_0, s_X9_endWith_1, s_X9_endWith_2, s_X9_endWith_5, s_X9_endWith_6, s_X9_endWith_8, s_X9_endWith_11, s_X9_endWith_12, s_X9_endWith_13, s_X9_endWith_14, s_X9_endWith_17, s_X9_endWith_18, s_X9_endWith_19, s_X9_endWith_20, s_X9_endWith_21, s_X9_endWith_22, s_X9_endWith_23, s_X9_endWith_24, s_X9_endWith_25, s_X9_endWith_26, s_X9_endWith_27, s_X9_endWith_28, s_X9_endWith_31, s_X9_endWith_33, s_X9_endWith_34, s_X9_endWith_37, s_X9_endWith_38, s_X9_endWith_39, s_X9_endWith_40, s_X9_endWith_41, s_X9_endWith_42, s_X9_endWith_43, s_X9_endWith_45, nI_add]
  refine hE (i + 1) (bmp f y) c1 _ (by omega) (by rw [smF_bmp m 1 (by omega) (by omega), hs]) (fun j => ?_) (hT.fr f1 rfl) ⟨e45, hi1, e, h47.fr f1 rfl, hM⟩ fun c2 f2 hA2 => ?_
  · unfold bmp updN
    split
    · have := hV.1; omega
    · exact hf6 j
  obtain ⟨g45, g46, e2, g47, hM2⟩ := hA2
  simp only [Option.toList_some, Option.toList_none, List.cons_append, List.nil_append, Option.toList, s_X9_endWith_0, s_X9_endWith_1, s_X9_endWith_2, s_X9_endWith_5, s_X9_endWith_6, s_X9_endWith_8, s_X9_endWith_11, s_X9_endWith_12, s_X9_endWith_13, s_X9_endWith_14, s_X9_endWith_17, s_X9_endWith_18, s_X9_endWith_19, s_X9_endWith_20, s_X9_endWith_21, s_X9_endWith_22, s_X9_endWith_23, s_X9_endWith_24, s_X9_endWith_25, s_X9_endWith_26, s_X9_endWith_27, s_X9_endWith_28, s_X9_endWith_31, s_X9_endWith_33, s_X9_endWith_34, s_X9_endWith_37, s_X9_endWith_38, s_X9_endWith_39, s_X9_endWith_40, s_X9_endWith_41, s_X9_endWith_42, s_X9_endWith_43, s_X9_endWith_45, ga0 g45, ai_i g46 (show 46 < 70 by decide) (show y < 7 by omega) (by decide)]
  refine ⟨rfl, si_i g46 (by decide) (by omega) (by decide) fun c3 f3 hi3 => ?_⟩
  refine hk c3 ((f1.mono rfl).trans (f2.trans (f3.mono rfl))) ⟨(f3 45 rfl).trans g45, hi3.cg (fun j _ => ?_), e2, g47.fr f3 rfl, hM2⟩
  unfold upd fbF bmp updN
  by_cases ej : j = y
  · subst ej
    rw [if_pos rfl, if_pos rfl, sI_sub (by omega)]
    rfl
  · rw [if_neg ej]
    show nI (if j = y then f y + 1 else f j) = _
    rw [if_neg ej]
theorem sp_choice {r i : Nat} (hE : ENS LL xs n m v w fo si st r d) (hV : VS (n, m, v, w, fo, si, st)) (hi : i + 1 + r = n) (hs : smF f m 1 = i) (hf6 : ∀ j, f j ≤ 6) (hT : TBL c 1 (n, m, v, w, fo, si, st)) (hA : ARS c n m v fo f)
    (hk : ∀ c', frm [46, 47] c c' → ARS c' n m v fo f → R (some (.int (nI (coF fo m i (fun y => enF v m fo r (i + 1) (bmp f y)))))) (tab c')) : rM (rRo LL xs) (d + 2) 95 0 0 [.ref 45, .ref 1, .int (nI i)] (tab c) R := by
  have hm := hV.2.1
  have hn := hV.1
  have h0 := hT.1
  have hfi := hV.2.2.2.2.2.2.2.1 i
  rw [en_X9_choice]
  simp only [s_X9_choice_0, s_X9_choice_1, s_X9_choice_4, s_X9_choice_5, s_X9_choice_7, s_X9_choice_10, s_X9_choice_11, s_X9_choice_12, s_X9_choice_13, s_X9_choice_16, s_X9_choice_17, s_X9_choice_18, s_X9_choice_21, s_X9_choice_22, s_X9_choice_25, s_X9_choice_26, s_X9_choice_27, s_X9_choice_28, s_X9_choice_29, s_X9_choice_31, s_X9_choice_32, s_X9_choice_35, s_X9_choice_38, s_X9_choice_39, s_X9_choice_40, s_X9_choice_41, s_X9_choice_42, s_X9_choice_45, s_X9_choice_46, s_X9_choice_49, s_X9_choice_50, s_X9_choice_51, s_X9_choice_54, s_X9_choice_57, s_X9_choice_58, gt4 h0 (show 1 < 70 by decide), sI_lt0 (show i < 100000 by omega), sI_lt (show i < 100000 by omega) (show 6 < 100000 by decide), ai_i hT.2.2.1 (show 1 + 2 < 70 by decide) (show i < 6 by omega) (by decide)]
  refine ⟨False.elim, fun _ => ⟨fun _ => ⟨fun hz => ⟨rfl, ?_⟩, fun hz => ?_⟩, fun q => absurd (by omega) q⟩⟩
  · have hz : fo i = 0 := (sI_eq (by omega) (by decide)).mp (hz.trans nI_0.symm)
    rw [coF, if_pos hz] at hk
    have lp : ∀ rem y c1, y + rem = m + 1 → 1 ≤ y → frm [46, 47] c c1 → ARS c1 n m v fo f → pkF (fun y => enF v m fo r (i + 1) (bmp f y)) rem y = pkF (fun y => enF v m fo r (i + 1) (bmp f y)) m 1 → rU (rRo LL xs) (d + 1) tb_X9_choice R 30 [.ref 45, .ref 1, .int (nI i), .int (nI y)] [] (tab c1) := by
      intro rem
      induction rem with
      | zero =>
        intro y c1 hy h1 f1 hA1 hp
        have : y = m + 1 := by omega
        subst this
        rw [pkF] at hp
        rw [s_X9_choice_30]
        simp only [s_X9_choice_0, s_X9_choice_1, s_X9_choice_4, s_X9_choice_5, s_X9_choice_7, s_X9_choice_10, s_X9_choice_11, s_X9_choice_12, s_X9_choice_13, s_X9_choice_16, s_X9_choice_17, s_X9_choice_18, s_X9_choice_21, s_X9_choice_22, s_X9_choice_25, s_X9_choice_26, s_X9_choice_27, s_X9_choice_28, s_X9_choice_29, s_X9_choice_31, s_X9_choice_32, s_X9_choice_35, s_X9_choice_38, s_X9_choice_39, s_X9_choice_40, s_X9_choice_41, s_X9_choice_42, s_X9_choice_45, s_X9_choice_46, s_X9_choice_49, s_X9_choice_50, s_X9_choice_51, s_X9_choice_54, s_X9_choice_57, s_X9_choice_58, gt1 ((f1 1 rfl).trans h0) (show 1 < 70 by decide)]
        refine ⟨fun _ => ?_, fun hc => absurd ((sI_lt (by omega) (by omega)).mpr (Nat.lt_succ_self _)) hc⟩
        rw [hp]
        exact hk c1 f1 hA1
      | succ rem ih =>
        intro y c1 hy h1 f1 hA1 hp
        rw [pkF] at hp
        have hle := enF_le (v := v) (m := m) (fo := fo) r (i + 1) (bmp f y)
        rw [s_X9_choice_30]
        simp only [s_X9_choice_0, s_X9_choice_1, s_X9_choice_4, s_X9_choice_5, s_X9_choice_7, s_X9_choice_10, s_X9_choice_11, s_X9_choice_12, s_X9_choice_13, s_X9_choice_16, s_X9_choice_17, s_X9_choice_18, s_X9_choice_21, s_X9_choice_22, s_X9_choice_25, s_X9_choice_26, s_X9_choice_27, s_X9_choice_28, s_X9_choice_29, s_X9_choice_31, s_X9_choice_32, s_X9_choice_35, s_X9_choice_38, s_X9_choice_39, s_X9_choice_40, s_X9_choice_41, s_X9_choice_42, s_X9_choice_45, s_X9_choice_46, s_X9_choice_49, s_X9_choice_50, s_X9_choice_51, s_X9_choice_54, s_X9_choice_57, s_X9_choice_58, gt1 ((f1 1 rfl).trans h0) (show 1 < 70 by decide), sI_lt (show m < 100000 by omega) (show y < 100000 by omega)]
        refine ⟨fun hc => absurd hc (by omega), fun _ => sp_endWith hE hV hi hs hf6 (hT.fr f1 rfl) hA1 ⟨h1, by omega⟩ fun c2 f2 hA2 => ?_⟩
        simp only [Option.toList_some, Option.toList_none, List.cons_append, List.nil_append, Option.toList, s_X9_choice_0, s_X9_choice_1, s_X9_choice_4, s_X9_choice_5, s_X9_choice_7, s_X9_choice_10, s_X9_choice_11, s_X9_choice_12, s_X9_choice_13, s_X9_choice_16, s_X9_choice_17, s_X9_choice_18, s_X9_choice_21, s_X9_choice_22, s_X9_choice_25, s_X9_choice_26, s_X9_choice_27, s_X9_choice_28, s_X9_choice_29, s_X9_choice_31, s_X9_choice_32, s_X9_choice_35, s_X9_choice_38, s_X9_choice_39, s_X9_choice_40, s_X9_choice_41, s_X9_choice_42, s_X9_choice_45, s_X9_choice_46, s_X9_choice_49, s_X9_choice_50, s_X9_choice_51, s_X9_choice_54, s_X9_choice_57, s_X9_choice_58, nI_add, sI_eq (show enF v m fo r (i + 1) (bmp f y) < 100000 by omega) (show y < 100000 by omega)]
        refine ⟨fun he => ?_, fun he => ⟨rfl, ?_⟩⟩
        · rw [if_pos he] at hp
          rw [hp]
          exact hk c2 (f1.trans f2) hA2
        · rw [if_neg he] at hp
          exact ih (y + 1) c2 (by omega) (by omega) (f1.trans f2) hA2 hp
    exact lp m 1 c (by omega) (by omega) frm.rf hA rfl
  · have hz : ¬ fo i = 0 := fun q => hz (by rw [q]; exact nI_0)
    rw [coF, if_neg hz] at hk
    exact hk c frm.rf hA
theorem sp_end (hV : VS (n, m, v, w, fo, si, st)) : ∀ (r d : Nat), ENS LL xs n m v w fo si st r (d + 3 + 3 * r)
  | 0, d => by
    intro i f c R hi hs hf6 hT hA hk
    have h0 := hT.1
    have hn := hV.1
    rw [show d + 3 + 3 * 0 = d + 2 + 1 by omega, en_X9_end]
    simp only [s_X9_end_0, s_X9_end_1, s_X9_end_2, s_X9_end_5, s_X9_end_8, s_X9_end_9, s_X9_end_12, s_X9_end_13, s_X9_end_16, s_X9_end_17, s_X9_end_20, s_X9_end_23, s_X9_end_24, s_X9_end_25, s_X9_end_26, s_X9_end_29, s_X9_end_32, s_X9_end_33, s_X9_end_34, s_X9_end_37, s_X9_end_38, s_X9_end_41, s_X9_end_44, s_X9_end_45, s_X9_end_46, s_X9_end_47, s_X9_end_50, s_X9_end_51, s_X9_end_52, s_X9_end_55, s_X9_end_56, s_X9_end_57, s_X9_end_58, s_X9_end_59, s_X9_end_60, s_X9_end_61, s_X9_end_64, s_X9_end_67, s_X9_end_69, s_X9_end_70, s_X9_end_73, s_X9_end_74, s_X9_end_76, s_X9_end_77, s_X9_end_78, s_X9_end_79, s_X9_end_80, s_X9_end_81, s_X9_end_84, s_X9_end_85, s_X9_end_86, s_X9_end_87, s_X9_end_88, gt0 h0 (show 1 < 70 by decide), gt2 h0 (show 1 < 70 by decide), gt1 h0 (show 1 < 70 by decide), ga0 hA.1, sI_lt (show i < 100000 by omega) (show n < 100000 by omega)]
    refine ⟨fun q => absurd q (by omega), fun _ => sp_X9_winner' hA.2.1 (by decide) hV.2.1.2 hV.2.2.1 ?_⟩
    simp only [Option.toList_some, Option.toList_none, List.cons_append, List.nil_append, Option.toList, s_X9_end_0, s_X9_end_1, s_X9_end_2, s_X9_end_5, s_X9_end_8, s_X9_end_9, s_X9_end_12, s_X9_end_13, s_X9_end_16, s_X9_end_17, s_X9_end_20, s_X9_end_23, s_X9_end_24, s_X9_end_25, s_X9_end_26, s_X9_end_29, s_X9_end_32, s_X9_end_33, s_X9_end_34, s_X9_end_37, s_X9_end_38, s_X9_end_41, s_X9_end_44, s_X9_end_45, s_X9_end_46, s_X9_end_47, s_X9_end_50, s_X9_end_51, s_X9_end_52, s_X9_end_55, s_X9_end_56, s_X9_end_57, s_X9_end_58, s_X9_end_59, s_X9_end_60, s_X9_end_61, s_X9_end_64, s_X9_end_67, s_X9_end_69, s_X9_end_70, s_X9_end_73, s_X9_end_74, s_X9_end_76, s_X9_end_77, s_X9_end_78, s_X9_end_79, s_X9_end_80, s_X9_end_81, s_X9_end_84, s_X9_end_85, s_X9_end_86, s_X9_end_87, s_X9_end_88]
    exact hk c frm.rf hA
  | r + 1, d => by
    intro i f c R hi hs hf6 hT hA hk
    have hE := sp_end hV r d
    have h0 := hT.1
    have hn := hV.1
    have hm := hV.2.1
    have hA0 := hA
    obtain ⟨h45, h46, e, h47, hM⟩ := hA
    have hrk := rkF_lt (f := f) (m := m) (by omega) (by omega)
    have hle := enF_le (v := v) (m := m) (fo := fo) (r + 1) i f
    rw [show d + 3 + 3 * (r + 1) = (d + 3 + 3 * r + 2) + 1 by omega, en_X9_end]
    simp only [s_X9_end_0, s_X9_end_1, s_X9_end_2, s_X9_end_5, s_X9_end_8, s_X9_end_9, s_X9_end_12, s_X9_end_13, s_X9_end_16, s_X9_end_17, s_X9_end_20, s_X9_end_23, s_X9_end_24, s_X9_end_25, s_X9_end_26, s_X9_end_29, s_X9_end_32, s_X9_end_33, s_X9_end_34, s_X9_end_37, s_X9_end_38, s_X9_end_41, s_X9_end_44, s_X9_end_45, s_X9_end_46, s_X9_end_47, s_X9_end_50, s_X9_end_51, s_X9_end_52, s_X9_end_55, s_X9_end_56, s_X9_end_57, s_X9_end_58, s_X9_end_59, s_X9_end_60, s_X9_end_61, s_X9_end_64, s_X9_end_67, s_X9_end_69, s_X9_end_70, s_X9_end_73, s_X9_end_74, s_X9_end_76, s_X9_end_77, s_X9_end_78, s_X9_end_79, s_X9_end_80, s_X9_end_81, s_X9_end_84, s_X9_end_85, s_X9_end_86, s_X9_end_87, s_X9_end_88, gt0 h0 (show 1 < 70 by decide), gt1 h0 (show 1 < 70 by decide), sI_lt (show i < 100000 by omega) (show n < 100000 by omega), va_o h45]
    refine ⟨fun _ => ?_, fun q => absurd (by omega) q⟩
    rw [show d + 3 + 3 * r + 2 = (d + 3 + 3 * r + 1) + 1 by omega]
    refine sp_X0_rank h45 h46 (by omega) (by omega) ?_
    rw [show (d + 3 + 3 * r + 1) + 1 = d + 3 + 3 * r + 2 by omega]
    have fin : ∀ c1 (e1 : Nat → Int32) (l4 : Value), frm [46, 47] c c1 → c1 45 = obj 0 [.ref 46, .ref 47] → isI c1 46 7 (fbF f) → isB c1 47 924 e1 → MEMO n m v fo e1 → e1 (rkF f m) = nI (enF v m fo (r + 1) i f + 1) → rU (rRo LL xs) (d + 3 + 3 * r + 2) tb_X9_end R 80 [.ref 45, .ref 1, .int (nI i), .int (nI (rkF f m)), l4] [] (tab c1) := by
      intro c1 e1 l4 f1 g45 g46 g47 gM ge
      simp only [s_X9_end_0, s_X9_end_1, s_X9_end_2, s_X9_end_5, s_X9_end_8, s_X9_end_9, s_X9_end_12, s_X9_end_13, s_X9_end_16, s_X9_end_17, s_X9_end_20, s_X9_end_23, s_X9_end_24, s_X9_end_25, s_X9_end_26, s_X9_end_29, s_X9_end_32, s_X9_end_33, s_X9_end_34, s_X9_end_37, s_X9_end_38, s_X9_end_41, s_X9_end_44, s_X9_end_45, s_X9_end_46, s_X9_end_47, s_X9_end_50, s_X9_end_51, s_X9_end_52, s_X9_end_55, s_X9_end_56, s_X9_end_57, s_X9_end_58, s_X9_end_59, s_X9_end_60, s_X9_end_61, s_X9_end_64, s_X9_end_67, s_X9_end_69, s_X9_end_70, s_X9_end_73, s_X9_end_74, s_X9_end_76, s_X9_end_77, s_X9_end_78, s_X9_end_79, s_X9_end_80, s_X9_end_81, s_X9_end_84, s_X9_end_85, s_X9_end_86, s_X9_end_87, s_X9_end_88, ga1 g45, ab_i g47 (show 47 < 70 by decide) hrk (by decide), ge]
      rw [sI_sub (by omega), show enF v m fo (r + 1) i f + 1 - 1 = enF v m fo (r + 1) i f by omega]
      exact hk c1 f1 ⟨g45, g46, e1, g47, gM⟩
    simp only [Option.toList_some, Option.toList_none, List.cons_append, List.nil_append, Option.toList, s_X9_end_0, s_X9_end_1, s_X9_end_2, s_X9_end_5, s_X9_end_8, s_X9_end_9, s_X9_end_12, s_X9_end_13, s_X9_end_16, s_X9_end_17, s_X9_end_20, s_X9_end_23, s_X9_end_24, s_X9_end_25, s_X9_end_26, s_X9_end_29, s_X9_end_32, s_X9_end_33, s_X9_end_34, s_X9_end_37, s_X9_end_38, s_X9_end_41, s_X9_end_44, s_X9_end_45, s_X9_end_46, s_X9_end_47, s_X9_end_50, s_X9_end_51, s_X9_end_52, s_X9_end_55, s_X9_end_56, s_X9_end_57, s_X9_end_58, s_X9_end_59, s_X9_end_60, s_X9_end_61, s_X9_end_64, s_X9_end_67, s_X9_end_69, s_X9_end_70, s_X9_end_73, s_X9_end_74, s_X9_end_76, s_X9_end_77, s_X9_end_78, s_X9_end_79, s_X9_end_81, s_X9_end_84, s_X9_end_85, s_X9_end_86, s_X9_end_87, s_X9_end_88, ga1 h45, sI_lt0 (show rkF f m < 100000 by omega), sI_lt (show rkF f m < 100000 by omega) (show 924 < 100000 by decide), ab_i h47 (show 47 < 70 by decide) hrk (by decide)]
    refine ⟨rfl, False.elim, fun _ => ⟨fun _ => ⟨fun hz => ?_, fun hz => ?_⟩, fun q => absurd hrk q⟩⟩
    · refine sp_choice hE hV (by omega) hs hf6 hT hA0 fun c1 f1 hA1 => ?_
      have hco := coF_le (fo := fo) (m := m) (i := i) (g := fun y => enF v m fo r (i + 1) (bmp f y)) (by omega) (hV.2.2.2.2.2.2.2.1 i)
      simp only [Option.toList_some, Option.toList_none, List.cons_append, List.nil_append, Option.toList, s_X9_end_0, s_X9_end_1, s_X9_end_2, s_X9_end_5, s_X9_end_8, s_X9_end_9, s_X9_end_12, s_X9_end_13, s_X9_end_16, s_X9_end_17, s_X9_end_20, s_X9_end_23, s_X9_end_24, s_X9_end_25, s_X9_end_26, s_X9_end_29, s_X9_end_32, s_X9_end_33, s_X9_end_34, s_X9_end_37, s_X9_end_38, s_X9_end_41, s_X9_end_44, s_X9_end_45, s_X9_end_46, s_X9_end_47, s_X9_end_50, s_X9_end_51, s_X9_end_52, s_X9_end_55, s_X9_end_56, s_X9_end_57, s_X9_end_58, s_X9_end_59, s_X9_end_60, s_X9_end_61, s_X9_end_64, s_X9_end_67, s_X9_end_69, s_X9_end_70, s_X9_end_73, s_X9_end_74, s_X9_end_76, s_X9_end_77, s_X9_end_78, s_X9_end_79, s_X9_end_81, s_X9_end_84, s_X9_end_85, s_X9_end_86, s_X9_end_87, s_X9_end_88]
      rw [show d + 3 + 3 * r + 2 = (d + 3 + 3 * r) + 1 + 1 by omega]
      have hE' : ENS LL xs n m v w fo si st r (d + 3 + 3 * r + 1) := by
        have := sp_end hV r (d + 1)
        rw [show d + 1 + 3 + 3 * r = d + 3 + 3 * r + 1 by omega] at this
        exact this
      refine sp_endWith hE' hV (by omega) hs hf6 (hT.fr f1 rfl) hA1 hco fun c2 f2 hA2 => ?_
      obtain ⟨k45, k46, e2, k47, kM⟩ := hA2
      have hval : enF v m fo r (i + 1) (bmp f (coF fo m i (fun y => enF v m fo r (i + 1) (bmp f y)))) = enF v m fo (r + 1) i f := by rw [enF]
      rw [hval]
      simp only [Option.toList_some, Option.toList_none, List.cons_append, List.nil_append, Option.toList, s_X9_end_0, s_X9_end_1, s_X9_end_2, s_X9_end_5, s_X9_end_8, s_X9_end_9, s_X9_end_12, s_X9_end_13, s_X9_end_16, s_X9_end_17, s_X9_end_20, s_X9_end_23, s_X9_end_24, s_X9_end_25, s_X9_end_26, s_X9_end_29, s_X9_end_32, s_X9_end_33, s_X9_end_34, s_X9_end_37, s_X9_end_38, s_X9_end_41, s_X9_end_44, s_X9_end_45, s_X9_end_46, s_X9_end_47, s_X9_end_50, s_X9_end_51, s_X9_end_52, s_X9_end_55, s_X9_end_56, s_X9_end_57, s_X9_end_58, s_X9_end_59, s_X9_end_60, s_X9_end_61, s_X9_end_64, s_X9_end_67, s_X9_end_69, s_X9_end_70, s_X9_end_73, s_X9_end_74, s_X9_end_76, s_X9_end_77, s_X9_end_78, s_X9_end_79, s_X9_end_81, s_X9_end_84, s_X9_end_85, s_X9_end_86, s_X9_end_87, s_X9_end_88, ga1 k45, nI_add]
      refine ⟨rfl, sb_i k47 (by decide) hrk (by decide) fun c3 f3 hi3 => ?_⟩
      rw [toInt8_nI _ (by omega), (nar_byte _ (by omega)).2] at hi3
      refine fin c3 _ _ (f1.trans (f2.trans (f3.mono rfl))) ((f3 45 rfl).trans k45) (k46.fr f3 rfl) hi3 (fun p hp => ?_) upd_self
      by_cases ep : p = rkF f m
      · subst ep
        refine Or.inr fun g hg1 hg2 => ?_
        have hfg := rkF_eq hg2
        rw [upd_self, smF_cg m 1 (f := g) (g := f) (fun j h1 h2 => hfg j h1 (by omega)), hs, show n - i = r + 1 by omega, enF_cg (r + 1) i g f hfg]
      · rw [upd_ne ep]
        exact kM p hp
    · refine fin c e _ frm.rf h45 h46 h47 hM ?_
      have := (hM (rkF f m) hrk).resolve_left (fun q => hz (by rw [q]; exact nI_0)) f (by omega) rfl
      rw [this, hs, show n - i = r + 1 by omega]
end CL
