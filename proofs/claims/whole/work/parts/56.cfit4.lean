/-! ===== the class: fits, could ===== -/
theorem bfQ_ok {T : TS} {S : FST} {i : Nat} (hS : fOK T.1 T.2.1 S) (hi : i < T.1) : ∀ r y A, y + r ≤ T.2.1 + 1 → fOK T.1 T.2.1 A → fOK T.1 T.2.1 (bfQ T S i r y A)
  | 0, y, A, h, hA => hA
  | r + 1, y, A, h, hA => by
    rw [bfQ]
    split
    · exact bnd_ok hS hi (by omega)
    · exact bfQ_ok hS hi r (y + 1) _ (by omega) (bnd_ok hS hi (by omega))
theorem bfS_ok {T : TS} {S : FST} (hS : fOK T.1 T.2.1 S) : ∀ i, i ≤ T.1 → fOK T.1 T.2.1 (bfS T S i)
  | 0, _ => hS
  | i + 1, hi => by
    have ih := bfS_ok hS i (by omega)
    rw [bfS]
    split
    · exact bfQ_ok ih (by omega) _ _ _ (by omega) ih
    · exact ih
section CH
variable {ro : rQ} {LL : Nat} {xs : Nat → Int32} {d : Nat} {R : rR} {c : Nat → rE} {h : rH} {n m v si sg k t q l : Nat} {w fo o f : Nat → Nat} {st pd e : Nat → Int32} {im : Nat → Option TS} {x y a0 a1 a2 a3 a4 : Int32} {S : FST}
theorem fts_wr {T : TS} {a b : Nat} {c1 : Nat → rE} (hF : FTS c T S) (hf : frm [52] c c1) (hi : isI c1 52 6 (upd (fun j => nI (S.1 j)) a (nI b))) : FTS c1 T (bnd S a b) := ⟨(hf 48 rfl).trans hF.1, hF.2.1.fr hf rfl, hi.cg (fun j _ => (congrFun updN_nI j).symm)⟩
theorem sp_X3_bindFirst {T : TS} (hm : 2 ≤ T.2.1 ∧ T.2.1 ≤ 6) (hn : T.1 ≤ 6) (hv : T.2.2.1 ≤ 3) (hF : FTS c T S) (hS : fOK T.1 T.2.1 S) (hk : ∀ c', frm [49, 50, 51, 52] c c' → FTS c' T (bfS T S T.1) → R none (tab c')) : rM (rRo LL xs) (d + 12) 18 0 0 [.ref 48] (tab c) R := by
  rw [en_X3_bindFirst]
  simp only [s_X3_bindFirst_0, s_X3_bindFirst_1, s_X3_bindFirst_3, s_X3_bindFirst_4, s_X3_bindFirst_7, s_X3_bindFirst_10, s_X3_bindFirst_11, s_X3_bindFirst_13, s_X3_bindFirst_16, s_X3_bindFirst_17, s_X3_bindFirst_20, s_X3_bindFirst_21, s_X3_bindFirst_22, s_X3_bindFirst_25, s_X3_bindFirst_26, s_X3_bindFirst_29, s_X3_bindFirst_30, s_X3_bindFirst_31, s_X3_bindFirst_32, s_X3_bindFirst_33, s_X3_bindFirst_34, s_X3_bindFirst_35, s_X3_bindFirst_38, s_X3_bindFirst_41, s_X3_bindFirst_42, s_X3_bindFirst_45, s_X3_bindFirst_46, s_X3_bindFirst_49, s_X3_bindFirst_50, s_X3_bindFirst_51, s_X3_bindFirst_52, s_X3_bindFirst_53, s_X3_bindFirst_56, s_X3_bindFirst_59, s_X3_bindFirst_60, s_X3_bindFirst_63, s_X3_bindFirst_64, s_X3_bindFirst_65, s_X3_bindFirst_68, s_X3_bindFirst_71, s_X3_bindFirst_74, s_X3_bindFirst_77]
  refine ⟨rfl, ?_⟩
  have lp : ∀ rem i c1 (l2 l3 : Value), i + rem = T.1 → frm [49, 50, 51, 52] c c1 → FTS c1 T (bfS T S i) → (l2.category = 1) → rU (rRo LL xs) (d + 11) tb_X3_bindFirst R 2 [.ref 48, .int (nI i), l2, l3] [] (tab c1) := by
    intro rem
    induction rem with
    | zero =>
      intro i c1 l2 l3 hi f1 hF1 _
      have : i = T.1 := by omega
      subst this
      rw [s_X3_bindFirst_2]
      simp only [s_X3_bindFirst_0, s_X3_bindFirst_1, s_X3_bindFirst_3, s_X3_bindFirst_4, s_X3_bindFirst_7, s_X3_bindFirst_10, s_X3_bindFirst_11, s_X3_bindFirst_13, s_X3_bindFirst_16, s_X3_bindFirst_17, s_X3_bindFirst_20, s_X3_bindFirst_21, s_X3_bindFirst_22, s_X3_bindFirst_25, s_X3_bindFirst_26, s_X3_bindFirst_29, s_X3_bindFirst_30, s_X3_bindFirst_31, s_X3_bindFirst_32, s_X3_bindFirst_33, s_X3_bindFirst_34, s_X3_bindFirst_35, s_X3_bindFirst_38, s_X3_bindFirst_41, s_X3_bindFirst_42, s_X3_bindFirst_45, s_X3_bindFirst_46, s_X3_bindFirst_49, s_X3_bindFirst_50, s_X3_bindFirst_51, s_X3_bindFirst_52, s_X3_bindFirst_53, s_X3_bindFirst_56, s_X3_bindFirst_59, s_X3_bindFirst_60, s_X3_bindFirst_63, s_X3_bindFirst_64, s_X3_bindFirst_65, s_X3_bindFirst_68, s_X3_bindFirst_71, s_X3_bindFirst_74, s_X3_bindFirst_77, gf3 hF1.1]
      exact ⟨fun _ => hk c1 f1 hF1, fun hc => absurd ((sI_le (by omega) (by omega)).mpr (Nat.le_refl _)) hc⟩
    | succ rem ih =>
      intro i c1 l2 l3 hi f1 hF1 hl2
      have hok := bfS_ok hS i (by omega)
      have hsi := hok.1 i
      have lp2 : ∀ rem y c2 A, y + rem = T.2.1 + 1 → 1 ≤ y → frm [49, 50, 51, 52] c c2 → FTS c2 T A → A.1 = updN (bfS T S i).1 i (A.1 i) → A.2 = (bfS T S i).2 → bfQ T (bfS T S i) i rem y A = bfS T S (i + 1) → rU (rRo LL xs) (d + 11) tb_X3_bindFirst R 33 [.ref 48, .int (nI i), .int (nI 0), .int (nI y)] [] (tab c2) := by
        intro rem2
        induction rem2 with
        | zero =>
          intro y c2 A hy h1 f2 hF2 hA1 hA2 hq
          rw [bfQ] at hq
          subst hq
          rw [s_X3_bindFirst_33]
          simp only [s_X3_bindFirst_0, s_X3_bindFirst_1, s_X3_bindFirst_3, s_X3_bindFirst_4, s_X3_bindFirst_7, s_X3_bindFirst_10, s_X3_bindFirst_11, s_X3_bindFirst_13, s_X3_bindFirst_16, s_X3_bindFirst_17, s_X3_bindFirst_20, s_X3_bindFirst_21, s_X3_bindFirst_22, s_X3_bindFirst_25, s_X3_bindFirst_26, s_X3_bindFirst_29, s_X3_bindFirst_30, s_X3_bindFirst_31, s_X3_bindFirst_32, s_X3_bindFirst_34, s_X3_bindFirst_35, s_X3_bindFirst_38, s_X3_bindFirst_41, s_X3_bindFirst_42, s_X3_bindFirst_45, s_X3_bindFirst_46, s_X3_bindFirst_49, s_X3_bindFirst_50, s_X3_bindFirst_51, s_X3_bindFirst_52, s_X3_bindFirst_53, s_X3_bindFirst_56, s_X3_bindFirst_59, s_X3_bindFirst_60, s_X3_bindFirst_63, s_X3_bindFirst_64, s_X3_bindFirst_65, s_X3_bindFirst_68, s_X3_bindFirst_71, s_X3_bindFirst_74, s_X3_bindFirst_77, gf4 hF2.1, nI_add]
          exact ⟨fun _ => ⟨rfl, ih (i + 1) c2 _ _ (by omega) f2 hF2 rfl⟩, fun hc => absurd ((sI_lt (by omega) (by omega)).mpr (by omega)) hc⟩
        | succ rem2 ih2 =>
          intro y c2 A hy h1 f2 hF2 hA1 hA2 hq
          rw [bfQ] at hq
          rw [s_X3_bindFirst_33]
          simp only [s_X3_bindFirst_0, s_X3_bindFirst_1, s_X3_bindFirst_3, s_X3_bindFirst_4, s_X3_bindFirst_7, s_X3_bindFirst_10, s_X3_bindFirst_11, s_X3_bindFirst_13, s_X3_bindFirst_16, s_X3_bindFirst_17, s_X3_bindFirst_20, s_X3_bindFirst_21, s_X3_bindFirst_22, s_X3_bindFirst_25, s_X3_bindFirst_26, s_X3_bindFirst_29, s_X3_bindFirst_30, s_X3_bindFirst_31, s_X3_bindFirst_32, s_X3_bindFirst_34, s_X3_bindFirst_35, s_X3_bindFirst_38, s_X3_bindFirst_41, s_X3_bindFirst_42, s_X3_bindFirst_45, s_X3_bindFirst_46, s_X3_bindFirst_49, s_X3_bindFirst_50, s_X3_bindFirst_51, s_X3_bindFirst_52, s_X3_bindFirst_53, s_X3_bindFirst_56, s_X3_bindFirst_59, s_X3_bindFirst_60, s_X3_bindFirst_63, s_X3_bindFirst_64, s_X3_bindFirst_65, s_X3_bindFirst_68, s_X3_bindFirst_71, s_X3_bindFirst_74, s_X3_bindFirst_77, gf4 hF2.1, gf1 hF2.1, sI_lt (show T.2.1 < 100000 by omega) (show y < 100000 by omega)]
          refine ⟨fun hc => absurd hc (by omega), fun _ => ⟨fun _ => si_i hF2.2.2 (by decide) (by omega) (by decide) fun c3 f3 hi3 => ?_, fun q => absurd nI_0 q⟩⟩
          have hb : bnd A i y = bnd (bfS T S i) i y := by
            unfold bnd
            rw [hA2]
            congr 1
            rw [hA1]
            funext j
            unfold updN
            split <;> rfl
          have hF3 : FTS c3 T (bnd (bfS T S i) i y) := by rw [← hb]; exact fts_wr hF2 f3 hi3
          have g3 : frm [49, 50, 51, 52] c c3 := f2.trans (f3.mono rfl)
          have hok3 := bnd_ok hok (show i < T.1 by omega) (show y ≤ T.2.1 by omega)
          have hle := rwN_le (T := T) (S := bnd (bfS T S i) i y) (by omega) hn
          simp only [s_X3_bindFirst_0, s_X3_bindFirst_1, s_X3_bindFirst_3, s_X3_bindFirst_4, s_X3_bindFirst_7, s_X3_bindFirst_10, s_X3_bindFirst_11, s_X3_bindFirst_13, s_X3_bindFirst_16, s_X3_bindFirst_17, s_X3_bindFirst_20, s_X3_bindFirst_21, s_X3_bindFirst_22, s_X3_bindFirst_25, s_X3_bindFirst_26, s_X3_bindFirst_29, s_X3_bindFirst_30, s_X3_bindFirst_31, s_X3_bindFirst_32, s_X3_bindFirst_34, s_X3_bindFirst_35, s_X3_bindFirst_38, s_X3_bindFirst_41, s_X3_bindFirst_42, s_X3_bindFirst_45, s_X3_bindFirst_46, s_X3_bindFirst_49, s_X3_bindFirst_50, s_X3_bindFirst_51, s_X3_bindFirst_52, s_X3_bindFirst_53, s_X3_bindFirst_56, s_X3_bindFirst_59, s_X3_bindFirst_60, s_X3_bindFirst_63, s_X3_bindFirst_64, s_X3_bindFirst_65, s_X3_bindFirst_68, s_X3_bindFirst_71, s_X3_bindFirst_74, s_X3_bindFirst_77, vfi hF3.1]
          refine sp_X3_rows hm hn hv hF3 hok3 fun c4 f4 hF4 => ?_
          have g4 : frm [49, 50, 51, 52] c c4 := g3.trans (f4.mono rfl)
          simp only [Option.toList_some, Option.toList_none, List.cons_append, List.nil_append, Option.toList, s_X3_bindFirst_0, s_X3_bindFirst_1, s_X3_bindFirst_3, s_X3_bindFirst_4, s_X3_bindFirst_7, s_X3_bindFirst_10, s_X3_bindFirst_11, s_X3_bindFirst_13, s_X3_bindFirst_16, s_X3_bindFirst_17, s_X3_bindFirst_20, s_X3_bindFirst_21, s_X3_bindFirst_22, s_X3_bindFirst_25, s_X3_bindFirst_26, s_X3_bindFirst_29, s_X3_bindFirst_30, s_X3_bindFirst_31, s_X3_bindFirst_32, s_X3_bindFirst_34, s_X3_bindFirst_35, s_X3_bindFirst_38, s_X3_bindFirst_41, s_X3_bindFirst_42, s_X3_bindFirst_45, s_X3_bindFirst_46, s_X3_bindFirst_49, s_X3_bindFirst_50, s_X3_bindFirst_51, s_X3_bindFirst_52, s_X3_bindFirst_53, s_X3_bindFirst_56, s_X3_bindFirst_59, s_X3_bindFirst_60, s_X3_bindFirst_63, s_X3_bindFirst_64, s_X3_bindFirst_65, s_X3_bindFirst_68, s_X3_bindFirst_71, s_X3_bindFirst_74, s_X3_bindFirst_77, sI_le0 (show rwN T (bnd (bfS T S i) i y) < 100000 by omega), nI_add]
          refine ⟨fun h0 => ⟨rfl, rfl, ?_⟩, fun h0 => ⟨rfl, rfl, ?_⟩⟩
          · rw [if_neg (by omega)] at hq
            refine ih2 (y + 1) c4 _ (by omega) (by omega) g4 hF4 ?_ rfl hq
            show updN _ i y = updN _ i (updN _ i y i)
            unfold updN
            rw [if_pos rfl]
          · rw [if_pos (by omega)] at hq
            rw [s_X3_bindFirst_33]
            simp only [s_X3_bindFirst_0, s_X3_bindFirst_1, s_X3_bindFirst_3, s_X3_bindFirst_4, s_X3_bindFirst_7, s_X3_bindFirst_10, s_X3_bindFirst_11, s_X3_bindFirst_13, s_X3_bindFirst_16, s_X3_bindFirst_17, s_X3_bindFirst_20, s_X3_bindFirst_21, s_X3_bindFirst_22, s_X3_bindFirst_25, s_X3_bindFirst_26, s_X3_bindFirst_29, s_X3_bindFirst_30, s_X3_bindFirst_31, s_X3_bindFirst_32, s_X3_bindFirst_34, s_X3_bindFirst_35, s_X3_bindFirst_38, s_X3_bindFirst_41, s_X3_bindFirst_42, s_X3_bindFirst_45, s_X3_bindFirst_46, s_X3_bindFirst_49, s_X3_bindFirst_50, s_X3_bindFirst_51, s_X3_bindFirst_52, s_X3_bindFirst_53, s_X3_bindFirst_56, s_X3_bindFirst_59, s_X3_bindFirst_60, s_X3_bindFirst_63, s_X3_bindFirst_64, s_X3_bindFirst_65, s_X3_bindFirst_68, s_X3_bindFirst_71, s_X3_bindFirst_74, s_X3_bindFirst_77, gf4 hF4.1, nI_add]
            rw [hq] at hF4
            exact ⟨fun _ => ⟨rfl, ih (i + 1) c4 _ _ (by omega) g4 hF4 rfl⟩, fun _ => ⟨fun q => absurd q (by decide), fun _ => ⟨rfl, ih (i + 1) c4 _ _ (by omega) g4 hF4 rfl⟩⟩⟩
      have e0 : (nI ((bfS T S i).1 i) = 0) ↔ (bfS T S i).1 i = 0 := by rw [← nI_0]; exact sI_eq (by omega) (by decide)
      have hbs : bfS T S (i + 1) = if (bfS T S i).1 i = 0 then bfQ T (bfS T S i) i T.2.1 1 (bfS T S i) else bfS T S i := rfl
      have hcl : rcl [.ref 48, .int (nI i), l2, l3] 2 = true := rfl
      rw [s_X3_bindFirst_2]
      simp only [s_X3_bindFirst_0, s_X3_bindFirst_1, s_X3_bindFirst_3, s_X3_bindFirst_4, s_X3_bindFirst_7, s_X3_bindFirst_10, s_X3_bindFirst_11, s_X3_bindFirst_13, s_X3_bindFirst_16, s_X3_bindFirst_17, s_X3_bindFirst_20, s_X3_bindFirst_21, s_X3_bindFirst_22, s_X3_bindFirst_25, s_X3_bindFirst_26, s_X3_bindFirst_29, s_X3_bindFirst_30, s_X3_bindFirst_31, s_X3_bindFirst_32, s_X3_bindFirst_34, s_X3_bindFirst_35, s_X3_bindFirst_38, s_X3_bindFirst_41, s_X3_bindFirst_42, s_X3_bindFirst_45, s_X3_bindFirst_46, s_X3_bindFirst_49, s_X3_bindFirst_50, s_X3_bindFirst_51, s_X3_bindFirst_52, s_X3_bindFirst_53, s_X3_bindFirst_56, s_X3_bindFirst_59, s_X3_bindFirst_60, s_X3_bindFirst_63, s_X3_bindFirst_64, s_X3_bindFirst_65, s_X3_bindFirst_68, s_X3_bindFirst_71, s_X3_bindFirst_74, s_X3_bindFirst_77, gf3 hF1.1, gf1 hF1.1, sI_le (show T.1 < 100000 by omega) (show i < 100000 by omega), sI_le (show 6 < 100000 by decide) (show i < 100000 by omega), ai_i hF1.2.2 (show 52 < 70 by decide) (show i < 6 by omega) (by decide), e0]
      refine ⟨fun hc => absurd hc (by omega), fun _ => ⟨fun hc => absurd hc (by omega), fun _ => ⟨fun hz => ⟨rfl, rfl, ?_⟩, fun hz => ⟨rfl, rfl, ?_⟩⟩⟩⟩
      · rw [if_pos hz] at hbs
        refine lp2 T.2.1 1 c1 _ (by omega) (by omega) f1 hF1 ?_ rfl hbs.symm
        funext j
        unfold updN
        split
        · rename_i e; rw [e]
        · rfl
      · rw [if_neg hz] at hbs
        rw [← hbs] at hF1
        rw [s_X3_bindFirst_33]
        simp only [s_X3_bindFirst_0, s_X3_bindFirst_1, s_X3_bindFirst_3, s_X3_bindFirst_4, s_X3_bindFirst_7, s_X3_bindFirst_10, s_X3_bindFirst_11, s_X3_bindFirst_13, s_X3_bindFirst_16, s_X3_bindFirst_17, s_X3_bindFirst_20, s_X3_bindFirst_21, s_X3_bindFirst_22, s_X3_bindFirst_25, s_X3_bindFirst_26, s_X3_bindFirst_29, s_X3_bindFirst_30, s_X3_bindFirst_31, s_X3_bindFirst_32, s_X3_bindFirst_34, s_X3_bindFirst_35, s_X3_bindFirst_38, s_X3_bindFirst_41, s_X3_bindFirst_42, s_X3_bindFirst_45, s_X3_bindFirst_46, s_X3_bindFirst_49, s_X3_bindFirst_50, s_X3_bindFirst_51, s_X3_bindFirst_52, s_X3_bindFirst_53, s_X3_bindFirst_56, s_X3_bindFirst_59, s_X3_bindFirst_60, s_X3_bindFirst_63, s_X3_bindFirst_64, s_X3_bindFirst_65, s_X3_bindFirst_68, s_X3_bindFirst_71, s_X3_bindFirst_74, s_X3_bindFirst_77, gf4 hF1.1, nI_add]
        exact ⟨fun _ => ⟨rfl, ih (i + 1) c1 _ _ (by omega) f1 hF1 rfl⟩, fun _ => ⟨fun q => absurd q (by decide), fun _ => ⟨rfl, ih (i + 1) c1 _ _ (by omega) f1 hF1 rfl⟩⟩⟩
  exact lp T.1 0 c _ _ (by omega) frm.rf hF rfl
def nbB (T : TS) (S : FST) (i y : Nat) : Bool := (S.1 i == 0 || S.1 i == y) && decide (0 < rwN T (bnd S i y))
theorem sp_X3_numbersOf {T : TS} {i : Nat} (hm : 2 ≤ T.2.1 ∧ T.2.1 ≤ 6) (hn : T.1 ≤ 6) (hv : T.2.2.1 ≤ 3) (hF : FTS c T S) (hS : fOK T.1 T.2.1 S) (hi : i < T.1) (hk : ∀ c', frm [49, 50, 51, 52] c c' → FTS c' T S → R (some (.int (orS (nbB T S i) T.2.1 1 (nI 0)))) (tab c')) : rM (rRo LL xs) (d + 12) 19 0 0 [.ref 48, .int (nI i)] (tab c) R := by
  have hsi := hS.1 i
  have e0 : (nI (S.1 i) = 0) ↔ S.1 i = 0 := by rw [← nI_0]; exact sI_eq (by omega) (by decide)
  have lp : ∀ rem y c1 A (a : Int32), y + rem = T.2.1 + 1 → 1 ≤ y → frm [49, 50, 51, 52] c c1 → FTS c1 T A → A.1 = updN S.1 i (A.1 i) → A.2 = S.2 → orS (nbB T S i) rem y a = orS (nbB T S i) T.2.1 1 (nI 0) → rU (rRo LL xs) (d + 11) tb_X3_numbersOf R 24 [.ref 48, .int (nI i), .int (nI (S.1 i)), .int a, .int (nI y)] [] (tab c1) := by
    intro rem
    induction rem with
    | zero =>
      intro y c1 A a hy h1 f1 hF1 hA1 hA2 ha
      rw [orS] at ha
      rw [s_X3_numbersOf_24]
      simp only [s_X3_numbersOf_0, s_X3_numbersOf_1, s_X3_numbersOf_4, s_X3_numbersOf_5, s_X3_numbersOf_7, s_X3_numbersOf_10, s_X3_numbersOf_11, s_X3_numbersOf_12, s_X3_numbersOf_13, s_X3_numbersOf_16, s_X3_numbersOf_17, s_X3_numbersOf_18, s_X3_numbersOf_19, s_X3_numbersOf_20, s_X3_numbersOf_21, s_X3_numbersOf_22, s_X3_numbersOf_26, s_X3_numbersOf_27, s_X3_numbersOf_30, s_X3_numbersOf_33, s_X3_numbersOf_34, s_X3_numbersOf_37, s_X3_numbersOf_38, s_X3_numbersOf_40, s_X3_numbersOf_41, s_X3_numbersOf_42, s_X3_numbersOf_45, s_X3_numbersOf_46, s_X3_numbersOf_48, s_X3_numbersOf_51, s_X3_numbersOf_52, s_X3_numbersOf_55, s_X3_numbersOf_58, s_X3_numbersOf_59, s_X3_numbersOf_60, s_X3_numbersOf_62, s_X3_numbersOf_63, s_X3_numbersOf_64, s_X3_numbersOf_65, s_X3_numbersOf_68, s_X3_numbersOf_71, s_X3_numbersOf_72, s_X3_numbersOf_75, s_X3_numbersOf_76, s_X3_numbersOf_77, s_X3_numbersOf_78, s_X3_numbersOf_79, gf4 hF1.1, gf1 hF1.1]
      refine ⟨fun _ => si_i hF1.2.2 (by decide) (by omega) (by decide) fun c2 f2 hi2 => ?_, fun hc => absurd ((sI_lt (by omega) (by omega)).mpr (by omega)) hc⟩
      rw [ha]
      refine hk c2 (f1.trans (f2.mono rfl)) ?_
      have hF2 := fts_wr hF1 f2 hi2
      have hb : bnd A i (S.1 i) = S := by
        unfold bnd
        rw [hA2, hA1]
        obtain ⟨S1, S2⟩ := S
        congr 1
        funext j
        unfold updN
        split
        · rename_i e; rw [e]
        · rfl
      rw [hb] at hF2
      exact hF2
    | succ rem ih =>
      intro y c1 A a hy h1 f1 hF1 hA1 hA2 ha
      rw [orS] at ha
      have hb : bnd A i y = bnd S i y := by
        unfold bnd
        rw [hA2]
        congr 1
        rw [hA1]
        funext j
        unfold updN
        split <;> rfl
      have hu : (bnd S i y).1 = updN S.1 i ((bnd S i y).1 i) := by
        show updN _ i y = updN _ i (updN _ i y i)
        unfold updN
        rw [if_pos rfl]
      rw [s_X3_numbersOf_24]
      simp only [s_X3_numbersOf_0, s_X3_numbersOf_1, s_X3_numbersOf_4, s_X3_numbersOf_5, s_X3_numbersOf_7, s_X3_numbersOf_10, s_X3_numbersOf_11, s_X3_numbersOf_12, s_X3_numbersOf_13, s_X3_numbersOf_16, s_X3_numbersOf_17, s_X3_numbersOf_18, s_X3_numbersOf_19, s_X3_numbersOf_20, s_X3_numbersOf_21, s_X3_numbersOf_22, s_X3_numbersOf_26, s_X3_numbersOf_27, s_X3_numbersOf_30, s_X3_numbersOf_33, s_X3_numbersOf_34, s_X3_numbersOf_37, s_X3_numbersOf_38, s_X3_numbersOf_40, s_X3_numbersOf_41, s_X3_numbersOf_42, s_X3_numbersOf_45, s_X3_numbersOf_46, s_X3_numbersOf_48, s_X3_numbersOf_52, s_X3_numbersOf_55, s_X3_numbersOf_58, s_X3_numbersOf_59, s_X3_numbersOf_60, s_X3_numbersOf_62, s_X3_numbersOf_63, s_X3_numbersOf_64, s_X3_numbersOf_65, s_X3_numbersOf_68, s_X3_numbersOf_71, s_X3_numbersOf_72, s_X3_numbersOf_75, s_X3_numbersOf_76, s_X3_numbersOf_77, s_X3_numbersOf_78, s_X3_numbersOf_79, gf4 hF1.1, gf1 hF1.1, sI_lt (show T.2.1 < 100000 by omega) (show y < 100000 by omega)]
      refine ⟨fun hc => absurd hc (by omega), fun _ => si_i hF1.2.2 (by decide) (by omega) (by decide) fun c2 f2 hi2 => ?_⟩
      have hF2 : FTS c2 T (bnd S i y) := by rw [← hb]; exact fts_wr hF1 f2 hi2
      have g2 : frm [49, 50, 51, 52] c c2 := f1.trans (f2.mono rfl)
      have hle := rwN_le (T := T) (S := bnd S i y) (by omega) hn
      have go : (S.1 i = 0 ∨ S.1 i = y) → rU (rRo LL xs) (d + 11) tb_X3_numbersOf R 51 [.ref 48, .int (nI i), .int (nI (S.1 i)), .int a, .int (nI y)] [] (tab c2) := by
        intro hor
        simp only [s_X3_numbersOf_0, s_X3_numbersOf_1, s_X3_numbersOf_4, s_X3_numbersOf_5, s_X3_numbersOf_7, s_X3_numbersOf_10, s_X3_numbersOf_11, s_X3_numbersOf_12, s_X3_numbersOf_13, s_X3_numbersOf_16, s_X3_numbersOf_17, s_X3_numbersOf_18, s_X3_numbersOf_19, s_X3_numbersOf_20, s_X3_numbersOf_21, s_X3_numbersOf_22, s_X3_numbersOf_26, s_X3_numbersOf_27, s_X3_numbersOf_30, s_X3_numbersOf_33, s_X3_numbersOf_34, s_X3_numbersOf_37, s_X3_numbersOf_38, s_X3_numbersOf_40, s_X3_numbersOf_41, s_X3_numbersOf_42, s_X3_numbersOf_45, s_X3_numbersOf_46, s_X3_numbersOf_48, s_X3_numbersOf_51, s_X3_numbersOf_52, s_X3_numbersOf_55, s_X3_numbersOf_58, s_X3_numbersOf_59, s_X3_numbersOf_60, s_X3_numbersOf_62, s_X3_numbersOf_63, s_X3_numbersOf_64, s_X3_numbersOf_68, s_X3_numbersOf_71, s_X3_numbersOf_72, s_X3_numbersOf_75, s_X3_numbersOf_76, s_X3_numbersOf_77, s_X3_numbersOf_78, s_X3_numbersOf_79, vfi hF2.1]
        refine sp_X3_rows hm hn hv hF2 (bnd_ok hS hi (by omega)) fun c3 f3 hF3 => ?_
        have g3 : frm [49, 50, 51, 52] c c3 := g2.trans (f3.mono rfl)
        have hor2 : (S.1 i == 0 || S.1 i == y) = true := by simpa using hor
        simp only [Option.toList_some, Option.toList_none, List.cons_append, List.nil_append, Option.toList, s_X3_numbersOf_0, s_X3_numbersOf_1, s_X3_numbersOf_4, s_X3_numbersOf_5, s_X3_numbersOf_7, s_X3_numbersOf_10, s_X3_numbersOf_11, s_X3_numbersOf_12, s_X3_numbersOf_13, s_X3_numbersOf_16, s_X3_numbersOf_17, s_X3_numbersOf_18, s_X3_numbersOf_19, s_X3_numbersOf_20, s_X3_numbersOf_21, s_X3_numbersOf_22, s_X3_numbersOf_26, s_X3_numbersOf_27, s_X3_numbersOf_30, s_X3_numbersOf_33, s_X3_numbersOf_34, s_X3_numbersOf_37, s_X3_numbersOf_38, s_X3_numbersOf_40, s_X3_numbersOf_41, s_X3_numbersOf_42, s_X3_numbersOf_45, s_X3_numbersOf_46, s_X3_numbersOf_48, s_X3_numbersOf_51, s_X3_numbersOf_52, s_X3_numbersOf_55, s_X3_numbersOf_58, s_X3_numbersOf_59, s_X3_numbersOf_60, s_X3_numbersOf_62, s_X3_numbersOf_63, s_X3_numbersOf_64, s_X3_numbersOf_65, s_X3_numbersOf_68, s_X3_numbersOf_71, s_X3_numbersOf_72, s_X3_numbersOf_75, s_X3_numbersOf_76, s_X3_numbersOf_77, s_X3_numbersOf_78, s_X3_numbersOf_79, sI_le0 (show rwN T (bnd S i y) < 100000 by omega), nI_add]
        refine ⟨fun h0 => ⟨rfl, ih (y + 1) c3 _ _ (by omega) (by omega) g3 hF3 hu rfl ?_⟩, fun h0 => ⟨rfl, rfl, ih (y + 1) c3 _ _ (by omega) (by omega) g3 hF3 hu rfl ?_⟩⟩
        · rw [show nbB T S i y = false by unfold nbB; rw [hor2, decide_eq_false (by omega)]; rfl, if_neg (by decide)] at ha
          exact ha
        · rw [show nbB T S i y = true by unfold nbB; rw [hor2, decide_eq_true (by omega)]; rfl, if_pos rfl] at ha
          exact ha
      simp only [s_X3_numbersOf_0, s_X3_numbersOf_1, s_X3_numbersOf_4, s_X3_numbersOf_5, s_X3_numbersOf_7, s_X3_numbersOf_10, s_X3_numbersOf_11, s_X3_numbersOf_12, s_X3_numbersOf_13, s_X3_numbersOf_16, s_X3_numbersOf_17, s_X3_numbersOf_18, s_X3_numbersOf_19, s_X3_numbersOf_20, s_X3_numbersOf_21, s_X3_numbersOf_22, s_X3_numbersOf_26, s_X3_numbersOf_27, s_X3_numbersOf_30, s_X3_numbersOf_33, s_X3_numbersOf_34, s_X3_numbersOf_37, s_X3_numbersOf_38, s_X3_numbersOf_40, s_X3_numbersOf_41, s_X3_numbersOf_42, s_X3_numbersOf_45, s_X3_numbersOf_46, s_X3_numbersOf_48, s_X3_numbersOf_52, s_X3_numbersOf_55, s_X3_numbersOf_58, s_X3_numbersOf_59, s_X3_numbersOf_60, s_X3_numbersOf_62, s_X3_numbersOf_63, s_X3_numbersOf_64, s_X3_numbersOf_65, s_X3_numbersOf_68, s_X3_numbersOf_71, s_X3_numbersOf_72, s_X3_numbersOf_75, s_X3_numbersOf_76, s_X3_numbersOf_77, s_X3_numbersOf_78, s_X3_numbersOf_79, e0, sI_eq (show S.1 i < 100000 by omega) (show y < 100000 by omega), nI_add]
      refine ⟨fun h0 => go (Or.inl h0), fun h0 => ⟨fun h2 => go (Or.inr h2), fun h2 => ⟨rfl, ih (y + 1) c2 _ _ (by omega) (by omega) g2 hF2 hu rfl ?_⟩⟩⟩
      rw [show nbB T S i y = false by unfold nbB; simp [h0, h2], if_neg (by decide)] at ha
      exact ha
  rw [en_X3_numbersOf]
  simp only [s_X3_numbersOf_0, s_X3_numbersOf_1, s_X3_numbersOf_4, s_X3_numbersOf_5, s_X3_numbersOf_7, s_X3_numbersOf_10, s_X3_numbersOf_11, s_X3_numbersOf_12, s_X3_numbersOf_13, s_X3_numbersOf_16, s_X3_numbersOf_17, s_X3_numbersOf_18, s_X3_numbersOf_19, s_X3_numbersOf_20, s_X3_numbersOf_21, s_X3_numbersOf_22, s_X3_numbersOf_26, s_X3_numbersOf_27, s_X3_numbersOf_30, s_X3_numbersOf_33, s_X3_numbersOf_34, s_X3_numbersOf_37, s_X3_numbersOf_38, s_X3_numbersOf_40, s_X3_numbersOf_41, s_X3_numbersOf_42, s_X3_numbersOf_45, s_X3_numbersOf_46, s_X3_numbersOf_48, s_X3_numbersOf_51, s_X3_numbersOf_52, s_X3_numbersOf_55, s_X3_numbersOf_58, s_X3_numbersOf_59, s_X3_numbersOf_60, s_X3_numbersOf_62, s_X3_numbersOf_63, s_X3_numbersOf_64, s_X3_numbersOf_65, s_X3_numbersOf_68, s_X3_numbersOf_71, s_X3_numbersOf_72, s_X3_numbersOf_75, s_X3_numbersOf_76, s_X3_numbersOf_77, s_X3_numbersOf_78, s_X3_numbersOf_79, gf1 hF.1, sI_lt0 (show i < 100000 by omega), sI_lt (show i < 100000 by omega) (show 6 < 100000 by decide), ai_i hF.2.2 (show 52 < 70 by decide) (show i < 6 by omega) (by decide)]
  refine ⟨False.elim, fun _ => ⟨fun _ => ⟨rfl, rfl, rfl, lp T.2.1 1 c S _ (by omega) (by omega) frm.rf hF ?_ rfl rfl⟩, fun q => absurd (by omega) q⟩⟩
  funext j
  unfold updN
  split
  · rename_i e; rw [e]
  · rfl
theorem pC_iff (hV : VS (n, m, v, w, fo, si, st)) {a : Nat} : pC (n, m, v, w, fo, si, st) a = true ↔ FP (n, m, v, w, fo, si, st) (rdS (n, m, v, w, fo, si, st) si) (rwC m n a) := see_iff hV si (Nat.le_refl _)
theorem fitN_eq (hV : VS (n, m, v, w, fo, si, st)) : rwN (n, m, v, w, fo, si, st) (rdS (n, m, v, w, fo, si, st) si) = fitN (n, m, v, w, fo, si, st) := by
  have hm := hV.2.1
  exact rwN_sum (T := (n, m, v, w, fo, si, st)) (by show 1 ≤ m ∧ m ≤ 6; omega) (rd_ok hV si (Nat.le_refl _)).1 (pC (n, m, v, w, fo, si, st)) (fun c => pC_iff hV)
theorem FTS.gfi {T : TS} (h : FTS c T S) : gFI c := ⟨⟨_, _, _, _, _, h.1⟩, h.2.1, h.2.2.ty⟩
theorem cl_fits (hV : VS (n, m, v, w, fo, si, st)) (hC : CS c (n, m, v, w, fo, si, st) sg pd im) (hk : ∀ c', frm CM c c' → CS c' (n, m, v, w, fo, si, st) sg pd im → R (some (.int (fitA (n, m, v, w, fo, si, st) x))) (tab c')) : rM (rRo LL xs) (d + 13) 68 0 0 [.ref 0, .int x] (tab c) R := by
  have h0 := hC.1.1
  have htt := hC.2.1.1
  have hn := hV.1
  have hm := hV.2.1
  have hok := rd_ok hV si (Nat.le_refl _)
  obtain ⟨z0, z1, z2, z3, z4, h48⟩ := hC.2.2.2.2.2.2.2.2.2.2.1
  have h48 : c 48 = fob z0 z1 z2 z3 z4 := h48
  have hm1 : 1 ≤ m ∧ m ≤ 6 := by omega
  rw [en_X9_fits]
  simp only [s_X9_fits_0, s_X9_fits_1, s_X9_fits_4, s_X9_fits_5, s_X9_fits_8, s_X9_fits_11, s_X9_fits_12, s_X9_fits_13, s_X9_fits_16, s_X9_fits_17, s_X9_fits_20, s_X9_fits_23, s_X9_fits_24, s_X9_fits_25, s_X9_fits_28, s_X9_fits_29, s_X9_fits_32, s_X9_fits_35, s_X9_fits_36, s_X9_fits_39, s_X9_fits_42, s_X9_fits_45, s_X9_fits_47, s_X9_fits_48, s_X9_fits_49, s_X9_fits_52, s_X9_fits_55, s_X9_fits_56, s_X9_fits_59, s_X9_fits_62, s_X9_fits_63, s_X9_fits_64, gl11 h0, gl0 h0, vfi h48]
  refine sp_X3_read hV hC fun c1 f1 hF1 => ?_
  have k1 : frm [48, 49, 50, 51, 52] c c1 := f1.mono rfl
  have hC1 : CS c1 (n, m, v, w, fo, si, st) sg pd im := hC.fi k1 hF1.gfi
  have h01 := hC1.1.1
  have htt1 := hC1.2.1.1
  simp only [Option.toList_some, Option.toList_none, List.cons_append, List.nil_append, Option.toList, s_X9_fits_0, s_X9_fits_1, s_X9_fits_4, s_X9_fits_5, s_X9_fits_8, s_X9_fits_11, s_X9_fits_12, s_X9_fits_13, s_X9_fits_16, s_X9_fits_17, s_X9_fits_20, s_X9_fits_23, s_X9_fits_24, s_X9_fits_25, s_X9_fits_28, s_X9_fits_29, s_X9_fits_32, s_X9_fits_35, s_X9_fits_36, s_X9_fits_39, s_X9_fits_42, s_X9_fits_45, s_X9_fits_47, s_X9_fits_48, s_X9_fits_49, s_X9_fits_52, s_X9_fits_55, s_X9_fits_56, s_X9_fits_59, s_X9_fits_62, s_X9_fits_63, s_X9_fits_64, gl11 h01, gl0 h01, vfi hF1.1, vt_o htt1 (show 1 < 70 by decide)]
  refine ⟨fun hx => ?_, fun hx => ?_⟩
  · refine sp_X3_rows (T := (n, m, v, w, fo, si, st)) hm hn.2 hV.2.2.1 hF1 hok fun c2 f2 hF2 => ?_
    have k2 : frm [48, 49, 50, 51, 52] c c2 := k1.trans (f2.mono rfl)
    simp only [Option.toList_some, Option.toList_none, List.cons_append, List.nil_append, Option.toList, s_X9_fits_0, s_X9_fits_1, s_X9_fits_4, s_X9_fits_5, s_X9_fits_8, s_X9_fits_11, s_X9_fits_12, s_X9_fits_13, s_X9_fits_16, s_X9_fits_17, s_X9_fits_20, s_X9_fits_23, s_X9_fits_24, s_X9_fits_25, s_X9_fits_28, s_X9_fits_29, s_X9_fits_32, s_X9_fits_35, s_X9_fits_36, s_X9_fits_39, s_X9_fits_42, s_X9_fits_45, s_X9_fits_47, s_X9_fits_48, s_X9_fits_49, s_X9_fits_52, s_X9_fits_55, s_X9_fits_56, s_X9_fits_59, s_X9_fits_62, s_X9_fits_63, s_X9_fits_64]
    have := hk c2 (k2.mono rfl) (hC.fi k2 hF2.gfi)
    rw [fitA, if_pos hx, ← fitN_eq hV] at this
    exact this
  · refine sp_X6_hasMan htt1 (by decide) (by omega) ?_
    simp only [Option.toList_some, Option.toList_none, List.cons_append, List.nil_append, Option.toList, s_X9_fits_0, s_X9_fits_1, s_X9_fits_4, s_X9_fits_5, s_X9_fits_8, s_X9_fits_11, s_X9_fits_12, s_X9_fits_13, s_X9_fits_16, s_X9_fits_17, s_X9_fits_20, s_X9_fits_23, s_X9_fits_24, s_X9_fits_25, s_X9_fits_28, s_X9_fits_29, s_X9_fits_32, s_X9_fits_35, s_X9_fits_36, s_X9_fits_39, s_X9_fits_42, s_X9_fits_45, s_X9_fits_47, s_X9_fits_48, s_X9_fits_49, s_X9_fits_52, s_X9_fits_55, s_X9_fits_56, s_X9_fits_59, s_X9_fits_62, s_X9_fits_63, s_X9_fits_64, b2_0, gl11 h01, vfi hF1.1]
    refine ⟨fun hq => ?_, fun hq => ?_⟩
    · have := hk c1 (k1.mono rfl) hC1
      rw [fitA, if_neg hx, if_neg hq] at this
      exact this
    · have hq := Decidable.not_not.mp hq
      refine sp_X3_rows (T := (n, m, v, w, fo, si, st)) hm hn.2 hV.2.2.1 hF1 hok fun c2 f2 hF2 => ?_
      have k2 : frm [48, 49, 50, 51, 52] c c2 := k1.trans (f2.mono rfl)
      have hC2 : CS c2 (n, m, v, w, fo, si, st) sg pd im := hC.fi k2 hF2.gfi
      have h02 := hC2.1.1
      have hle := rwN_le (T := (n, m, v, w, fo, si, st)) (S := rdS (n, m, v, w, fo, si, st) si) hm1 hn.2
      have e0 : (nI (rwN (n, m, v, w, fo, si, st) (rdS (n, m, v, w, fo, si, st) si)) = 0) ↔ rwN (n, m, v, w, fo, si, st) (rdS (n, m, v, w, fo, si, st) si) = 0 := by rw [← nI_0]; exact sI_eq (by omega) (by decide)
      have hpos := rwN_pos (T := (n, m, v, w, fo, si, st)) (S := rdS (n, m, v, w, fo, si, st) si) hm1 hok.1
      simp only [Option.toList_some, Option.toList_none, List.cons_append, List.nil_append, Option.toList, s_X9_fits_0, s_X9_fits_1, s_X9_fits_4, s_X9_fits_5, s_X9_fits_8, s_X9_fits_11, s_X9_fits_12, s_X9_fits_13, s_X9_fits_16, s_X9_fits_17, s_X9_fits_20, s_X9_fits_23, s_X9_fits_24, s_X9_fits_25, s_X9_fits_28, s_X9_fits_29, s_X9_fits_32, s_X9_fits_35, s_X9_fits_36, s_X9_fits_39, s_X9_fits_42, s_X9_fits_45, s_X9_fits_47, s_X9_fits_48, s_X9_fits_49, s_X9_fits_52, s_X9_fits_55, s_X9_fits_56, s_X9_fits_59, s_X9_fits_62, s_X9_fits_63, s_X9_fits_64, e0, gl11 h02, vfi hF2.1]
      refine ⟨fun hz => ?_, fun hz => ?_⟩
      · have := hk c2 (k2.mono rfl) hC2
        rw [fitA, if_neg hx, if_pos hq] at this
        cases hfs : fsC (pC (n, m, v, w, fo, si, st)) (m ^ n) with
        | none => rw [show fsC (pC (n, m, v, w, fo, si, st)) ((n, m, v, w, fo, si, st).2.1 ^ (n, m, v, w, fo, si, st).1) = none from hfs] at this; exact this
        | some a =>
          obtain ⟨g1, g2, -⟩ := fsC_yes _ a hfs
          have := hpos.mpr ⟨a, g1, (pC_iff hV).mp g2⟩
          omega
      · refine sp_X3_bindFirst (T := (n, m, v, w, fo, si, st)) hm hn.2 hV.2.2.1 hF2 hok fun c3 f3 hF3 => ?_
        have k3 : frm [48, 49, 50, 51, 52] c c3 := k2.trans (f3.mono rfl)
        have hC3 : CS c3 (n, m, v, w, fo, si, st) sg pd im := hC.fi k3 hF3.gfi
        have h03 := hC3.1.1
        have := hk c3 (k3.mono rfl) hC3
        rw [fitA, if_neg hx, if_pos hq] at this
        obtain ⟨i, hi1, hi2, rfl⟩ := inR_nI hq (by decide) (by omega)
        simp only [Option.toList_some, Option.toList_none, List.cons_append, List.nil_append, Option.toList, s_X9_fits_0, s_X9_fits_1, s_X9_fits_4, s_X9_fits_5, s_X9_fits_8, s_X9_fits_11, s_X9_fits_12, s_X9_fits_13, s_X9_fits_16, s_X9_fits_17, s_X9_fits_20, s_X9_fits_23, s_X9_fits_24, s_X9_fits_25, s_X9_fits_28, s_X9_fits_29, s_X9_fits_32, s_X9_fits_35, s_X9_fits_36, s_X9_fits_39, s_X9_fits_42, s_X9_fits_45, s_X9_fits_47, s_X9_fits_48, s_X9_fits_49, s_X9_fits_52, s_X9_fits_55, s_X9_fits_56, s_X9_fits_59, s_X9_fits_62, s_X9_fits_63, s_X9_fits_64, gl11 h03, gf1 hF3.1, ai_i hF3.2.2 (show 52 < 70 by decide) (show i < 6 by omega) (by decide)]
        cases hfs : fsC (pC (n, m, v, w, fo, si, st)) (m ^ n) with
        | none =>
          obtain ⟨a, g1, g2⟩ := hpos.mp (by omega)
          have := fsC_no _ hfs a g1
          rw [(pC_iff hV).mpr g2] at this
          exact absurd this (by decide)
        | some a =>
          rw [show fsC (pC (n, m, v, w, fo, si, st)) ((n, m, v, w, fo, si, st).2.1 ^ (n, m, v, w, fo, si, st).1) = some a from hfs] at this
          obtain ⟨g1, g2, g3⟩ := fsC_yes _ a hfs
          have hsp := (bfS_spec (T := (n, m, v, w, fo, si, st)) (a := a) hm1 hok g1 ((pC_iff hV).mp g2) (fun c hc hF => by have := g3 c hc; rw [(pC_iff hV).mpr hF] at this; exact absurd this (by decide)) n (Nat.le_refl _)).2.1 i (show i < n by omega)
          rw [show (bfS (n, m, v, w, fo, si, st) (rdS (n, m, v, w, fo, si, st) si) (n, m, v, w, fo, si, st).1).1 i = rwC m n a i from hsp]
          simp only [nI_c (show i < 100000 by omega)] at this
          exact this
theorem cl_could (hV : VS (n, m, v, w, fo, si, st)) (hC : CS c (n, m, v, w, fo, si, st) sg pd im) (hk : ∀ c', frm CM c c' → CS c' (n, m, v, w, fo, si, st) sg pd im → R (some (.int (couA (n, m, v, w, fo, si, st) x))) (tab c')) : rM (rRo LL xs) (d + 13) 69 0 0 [.ref 0, .int x] (tab c) R := by
  have h0 := hC.1.1
  have htt := hC.2.1.1
  have hn := hV.1
  have hm := hV.2.1
  have hok := rd_ok hV si (Nat.le_refl _)
  obtain ⟨z0, z1, z2, z3, z4, h48⟩ := hC.2.2.2.2.2.2.2.2.2.2.1
  have h48 : c 48 = fob z0 z1 z2 z3 z4 := h48
  have hm1 : 1 ≤ m ∧ m ≤ 6 := by omega
  rw [en_X9_could]
  simp only [s_X9_could_0, s_X9_could_1, s_X9_could_4, s_X9_could_5, s_X9_could_8, s_X9_could_11, s_X9_could_12, s_X9_could_13, s_X9_could_14, s_X9_could_17, s_X9_could_18, s_X9_could_21, s_X9_could_24, s_X9_could_25, s_X9_could_28, s_X9_could_29, s_X9_could_32, gl0 h0, vt_o htt (show 1 < 70 by decide)]
  refine sp_X6_hasMan htt (by decide) (by omega) ?_
  simp only [Option.toList_some, Option.toList_none, List.cons_append, List.nil_append, Option.toList, s_X9_could_0, s_X9_could_1, s_X9_could_4, s_X9_could_5, s_X9_could_8, s_X9_could_11, s_X9_could_12, s_X9_could_13, s_X9_could_14, s_X9_could_17, s_X9_could_18, s_X9_could_21, s_X9_could_24, s_X9_could_25, s_X9_could_28, s_X9_could_29, s_X9_could_32, b2_0, gl11 h0, gl0 h0, vfi h48]
  refine ⟨fun hq => ?_, fun hq => ?_⟩
  · have := hk c frm.rf hC
    rw [couA, if_neg hq] at this
    exact this
  · have hq := Decidable.not_not.mp hq
    refine sp_X3_read hV hC fun c1 f1 hF1 => ?_
    have k1 : frm [48, 49, 50, 51, 52] c c1 := f1.mono rfl
    have hC1 : CS c1 (n, m, v, w, fo, si, st) sg pd im := hC.fi k1 hF1.gfi
    have h01 := hC1.1.1
    obtain ⟨i, hi1, hi2, rfl⟩ := inR_nI hq (by decide) (by omega)
    simp only [Option.toList_some, Option.toList_none, List.cons_append, List.nil_append, Option.toList, s_X9_could_0, s_X9_could_1, s_X9_could_4, s_X9_could_5, s_X9_could_8, s_X9_could_11, s_X9_could_12, s_X9_could_13, s_X9_could_14, s_X9_could_17, s_X9_could_18, s_X9_could_21, s_X9_could_24, s_X9_could_25, s_X9_could_28, s_X9_could_29, s_X9_could_32, gl11 h01, vfi hF1.1]
    refine sp_X3_numbersOf (T := (n, m, v, w, fo, si, st)) hm hn.2 hV.2.2.1 hF1 hok (show i < n by omega) fun c2 f2 hF2 => ?_
    have k2 : frm [48, 49, 50, 51, 52] c c2 := k1.trans (f2.mono rfl)
    simp only [Option.toList_some, Option.toList_none, List.cons_append, List.nil_append, Option.toList, s_X9_could_0, s_X9_could_1, s_X9_could_4, s_X9_could_5, s_X9_could_8, s_X9_could_11, s_X9_could_12, s_X9_could_13, s_X9_could_14, s_X9_could_17, s_X9_could_18, s_X9_could_21, s_X9_could_24, s_X9_could_25, s_X9_could_28, s_X9_could_29, s_X9_could_32]
    have := hk c2 (k2.mono rfl) (hC.fi k2 hF2.gfi)
    rw [couA, if_pos hq, nI_c (show i < 100000 by omega)] at this
    refine Eq.mp (congrArg (fun a => R (some (.int a)) (tab c2)) (orS_cg m 1 (nI 0) fun y h1 h2 => ?_)) this
    rw [Bool.eq_iff_iff, exB_iff]
    have hS1 : (rdS (n, m, v, w, fo, si, st) si).1 i ≤ m := hok.1 i
    unfold nbB
    rw [Bool.and_eq_true, decide_eq_true_eq]
    constructor
    · rintro ⟨a, g1, g2, g3⟩
      have hF := (pC_iff hV).mp g2
      have hor : (rdS (n, m, v, w, fo, si, st) si).1 i = 0 ∨ (rdS (n, m, v, w, fo, si, st) si).1 i = y := by
        rcases hF.2.1 i (show i < n by omega) with q | q
        · exact Or.inl q
        · exact Or.inr (q.symm.trans g3)
      refine ⟨by simpa using hor, (rwN_pos (T := (n, m, v, w, fo, si, st)) hm1 (bnd_ok hok (show i < n by omega) (show y ≤ m by omega)).1).mpr ⟨a, g1, ?_⟩⟩
      rw [bnd_bn hor]
      exact (bn_iff (T := (n, m, v, w, fo, si, st)) (show i < n by omega) h1).mpr ⟨hF, g3⟩
    · rintro ⟨hor, hp⟩
      have hor : (rdS (n, m, v, w, fo, si, st) si).1 i = 0 ∨ (rdS (n, m, v, w, fo, si, st) si).1 i = y := by simpa using hor
      obtain ⟨a, g1, g2⟩ := (rwN_pos (T := (n, m, v, w, fo, si, st)) hm1 (bnd_ok hok (show i < n by omega) (show y ≤ m by omega)).1).mp hp
      rw [bnd_bn hor] at g2
      have g3 := (bn_iff (T := (n, m, v, w, fo, si, st)) (show i < n by omega) h1).mp g2
      exact ⟨a, g1, (pC_iff hV).mpr g3.1, g3.2⟩
end CH
