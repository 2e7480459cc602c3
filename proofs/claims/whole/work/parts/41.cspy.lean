/-! ===== the class: spies, steps ===== -/
section CZ
variable {ro : rQ} {LL : Nat} {xs : Nat → Int32} {d : Nat} {R : rR} {c : Nat → rE} {h : rH} {n m v si sg k t : Nat} {w fo : Nat → Nat} {st pd : Nat → Int32} {im : Nat → Option TS} {x y z : Int32}
theorem pd48 {k : Nat} (hk : k ≤ 6) : (nI (48 + k) = nI 48 ↔ k = 0) ∧ ¬ nI (48 + k) = nI 63 ∧ nI (48 + k) - nI 48 = nI k ∧ (nI (48 + k)).toNatClampNeg - 48 = k := by
  refine ⟨?_, ?_, ?_, ?_⟩
  · rw [sI_eq (by omega) (by decide)]; omega
  · rw [sI_eq (by omega) (by decide)]; omega
  · rw [sI_sub (by omega), show 48 + k - 48 = k by omega]
  · rw [nI_c (by omega)]; omega
theorem sp_X9_weighPad (hV : VS (n, m, v, w, fo, si, st)) (hp : ∀ j, j < n → slp m (pd j)) (hC : CS c (n, m, v, w, fo, si, st) sg pd im) (hk : ∀ c' o', frm [25, 26, 27] c c' → CS c' (n, m, v, w, fo, si, st) sg pd im → TG c' 4 25 v m (pK (n, m, v, w, fo, si, st) pd x) (pB (n, m, v, w, fo, si, st) pd x) o' → (∀ j, 1 ≤ j → j ≤ m → o' j = gT (n, m, v, w, fo, si, st) (pK (n, m, v, w, fo, si, st) pd x) (pB (n, m, v, w, fo, si, st) pd x) j) → (∀ j, j < 7 → o' j < 2 ^ 31) → R none (tab c')) : rM (rRo LL xs) (d + 11) 83 0 0 [.ref 0, .int x] (tab c) R := by
  have h0 := hC.1.1
  have ht := hC.2.1
  have htt := ht.1
  have hpp := hC.2.2.2.1
  obtain ⟨⟨a0, a1, a2, hg⟩, hg1, hg2⟩ := hC.2.2.2.2.2.1
  have hn := hV.1
  have hm := hV.2.1
  rw [en_X9_weighPad]
  simp only [s_X9_weighPad_0, s_X9_weighPad_1, s_X9_weighPad_4, s_X9_weighPad_5, s_X9_weighPad_8, s_X9_weighPad_11, s_X9_weighPad_12, s_X9_weighPad_15, s_X9_weighPad_18, s_X9_weighPad_21, s_X9_weighPad_22, s_X9_weighPad_24, s_X9_weighPad_25, s_X9_weighPad_28, s_X9_weighPad_31, s_X9_weighPad_34, s_X9_weighPad_35, s_X9_weighPad_36, s_X9_weighPad_39, s_X9_weighPad_40, s_X9_weighPad_43, s_X9_weighPad_44, s_X9_weighPad_45, s_X9_weighPad_47, s_X9_weighPad_50, s_X9_weighPad_51, s_X9_weighPad_54, s_X9_weighPad_55, s_X9_weighPad_58, s_X9_weighPad_59, s_X9_weighPad_60, s_X9_weighPad_62, s_X9_weighPad_65, s_X9_weighPad_66, s_X9_weighPad_69, s_X9_weighPad_70, s_X9_weighPad_73, s_X9_weighPad_74, s_X9_weighPad_75, s_X9_weighPad_77, s_X9_weighPad_78, s_X9_weighPad_81, s_X9_weighPad_84, s_X9_weighPad_87, s_X9_weighPad_88, s_X9_weighPad_91, s_X9_weighPad_92, s_X9_weighPad_95, s_X9_weighPad_98, s_X9_weighPad_101, gl6 h0, gl0 h0, gt2 htt (show 1 < 70 by decide), gt1 htt (show 1 < 70 by decide), vg4 hg (show 25 < 70 by decide)]
  refine sp_X7_clear hg (Or.inl rfl) (by decide) hg1 fun c1 hf1 e1 b1 => ?_
  simp only [Option.toList_some, Option.toList_none, List.cons_append, List.nil_append, Option.toList, s_X9_weighPad_0, s_X9_weighPad_1, s_X9_weighPad_4, s_X9_weighPad_5, s_X9_weighPad_8, s_X9_weighPad_11, s_X9_weighPad_12, s_X9_weighPad_15, s_X9_weighPad_18, s_X9_weighPad_21, s_X9_weighPad_22, s_X9_weighPad_24, s_X9_weighPad_25, s_X9_weighPad_28, s_X9_weighPad_31, s_X9_weighPad_34, s_X9_weighPad_35, s_X9_weighPad_36, s_X9_weighPad_39, s_X9_weighPad_40, s_X9_weighPad_43, s_X9_weighPad_44, s_X9_weighPad_45, s_X9_weighPad_47, s_X9_weighPad_50, s_X9_weighPad_51, s_X9_weighPad_54, s_X9_weighPad_55, s_X9_weighPad_58, s_X9_weighPad_59, s_X9_weighPad_60, s_X9_weighPad_62, s_X9_weighPad_65, s_X9_weighPad_66, s_X9_weighPad_69, s_X9_weighPad_70, s_X9_weighPad_73, s_X9_weighPad_74, s_X9_weighPad_75, s_X9_weighPad_77, s_X9_weighPad_78, s_X9_weighPad_81, s_X9_weighPad_84, s_X9_weighPad_87, s_X9_weighPad_88, s_X9_weighPad_91, s_X9_weighPad_92, s_X9_weighPad_95, s_X9_weighPad_98, s_X9_weighPad_101]
  refine ⟨rfl, ?_⟩
  have lp : ∀ rem i c2 b k, i + rem = n → k ≤ i → frm [25, 26] c c2 → c2 25 = gobj 4 25 (nI v) (nI m) (nI k) → isI c2 26 7 b → jnB (padQ pd x) rem i b = pB (n, m, v, w, fo, si, st) pd x → jnK (padQ pd x) rem i k = pK (n, m, v, w, fo, si, st) pd x → rU (rRo LL xs) (d + 10) tb_X9_weighPad R 23 [.ref 0, .int x, .int (nI i)] [] (tab c2) := by
    intro rem
    induction rem with
    | zero =>
      intro i c2 b k hi hki hf e0 e1 hB hK
      have : i = n := by omega
      subst this
      rw [jnB] at hB
      rw [jnK] at hK
      subst hB
      subst hK
      have h0' := (hf 0 rfl).trans h0
      have htt' := (hf 1 rfl).trans htt
      rw [s_X9_weighPad_23]
      simp only [s_X9_weighPad_0, s_X9_weighPad_1, s_X9_weighPad_4, s_X9_weighPad_5, s_X9_weighPad_8, s_X9_weighPad_11, s_X9_weighPad_12, s_X9_weighPad_15, s_X9_weighPad_18, s_X9_weighPad_21, s_X9_weighPad_22, s_X9_weighPad_24, s_X9_weighPad_25, s_X9_weighPad_28, s_X9_weighPad_31, s_X9_weighPad_34, s_X9_weighPad_35, s_X9_weighPad_36, s_X9_weighPad_39, s_X9_weighPad_40, s_X9_weighPad_43, s_X9_weighPad_44, s_X9_weighPad_45, s_X9_weighPad_47, s_X9_weighPad_50, s_X9_weighPad_51, s_X9_weighPad_54, s_X9_weighPad_55, s_X9_weighPad_58, s_X9_weighPad_59, s_X9_weighPad_60, s_X9_weighPad_62, s_X9_weighPad_65, s_X9_weighPad_66, s_X9_weighPad_69, s_X9_weighPad_70, s_X9_weighPad_73, s_X9_weighPad_74, s_X9_weighPad_75, s_X9_weighPad_77, s_X9_weighPad_78, s_X9_weighPad_81, s_X9_weighPad_84, s_X9_weighPad_87, s_X9_weighPad_88, s_X9_weighPad_91, s_X9_weighPad_92, s_X9_weighPad_95, s_X9_weighPad_98, s_X9_weighPad_101, gl6 h0', gl0 h0', gt0 htt' (show 1 < 70 by decide), gt3 htt' (show 1 < 70 by decide), vg4 e0 (show 25 < 70 by decide)]
      refine ⟨fun _ => run25 hV hC (by omega) hf e0 e1 fun c3 o3 hf3 hC3 hT3 ho3 hb3 => ?_, fun hc => absurd ((sI_le (by omega) (by omega)).mpr (Nat.le_refl _)) hc⟩
      simp only [Option.toList_some, Option.toList_none, List.cons_append, List.nil_append, Option.toList, s_X9_weighPad_0, s_X9_weighPad_1, s_X9_weighPad_4, s_X9_weighPad_5, s_X9_weighPad_8, s_X9_weighPad_11, s_X9_weighPad_12, s_X9_weighPad_15, s_X9_weighPad_18, s_X9_weighPad_21, s_X9_weighPad_22, s_X9_weighPad_24, s_X9_weighPad_25, s_X9_weighPad_28, s_X9_weighPad_31, s_X9_weighPad_34, s_X9_weighPad_35, s_X9_weighPad_36, s_X9_weighPad_39, s_X9_weighPad_40, s_X9_weighPad_43, s_X9_weighPad_44, s_X9_weighPad_45, s_X9_weighPad_47, s_X9_weighPad_50, s_X9_weighPad_51, s_X9_weighPad_54, s_X9_weighPad_55, s_X9_weighPad_58, s_X9_weighPad_59, s_X9_weighPad_60, s_X9_weighPad_62, s_X9_weighPad_65, s_X9_weighPad_66, s_X9_weighPad_69, s_X9_weighPad_70, s_X9_weighPad_73, s_X9_weighPad_74, s_X9_weighPad_75, s_X9_weighPad_77, s_X9_weighPad_78, s_X9_weighPad_81, s_X9_weighPad_84, s_X9_weighPad_87, s_X9_weighPad_88, s_X9_weighPad_91, s_X9_weighPad_92, s_X9_weighPad_95, s_X9_weighPad_98, s_X9_weighPad_101]
      exact hk c3 o3 hf3 hC3 hT3 ho3 hb3
    | succ rem ih =>
      intro i c2 b k hi hki hf e0 e1 hB hK
      rw [jnB] at hB
      rw [jnK] at hK
      have h0' := (hf 0 rfl).trans h0
      have htt' := (hf 1 rfl).trans htt
      rw [s_X9_weighPad_23]
      simp only [s_X9_weighPad_0, s_X9_weighPad_1, s_X9_weighPad_4, s_X9_weighPad_5, s_X9_weighPad_8, s_X9_weighPad_11, s_X9_weighPad_12, s_X9_weighPad_15, s_X9_weighPad_18, s_X9_weighPad_21, s_X9_weighPad_22, s_X9_weighPad_24, s_X9_weighPad_25, s_X9_weighPad_28, s_X9_weighPad_31, s_X9_weighPad_34, s_X9_weighPad_35, s_X9_weighPad_36, s_X9_weighPad_39, s_X9_weighPad_40, s_X9_weighPad_43, s_X9_weighPad_44, s_X9_weighPad_45, s_X9_weighPad_47, s_X9_weighPad_50, s_X9_weighPad_51, s_X9_weighPad_54, s_X9_weighPad_55, s_X9_weighPad_58, s_X9_weighPad_59, s_X9_weighPad_60, s_X9_weighPad_62, s_X9_weighPad_65, s_X9_weighPad_66, s_X9_weighPad_69, s_X9_weighPad_70, s_X9_weighPad_73, s_X9_weighPad_74, s_X9_weighPad_75, s_X9_weighPad_77, s_X9_weighPad_81, s_X9_weighPad_84, s_X9_weighPad_87, s_X9_weighPad_88, s_X9_weighPad_91, s_X9_weighPad_92, s_X9_weighPad_95, s_X9_weighPad_98, s_X9_weighPad_101, gl6 h0', gl0 h0', gl3 h0', gt0 htt' (show 1 < 70 by decide), vg4 e0 (show 25 < 70 by decide), sI_le (show n < 100000 by omega) (show i < 100000 by omega), ai_i (hpp.fr hf rfl) (show 21 < 70 by decide) (show i < 48 by omega) (by decide), nI_add]
      refine ⟨fun hc => absurd hc (by omega), fun _ => ⟨fun hx => ⟨rfl, ?_⟩, fun hx => ⟨fun h48 => ⟨rfl, ?_⟩, fun h48 => ?_⟩⟩⟩
      · rw [show padQ pd x i = none by rw [padQ, if_pos hx]] at hB hK
        exact ih (i + 1) c2 b k (by omega) (by omega) hf e0 e1 hB hK
      · rw [show padQ pd x i = none by rw [padQ, if_neg hx, if_pos h48]] at hB hK
        exact ih (i + 1) c2 b k (by omega) (by omega) hf e0 e1 hB hK
      · have jn : ∀ q, q ≤ m → padQ pd x i = some q → rU (rRo LL xs) (d + 10) tb_X9_weighPad R 78 [.ref 0, .int x, .int (nI i)] [.int (nI q), .ref 25] (tab c2) := by
          intro q hq hQ
          rw [hQ] at hB hK
          simp only [s_X9_weighPad_0, s_X9_weighPad_1, s_X9_weighPad_4, s_X9_weighPad_5, s_X9_weighPad_8, s_X9_weighPad_11, s_X9_weighPad_12, s_X9_weighPad_15, s_X9_weighPad_18, s_X9_weighPad_21, s_X9_weighPad_22, s_X9_weighPad_24, s_X9_weighPad_25, s_X9_weighPad_28, s_X9_weighPad_31, s_X9_weighPad_34, s_X9_weighPad_35, s_X9_weighPad_36, s_X9_weighPad_39, s_X9_weighPad_40, s_X9_weighPad_43, s_X9_weighPad_44, s_X9_weighPad_45, s_X9_weighPad_47, s_X9_weighPad_50, s_X9_weighPad_51, s_X9_weighPad_54, s_X9_weighPad_55, s_X9_weighPad_58, s_X9_weighPad_59, s_X9_weighPad_60, s_X9_weighPad_62, s_X9_weighPad_65, s_X9_weighPad_66, s_X9_weighPad_69, s_X9_weighPad_70, s_X9_weighPad_73, s_X9_weighPad_74, s_X9_weighPad_75, s_X9_weighPad_77, s_X9_weighPad_78, s_X9_weighPad_81, s_X9_weighPad_84, s_X9_weighPad_87, s_X9_weighPad_88, s_X9_weighPad_91, s_X9_weighPad_92, s_X9_weighPad_95, s_X9_weighPad_98, s_X9_weighPad_101, vg4 e0 (show 25 < 70 by decide)]
          refine sp_X7_join e0 (Or.inl rfl) (by decide) e1 hm.2 hq fun c3 hf3 e03 e13 => ?_
          simp only [Option.toList_some, Option.toList_none, List.cons_append, List.nil_append, Option.toList, s_X9_weighPad_0, s_X9_weighPad_1, s_X9_weighPad_4, s_X9_weighPad_5, s_X9_weighPad_8, s_X9_weighPad_11, s_X9_weighPad_12, s_X9_weighPad_15, s_X9_weighPad_18, s_X9_weighPad_21, s_X9_weighPad_22, s_X9_weighPad_24, s_X9_weighPad_25, s_X9_weighPad_28, s_X9_weighPad_31, s_X9_weighPad_34, s_X9_weighPad_35, s_X9_weighPad_36, s_X9_weighPad_39, s_X9_weighPad_40, s_X9_weighPad_43, s_X9_weighPad_44, s_X9_weighPad_45, s_X9_weighPad_47, s_X9_weighPad_50, s_X9_weighPad_51, s_X9_weighPad_54, s_X9_weighPad_55, s_X9_weighPad_58, s_X9_weighPad_59, s_X9_weighPad_60, s_X9_weighPad_62, s_X9_weighPad_65, s_X9_weighPad_66, s_X9_weighPad_69, s_X9_weighPad_70, s_X9_weighPad_73, s_X9_weighPad_74, s_X9_weighPad_75, s_X9_weighPad_77, s_X9_weighPad_78, s_X9_weighPad_81, s_X9_weighPad_84, s_X9_weighPad_87, s_X9_weighPad_88, s_X9_weighPad_91, s_X9_weighPad_92, s_X9_weighPad_95, s_X9_weighPad_98, s_X9_weighPad_101, nI_add]
          refine ⟨rfl, ?_⟩
          by_cases hz : q = 0
          · rw [hz] at hB hK
            rw [if_pos hz] at e03 e13
            exact ih (i + 1) c3 b (k + 1) (by omega) (by omega) (hf.trans hf3) e03 e13 hB hK
          · obtain ⟨y, hy⟩ : ∃ y, q = y + 1 := ⟨q - 1, by omega⟩
            rw [if_neg hz] at e03 e13
            rw [hy] at hB hK e13
            exact ih (i + 1) c3 _ k (by omega) (by omega) (hf.trans hf3) e03 e13 hB hK
        refine ⟨fun h63 => jn 0 (by omega) (by rw [padQ, if_neg hx, if_neg h48, if_pos h63]), fun h63 => ?_⟩
        obtain ⟨q, hq1, hq2⟩ := (slp_cs hm.2 (hp i (by omega))).resolve_left h63
        have hq3 := pd48 (show q ≤ 6 by omega)
        rw [hq2, hq3.2.2.1]
        exact jn q hq1 (by rw [padQ, if_neg hx, if_neg h48, if_neg h63, hq2, hq3.2.2.2])
  exact lp n 0 c1 zrB 0 (by omega) (Nat.le_refl _) hf1 e1 b1 rfl rfl
theorem pK_le {T : TS} (h : T.1 ≤ 6) : pK T pd x ≤ 6 := by
  have := jnK_le (padQ pd x) T.1 0 0
  unfold pK
  omega
theorem cl_spy (hV : VS (n, m, v, w, fo, si, st)) (hs : sg ≤ 48) (hC : CS c (n, m, v, w, fo, si, st) sg pd im) (hk : ∀ c', frm CM c c' → CS c' (n, m, v, w, fo, si, st) sg pd im → R (some (.int (spyA (n, m, v, w, fo, si, st) sg pd x))) (tab c')) : rM (rRo LL xs) (d + 12) 61 0 0 [.ref 0, .int x] (tab c) R := by
  have h0 := hC.1.1
  have htt := hC.2.1.1
  have hn := hV.1
  rw [en_X9_spy]
  simp only [s_X9_spy_0, s_X9_spy_1, s_X9_spy_4, s_X9_spy_5, s_X9_spy_8, s_X9_spy_11, s_X9_spy_12, s_X9_spy_13, s_X9_spy_14, s_X9_spy_17, s_X9_spy_19, s_X9_spy_22, s_X9_spy_24, s_X9_spy_25, s_X9_spy_26, s_X9_spy_27, s_X9_spy_30, s_X9_spy_31, s_X9_spy_34, s_X9_spy_37, gl0 h0, vt_o htt (show 1 < 70 by decide)]
  refine sp_X6_hasMan htt (by decide) (by omega) ?_
  simp only [Option.toList_some, Option.toList_none, List.cons_append, List.nil_append, Option.toList, s_X9_spy_0, s_X9_spy_1, s_X9_spy_4, s_X9_spy_5, s_X9_spy_8, s_X9_spy_11, s_X9_spy_12, s_X9_spy_13, s_X9_spy_14, s_X9_spy_17, s_X9_spy_19, s_X9_spy_22, s_X9_spy_24, s_X9_spy_25, s_X9_spy_26, s_X9_spy_27, s_X9_spy_30, s_X9_spy_31, s_X9_spy_34, s_X9_spy_37, b2_0, vl_o h0]
  refine ⟨fun hx => ?_, fun hx => cl_fault hV hs hC ?_⟩
  · have := hk c frm.rf hC
    rw [spyA, if_neg hx] at this
    exact this
  have hx := Decidable.not_not.mp hx
  simp only [Option.toList_some, Option.toList_none, List.cons_append, List.nil_append, Option.toList, s_X9_spy_0, s_X9_spy_1, s_X9_spy_4, s_X9_spy_5, s_X9_spy_8, s_X9_spy_11, s_X9_spy_12, s_X9_spy_13, s_X9_spy_14, s_X9_spy_17, s_X9_spy_19, s_X9_spy_22, s_X9_spy_24, s_X9_spy_25, s_X9_spy_26, s_X9_spy_27, s_X9_spy_30, s_X9_spy_31, s_X9_spy_34, s_X9_spy_37, vl_o h0]
  refine ⟨fun hf => sp_X9_weighPad hV (flt_no hn.1 hs hf).2 hC fun c1 o1 hf1 hC1 hT1 ho1 hb1 => ?_, fun hf => ?_⟩
  · have h01 := hC1.1.1
    have hw1 := hk c1 (hf1.mono rfl) hC1
    rw [spyA, if_pos hx, if_pos hf] at hw1
    simp only [Option.toList_some, Option.toList_none, List.cons_append, List.nil_append, Option.toList, s_X9_spy_0, s_X9_spy_1, s_X9_spy_4, s_X9_spy_5, s_X9_spy_8, s_X9_spy_11, s_X9_spy_12, s_X9_spy_13, s_X9_spy_14, s_X9_spy_17, s_X9_spy_19, s_X9_spy_22, s_X9_spy_24, s_X9_spy_25, s_X9_spy_26, s_X9_spy_27, s_X9_spy_30, s_X9_spy_31, s_X9_spy_34, s_X9_spy_37, gl6 h01, vg4 hT1.1 (show 25 < 70 by decide)]
    refine sp_X4_top hT1 (by decide) hV.2.1 hb1 ?_
    simp only [Option.toList_some, Option.toList_none, List.cons_append, List.nil_append, Option.toList, s_X9_spy_0, s_X9_spy_1, s_X9_spy_4, s_X9_spy_5, s_X9_spy_8, s_X9_spy_11, s_X9_spy_12, s_X9_spy_13, s_X9_spy_14, s_X9_spy_17, s_X9_spy_19, s_X9_spy_22, s_X9_spy_24, s_X9_spy_25, s_X9_spy_26, s_X9_spy_27, s_X9_spy_30, s_X9_spy_31, s_X9_spy_34, s_X9_spy_37]
    rw [topF_cg (fun j h1 h2 => ho1 j h1 h2)]
    exact hw1
  · have := hk c frm.rf hC
    rw [spyA, if_pos hx, if_neg hf] at this
    exact this
theorem cl_spied (hV : VS (n, m, v, w, fo, si, st)) (hs : sg ≤ 48) (hC : CS c (n, m, v, w, fo, si, st) sg pd im) (hk : ∀ c', frm CM c c' → CS c' (n, m, v, w, fo, si, st) sg pd im → R (some (.long (spiA (n, m, v, w, fo, si, st) sg pd x y))) (tab c')) : rM (rRo LL xs) (d + 12) 62 0 0 [.ref 0, .int x, .int y] (tab c) R := by
  have h0 := hC.1.1
  have htt := hC.2.1.1
  have hn := hV.1
  have hm := hV.2.1
  rw [en_X9_spied]
  simp only [s_X9_spied_0, s_X9_spied_1, s_X9_spied_4, s_X9_spied_5, s_X9_spied_8, s_X9_spied_11, s_X9_spied_14, s_X9_spied_15, s_X9_spied_16, s_X9_spied_19, s_X9_spied_22, s_X9_spied_25, s_X9_spied_26, s_X9_spied_27, s_X9_spied_30, s_X9_spied_32, s_X9_spied_35, s_X9_spied_38, s_X9_spied_39, s_X9_spied_40, s_X9_spied_41, s_X9_spied_44, s_X9_spied_45, s_X9_spied_48, s_X9_spied_51, s_X9_spied_52, s_X9_spied_55, s_X9_spied_58, s_X9_spied_59, s_X9_spied_60, s_X9_spied_61, s_X9_spied_64, s_X9_spied_67, s_X9_spied_70, s_X9_spied_71, s_X9_spied_74, gl0 h0, vt_o htt (show 1 < 70 by decide)]
  refine sp_X6_hasMan htt (by decide) (by omega) ?_
  simp only [Option.toList_some, Option.toList_none, List.cons_append, List.nil_append, Option.toList, s_X9_spied_0, s_X9_spied_1, s_X9_spied_4, s_X9_spied_5, s_X9_spied_8, s_X9_spied_11, s_X9_spied_14, s_X9_spied_15, s_X9_spied_16, s_X9_spied_19, s_X9_spied_22, s_X9_spied_25, s_X9_spied_26, s_X9_spied_27, s_X9_spied_30, s_X9_spied_32, s_X9_spied_35, s_X9_spied_38, s_X9_spied_39, s_X9_spied_40, s_X9_spied_41, s_X9_spied_44, s_X9_spied_45, s_X9_spied_48, s_X9_spied_51, s_X9_spied_52, s_X9_spied_55, s_X9_spied_58, s_X9_spied_59, s_X9_spied_60, s_X9_spied_61, s_X9_spied_64, s_X9_spied_67, s_X9_spied_70, s_X9_spied_71, s_X9_spied_74, b2_0]
  refine ⟨fun hx => ?_, fun hx => sp_X9_isBit ?_⟩
  · have := hk c frm.rf hC
    rw [spiA, if_neg hx] at this
    exact this
  have hx := Decidable.not_not.mp hx
  simp only [Option.toList_some, Option.toList_none, List.cons_append, List.nil_append, Option.toList, s_X9_spied_0, s_X9_spied_1, s_X9_spied_4, s_X9_spied_5, s_X9_spied_8, s_X9_spied_11, s_X9_spied_14, s_X9_spied_15, s_X9_spied_16, s_X9_spied_19, s_X9_spied_22, s_X9_spied_25, s_X9_spied_26, s_X9_spied_27, s_X9_spied_30, s_X9_spied_32, s_X9_spied_35, s_X9_spied_38, s_X9_spied_39, s_X9_spied_40, s_X9_spied_41, s_X9_spied_44, s_X9_spied_45, s_X9_spied_48, s_X9_spied_51, s_X9_spied_52, s_X9_spied_55, s_X9_spied_58, s_X9_spied_59, s_X9_spied_60, s_X9_spied_61, s_X9_spied_64, s_X9_spied_67, s_X9_spied_70, s_X9_spied_71, s_X9_spied_74, b2_0, vl_o h0]
  refine ⟨fun hy => ?_, fun hy => cl_fault hV hs hC ?_⟩
  · have := hk c frm.rf hC
    rw [spiA, if_pos hx, if_neg hy] at this
    exact this
  have hy := Decidable.not_not.mp hy
  simp only [Option.toList_some, Option.toList_none, List.cons_append, List.nil_append, Option.toList, s_X9_spied_0, s_X9_spied_1, s_X9_spied_4, s_X9_spied_5, s_X9_spied_8, s_X9_spied_11, s_X9_spied_14, s_X9_spied_15, s_X9_spied_16, s_X9_spied_19, s_X9_spied_22, s_X9_spied_25, s_X9_spied_26, s_X9_spied_27, s_X9_spied_30, s_X9_spied_32, s_X9_spied_35, s_X9_spied_38, s_X9_spied_39, s_X9_spied_40, s_X9_spied_41, s_X9_spied_44, s_X9_spied_45, s_X9_spied_48, s_X9_spied_51, s_X9_spied_52, s_X9_spied_55, s_X9_spied_58, s_X9_spied_59, s_X9_spied_60, s_X9_spied_61, s_X9_spied_64, s_X9_spied_67, s_X9_spied_70, s_X9_spied_71, s_X9_spied_74, vl_o h0]
  refine ⟨fun hf => sp_X9_weighPad hV (flt_no hn.1 hs hf).2 hC fun c1 o1 hf1 hC1 hT1 ho1 hb1 => ?_, fun hf => ?_⟩
  · have h01 := hC1.1.1
    have hw1 := hk c1 (hf1.mono rfl) hC1
    rw [spiA, if_pos hx, if_pos hy, if_pos hf] at hw1
    have hko := pK_le (T := (n, m, v, w, fo, si, st)) (pd := pd) (x := x) hn.2
    have htm := topF_mem o1 hm.1
    simp only [Option.toList_some, Option.toList_none, List.cons_append, List.nil_append, Option.toList, s_X9_spied_0, s_X9_spied_1, s_X9_spied_4, s_X9_spied_5, s_X9_spied_8, s_X9_spied_11, s_X9_spied_14, s_X9_spied_15, s_X9_spied_16, s_X9_spied_19, s_X9_spied_22, s_X9_spied_25, s_X9_spied_26, s_X9_spied_27, s_X9_spied_30, s_X9_spied_32, s_X9_spied_35, s_X9_spied_38, s_X9_spied_39, s_X9_spied_40, s_X9_spied_41, s_X9_spied_44, s_X9_spied_45, s_X9_spied_48, s_X9_spied_51, s_X9_spied_52, s_X9_spied_55, s_X9_spied_58, s_X9_spied_59, s_X9_spied_60, s_X9_spied_61, s_X9_spied_64, s_X9_spied_67, s_X9_spied_70, s_X9_spied_71, s_X9_spied_74, gl6 h01, vg4 hT1.1 (show 25 < 70 by decide), gg1 (cs := [4]) hT1.1 (show 25 < 70 by decide) rfl]
    refine sp_X4_top hT1 (by decide) hV.2.1 hb1 ?_
    simp only [Option.toList_some, Option.toList_none, List.cons_append, List.nil_append, Option.toList, s_X9_spied_0, s_X9_spied_1, s_X9_spied_4, s_X9_spied_5, s_X9_spied_8, s_X9_spied_11, s_X9_spied_14, s_X9_spied_15, s_X9_spied_16, s_X9_spied_19, s_X9_spied_22, s_X9_spied_25, s_X9_spied_26, s_X9_spied_27, s_X9_spied_30, s_X9_spied_32, s_X9_spied_35, s_X9_spied_38, s_X9_spied_39, s_X9_spied_40, s_X9_spied_41, s_X9_spied_44, s_X9_spied_45, s_X9_spied_48, s_X9_spied_51, s_X9_spied_52, s_X9_spied_55, s_X9_spied_58, s_X9_spied_59, s_X9_spied_60, s_X9_spied_61, s_X9_spied_64, s_X9_spied_67, s_X9_spied_70, s_X9_spied_71, s_X9_spied_74, gl6 h01, gg4 (cs := [4]) hT1.1 (show 25 < 70 by decide) rfl, al_i hT1.2.2 (show 25 + 2 < 70 by decide) (show topF o1 m < 7 by omega) (by decide), vl_o h01]
    refine sp_X9_lower hV hC1 (by omega) ?_
    simp only [Option.toList_some, Option.toList_none, List.cons_append, List.nil_append, Option.toList, s_X9_spied_0, s_X9_spied_1, s_X9_spied_4, s_X9_spied_5, s_X9_spied_8, s_X9_spied_11, s_X9_spied_14, s_X9_spied_15, s_X9_spied_16, s_X9_spied_19, s_X9_spied_22, s_X9_spied_25, s_X9_spied_26, s_X9_spied_27, s_X9_spied_30, s_X9_spied_32, s_X9_spied_35, s_X9_spied_38, s_X9_spied_39, s_X9_spied_40, s_X9_spied_41, s_X9_spied_44, s_X9_spied_45, s_X9_spied_48, s_X9_spied_51, s_X9_spied_52, s_X9_spied_55, s_X9_spied_58, s_X9_spied_59, s_X9_spied_60, s_X9_spied_61, s_X9_spied_64, s_X9_spied_67, s_X9_spied_70, s_X9_spied_71, s_X9_spied_74]
    refine sp_X9_lowest (by have := hb1 (topF o1 m) (by omega); omega) (low_lt hV.2.2.2.2.2.2.1.2 (by omega) (tm_le v).2) (low_pos hV.2.2.2.2.2.2.1.1 (tm_le v).1) ?_
    simp only [Option.toList_some, Option.toList_none, List.cons_append, List.nil_append, Option.toList, s_X9_spied_0, s_X9_spied_1, s_X9_spied_4, s_X9_spied_5, s_X9_spied_8, s_X9_spied_11, s_X9_spied_14, s_X9_spied_15, s_X9_spied_16, s_X9_spied_19, s_X9_spied_22, s_X9_spied_25, s_X9_spied_26, s_X9_spied_27, s_X9_spied_30, s_X9_spied_32, s_X9_spied_35, s_X9_spied_38, s_X9_spied_39, s_X9_spied_40, s_X9_spied_41, s_X9_spied_44, s_X9_spied_45, s_X9_spied_48, s_X9_spied_51, s_X9_spied_52, s_X9_spied_55, s_X9_spied_58, s_X9_spied_59, s_X9_spied_60, s_X9_spied_61, s_X9_spied_64, s_X9_spied_67, s_X9_spied_70, s_X9_spied_71, s_X9_spied_74]
    rw [ho1 _ htm.1 htm.2, topF_cg (fun j h1 h2 => ho1 j h1 h2)]
    exact hw1
  · have := hk c frm.rf hC
    rw [spiA, if_pos hx, if_pos hy, if_neg hf] at this
    exact this
theorem cl_steps (hV : VS (n, m, v, w, fo, si, st)) (hC : CS c (n, m, v, w, fo, si, st) sg pd im) (hk : ∀ c', frm CM c c' → CS c' (n, m, v, w, fo, si, st) sg pd im → R (some (.int (stpA (n, m, v, w, fo, si, st) x))) (tab c')) : rM (rRo LL xs) (d + 12) 63 0 0 [.ref 0, .int x] (tab c) R := by
  have hn := hV.1
  have hm := hV.2.1
  have no : ¬ inR 1 20 x → R (some (.int (- nI 2))) (tab c) := fun q => by
    have := hk c frm.rf hC
    rw [stpA, if_neg q] at this
    exact this
  rw [en_X9_steps]
  simp only [s_X9_steps_0, s_X9_steps_1, s_X9_steps_2, s_X9_steps_5, s_X9_steps_6, s_X9_steps_8, s_X9_steps_11, s_X9_steps_13, s_X9_steps_14, s_X9_steps_15, s_X9_steps_16, s_X9_steps_17, s_X9_steps_19, s_X9_steps_20, s_X9_steps_23, s_X9_steps_24, s_X9_steps_27, s_X9_steps_28, s_X9_steps_31, s_X9_steps_34, s_X9_steps_35, s_X9_steps_38, s_X9_steps_41, s_X9_steps_44, s_X9_steps_45, s_X9_steps_49, s_X9_steps_50, s_X9_steps_53, s_X9_steps_56, s_X9_steps_59, s_X9_steps_60, s_X9_steps_63, s_X9_steps_64, s_X9_steps_67, s_X9_steps_70, s_X9_steps_73, s_X9_steps_74, s_X9_steps_77, s_X9_steps_78, s_X9_steps_81, s_X9_steps_84, s_X9_steps_87, s_X9_steps_88, s_X9_steps_91, s_X9_steps_94, s_X9_steps_95, s_X9_steps_98, s_X9_steps_101, s_X9_steps_102]
  refine ⟨fun hx1 => no (fun q => absurd q.1 (Int32.not_le.mpr hx1)), fun hx1 => ⟨fun hx2 => ?_, fun hx2 => no (fun q => hx2 q.2)⟩⟩
  have hx : inR 1 20 x := ⟨Int32.not_lt.mp hx1, hx2⟩
  obtain ⟨a, ha1, ha2, rfl⟩ := inR_nI hx (by decide) (by decide)
  refine ⟨rfl, rfl, ?_⟩
  have lp2 : ∀ rem i q (l3 : Int32) c0 c2 b k, q ≤ m → i + rem = n → 1 ≤ i → k < i → frm [25, 26, 27] c c0 → CS c0 (n, m, v, w, fo, si, st) sg pd im → frm [25, 26] c0 c2 → c2 25 = gobj 4 25 (nI v) (nI m) (nI k) → isI c2 26 7 b → jnB (fun _ => some q) rem i b = sB (n, m, v, w, fo, si, st) q → jnK (fun _ => some q) rem i k = sK (n, m, v, w, fo, si, st) q →
      (∀ c3, frm [25, 26, 27] c c3 → CS c3 (n, m, v, w, fo, si, st) sg pd im → rU (rRo LL xs) (d + 11) tb_X9_steps R 95 [.ref 0, .int (nI a), .int (nI (topF (gT (n, m, v, w, fo, si, st) (sK (n, m, v, w, fo, si, st) q) (sB (n, m, v, w, fo, si, st) q)) m)), .int l3, .int (nI n)] [] (tab c3)) →
      rU (rRo LL xs) (d + 11) tb_X9_steps R 47 [.ref 0, .int (nI a), .int (nI q), .int l3, .int (nI i)] [] (tab c2) := by
    intro rem
    induction rem with
    | zero =>
      intro i q l3 c0 c2 b k hq hi hi1 hki hf0 hC0 hf e0 e1 hB hK hgo
      have : i = n := by omega
      subst this
      rw [jnB] at hB
      rw [jnK] at hK
      subst hB
      subst hK
      have h0' := (hf 0 rfl).trans hC0.1.1
      have htt' := (hf 1 rfl).trans hC0.2.1.1
      rw [s_X9_steps_47]
      simp only [s_X9_steps_0, s_X9_steps_1, s_X9_steps_2, s_X9_steps_5, s_X9_steps_6, s_X9_steps_8, s_X9_steps_11, s_X9_steps_13, s_X9_steps_14, s_X9_steps_15, s_X9_steps_16, s_X9_steps_17, s_X9_steps_19, s_X9_steps_20, s_X9_steps_23, s_X9_steps_24, s_X9_steps_27, s_X9_steps_28, s_X9_steps_31, s_X9_steps_34, s_X9_steps_35, s_X9_steps_38, s_X9_steps_41, s_X9_steps_44, s_X9_steps_45, s_X9_steps_49, s_X9_steps_50, s_X9_steps_53, s_X9_steps_56, s_X9_steps_59, s_X9_steps_60, s_X9_steps_63, s_X9_steps_64, s_X9_steps_67, s_X9_steps_70, s_X9_steps_73, s_X9_steps_74, s_X9_steps_77, s_X9_steps_78, s_X9_steps_81, s_X9_steps_84, s_X9_steps_87, s_X9_steps_88, s_X9_steps_91, s_X9_steps_94, s_X9_steps_98, s_X9_steps_101, s_X9_steps_102, gl6 h0', gl0 h0', gt0 htt' (show 1 < 70 by decide), gt3 htt' (show 1 < 70 by decide), vg4 e0 (show 25 < 70 by decide)]
      refine ⟨fun _ => run25 hV hC0 (by omega) hf e0 e1 fun c3 o3 hf3 hC3 hT3 ho3 hb3 => ?_, fun hc => absurd ((sI_le (by omega) (by omega)).mpr (Nat.le_refl _)) hc⟩
      have h03 := hC3.1.1
      simp only [Option.toList_some, Option.toList_none, List.cons_append, List.nil_append, Option.toList, s_X9_steps_0, s_X9_steps_1, s_X9_steps_2, s_X9_steps_5, s_X9_steps_6, s_X9_steps_8, s_X9_steps_11, s_X9_steps_13, s_X9_steps_14, s_X9_steps_15, s_X9_steps_16, s_X9_steps_17, s_X9_steps_19, s_X9_steps_20, s_X9_steps_23, s_X9_steps_24, s_X9_steps_27, s_X9_steps_28, s_X9_steps_31, s_X9_steps_34, s_X9_steps_35, s_X9_steps_38, s_X9_steps_41, s_X9_steps_44, s_X9_steps_45, s_X9_steps_49, s_X9_steps_50, s_X9_steps_53, s_X9_steps_56, s_X9_steps_59, s_X9_steps_60, s_X9_steps_63, s_X9_steps_64, s_X9_steps_67, s_X9_steps_70, s_X9_steps_73, s_X9_steps_74, s_X9_steps_77, s_X9_steps_78, s_X9_steps_81, s_X9_steps_84, s_X9_steps_87, s_X9_steps_88, s_X9_steps_91, s_X9_steps_94, s_X9_steps_98, s_X9_steps_101, s_X9_steps_102, gl6 h03, vg4 hT3.1 (show 25 < 70 by decide)]
      refine sp_X4_top hT3 (by decide) hm hb3 ?_
      simp only [Option.toList_some, Option.toList_none, List.cons_append, List.nil_append, Option.toList, s_X9_steps_0, s_X9_steps_1, s_X9_steps_2, s_X9_steps_5, s_X9_steps_6, s_X9_steps_8, s_X9_steps_11, s_X9_steps_13, s_X9_steps_14, s_X9_steps_15, s_X9_steps_16, s_X9_steps_17, s_X9_steps_19, s_X9_steps_20, s_X9_steps_23, s_X9_steps_24, s_X9_steps_27, s_X9_steps_28, s_X9_steps_31, s_X9_steps_34, s_X9_steps_35, s_X9_steps_38, s_X9_steps_41, s_X9_steps_44, s_X9_steps_45, s_X9_steps_49, s_X9_steps_50, s_X9_steps_53, s_X9_steps_56, s_X9_steps_59, s_X9_steps_60, s_X9_steps_63, s_X9_steps_64, s_X9_steps_67, s_X9_steps_70, s_X9_steps_73, s_X9_steps_74, s_X9_steps_77, s_X9_steps_78, s_X9_steps_81, s_X9_steps_84, s_X9_steps_87, s_X9_steps_88, s_X9_steps_91, s_X9_steps_94, s_X9_steps_98, s_X9_steps_101, s_X9_steps_102]
      refine ⟨rfl, ?_⟩
      rw [topF_cg (fun j h1 h2 => ho3 j h1 h2)]
      exact hgo c3 (hf0.trans hf3) hC3
    | succ rem ih =>
      intro i q l3 c0 c2 b k hq hi hi1 hki hf0 hC0 hf e0 e1 hB hK hgo
      rw [jnB] at hB
      rw [jnK] at hK
      have h0' := (hf 0 rfl).trans hC0.1.1
      have htt' := (hf 1 rfl).trans hC0.2.1.1
      rw [s_X9_steps_47]
      simp only [s_X9_steps_0, s_X9_steps_1, s_X9_steps_2, s_X9_steps_5, s_X9_steps_6, s_X9_steps_8, s_X9_steps_11, s_X9_steps_13, s_X9_steps_14, s_X9_steps_15, s_X9_steps_16, s_X9_steps_17, s_X9_steps_19, s_X9_steps_20, s_X9_steps_23, s_X9_steps_24, s_X9_steps_27, s_X9_steps_28, s_X9_steps_31, s_X9_steps_34, s_X9_steps_35, s_X9_steps_38, s_X9_steps_41, s_X9_steps_44, s_X9_steps_45, s_X9_steps_49, s_X9_steps_50, s_X9_steps_53, s_X9_steps_56, s_X9_steps_59, s_X9_steps_60, s_X9_steps_63, s_X9_steps_64, s_X9_steps_67, s_X9_steps_70, s_X9_steps_73, s_X9_steps_74, s_X9_steps_77, s_X9_steps_78, s_X9_steps_81, s_X9_steps_84, s_X9_steps_87, s_X9_steps_88, s_X9_steps_91, s_X9_steps_94, s_X9_steps_98, s_X9_steps_101, s_X9_steps_102, gl6 h0', gl0 h0', gt0 htt' (show 1 < 70 by decide), vg4 e0 (show 25 < 70 by decide), sI_le (show n < 100000 by omega) (show i < 100000 by omega)]
      refine ⟨fun hc => absurd hc (by omega), fun _ => sp_X7_join e0 (Or.inl rfl) (by decide) e1 hm.2 hq fun c3 hf3 e03 e13 => ?_⟩
      simp only [Option.toList_some, Option.toList_none, List.cons_append, List.nil_append, Option.toList, s_X9_steps_0, s_X9_steps_1, s_X9_steps_2, s_X9_steps_5, s_X9_steps_6, s_X9_steps_8, s_X9_steps_11, s_X9_steps_13, s_X9_steps_14, s_X9_steps_15, s_X9_steps_16, s_X9_steps_17, s_X9_steps_19, s_X9_steps_20, s_X9_steps_23, s_X9_steps_24, s_X9_steps_27, s_X9_steps_28, s_X9_steps_31, s_X9_steps_34, s_X9_steps_35, s_X9_steps_38, s_X9_steps_41, s_X9_steps_44, s_X9_steps_45, s_X9_steps_49, s_X9_steps_50, s_X9_steps_53, s_X9_steps_56, s_X9_steps_59, s_X9_steps_60, s_X9_steps_63, s_X9_steps_64, s_X9_steps_67, s_X9_steps_70, s_X9_steps_73, s_X9_steps_74, s_X9_steps_77, s_X9_steps_78, s_X9_steps_81, s_X9_steps_84, s_X9_steps_87, s_X9_steps_88, s_X9_steps_91, s_X9_steps_94, s_X9_steps_98, s_X9_steps_101, s_X9_steps_102, nI_add]
      refine ⟨rfl, ?_⟩
      by_cases hz : q = 0
      · subst hz
        rw [if_pos rfl] at e03 e13
        exact ih (i + 1) 0 l3 c0 c3 b (k + 1) hq (by omega) (by omega) (by omega) hf0 hC0 (hf.trans hf3) e03 e13 hB hK hgo
      · obtain ⟨y, rfl⟩ : ∃ y, q = y + 1 := ⟨q - 1, by omega⟩
        rw [if_neg hz] at e03 e13
        exact ih (i + 1) (y + 1) l3 c0 c3 _ k hq (by omega) (by omega) (by omega) hf0 hC0 (hf.trans hf3) e03 e13 hB hK hgo
  have lp : ∀ rem i c1 (l4 : Value), i + rem = a → frm [25, 26, 27] c c1 → CS c1 (n, m, v, w, fo, si, st) sg pd im → rU (rRo LL xs) (d + 11) tb_X9_steps R 18 [.ref 0, .int (nI a), .int (nI (stN (n, m, v, w, fo, si, st) i)), .int (nI (i + 1)), l4] [] (tab c1) := by
    intro rem
    induction rem with
    | zero =>
      intro i c1 l4 hi hf hC1
      have : i = a := by omega
      subst this
      rw [s_X9_steps_18]
      simp only [s_X9_steps_0, s_X9_steps_1, s_X9_steps_2, s_X9_steps_5, s_X9_steps_6, s_X9_steps_8, s_X9_steps_11, s_X9_steps_13, s_X9_steps_14, s_X9_steps_15, s_X9_steps_16, s_X9_steps_17, s_X9_steps_19, s_X9_steps_20, s_X9_steps_23, s_X9_steps_24, s_X9_steps_27, s_X9_steps_28, s_X9_steps_31, s_X9_steps_34, s_X9_steps_35, s_X9_steps_38, s_X9_steps_41, s_X9_steps_44, s_X9_steps_45, s_X9_steps_49, s_X9_steps_50, s_X9_steps_53, s_X9_steps_56, s_X9_steps_59, s_X9_steps_60, s_X9_steps_63, s_X9_steps_64, s_X9_steps_67, s_X9_steps_70, s_X9_steps_73, s_X9_steps_74, s_X9_steps_77, s_X9_steps_78, s_X9_steps_81, s_X9_steps_84, s_X9_steps_87, s_X9_steps_88, s_X9_steps_91, s_X9_steps_94, s_X9_steps_95, s_X9_steps_98, s_X9_steps_101, s_X9_steps_102]
      refine ⟨fun _ => ?_, fun hc => absurd ((sI_lt (by omega) (by omega)).mpr (Nat.lt_succ_self _)) hc⟩
      have := hk c1 (hf.mono rfl) hC1
      rw [stpA, if_pos hx, nI_c (by omega)] at this
      exact this
    | succ rem ih =>
      intro i c1 l4 hi hf hC1
      have h01 := hC1.1.1
      have htt := hC1.2.1.1
      obtain ⟨⟨a0, a1, a2, hg⟩, hg1, hg2⟩ := hC1.2.2.2.2.2.1
      rw [s_X9_steps_18]
      simp only [s_X9_steps_0, s_X9_steps_1, s_X9_steps_2, s_X9_steps_5, s_X9_steps_6, s_X9_steps_8, s_X9_steps_11, s_X9_steps_13, s_X9_steps_14, s_X9_steps_15, s_X9_steps_16, s_X9_steps_17, s_X9_steps_19, s_X9_steps_20, s_X9_steps_23, s_X9_steps_24, s_X9_steps_27, s_X9_steps_28, s_X9_steps_31, s_X9_steps_34, s_X9_steps_35, s_X9_steps_38, s_X9_steps_41, s_X9_steps_44, s_X9_steps_45, s_X9_steps_49, s_X9_steps_50, s_X9_steps_53, s_X9_steps_56, s_X9_steps_59, s_X9_steps_60, s_X9_steps_63, s_X9_steps_64, s_X9_steps_67, s_X9_steps_70, s_X9_steps_73, s_X9_steps_74, s_X9_steps_77, s_X9_steps_78, s_X9_steps_81, s_X9_steps_84, s_X9_steps_87, s_X9_steps_88, s_X9_steps_91, s_X9_steps_94, s_X9_steps_95, s_X9_steps_98, s_X9_steps_101, s_X9_steps_102, gl6 h01, gl0 h01, gt2 htt (show 1 < 70 by decide), gt1 htt (show 1 < 70 by decide), vg4 hg (show 25 < 70 by decide), sI_lt (show a < 100000 by omega) (show i + 1 < 100000 by omega)]
      refine ⟨fun hc => absurd hc (by omega), fun _ => sp_X7_clear hg (Or.inl rfl) (by decide) hg1 fun c2 hf2 e2 b2 => ?_⟩
      simp only [Option.toList_some, Option.toList_none, List.cons_append, List.nil_append, Option.toList, s_X9_steps_0, s_X9_steps_1, s_X9_steps_2, s_X9_steps_5, s_X9_steps_6, s_X9_steps_8, s_X9_steps_11, s_X9_steps_13, s_X9_steps_14, s_X9_steps_15, s_X9_steps_16, s_X9_steps_17, s_X9_steps_19, s_X9_steps_20, s_X9_steps_23, s_X9_steps_24, s_X9_steps_27, s_X9_steps_28, s_X9_steps_31, s_X9_steps_34, s_X9_steps_35, s_X9_steps_38, s_X9_steps_41, s_X9_steps_44, s_X9_steps_45, s_X9_steps_49, s_X9_steps_50, s_X9_steps_53, s_X9_steps_56, s_X9_steps_59, s_X9_steps_60, s_X9_steps_63, s_X9_steps_64, s_X9_steps_67, s_X9_steps_70, s_X9_steps_73, s_X9_steps_74, s_X9_steps_77, s_X9_steps_78, s_X9_steps_81, s_X9_steps_84, s_X9_steps_87, s_X9_steps_88, s_X9_steps_91, s_X9_steps_94, s_X9_steps_95, s_X9_steps_98, s_X9_steps_101, s_X9_steps_102]
      refine ⟨rfl, lp2 (n - 1) 1 _ _ c1 c2 zrB 0 (stN_le hm.1 i) (by omega) (by omega) (by omega) hf hC1 hf2 e2 b2 rfl rfl fun c3 hf3 hC3 => ?_⟩
      simp only [s_X9_steps_0, s_X9_steps_1, s_X9_steps_2, s_X9_steps_5, s_X9_steps_6, s_X9_steps_8, s_X9_steps_11, s_X9_steps_13, s_X9_steps_14, s_X9_steps_15, s_X9_steps_16, s_X9_steps_17, s_X9_steps_19, s_X9_steps_20, s_X9_steps_23, s_X9_steps_24, s_X9_steps_27, s_X9_steps_28, s_X9_steps_31, s_X9_steps_34, s_X9_steps_35, s_X9_steps_38, s_X9_steps_41, s_X9_steps_44, s_X9_steps_45, s_X9_steps_49, s_X9_steps_50, s_X9_steps_53, s_X9_steps_56, s_X9_steps_59, s_X9_steps_60, s_X9_steps_63, s_X9_steps_64, s_X9_steps_67, s_X9_steps_70, s_X9_steps_73, s_X9_steps_74, s_X9_steps_77, s_X9_steps_78, s_X9_steps_81, s_X9_steps_84, s_X9_steps_87, s_X9_steps_88, s_X9_steps_91, s_X9_steps_94, s_X9_steps_95, s_X9_steps_98, s_X9_steps_101, s_X9_steps_102, nI_add]
      exact ⟨rfl, ih (i + 1) c3 _ (by omega) hf3 hC3⟩
  exact lp a 0 c _ (by omega) frm.rf hC
end CZ
